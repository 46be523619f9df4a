/-! ===== the reference's cells: ma k the address of the array in field k (ma 0 of the object), M k what it holds, sv k the other fields ===== -/
def wM (cI cJ cZ : ClassId) (ma : Nat → Nat) (sv : Nat → Value) (M : Nat → Nat → Int32) (ML : Nat → Nat → Int64) : va_W := [((ma 0), .inr (4, [(sv 0), .ref (ma 1), (sv 2), (sv 3), .ref (ma 4), .ref (ma 5), .ref (ma 6), .ref (ma 7), .ref (ma 8), .ref (ma 9), .ref (ma 10), (sv 11), (sv 12), .ref (ma 13), .ref (ma 14), (sv 15), (sv 16), (sv 17), (sv 18), (sv 19), (sv 20), (sv 21), .ref (ma 22), .ref (ma 23), .ref (ma 24), .ref (ma 25)])), ((ma 1), .inl (cI, 9, .inl (M 1))), ((ma 4), .inl (cI, 40, .inl (M 4))), ((ma 5), .inl (cI, 40, .inl (M 5))), ((ma 6), .inl (cI, 40, .inl (M 6))), ((ma 7), .inl (cI, 40, .inl (M 7))), ((ma 8), .inl (cJ, 40, .inr (.inl (ML 8)))), ((ma 9), .inl (cJ, 40, .inr (.inl (ML 9)))), ((ma 10), .inl (cZ, 40, .inl (M 10))), ((ma 13), .inl (cI, 41, .inl (M 13))), ((ma 14), .inl (cI, 41, .inl (M 14))), ((ma 22), .inl (cI, 40, .inl (M 22))), ((ma 23), .inl (cI, 41, .inl (M 23))), ((ma 24), .inl (cI, 40, .inl (M 24))), ((ma 25), .inl (cI, 41, .inl (M 25)))]
def fX9_isPart (M : Nat → Nat → Int32) (ML : Nat → Nat → Int64) (k : Nat) : Int32 := if (ush ((M 4) (k)) 26) = 34 then 1 else if (ush ((M 4) (k)) 26) = 38 then 1 else if (ush ((M 4) (k)) 26) = 42 then 1 else if (ush ((M 4) (k)) 26) = 46 then 1 else 0
set_option maxHeartbeats 4000000 in
set_option maxRecDepth 100000 in
theorem kX9_isPart (l : Launch) (dC : Nat → ClassId) (dI : Nat → Nat → Nat) (cI cJ cZ : ClassId) (ma : Nat → Nat) (sv : Nat → Value) (M : Nat → Nat → Int32) (ML : Nat → Nat → Int64) (sz : Nat) (k : Nat) (hk : k < 40) : Met l yX9_isPart wsX9_isPart ({ frames := 0, cells := 0, slots := 0, locals := 0 }) (ro_Pc (dC, dI) (wM cI cJ cZ ma sv M ML) (tyA cI cJ cZ) [.ref (ma 0), .int (nI k)] sz) (ro_Qi (fX9_isPart M ML k) sz) 0 0 (ro sz) := by
  refine Met.ofW (cc := cX9_isPart) (maxL := 3) (ret := (some .boolean)) (by decide) rfl ?_
  intro p e s m args below meth c s₁ B0 hml hv
  obtain ⟨rfl, hsz, hP, hK⟩ := hv
  have hx := B0.exec
  have hb := B0.bytes
  have hr := B0.returns
  have hts := atoms_spec (ws := wsX9_isPart) B0.pre
  have hown : s.vm.findClass RX9 = some m.cls := findClass_of_methodNamed B0.named
  have hlocks := B0.notSynchronized
  have hinX9 : ∀ w ∈ wsX90, w ∈ wsX9_isPart := fun w h => List.mem_cons_of_mem _ (List.mem_append_right _ (h))
  subst hsz
  have hA : ∀ q : Nat, s.heap.size ≤ q → ro s.heap.size q := fun _ h => h
  have hS : va_S (ro s.heap.size) s.heap s.heap [] := va_S.rf
  have hl := lv_entry ([.ref (ma 0), .int (nI k)]) (n := 3) (Nat.le_of_ble_eq_true rfl)
  rw [lg_entry_eq]
  generalize (lg_sl ([.ref (ma 0), .int (nI k)]) ++ List.replicate (3 - (lg_sl ([.ref (ma 0), .int (nI k)])).length) Slot.unset).toArray = ls at hl ⊢
  have hl : lv_has ls 3 [(0, .ref (ma 0)), (1, .int (nI k))] := hl
  have hv : (fX9_isPart M ML k) = (fX9_isPart M ML k) := rfl
  refine lv_aload_n hx hb dX9_isPart_0 rfl (lv_at hl 0 rfl) ?_
  refine va_get (D := (dC, dI)) (ci := 4) (v := .ref (ma 4)) (C := RX9) (T := TX9) (N := 26) hx hb hts hinX9 hown hK hP 0 rfl rfl 4 (by decide) (hts (.fieldLink RX9 13 "SlotFillerModel" "words" "[I") (by decide +kernel)) (fun _ h9 => h9) rfl dX9_isPart_1 ?_
  refine lv_iload_n hx hb dX9_isPart_4 rfl (lv_at hl 1 rfl) ?_
  refine my_iald (j := k) hx hb hK hP 2 0 rfl rfl (hk) (by decide) dX9_isPart_5 ?_
  refine lv_bipush (v := 26) hx hb dX9_isPart_6 (by decide) ?_
  refine lv_iushr (v := ush ((M 4) (k)) 26) hx hb dX9_isPart_8 rfl ?_
  refine lv_istore_n (lv' := [(2, .int ((ush ((M 4) (k)) 26))), (0, .ref (ma 0)), (1, .int (nI k))]) hx hb dX9_isPart_9 rfl hl (by decide) rfl (fun ls hl => ?_)
  refine lv_iload_n hx hb dX9_isPart_10 rfl (lv_at hl 0 rfl) ?_
  refine lv_bipush (v := 34) hx hb dX9_isPart_11 (by decide) ?_
  refine lv_icmp_eq (tgt := 34) hx hb dX9_isPart_13 (by decide) (fun c_1 => ?_) (fun c_1 => ?_)
  · refine lv_iconst (v := 1) hx hb dX9_isPart_34 (by decide) ?_
    refine lv_goto (tgt := 39) hx hb dX9_isPart_35 (by decide) ?_
    exact W.zret (v := 1) hx hb hr (by decide) (fun t ht hW => ⟨⟨_, (), rfl, ((show 1 = (fX9_isPart M ML k) by unfold fX9_isPart; rw [if_pos c_1]).trans hv), trivial⟩, hS.F ht⟩) hS.2.2 dX9_isPart_39
  · refine lv_iload_n hx hb dX9_isPart_16 rfl (lv_at hl 0 rfl) ?_
    refine lv_bipush (v := 38) hx hb dX9_isPart_17 (by decide) ?_
    refine lv_icmp_eq (tgt := 34) hx hb dX9_isPart_19 (by decide) (fun c_2 => ?_) (fun c_2 => ?_)
    · refine lv_iconst (v := 1) hx hb dX9_isPart_34 (by decide) ?_
      refine lv_goto (tgt := 39) hx hb dX9_isPart_35 (by decide) ?_
      exact W.zret (v := 1) hx hb hr (by decide) (fun t ht hW => ⟨⟨_, (), rfl, ((show 1 = (fX9_isPart M ML k) by unfold fX9_isPart; rw [if_neg c_1, if_pos c_2]).trans hv), trivial⟩, hS.F ht⟩) hS.2.2 dX9_isPart_39
    · refine lv_iload_n hx hb dX9_isPart_22 rfl (lv_at hl 0 rfl) ?_
      refine lv_bipush (v := 42) hx hb dX9_isPart_23 (by decide) ?_
      refine lv_icmp_eq (tgt := 34) hx hb dX9_isPart_25 (by decide) (fun c_3 => ?_) (fun c_3 => ?_)
      · refine lv_iconst (v := 1) hx hb dX9_isPart_34 (by decide) ?_
        refine lv_goto (tgt := 39) hx hb dX9_isPart_35 (by decide) ?_
        exact W.zret (v := 1) hx hb hr (by decide) (fun t ht hW => ⟨⟨_, (), rfl, ((show 1 = (fX9_isPart M ML k) by unfold fX9_isPart; rw [if_neg c_1, if_neg c_2, if_pos c_3]).trans hv), trivial⟩, hS.F ht⟩) hS.2.2 dX9_isPart_39
      · refine lv_iload_n hx hb dX9_isPart_28 rfl (lv_at hl 0 rfl) ?_
        refine lv_bipush (v := 46) hx hb dX9_isPart_29 (by decide) ?_
        refine lv_icmp_ne (tgt := 38) hx hb dX9_isPart_31 (by decide) (fun c_4 => ?_) (fun c_4 => ?_)
        · refine lv_iconst (v := 0) hx hb dX9_isPart_38 (by decide) ?_
          exact W.zret (v := 0) hx hb hr (by decide) (fun t ht hW => ⟨⟨_, (), rfl, ((show 0 = (fX9_isPart M ML k) by unfold fX9_isPart; rw [if_neg c_1, if_neg c_2, if_neg c_3, if_neg c_4]).trans hv), trivial⟩, hS.F ht⟩) hS.2.2 dX9_isPart_39
        · refine lv_iconst (v := 1) hx hb dX9_isPart_34 (by decide) ?_
          refine lv_goto (tgt := 39) hx hb dX9_isPart_35 (by decide) ?_
          exact W.zret (v := 1) hx hb hr (by decide) (fun t ht hW => ⟨⟨_, (), rfl, ((show 1 = (fX9_isPart M ML k) by unfold fX9_isPart; rw [if_neg c_1, if_neg c_2, if_neg c_3, if_pos c_4]).trans hv), trivial⟩, hS.F ht⟩) hS.2.2 dX9_isPart_39
def fX9_firstByte (M : Nat → Nat → Int32) (ML : Nat → Nat → Int64) (k : Nat) : Int32 := if (fX9_isPart M ML k) = 0 then ((((M 4) (k)) <<< (16 &&& 31)) >>> (16 &&& 31)) else (((((M 4) (k)) <<< (16 &&& 31)) >>> (16 &&& 31)) &&& (-4))
set_option maxHeartbeats 4000000 in
set_option maxRecDepth 100000 in
theorem kX9_firstByte (l : Launch) (dC : Nat → ClassId) (dI : Nat → Nat → Nat) (cI cJ cZ : ClassId) (ma : Nat → Nat) (sv : Nat → Value) (M : Nat → Nat → Int32) (ML : Nat → Nat → Int64) (sz : Nat) (k : Nat) (hk : k < 40) : Met l yX9_firstByte wsX9_firstByte ({ frames := 1, cells := 0, slots := 0, locals := 22 }) (ro_Pc (dC, dI) (wM cI cJ cZ ma sv M ML) (tyA cI cJ cZ) [.ref (ma 0), .int (nI k)] sz) (ro_Qi (fX9_firstByte M ML k) sz) 0 0 (ro sz) := by
  refine Met.ofW (cc := cX9_firstByte) (maxL := 3) (ret := (some .int)) (by decide) rfl ?_
  intro p e s m args below meth c s₁ B0 hml hv
  obtain ⟨rfl, hsz, hP, hK⟩ := hv
  have hx := B0.exec
  have hb := B0.bytes
  have hr := B0.returns
  have hts := atoms_spec (ws := wsX9_firstByte) B0.pre
  have hown : s.vm.findClass RX9 = some m.cls := findClass_of_methodNamed B0.named
  have hlocks := B0.notSynchronized
  have hinX9 : ∀ w ∈ wsX90, w ∈ wsX9_firstByte := fun w h => List.mem_cons_of_mem _ (List.mem_append_right _ (h))
  subst hsz
  have hA : ∀ q : Nat, s.heap.size ≤ q → ro s.heap.size q := fun _ h => h
  have hS : va_S (ro s.heap.size) s.heap s.heap [] := va_S.rf
  have hl := lv_entry ([.ref (ma 0), .int (nI k)]) (n := 3) (Nat.le_of_ble_eq_true rfl)
  rw [lg_entry_eq]
  generalize (lg_sl ([.ref (ma 0), .int (nI k)]) ++ List.replicate (3 - (lg_sl ([.ref (ma 0), .int (nI k)])).length) Slot.unset).toArray = ls at hl ⊢
  have hl : lv_has ls 3 [(0, .ref (ma 0)), (1, .int (nI k))] := hl
  have hv : (fX9_firstByte M ML k) = (fX9_firstByte M ML k) := rfl
  refine lv_aload_n hx hb dX9_firstByte_0 rfl (lv_at hl 0 rfl) ?_
  refine va_get (D := (dC, dI)) (ci := 4) (v := .ref (ma 4)) (C := RX9) (T := TX9) (N := 26) hx hb hts hinX9 hown hK hP 0 rfl rfl 4 (by decide) (hts (.fieldLink RX9 13 "SlotFillerModel" "words" "[I") (by decide +kernel)) (fun _ h9 => h9) rfl dX9_firstByte_1 ?_
  refine lv_iload_n hx hb dX9_firstByte_4 rfl (lv_at hl 1 rfl) ?_
  refine my_iald (j := k) hx hb hK hP 2 0 rfl rfl (hk) (by decide) dX9_firstByte_5 ?_
  refine lv_bipush (v := 16) hx hb dX9_firstByte_6 (by decide) ?_
  refine lv_ishl hx hb dX9_firstByte_8 ?_
  refine lv_bipush (v := 16) hx hb dX9_firstByte_9 (by decide) ?_
  refine lv_ishr hx hb dX9_firstByte_11 ?_
  refine lv_istore_n (lv' := [(2, .int (((((M 4) (k)) <<< (16 &&& 31)) >>> (16 &&& 31)))), (0, .ref (ma 0)), (1, .int (nI k))]) hx hb dX9_firstByte_12 rfl hl (by decide) rfl (fun ls hl => ?_)
  refine lv_aload_n hx hb dX9_firstByte_13 rfl (lv_at hl 1 rfl) ?_
  refine lv_iload_n hx hb dX9_firstByte_14 rfl (lv_at hl 2 rfl) ?_
  refine ro_calli (va_runV (As := [.int (nI k)]) (rest := []) ⟨hx, hb, hml, hown, hts⟩ (kX9_isPart l dC dI cI cJ cZ ma sv M ML s.heap.size k hk) (cwV 1 hts gX9_firstByte_X9_isPart rfl rfl rfl (by decide +kernel) ⟨Nat.le_of_ble_eq_true rfl, Nat.le_of_ble_eq_true rfl⟩) (ro_preV 0 4 (q := (RX9, TX9, 26)) rfl rfl hP hK) rfl rfl hl.1 rfl (lv_room (Nat.le_of_ble_eq_true rfl)) dX9_firstByte_15 ⟨Nat.zero_le _, Nat.zero_le _⟩) hS hA (fun H locs kP hS => ?_)
  have hP := kP _ _ _ hP
  refine lv_if_eq (tgt := 28) hx hb dX9_firstByte_18 (by decide) (fun c_1 => ?_) (fun c_1 => ?_)
  · refine lv_iload_n hx hb dX9_firstByte_28 rfl (lv_at hl 0 rfl) ?_
    exact W.iret (v := ((((M 4) (k)) <<< (16 &&& 31)) >>> (16 &&& 31))) hx hb hr (fun t ht hW => ⟨⟨_, (), rfl, ((show ((((M 4) (k)) <<< (16 &&& 31)) >>> (16 &&& 31)) = (fX9_firstByte M ML k) by unfold fX9_firstByte; rw [if_pos c_1]).trans hv), trivial⟩, hS.F ht⟩) hS.2.2 dX9_firstByte_29
  · refine lv_iload_n hx hb dX9_firstByte_21 rfl (lv_at hl 0 rfl) ?_
    refine lv_bipush (v := (-4)) hx hb dX9_firstByte_22 (by decide) ?_
    refine lv_iand hx hb dX9_firstByte_24 ?_
    refine lv_goto (tgt := 29) hx hb dX9_firstByte_25 (by decide) ?_
    exact W.iret (v := (((((M 4) (k)) <<< (16 &&& 31)) >>> (16 &&& 31)) &&& (-4))) hx hb hr (fun t ht hW => ⟨⟨_, (), rfl, ((show (((((M 4) (k)) <<< (16 &&& 31)) >>> (16 &&& 31)) &&& (-4)) = (fX9_firstByte M ML k) by unfold fX9_firstByte; rw [if_neg c_1]).trans hv), trivial⟩, hS.F ht⟩) hS.2.2 dX9_firstByte_29
def fX9_bytes (M : Nat → Nat → Int32) (ML : Nat → Nat → Int64) (k : Nat) : Int32 := if (ush ((M 4) (k)) 26) = 32 then 1 else if (ush ((M 4) (k)) 26) = 36 then 1 else if (ush ((M 4) (k)) 26) = 40 then 1 else if (ush ((M 4) (k)) 26) = 33 then 2 else if (ush ((M 4) (k)) 26) = 37 then 2 else if (ush ((M 4) (k)) 26) = 41 then 2 else if (ush ((M 4) (k)) 26) = 53 then 8 else if (ush ((M 4) (k)) 26) = 61 then 8 else 4
set_option maxHeartbeats 4000000 in
set_option maxRecDepth 100000 in
theorem kX9_bytes (l : Launch) (dC : Nat → ClassId) (dI : Nat → Nat → Nat) (cI cJ cZ : ClassId) (ma : Nat → Nat) (sv : Nat → Value) (M : Nat → Nat → Int32) (ML : Nat → Nat → Int64) (sz : Nat) (k : Nat) (hk : k < 40) : Met l yX9_bytes wsX9_bytes ({ frames := 0, cells := 0, slots := 0, locals := 0 }) (ro_Pc (dC, dI) (wM cI cJ cZ ma sv M ML) (tyA cI cJ cZ) [.ref (ma 0), .int (nI k)] sz) (ro_Qi (fX9_bytes M ML k) sz) 0 0 (ro sz) := by
  refine Met.ofW (cc := cX9_bytes) (maxL := 3) (ret := (some .int)) (by decide) rfl ?_
  intro p e s m args below meth c s₁ B0 hml hv
  obtain ⟨rfl, hsz, hP, hK⟩ := hv
  have hx := B0.exec
  have hb := B0.bytes
  have hr := B0.returns
  have hts := atoms_spec (ws := wsX9_bytes) B0.pre
  have hown : s.vm.findClass RX9 = some m.cls := findClass_of_methodNamed B0.named
  have hlocks := B0.notSynchronized
  have hinX9 : ∀ w ∈ wsX90, w ∈ wsX9_bytes := fun w h => List.mem_cons_of_mem _ (List.mem_append_right _ (h))
  subst hsz
  have hA : ∀ q : Nat, s.heap.size ≤ q → ro s.heap.size q := fun _ h => h
  have hS : va_S (ro s.heap.size) s.heap s.heap [] := va_S.rf
  have hl := lv_entry ([.ref (ma 0), .int (nI k)]) (n := 3) (Nat.le_of_ble_eq_true rfl)
  rw [lg_entry_eq]
  generalize (lg_sl ([.ref (ma 0), .int (nI k)]) ++ List.replicate (3 - (lg_sl ([.ref (ma 0), .int (nI k)])).length) Slot.unset).toArray = ls at hl ⊢
  have hl : lv_has ls 3 [(0, .ref (ma 0)), (1, .int (nI k))] := hl
  have hv : (fX9_bytes M ML k) = (fX9_bytes M ML k) := rfl
  refine lv_aload_n hx hb dX9_bytes_0 rfl (lv_at hl 0 rfl) ?_
  refine va_get (D := (dC, dI)) (ci := 4) (v := .ref (ma 4)) (C := RX9) (T := TX9) (N := 26) hx hb hts hinX9 hown hK hP 0 rfl rfl 4 (by decide) (hts (.fieldLink RX9 13 "SlotFillerModel" "words" "[I") (by decide +kernel)) (fun _ h9 => h9) rfl dX9_bytes_1 ?_
  refine lv_iload_n hx hb dX9_bytes_4 rfl (lv_at hl 1 rfl) ?_
  refine my_iald (j := k) hx hb hK hP 2 0 rfl rfl (hk) (by decide) dX9_bytes_5 ?_
  refine lv_bipush (v := 26) hx hb dX9_bytes_6 (by decide) ?_
  refine lv_iushr (v := ush ((M 4) (k)) 26) hx hb dX9_bytes_8 rfl ?_
  refine lv_istore_n (lv' := [(2, .int ((ush ((M 4) (k)) 26))), (0, .ref (ma 0)), (1, .int (nI k))]) hx hb dX9_bytes_9 rfl hl (by decide) rfl (fun ls hl => ?_)
  refine lv_iload_n hx hb dX9_bytes_10 rfl (lv_at hl 0 rfl) ?_
  refine lv_bipush (v := 32) hx hb dX9_bytes_11 (by decide) ?_
  refine lv_icmp_eq (tgt := 28) hx hb dX9_bytes_13 (by decide) (fun c_1 => ?_) (fun c_1 => ?_)
  · refine lv_iconst (v := 1) hx hb dX9_bytes_28 (by decide) ?_
    refine lv_goto (tgt := 72) hx hb dX9_bytes_29 (by decide) ?_
    exact W.iret (v := 1) hx hb hr (fun t ht hW => ⟨⟨_, (), rfl, ((show 1 = (fX9_bytes M ML k) by unfold fX9_bytes; rw [if_pos c_1]).trans hv), trivial⟩, hS.F ht⟩) hS.2.2 dX9_bytes_72
  · refine lv_iload_n hx hb dX9_bytes_16 rfl (lv_at hl 0 rfl) ?_
    refine lv_bipush (v := 36) hx hb dX9_bytes_17 (by decide) ?_
    refine lv_icmp_eq (tgt := 28) hx hb dX9_bytes_19 (by decide) (fun c_2 => ?_) (fun c_2 => ?_)
    · refine lv_iconst (v := 1) hx hb dX9_bytes_28 (by decide) ?_
      refine lv_goto (tgt := 72) hx hb dX9_bytes_29 (by decide) ?_
      exact W.iret (v := 1) hx hb hr (fun t ht hW => ⟨⟨_, (), rfl, ((show 1 = (fX9_bytes M ML k) by unfold fX9_bytes; rw [if_neg c_1, if_pos c_2]).trans hv), trivial⟩, hS.F ht⟩) hS.2.2 dX9_bytes_72
    · refine lv_iload_n hx hb dX9_bytes_22 rfl (lv_at hl 0 rfl) ?_
      refine lv_bipush (v := 40) hx hb dX9_bytes_23 (by decide) ?_
      refine lv_icmp_ne (tgt := 32) hx hb dX9_bytes_25 (by decide) (fun c_3 => ?_) (fun c_3 => ?_)
      · refine lv_iload_n hx hb dX9_bytes_32 rfl (lv_at hl 0 rfl) ?_
        refine lv_bipush (v := 33) hx hb dX9_bytes_33 (by decide) ?_
        refine lv_icmp_eq (tgt := 50) hx hb dX9_bytes_35 (by decide) (fun c_4 => ?_) (fun c_4 => ?_)
        · refine lv_iconst (v := 2) hx hb dX9_bytes_50 (by decide) ?_
          refine lv_goto (tgt := 72) hx hb dX9_bytes_51 (by decide) ?_
          exact W.iret (v := 2) hx hb hr (fun t ht hW => ⟨⟨_, (), rfl, ((show 2 = (fX9_bytes M ML k) by unfold fX9_bytes; rw [if_neg c_1, if_neg c_2, if_neg c_3, if_pos c_4]).trans hv), trivial⟩, hS.F ht⟩) hS.2.2 dX9_bytes_72
        · refine lv_iload_n hx hb dX9_bytes_38 rfl (lv_at hl 0 rfl) ?_
          refine lv_bipush (v := 37) hx hb dX9_bytes_39 (by decide) ?_
          refine lv_icmp_eq (tgt := 50) hx hb dX9_bytes_41 (by decide) (fun c_5 => ?_) (fun c_5 => ?_)
          · refine lv_iconst (v := 2) hx hb dX9_bytes_50 (by decide) ?_
            refine lv_goto (tgt := 72) hx hb dX9_bytes_51 (by decide) ?_
            exact W.iret (v := 2) hx hb hr (fun t ht hW => ⟨⟨_, (), rfl, ((show 2 = (fX9_bytes M ML k) by unfold fX9_bytes; rw [if_neg c_1, if_neg c_2, if_neg c_3, if_neg c_4, if_pos c_5]).trans hv), trivial⟩, hS.F ht⟩) hS.2.2 dX9_bytes_72
          · refine lv_iload_n hx hb dX9_bytes_44 rfl (lv_at hl 0 rfl) ?_
            refine lv_bipush (v := 41) hx hb dX9_bytes_45 (by decide) ?_
            refine lv_icmp_ne (tgt := 54) hx hb dX9_bytes_47 (by decide) (fun c_6 => ?_) (fun c_6 => ?_)
            · refine lv_iload_n hx hb dX9_bytes_54 rfl (lv_at hl 0 rfl) ?_
              refine lv_bipush (v := 53) hx hb dX9_bytes_55 (by decide) ?_
              refine lv_icmp_eq (tgt := 66) hx hb dX9_bytes_57 (by decide) (fun c_7 => ?_) (fun c_7 => ?_)
              · refine lv_bipush (v := 8) hx hb dX9_bytes_66 (by decide) ?_
                refine lv_goto (tgt := 72) hx hb dX9_bytes_68 (by decide) ?_
                exact W.iret (v := 8) hx hb hr (fun t ht hW => ⟨⟨_, (), rfl, ((show 8 = (fX9_bytes M ML k) by unfold fX9_bytes; rw [if_neg c_1, if_neg c_2, if_neg c_3, if_neg c_4, if_neg c_5, if_neg c_6, if_pos c_7]).trans hv), trivial⟩, hS.F ht⟩) hS.2.2 dX9_bytes_72
              · refine lv_iload_n hx hb dX9_bytes_60 rfl (lv_at hl 0 rfl) ?_
                refine lv_bipush (v := 61) hx hb dX9_bytes_61 (by decide) ?_
                refine lv_icmp_ne (tgt := 71) hx hb dX9_bytes_63 (by decide) (fun c_8 => ?_) (fun c_8 => ?_)
                · refine lv_iconst (v := 4) hx hb dX9_bytes_71 (by decide) ?_
                  exact W.iret (v := 4) hx hb hr (fun t ht hW => ⟨⟨_, (), rfl, ((show 4 = (fX9_bytes M ML k) by unfold fX9_bytes; rw [if_neg c_1, if_neg c_2, if_neg c_3, if_neg c_4, if_neg c_5, if_neg c_6, if_neg c_7, if_neg c_8]).trans hv), trivial⟩, hS.F ht⟩) hS.2.2 dX9_bytes_72
                · refine lv_bipush (v := 8) hx hb dX9_bytes_66 (by decide) ?_
                  refine lv_goto (tgt := 72) hx hb dX9_bytes_68 (by decide) ?_
                  exact W.iret (v := 8) hx hb hr (fun t ht hW => ⟨⟨_, (), rfl, ((show 8 = (fX9_bytes M ML k) by unfold fX9_bytes; rw [if_neg c_1, if_neg c_2, if_neg c_3, if_neg c_4, if_neg c_5, if_neg c_6, if_neg c_7, if_pos c_8]).trans hv), trivial⟩, hS.F ht⟩) hS.2.2 dX9_bytes_72
            · refine lv_iconst (v := 2) hx hb dX9_bytes_50 (by decide) ?_
              refine lv_goto (tgt := 72) hx hb dX9_bytes_51 (by decide) ?_
              exact W.iret (v := 2) hx hb hr (fun t ht hW => ⟨⟨_, (), rfl, ((show 2 = (fX9_bytes M ML k) by unfold fX9_bytes; rw [if_neg c_1, if_neg c_2, if_neg c_3, if_neg c_4, if_neg c_5, if_pos c_6]).trans hv), trivial⟩, hS.F ht⟩) hS.2.2 dX9_bytes_72
      · refine lv_iconst (v := 1) hx hb dX9_bytes_28 (by decide) ?_
        refine lv_goto (tgt := 72) hx hb dX9_bytes_29 (by decide) ?_
        exact W.iret (v := 1) hx hb hr (fun t ht hW => ⟨⟨_, (), rfl, ((show 1 = (fX9_bytes M ML k) by unfold fX9_bytes; rw [if_neg c_1, if_neg c_2, if_pos c_3]).trans hv), trivial⟩, hS.F ht⟩) hS.2.2 dX9_bytes_72
def fX9_apart_34 (M : Nat → Nat → Int32) (ML : Nat → Nat → Int64) (i : Nat) (j : Nat) : Nat → Nat → Int32
  | 0, _ => 0
  | q34 + 1, k => if nI j ≤ nI k then if ((fX9_firstByte M ML i) + (fX9_bytes M ML i)) ≤ (fX9_firstByte M ML j) then 1 else if (fX9_firstByte M ML i) < ((fX9_firstByte M ML j) + (fX9_bytes M ML j)) then 0 else 1 else if (lg_cmp (((ML 9) (k)) &&& (fX9_register ((ush ((M 4) (i)) 21) &&& 31))) 0) = 0 then (fX9_apart_34 M ML i j q34 (k + 1)) else 0
def fX9_apart (M : Nat → Nat → Int32) (ML : Nat → Nat → Int64) (i : Nat) (j : Nat) : Int32 := if ((ush ((M 4) (i)) 21) &&& 31) = ((ush ((M 4) (j)) 21) &&& 31) then (fX9_apart_34 M ML i j 41 i) else 0
set_option maxHeartbeats 4000000 in
set_option maxRecDepth 100000 in
theorem kX9_apart (l : Launch) (dC : Nat → ClassId) (dI : Nat → Nat → Nat) (cI cJ cZ : ClassId) (ma : Nat → Nat) (sv : Nat → Value) (M : Nat → Nat → Int32) (ML : Nat → Nat → Int64) (sz : Nat) (i j : Nat) (hi : i < 40) (hj : j < 40) : Met l yX9_apart wsX9_apart ({ frames := 2, cells := 0, slots := 0, locals := 44 }) (ro_Pc (dC, dI) (wM cI cJ cZ ma sv M ML) (tyA cI cJ cZ) [.ref (ma 0), .int (nI i), .int (nI j)] sz) (ro_Qi (fX9_apart M ML i j) sz) 0 0 (ro sz) := by
  refine Met.ofW (cc := cX9_apart) (maxL := 5) (ret := (some .boolean)) (by decide) rfl ?_
  intro p e s m args below meth c s₁ B0 hml hv
  obtain ⟨rfl, hsz, hP, hK⟩ := hv
  have hx := B0.exec
  have hb := B0.bytes
  have hr := B0.returns
  have hts := atoms_spec (ws := wsX9_apart) B0.pre
  have hown : s.vm.findClass RX9 = some m.cls := findClass_of_methodNamed B0.named
  have hlocks := B0.notSynchronized
  have hinX9 : ∀ w ∈ wsX90, w ∈ wsX9_apart := fun w h => List.mem_cons_of_mem _ (List.mem_append_right _ (h))
  subst hsz
  have hA : ∀ q : Nat, s.heap.size ≤ q → ro s.heap.size q := fun _ h => h
  have hS : va_S (ro s.heap.size) s.heap s.heap [] := va_S.rf
  have hl := lv_entry ([.ref (ma 0), .int (nI i), .int (nI j)]) (n := 5) (Nat.le_of_ble_eq_true rfl)
  rw [lg_entry_eq]
  generalize (lg_sl ([.ref (ma 0), .int (nI i), .int (nI j)]) ++ List.replicate (5 - (lg_sl ([.ref (ma 0), .int (nI i), .int (nI j)])).length) Slot.unset).toArray = ls at hl ⊢
  have hl : lv_has ls 5 [(0, .ref (ma 0)), (1, .int (nI i)), (2, .int (nI j))] := hl
  have hv : (fX9_apart M ML i j) = (fX9_apart M ML i j) := rfl
  have J34 : ∀ (q34 : Nat) (k : Nat) (H : Heap) (locs : List Loc) (ls : Array Slot), (k ≤ 40 ∧ 41 ≤ k + q34) → va_P (dC, dI) vwCl (wM cI cJ cZ ma sv M ML) H → va_S (ro s.heap.size) s.heap H locs → lv_has ls 5 [(4, .int (nI k)), (3, .int (((ush ((M 4) (i)) 21) &&& 31))), (0, .ref (ma 0)), (1, .int (nI i)), (2, .int (nI j))] → (fX9_apart_34 M ML i j q34 k) = (fX9_apart M ML i j) → W p l e (headSpec wsX9_apart ({ frames := 2, cells := 0, slots := 0, locals := 44 })).room s m ([.ref (ma 0), .int (nI i), .int (nI j)] : List Value).toArray below meth c H locs 0 0 (MQ below (ro_Qi (fX9_apart M ML i j) s.heap.size) ([.ref (ma 0), .int (nI i), .int (nI j)] : List Value).toArray s 0 0 ((ro s.heap.size))) (F0 m 34 ls []) := by
    intro q34
    induction q34 with
    | zero => intro k H locs ls hm34 hP hS hl hv; exact absurd hm34 (by omega)
    | succ q34 ih34 =>
      intro k H locs ls hm34 hP hS hl hv
      refine lv_iload hx hb dX9_apart_34 (lv_at hl 0 rfl) ?_
      refine lv_iload_n hx hb dX9_apart_36 rfl (lv_at hl 4 rfl) ?_
      refine lv_icmp_ge (tgt := 65) hx hb dX9_apart_37 (by decide) (fun c_1 => ?_) (fun c_1 => ?_)
      · refine lv_aload_n hx hb dX9_apart_65 rfl (lv_at hl 2 rfl) ?_
        refine lv_iload_n hx hb dX9_apart_66 rfl (lv_at hl 3 rfl) ?_
        refine ro_calli (va_runV (As := [.int (nI i)]) (rest := []) ⟨hx, hb, hml, hown, hts⟩ (kX9_firstByte l dC dI cI cJ cZ ma sv M ML H.size i hi) (cwV 1 hts gX9_apart_X9_firstByte rfl rfl rfl (by decide +kernel) ⟨Nat.le_of_ble_eq_true rfl, Nat.le_of_ble_eq_true rfl⟩) (ro_preV 0 4 (q := (RX9, TX9, 26)) rfl rfl hP hK) rfl rfl hl.1 rfl (lv_room (Nat.le_of_ble_eq_true rfl)) dX9_apart_67 ⟨Nat.zero_le _, Nat.zero_le _⟩) hS hA (fun H locs kP hS => ?_)
        have hP := kP _ _ _ hP
        refine lv_aload_n hx hb dX9_apart_70 rfl (lv_at hl 2 rfl) ?_
        refine lv_iload_n hx hb dX9_apart_71 rfl (lv_at hl 3 rfl) ?_
        refine ro_calli (va_runV (As := [.int (nI i)]) (rest := [.int ((fX9_firstByte M ML i))]) ⟨hx, hb, hml, hown, hts⟩ (kX9_bytes l dC dI cI cJ cZ ma sv M ML H.size i hi) (cwV 1 hts gX9_apart_X9_bytes rfl rfl rfl (by decide +kernel) ⟨Nat.le_of_ble_eq_true rfl, Nat.le_of_ble_eq_true rfl⟩) (ro_preV 0 4 (q := (RX9, TX9, 26)) rfl rfl hP hK) rfl rfl hl.1 rfl (lv_room (Nat.le_of_ble_eq_true rfl)) dX9_apart_72 ⟨Nat.zero_le _, Nat.zero_le _⟩) hS hA (fun H locs kP hS => ?_)
        have hP := kP _ _ _ hP
        refine lv_iadd hx hb dX9_apart_75 ?_
        refine lv_aload_n hx hb dX9_apart_76 rfl (lv_at hl 2 rfl) ?_
        refine lv_iload_n hx hb dX9_apart_77 rfl (lv_at hl 4 rfl) ?_
        refine ro_calli (va_runV (As := [.int (nI j)]) (rest := [.int (((fX9_firstByte M ML i) + (fX9_bytes M ML i)))]) ⟨hx, hb, hml, hown, hts⟩ (kX9_firstByte l dC dI cI cJ cZ ma sv M ML H.size j hj) (cwV 1 hts gX9_apart_X9_firstByte rfl rfl rfl (by decide +kernel) ⟨Nat.le_of_ble_eq_true rfl, Nat.le_of_ble_eq_true rfl⟩) (ro_preV 0 4 (q := (RX9, TX9, 26)) rfl rfl hP hK) rfl rfl hl.1 rfl (lv_room (Nat.le_of_ble_eq_true rfl)) dX9_apart_78 ⟨Nat.zero_le _, Nat.zero_le _⟩) hS hA (fun H locs kP hS => ?_)
        have hP := kP _ _ _ hP
        refine lv_icmp_le (tgt := 103) hx hb dX9_apart_81 (by decide) (fun c_2 => ?_) (fun c_2 => ?_)
        · refine lv_iconst (v := 1) hx hb dX9_apart_103 (by decide) ?_
          refine lv_goto (tgt := 108) hx hb dX9_apart_104 (by decide) ?_
          exact W.zret (v := 1) hx hb hr (by decide) (fun t ht hW => ⟨⟨_, (), rfl, ((show 1 = (fX9_apart_34 M ML i j (q34 + 1) k) by rw [fX9_apart_34, if_pos c_1, if_pos c_2]).trans hv), trivial⟩, hS.F ht⟩) hS.2.2 dX9_apart_108
        · refine lv_aload_n hx hb dX9_apart_84 rfl (lv_at hl 2 rfl) ?_
          refine lv_iload_n hx hb dX9_apart_85 rfl (lv_at hl 4 rfl) ?_
          refine ro_calli (va_runV (As := [.int (nI j)]) (rest := []) ⟨hx, hb, hml, hown, hts⟩ (kX9_firstByte l dC dI cI cJ cZ ma sv M ML H.size j hj) (cwV 1 hts gX9_apart_X9_firstByte rfl rfl rfl (by decide +kernel) ⟨Nat.le_of_ble_eq_true rfl, Nat.le_of_ble_eq_true rfl⟩) (ro_preV 0 4 (q := (RX9, TX9, 26)) rfl rfl hP hK) rfl rfl hl.1 rfl (lv_room (Nat.le_of_ble_eq_true rfl)) dX9_apart_86 ⟨Nat.zero_le _, Nat.zero_le _⟩) hS hA (fun H locs kP hS => ?_)
          have hP := kP _ _ _ hP
          refine lv_aload_n hx hb dX9_apart_89 rfl (lv_at hl 2 rfl) ?_
          refine lv_iload_n hx hb dX9_apart_90 rfl (lv_at hl 4 rfl) ?_
          refine ro_calli (va_runV (As := [.int (nI j)]) (rest := [.int ((fX9_firstByte M ML j))]) ⟨hx, hb, hml, hown, hts⟩ (kX9_bytes l dC dI cI cJ cZ ma sv M ML H.size j hj) (cwV 1 hts gX9_apart_X9_bytes rfl rfl rfl (by decide +kernel) ⟨Nat.le_of_ble_eq_true rfl, Nat.le_of_ble_eq_true rfl⟩) (ro_preV 0 4 (q := (RX9, TX9, 26)) rfl rfl hP hK) rfl rfl hl.1 rfl (lv_room (Nat.le_of_ble_eq_true rfl)) dX9_apart_91 ⟨Nat.zero_le _, Nat.zero_le _⟩) hS hA (fun H locs kP hS => ?_)
          have hP := kP _ _ _ hP
          refine lv_iadd hx hb dX9_apart_94 ?_
          refine lv_aload_n hx hb dX9_apart_95 rfl (lv_at hl 2 rfl) ?_
          refine lv_iload_n hx hb dX9_apart_96 rfl (lv_at hl 3 rfl) ?_
          refine ro_calli (va_runV (As := [.int (nI i)]) (rest := [.int (((fX9_firstByte M ML j) + (fX9_bytes M ML j)))]) ⟨hx, hb, hml, hown, hts⟩ (kX9_firstByte l dC dI cI cJ cZ ma sv M ML H.size i hi) (cwV 1 hts gX9_apart_X9_firstByte rfl rfl rfl (by decide +kernel) ⟨Nat.le_of_ble_eq_true rfl, Nat.le_of_ble_eq_true rfl⟩) (ro_preV 0 4 (q := (RX9, TX9, 26)) rfl rfl hP hK) rfl rfl hl.1 rfl (lv_room (Nat.le_of_ble_eq_true rfl)) dX9_apart_97 ⟨Nat.zero_le _, Nat.zero_le _⟩) hS hA (fun H locs kP hS => ?_)
          have hP := kP _ _ _ hP
          refine lv_icmp_gt (tgt := 107) hx hb dX9_apart_100 (by decide) (fun c_3 => ?_) (fun c_3 => ?_)
          · refine lv_iconst (v := 0) hx hb dX9_apart_107 (by decide) ?_
            exact W.zret (v := 0) hx hb hr (by decide) (fun t ht hW => ⟨⟨_, (), rfl, ((show 0 = (fX9_apart_34 M ML i j (q34 + 1) k) by rw [fX9_apart_34, if_pos c_1, if_neg c_2, if_pos c_3]).trans hv), trivial⟩, hS.F ht⟩) hS.2.2 dX9_apart_108
          · refine lv_iconst (v := 1) hx hb dX9_apart_103 (by decide) ?_
            refine lv_goto (tgt := 108) hx hb dX9_apart_104 (by decide) ?_
            exact W.zret (v := 1) hx hb hr (by decide) (fun t ht hW => ⟨⟨_, (), rfl, ((show 1 = (fX9_apart_34 M ML i j (q34 + 1) k) by rw [fX9_apart_34, if_pos c_1, if_neg c_2, if_neg c_3]).trans hv), trivial⟩, hS.F ht⟩) hS.2.2 dX9_apart_108
      · refine lv_aload_n hx hb dX9_apart_40 rfl (lv_at hl 2 rfl) ?_
        refine va_get (D := (dC, dI)) (ci := 4) (v := .ref (ma 9)) (C := RX9) (T := TX9) (N := 26) hx hb hts hinX9 hown hK hP 0 rfl rfl 9 (by decide) (hts (.fieldLink RX9 29 "SlotFillerModel" "written" "[J") (by decide +kernel)) (fun _ h9 => h9) rfl dX9_apart_41 ?_
        refine lv_iload hx hb dX9_apart_44 (lv_at hl 0 rfl) ?_
        refine my_lald (j := k) hx hb hK hP 7 1 rfl rfl (by have := (nI_ltI (by omega) (by omega)).mp (Int32.not_le.mp c_1); omega) (by decide) dX9_apart_46 ?_
        refine lv_iload_n hx hb dX9_apart_47 rfl (lv_at hl 1 rfl) ?_
        refine ro_calll (va_runS (As := [.int (((ush ((M 4) (i)) 21) &&& 31))]) (rest := [.long (((ML 9) (k)))]) ⟨hx, hb, hml, hown, hts⟩ (kX9_register l H.size ((ush ((M 4) (i)) 21) &&& 31)) (va_cwS 1 hts gX9_apart_X9_register rfl rfl rfl (by decide +kernel) ⟨Nat.le_of_ble_eq_true rfl, Nat.le_of_ble_eq_true rfl⟩) pu_preS rfl rfl hl.1 rfl (lv_room (Nat.le_of_ble_eq_true rfl)) dX9_apart_48 ⟨Nat.zero_le _, Nat.zero_le _⟩) hS hA (fun H locs kP hS => ?_)
        have hP := kP _ _ _ hP
        refine lv_land hx hb dX9_apart_51 ?_
        refine lv_lconst (v := 0) hx hb dX9_apart_52 (by decide) ?_
        refine W.lcmp hx hb dX9_apart_53 ?_
        refine lv_if_eq (tgt := 59) hx hb dX9_apart_54 (by decide) (fun c_4 => ?_) (fun c_4 => ?_)
        · refine lv_iinc (v := nI (k + 1)) (lv' := [(4, .int (nI (k + 1))), (3, .int (((ush ((M 4) (i)) 21) &&& 31))), (0, .ref (ma 0)), (1, .int (nI i)), (2, .int (nI j))]) hx hb dX9_apart_59 hl (k := 0) rfl (nI_1 k) (by decide) rfl (fun ls hl => ?_)
          refine lv_goto (tgt := 34) hx hb dX9_apart_62 (by decide) ?_
          exact ih34 (k + 1) H _ ls (⟨by have := (nI_ltI (by omega) (by omega)).mp (Int32.not_le.mp c_1); omega, by omega⟩) hP hS (lv_sub hl [0, 1, 2, 3, 4] rfl) ((show (fX9_apart_34 M ML i j q34 (k + 1)) = (fX9_apart_34 M ML i j (q34 + 1) k) by rw [fX9_apart_34, if_neg c_1, if_pos c_4]).trans hv)
        · refine lv_iconst (v := 0) hx hb dX9_apart_57 (by decide) ?_
          exact W.zret (v := 0) hx hb hr (by decide) (fun t ht hW => ⟨⟨_, (), rfl, ((show 0 = (fX9_apart_34 M ML i j (q34 + 1) k) by rw [fX9_apart_34, if_neg c_1, if_neg c_4]).trans hv), trivial⟩, hS.F ht⟩) hS.2.2 dX9_apart_58
  refine lv_aload_n hx hb dX9_apart_0 rfl (lv_at hl 0 rfl) ?_
  refine va_get (D := (dC, dI)) (ci := 4) (v := .ref (ma 4)) (C := RX9) (T := TX9) (N := 26) hx hb hts hinX9 hown hK hP 0 rfl rfl 4 (by decide) (hts (.fieldLink RX9 13 "SlotFillerModel" "words" "[I") (by decide +kernel)) (fun _ h9 => h9) rfl dX9_apart_1 ?_
  refine lv_iload_n hx hb dX9_apart_4 rfl (lv_at hl 1 rfl) ?_
  refine my_iald (j := i) hx hb hK hP 2 0 rfl rfl (hi) (by decide) dX9_apart_5 ?_
  refine lv_bipush (v := 21) hx hb dX9_apart_6 (by decide) ?_
  refine lv_iushr (v := ush ((M 4) (i)) 21) hx hb dX9_apart_8 rfl ?_
  refine lv_bipush (v := 31) hx hb dX9_apart_9 (by decide) ?_
  refine lv_iand hx hb dX9_apart_11 ?_
  refine lv_istore_n (lv' := [(3, .int (((ush ((M 4) (i)) 21) &&& 31))), (0, .ref (ma 0)), (1, .int (nI i)), (2, .int (nI j))]) hx hb dX9_apart_12 rfl hl (by decide) rfl (fun ls hl => ?_)
  refine lv_iload_n hx hb dX9_apart_13 rfl (lv_at hl 0 rfl) ?_
  refine lv_aload_n hx hb dX9_apart_14 rfl (lv_at hl 1 rfl) ?_
  refine va_get (D := (dC, dI)) (ci := 4) (v := .ref (ma 4)) (C := RX9) (T := TX9) (N := 26) hx hb hts hinX9 hown hK hP 0 rfl rfl 4 (by decide) (hts (.fieldLink RX9 13 "SlotFillerModel" "words" "[I") (by decide +kernel)) (fun _ h9 => h9) rfl dX9_apart_15 ?_
  refine lv_iload_n hx hb dX9_apart_18 rfl (lv_at hl 3 rfl) ?_
  refine my_iald (j := j) hx hb hK hP 2 0 rfl rfl (hj) (by decide) dX9_apart_19 ?_
  refine lv_bipush (v := 21) hx hb dX9_apart_20 (by decide) ?_
  refine lv_iushr (v := ush ((M 4) (j)) 21) hx hb dX9_apart_22 rfl ?_
  refine lv_bipush (v := 31) hx hb dX9_apart_23 (by decide) ?_
  refine lv_iand hx hb dX9_apart_25 ?_
  refine lv_icmp_eq (tgt := 31) hx hb dX9_apart_26 (by decide) (fun c_5 => ?_) (fun c_5 => ?_)
  · refine lv_iload_n hx hb dX9_apart_31 rfl (lv_at hl 2 rfl) ?_
    refine lv_istore (lv' := [(4, .int (nI i)), (3, .int (((ush ((M 4) (i)) 21) &&& 31))), (0, .ref (ma 0)), (1, .int (nI i)), (2, .int (nI j))]) hx hb dX9_apart_32 hl (by decide) rfl (fun ls hl => ?_)
    exact J34 41 i s.heap _ ls (⟨by omega, by omega⟩) hP hS (lv_sub hl [0, 1, 2, 3, 4] rfl) ((show (fX9_apart_34 M ML i j 41 i) = (fX9_apart M ML i j) by unfold fX9_apart; rw [if_pos c_5]).trans hv)
  · refine lv_iconst (v := 0) hx hb dX9_apart_29 (by decide) ?_
    exact W.zret (v := 0) hx hb hr (by decide) (fun t ht hW => ⟨⟨_, (), rfl, ((show 0 = (fX9_apart M ML i j) by unfold fX9_apart; rw [if_neg c_5]).trans hv), trivial⟩, hS.F ht⟩) hS.2.2 dX9_apart_30
def fX9_after_289 (M : Nat → Nat → Int32) (ML : Nat → Nat → Int64) (j : Nat) (i : Nat) (v10 : Int32) (v9 : Int32) (v6 : Int32) (v5 : Int32) (v4 : Int32) (v3 : Int32) : Int32 := if v4 = 0 then v3 else if ((M 1) (((M 5) (i))).toNatClampNeg) ≤ v3 then v3 else ((M 1) (((M 5) (i))).toNatClampNeg)
def fX9_after_273 (M : Nat → Nat → Int32) (ML : Nat → Nat → Int64) (j : Nat) (i : Nat) (v9 : Int32) (v6 : Int32) (v5 : Int32) (v4 : Int32) (v3 : Int32) (z0 : Int32) : Int32 := if v6 = 0 then (fX9_after_289 M ML j i z0 v9 v6 v5 v4 v3) else if z0 ≤ v3 then (fX9_after_289 M ML j i z0 v9 v6 v5 v4 v3) else (fX9_after_289 M ML j i z0 v9 v6 v5 v4 z0)
def fX9_after_251 (M : Nat → Nat → Int32) (ML : Nat → Nat → Int64) (j : Nat) (i : Nat) (v9 : Int32) (v6 : Int32) (v5 : Int32) (v4 : Int32) (v3 : Int32) : Int32 := if ((((M 1) (((M 5) (i))).toNatClampNeg) - ((M 1) (((M 5) (j))).toNatClampNeg)) + 1) ≤ 1 then (fX9_after_273 M ML j i v9 v6 v5 v4 v3 1) else (fX9_after_273 M ML j i v9 v6 v5 v4 v3 ((((M 1) (((M 5) (i))).toNatClampNeg) - ((M 1) (((M 5) (j))).toNatClampNeg)) + 1))
def fX9_after_249 (M : Nat → Nat → Int32) (ML : Nat → Nat → Int64) (j : Nat) (i : Nat) (v9 : Int32) (v6 : Int32) (v5 : Int32) (v4 : Int32) : Int32 := (fX9_after_251 M ML j i v9 v6 v5 v4 1)
def fX9_after_206 (M : Nat → Nat → Int32) (ML : Nat → Nat → Int64) (j : Nat) (i : Nat) (v6 : Int32) (v5 : Int32) (v4 : Int32) (z0 : Int32) : Int32 := if v5 = 0 then if ((M 5) (i)) = 8 then (fX9_after_249 M ML j i z0 v6 v5 v4) else if ((M 5) (j)) = 8 then (fX9_after_249 M ML j i z0 v6 v5 v4) else if z0 = 0 then (fX9_after_251 M ML j i z0 v6 v5 v4 (-1)) else if (fX9_apart M ML i j) = 0 then (fX9_after_249 M ML j i z0 v6 v5 v4) else (fX9_after_251 M ML j i z0 v6 v5 v4 (-1)) else (fX9_after_249 M ML j i z0 v6 v5 v4)
def fX9_after_205 (M : Nat → Nat → Int32) (ML : Nat → Nat → Int64) (j : Nat) (i : Nat) (v6 : Int32) (v5 : Int32) (v4 : Int32) : Int32 := (fX9_after_206 M ML j i v6 v5 v4 0)
def fX9_after_201 (M : Nat → Nat → Int32) (ML : Nat → Nat → Int64) (j : Nat) (i : Nat) (v6 : Int32) (v5 : Int32) (v4 : Int32) : Int32 := (fX9_after_206 M ML j i v6 v5 v4 1)
def fX9_after_181 (M : Nat → Nat → Int32) (ML : Nat → Nat → Int64) (j : Nat) (i : Nat) (v6 : Int32) (v5 : Int32) (v4 : Int32) : Int32 := if ((M 5) (j)) = 2 then if ((M 5) (i)) = 1 then (fX9_after_201 M ML j i v6 v5 v4) else (fX9_after_205 M ML j i v6 v5 v4) else (fX9_after_205 M ML j i v6 v5 v4)
def fX9_after_123 (M : Nat → Nat → Int32) (ML : Nat → Nat → Int64) (j : Nat) (i : Nat) (v5 : Int32) (v4 : Int32) (z0 : Int32) : Int32 := if ((M 5) (i)) = 2 then if ((M 5) (j)) = 2 then (fX9_after_201 M ML j i z0 v5 v4) else if ((M 5) (j)) = 1 then (fX9_after_201 M ML j i z0 v5 v4) else (fX9_after_181 M ML j i z0 v5 v4) else (fX9_after_181 M ML j i z0 v5 v4)
def fX9_after_118 (M : Nat → Nat → Int32) (ML : Nat → Nat → Int64) (j : Nat) (i : Nat) (v5 : Int32) (v4 : Int32) : Int32 := (fX9_after_123 M ML j i v5 v4 1)
def fX9_after_82 (M : Nat → Nat → Int32) (ML : Nat → Nat → Int64) (j : Nat) (i : Nat) (v4 : Int32) (z0 : Int32) : Int32 := if (lg_cmp (((ML 9) (j)) &&& ((ML 9) (i))) 0) = 0 then if (((M 7) (j)) &&& ((M 7) (i))) = 0 then (fX9_after_123 M ML j i z0 v4 0) else (fX9_after_118 M ML j i z0 v4) else (fX9_after_118 M ML j i z0 v4)
def fX9_after_77 (M : Nat → Nat → Int32) (ML : Nat → Nat → Int64) (j : Nat) (i : Nat) (v4 : Int32) : Int32 := (fX9_after_82 M ML j i v4 1)
def fX9_after_41 (M : Nat → Nat → Int32) (ML : Nat → Nat → Int64) (j : Nat) (i : Nat) (z0 : Int32) : Int32 := if (lg_cmp (((ML 9) (j)) &&& ((ML 8) (i))) 0) = 0 then if (((M 7) (j)) &&& ((M 6) (i))) = 0 then (fX9_after_82 M ML j i z0 0) else (fX9_after_77 M ML j i z0) else (fX9_after_77 M ML j i z0)
def fX9_after_36 (M : Nat → Nat → Int32) (ML : Nat → Nat → Int64) (j : Nat) (i : Nat) : Int32 := (fX9_after_41 M ML j i 1)
def fX9_after (M : Nat → Nat → Int32) (ML : Nat → Nat → Int64) (j : Nat) (i : Nat) : Int32 := if (lg_cmp (((ML 8) (j)) &&& ((ML 9) (i))) 0) = 0 then if (((M 6) (j)) &&& ((M 7) (i))) = 0 then (fX9_after_41 M ML j i 0) else (fX9_after_36 M ML j i) else (fX9_after_36 M ML j i)
set_option maxHeartbeats 4000000 in
set_option maxRecDepth 100000 in
theorem kX9_after (l : Launch) (dC : Nat → ClassId) (dI : Nat → Nat → Nat) (cI cJ cZ : ClassId) (ma : Nat → Nat) (sv : Nat → Value) (M : Nat → Nat → Int32) (ML : Nat → Nat → Int64) (sz : Nat) (j i : Nat) (hj : j < 40) (hi : i < 40) (hc : ∀ q, q < 40 → vp_in (M 5 q) 9) : Met l yX9_after wsX9_after ({ frames := 3, cells := 0, slots := 0, locals := 68 }) (ro_Pc (dC, dI) (wM cI cJ cZ ma sv M ML) (tyA cI cJ cZ) [.ref (ma 0), .int (nI j), .int (nI i)] sz) (ro_Qi (fX9_after M ML j i) sz) 0 0 (ro sz) := by
  refine Met.ofW (cc := cX9_after) (maxL := 11) (ret := (some .int)) (by decide) rfl ?_
  intro p e s m args below meth c s₁ B0 hml hv
  obtain ⟨rfl, hsz, hP, hK⟩ := hv
  have hx := B0.exec
  have hb := B0.bytes
  have hr := B0.returns
  have hts := atoms_spec (ws := wsX9_after) B0.pre
  have hown : s.vm.findClass RX9 = some m.cls := findClass_of_methodNamed B0.named
  have hlocks := B0.notSynchronized
  have hinX9 : ∀ w ∈ wsX90, w ∈ wsX9_after := fun w h => List.mem_cons_of_mem _ (List.mem_append_right _ (h))
  subst hsz
  have hA : ∀ q : Nat, s.heap.size ≤ q → ro s.heap.size q := fun _ h => h
  have hS : va_S (ro s.heap.size) s.heap s.heap [] := va_S.rf
  have hl := lv_entry ([.ref (ma 0), .int (nI j), .int (nI i)]) (n := 11) (Nat.le_of_ble_eq_true rfl)
  rw [lg_entry_eq]
  generalize (lg_sl ([.ref (ma 0), .int (nI j), .int (nI i)]) ++ List.replicate (11 - (lg_sl ([.ref (ma 0), .int (nI j), .int (nI i)])).length) Slot.unset).toArray = ls at hl ⊢
  have hl : lv_has ls 11 [(0, .ref (ma 0)), (1, .int (nI j)), (2, .int (nI i))] := hl
  have hv : (fX9_after M ML j i) = (fX9_after M ML j i) := rfl
  have J289 : ∀ (v10 : Int32) (v9 : Int32) (v6 : Int32) (v5 : Int32) (v4 : Int32) (v3 : Int32) (H : Heap) (locs : List Loc) (ls : Array Slot), va_P (dC, dI) vwCl (wM cI cJ cZ ma sv M ML) H → va_S (ro s.heap.size) s.heap H locs → lv_has ls 11 [(10, .int (v10)), (9, .int (v9)), (8, .int (((M 1) (((M 5) (j))).toNatClampNeg))), (7, .int (((M 1) (((M 5) (i))).toNatClampNeg))), (6, .int (v6)), (5, .int (v5)), (4, .int (v4)), (3, .int (v3)), (0, .ref (ma 0)), (1, .int (nI j)), (2, .int (nI i))] → (fX9_after_289 M ML j i v10 v9 v6 v5 v4 v3) = (fX9_after M ML j i) → W p l e (headSpec wsX9_after ({ frames := 3, cells := 0, slots := 0, locals := 68 })).room s m ([.ref (ma 0), .int (nI j), .int (nI i)] : List Value).toArray below meth c H locs 0 0 (MQ below (ro_Qi (fX9_after M ML j i) s.heap.size) ([.ref (ma 0), .int (nI j), .int (nI i)] : List Value).toArray s 0 0 ((ro s.heap.size))) (F0 m 289 ls []) := by
    intro v10 v9 v6 v5 v4 v3 H locs ls hP hS hl hv
    refine lv_iload hx hb dX9_after_289 (lv_at hl 6 rfl) ?_
    refine lv_if_eq (tgt := 305) hx hb dX9_after_291 (by decide) (fun c_1 => ?_) (fun c_1 => ?_)
    · refine lv_iload_n hx hb dX9_after_305 rfl (lv_at hl 7 rfl) ?_
      exact W.iret (v := v3) hx hb hr (fun t ht hW => ⟨⟨_, (), rfl, ((show v3 = (fX9_after_289 M ML j i v10 v9 v6 v5 v4 v3) by unfold fX9_after_289; rw [if_pos c_1]).trans hv), trivial⟩, hS.F ht⟩) hS.2.2 dX9_after_306
    · refine lv_iload hx hb dX9_after_294 (lv_at hl 3 rfl) ?_
      refine lv_iload_n hx hb dX9_after_296 rfl (lv_at hl 7 rfl) ?_
      refine lv_icmp_le (tgt := 305) hx hb dX9_after_297 (by decide) (fun c_2 => ?_) (fun c_2 => ?_)
      · refine lv_iload_n hx hb dX9_after_305 rfl (lv_at hl 7 rfl) ?_
        exact W.iret (v := v3) hx hb hr (fun t ht hW => ⟨⟨_, (), rfl, ((show v3 = (fX9_after_289 M ML j i v10 v9 v6 v5 v4 v3) by unfold fX9_after_289; rw [if_neg c_1, if_pos c_2]).trans hv), trivial⟩, hS.F ht⟩) hS.2.2 dX9_after_306
      · refine lv_iload hx hb dX9_after_300 (lv_at hl 3 rfl) ?_
        refine lv_goto (tgt := 306) hx hb dX9_after_302 (by decide) ?_
        exact W.iret (v := ((M 1) (((M 5) (i))).toNatClampNeg)) hx hb hr (fun t ht hW => ⟨⟨_, (), rfl, ((show ((M 1) (((M 5) (i))).toNatClampNeg) = (fX9_after_289 M ML j i v10 v9 v6 v5 v4 v3) by unfold fX9_after_289; rw [if_neg c_1, if_neg c_2]).trans hv), trivial⟩, hS.F ht⟩) hS.2.2 dX9_after_306
  have J273 : ∀ (v9 : Int32) (v6 : Int32) (v5 : Int32) (v4 : Int32) (v3 : Int32) (z0 : Int32) (H : Heap) (locs : List Loc) (ls : Array Slot), va_P (dC, dI) vwCl (wM cI cJ cZ ma sv M ML) H → va_S (ro s.heap.size) s.heap H locs → lv_has ls 11 [(9, .int (v9)), (8, .int (((M 1) (((M 5) (j))).toNatClampNeg))), (7, .int (((M 1) (((M 5) (i))).toNatClampNeg))), (6, .int (v6)), (5, .int (v5)), (4, .int (v4)), (3, .int (v3)), (0, .ref (ma 0)), (1, .int (nI j)), (2, .int (nI i))] → (fX9_after_273 M ML j i v9 v6 v5 v4 v3 z0) = (fX9_after M ML j i) → W p l e (headSpec wsX9_after ({ frames := 3, cells := 0, slots := 0, locals := 68 })).room s m ([.ref (ma 0), .int (nI j), .int (nI i)] : List Value).toArray below meth c H locs 0 0 (MQ below (ro_Qi (fX9_after M ML j i) s.heap.size) ([.ref (ma 0), .int (nI j), .int (nI i)] : List Value).toArray s 0 0 ((ro s.heap.size))) (F0 m 273 ls [.int (z0)]) := by
    intro v9 v6 v5 v4 v3 z0 H locs ls hP hS hl hv
    refine lv_istore (lv' := [(10, .int (z0)), (9, .int (v9)), (8, .int (((M 1) (((M 5) (j))).toNatClampNeg))), (7, .int (((M 1) (((M 5) (i))).toNatClampNeg))), (6, .int (v6)), (5, .int (v5)), (4, .int (v4)), (3, .int (v3)), (0, .ref (ma 0)), (1, .int (nI j)), (2, .int (nI i))]) hx hb dX9_after_273 hl (by decide) rfl (fun ls hl => ?_)
    refine lv_iload hx hb dX9_after_275 (lv_at hl 4 rfl) ?_
    refine lv_if_eq (tgt := 289) hx hb dX9_after_277 (by decide) (fun c_3 => ?_) (fun c_3 => ?_)
    · exact J289 z0 v9 v6 v5 v4 v3 H _ ls hP hS (lv_sub hl [0, 1, 2, 3, 4, 5, 6, 7, 8, 9, 10] rfl) ((show (fX9_after_289 M ML j i z0 v9 v6 v5 v4 v3) = (fX9_after_273 M ML j i v9 v6 v5 v4 v3 z0) by unfold fX9_after_273; rw [if_pos c_3]).trans hv)
    · refine lv_iload hx hb dX9_after_280 (lv_at hl 0 rfl) ?_
      refine lv_iload_n hx hb dX9_after_282 rfl (lv_at hl 7 rfl) ?_
      refine lv_icmp_le (tgt := 289) hx hb dX9_after_283 (by decide) (fun c_4 => ?_) (fun c_4 => ?_)
      · exact J289 z0 v9 v6 v5 v4 v3 H _ ls hP hS (lv_sub hl [0, 1, 2, 3, 4, 5, 6, 7, 8, 9, 10] rfl) ((show (fX9_after_289 M ML j i z0 v9 v6 v5 v4 v3) = (fX9_after_273 M ML j i v9 v6 v5 v4 v3 z0) by unfold fX9_after_273; rw [if_neg c_3, if_pos c_4]).trans hv)
      · refine lv_iload hx hb dX9_after_286 (lv_at hl 0 rfl) ?_
        refine lv_istore_n (lv' := [(3, .int (z0)), (10, .int (z0)), (9, .int (v9)), (8, .int (((M 1) (((M 5) (j))).toNatClampNeg))), (7, .int (((M 1) (((M 5) (i))).toNatClampNeg))), (6, .int (v6)), (5, .int (v5)), (4, .int (v4)), (0, .ref (ma 0)), (1, .int (nI j)), (2, .int (nI i))]) hx hb dX9_after_288 rfl hl (by decide) rfl (fun ls hl => ?_)
        exact J289 z0 v9 v6 v5 v4 z0 H _ ls hP hS (lv_sub hl [1, 2, 3, 4, 5, 6, 7, 0, 8, 9, 10] rfl) ((show (fX9_after_289 M ML j i z0 v9 v6 v5 v4 z0) = (fX9_after_273 M ML j i v9 v6 v5 v4 v3 z0) by unfold fX9_after_273; rw [if_neg c_3, if_neg c_4]).trans hv)
  have J251 : ∀ (v9 : Int32) (v6 : Int32) (v5 : Int32) (v4 : Int32) (v3 : Int32) (H : Heap) (locs : List Loc) (ls : Array Slot), va_P (dC, dI) vwCl (wM cI cJ cZ ma sv M ML) H → va_S (ro s.heap.size) s.heap H locs → lv_has ls 11 [(9, .int (v9)), (8, .int (((M 1) (((M 5) (j))).toNatClampNeg))), (7, .int (((M 1) (((M 5) (i))).toNatClampNeg))), (6, .int (v6)), (5, .int (v5)), (4, .int (v4)), (3, .int (v3)), (0, .ref (ma 0)), (1, .int (nI j)), (2, .int (nI i))] → (fX9_after_251 M ML j i v9 v6 v5 v4 v3) = (fX9_after M ML j i) → W p l e (headSpec wsX9_after ({ frames := 3, cells := 0, slots := 0, locals := 68 })).room s m ([.ref (ma 0), .int (nI j), .int (nI i)] : List Value).toArray below meth c H locs 0 0 (MQ below (ro_Qi (fX9_after M ML j i) s.heap.size) ([.ref (ma 0), .int (nI j), .int (nI i)] : List Value).toArray s 0 0 ((ro s.heap.size))) (F0 m 251 ls []) := by
    intro v9 v6 v5 v4 v3 H locs ls hP hS hl hv
    refine lv_iload hx hb dX9_after_251 (lv_at hl 2 rfl) ?_
    refine lv_iload hx hb dX9_after_253 (lv_at hl 1 rfl) ?_
    refine lv_isub hx hb dX9_after_255 ?_
    refine lv_iconst (v := 1) hx hb dX9_after_256 (by decide) ?_
    refine lv_iadd hx hb dX9_after_257 ?_
    refine lv_iconst (v := 1) hx hb dX9_after_258 (by decide) ?_
    refine lv_icmp_le (tgt := 272) hx hb dX9_after_259 (by decide) (fun c_5 => ?_) (fun c_5 => ?_)
    · refine lv_iconst (v := 1) hx hb dX9_after_272 (by decide) ?_
      exact J273 v9 v6 v5 v4 v3 1 H _ ls hP hS (lv_sub hl [0, 1, 2, 3, 4, 5, 6, 7, 8, 9] rfl) ((show (fX9_after_273 M ML j i v9 v6 v5 v4 v3 1) = (fX9_after_251 M ML j i v9 v6 v5 v4 v3) by unfold fX9_after_251; rw [if_pos c_5]).trans hv)
    · refine lv_iload hx hb dX9_after_262 (lv_at hl 2 rfl) ?_
      refine lv_iload hx hb dX9_after_264 (lv_at hl 1 rfl) ?_
      refine lv_isub hx hb dX9_after_266 ?_
      refine lv_iconst (v := 1) hx hb dX9_after_267 (by decide) ?_
      refine lv_iadd hx hb dX9_after_268 ?_
      refine lv_goto (tgt := 273) hx hb dX9_after_269 (by decide) ?_
      exact J273 v9 v6 v5 v4 v3 ((((M 1) (((M 5) (i))).toNatClampNeg) - ((M 1) (((M 5) (j))).toNatClampNeg)) + 1) H _ ls hP hS (lv_sub hl [0, 1, 2, 3, 4, 5, 6, 7, 8, 9] rfl) ((show (fX9_after_273 M ML j i v9 v6 v5 v4 v3 ((((M 1) (((M 5) (i))).toNatClampNeg) - ((M 1) (((M 5) (j))).toNatClampNeg)) + 1)) = (fX9_after_251 M ML j i v9 v6 v5 v4 v3) by unfold fX9_after_251; rw [if_neg c_5]).trans hv)
  have J249 : ∀ (v9 : Int32) (v6 : Int32) (v5 : Int32) (v4 : Int32) (H : Heap) (locs : List Loc) (ls : Array Slot), va_P (dC, dI) vwCl (wM cI cJ cZ ma sv M ML) H → va_S (ro s.heap.size) s.heap H locs → lv_has ls 11 [(9, .int (v9)), (8, .int (((M 1) (((M 5) (j))).toNatClampNeg))), (7, .int (((M 1) (((M 5) (i))).toNatClampNeg))), (6, .int (v6)), (5, .int (v5)), (4, .int (v4)), (3, .int ((-1))), (0, .ref (ma 0)), (1, .int (nI j)), (2, .int (nI i))] → (fX9_after_249 M ML j i v9 v6 v5 v4) = (fX9_after M ML j i) → W p l e (headSpec wsX9_after ({ frames := 3, cells := 0, slots := 0, locals := 68 })).room s m ([.ref (ma 0), .int (nI j), .int (nI i)] : List Value).toArray below meth c H locs 0 0 (MQ below (ro_Qi (fX9_after M ML j i) s.heap.size) ([.ref (ma 0), .int (nI j), .int (nI i)] : List Value).toArray s 0 0 ((ro s.heap.size))) (F0 m 249 ls []) := by
    intro v9 v6 v5 v4 H locs ls hP hS hl hv
    refine lv_iconst (v := 1) hx hb dX9_after_249 (by decide) ?_
    refine lv_istore_n (lv' := [(3, .int (1)), (9, .int (v9)), (8, .int (((M 1) (((M 5) (j))).toNatClampNeg))), (7, .int (((M 1) (((M 5) (i))).toNatClampNeg))), (6, .int (v6)), (5, .int (v5)), (4, .int (v4)), (0, .ref (ma 0)), (1, .int (nI j)), (2, .int (nI i))]) hx hb dX9_after_250 rfl hl (by decide) rfl (fun ls hl => ?_)
    exact J251 v9 v6 v5 v4 1 H _ ls hP hS (lv_sub hl [1, 2, 3, 4, 5, 6, 0, 7, 8, 9] rfl) ((show (fX9_after_251 M ML j i v9 v6 v5 v4 1) = (fX9_after_249 M ML j i v9 v6 v5 v4) by unfold fX9_after_249; rfl).trans hv)
  have J206 : ∀ (v6 : Int32) (v5 : Int32) (v4 : Int32) (z0 : Int32) (H : Heap) (locs : List Loc) (ls : Array Slot), va_P (dC, dI) vwCl (wM cI cJ cZ ma sv M ML) H → va_S (ro s.heap.size) s.heap H locs → lv_has ls 11 [(8, .int (((M 1) (((M 5) (j))).toNatClampNeg))), (7, .int (((M 1) (((M 5) (i))).toNatClampNeg))), (6, .int (v6)), (5, .int (v5)), (4, .int (v4)), (3, .int ((-1))), (0, .ref (ma 0)), (1, .int (nI j)), (2, .int (nI i))] → (fX9_after_206 M ML j i v6 v5 v4 z0) = (fX9_after M ML j i) → W p l e (headSpec wsX9_after ({ frames := 3, cells := 0, slots := 0, locals := 68 })).room s m ([.ref (ma 0), .int (nI j), .int (nI i)] : List Value).toArray below meth c H locs 0 0 (MQ below (ro_Qi (fX9_after M ML j i) s.heap.size) ([.ref (ma 0), .int (nI j), .int (nI i)] : List Value).toArray s 0 0 ((ro s.heap.size))) (F0 m 206 ls [.int (z0)]) := by
    intro v6 v5 v4 z0 H locs ls hP hS hl hv
    refine lv_istore (lv' := [(9, .int (z0)), (8, .int (((M 1) (((M 5) (j))).toNatClampNeg))), (7, .int (((M 1) (((M 5) (i))).toNatClampNeg))), (6, .int (v6)), (5, .int (v5)), (4, .int (v4)), (3, .int ((-1))), (0, .ref (ma 0)), (1, .int (nI j)), (2, .int (nI i))]) hx hb dX9_after_206 hl (by decide) rfl (fun ls hl => ?_)
    refine lv_iload hx hb dX9_after_208 (lv_at hl 4 rfl) ?_
    refine lv_if_ne (tgt := 249) hx hb dX9_after_210 (by decide) (fun c_6 => ?_) (fun c_6 => ?_)
    · exact J249 z0 v6 v5 v4 H _ ls hP hS (lv_sub hl [0, 1, 2, 3, 4, 5, 6, 7, 8, 9] rfl) ((show (fX9_after_249 M ML j i z0 v6 v5 v4) = (fX9_after_206 M ML j i v6 v5 v4 z0) by unfold fX9_after_206; rw [if_neg c_6]).trans hv)
    · refine lv_aload_n hx hb dX9_after_213 rfl (lv_at hl 7 rfl) ?_
      refine va_get (D := (dC, dI)) (ci := 4) (v := .ref (ma 5)) (C := RX9) (T := TX9) (N := 26) hx hb hts hinX9 hown hK hP 0 rfl rfl 5 (by decide) (hts (.fieldLink RX9 16 "SlotFillerModel" "classes" "[I") (by decide +kernel)) (fun _ h9 => h9) rfl dX9_after_214 ?_
      refine lv_iload_n hx hb dX9_after_217 rfl (lv_at hl 9 rfl) ?_
      refine my_iald (j := i) hx hb hK hP 3 0 rfl rfl (hi) (by decide) dX9_after_218 ?_
      refine lv_bipush (v := 8) hx hb dX9_after_219 (by decide) ?_
      refine lv_icmp_eq (tgt := 249) hx hb dX9_after_221 (by decide) (fun c_7 => ?_) (fun c_7 => ?_)
      · exact J249 z0 v6 v5 v4 H _ ls hP hS (lv_sub hl [0, 1, 2, 3, 4, 5, 6, 7, 8, 9] rfl) ((show (fX9_after_249 M ML j i z0 v6 v5 v4) = (fX9_after_206 M ML j i v6 v5 v4 z0) by unfold fX9_after_206; rw [if_pos c_6, if_pos c_7]).trans hv)
      · refine lv_aload_n hx hb dX9_after_224 rfl (lv_at hl 7 rfl) ?_
        refine va_get (D := (dC, dI)) (ci := 4) (v := .ref (ma 5)) (C := RX9) (T := TX9) (N := 26) hx hb hts hinX9 hown hK hP 0 rfl rfl 5 (by decide) (hts (.fieldLink RX9 16 "SlotFillerModel" "classes" "[I") (by decide +kernel)) (fun _ h9 => h9) rfl dX9_after_225 ?_
        refine lv_iload_n hx hb dX9_after_228 rfl (lv_at hl 8 rfl) ?_
        refine my_iald (j := j) hx hb hK hP 3 0 rfl rfl (hj) (by decide) dX9_after_229 ?_
        refine lv_bipush (v := 8) hx hb dX9_after_230 (by decide) ?_
        refine lv_icmp_eq (tgt := 249) hx hb dX9_after_232 (by decide) (fun c_8 => ?_) (fun c_8 => ?_)
        · exact J249 z0 v6 v5 v4 H _ ls hP hS (lv_sub hl [0, 1, 2, 3, 4, 5, 6, 7, 8, 9] rfl) ((show (fX9_after_249 M ML j i z0 v6 v5 v4) = (fX9_after_206 M ML j i v6 v5 v4 z0) by unfold fX9_after_206; rw [if_pos c_6, if_neg c_7, if_pos c_8]).trans hv)
        · refine lv_iload hx hb dX9_after_235 (lv_at hl 0 rfl) ?_
          refine lv_if_eq (tgt := 251) hx hb dX9_after_237 (by decide) (fun c_9 => ?_) (fun c_9 => ?_)
          · exact J251 z0 v6 v5 v4 (-1) H _ ls hP hS (lv_sub hl [0, 1, 2, 3, 4, 5, 6, 7, 8, 9] rfl) ((show (fX9_after_251 M ML j i z0 v6 v5 v4 (-1)) = (fX9_after_206 M ML j i v6 v5 v4 z0) by unfold fX9_after_206; rw [if_pos c_6, if_neg c_7, if_neg c_8, if_pos c_9]).trans hv)
          · refine lv_aload_n hx hb dX9_after_240 rfl (lv_at hl 7 rfl) ?_
            refine lv_iload_n hx hb dX9_after_241 rfl (lv_at hl 9 rfl) ?_
            refine lv_iload_n hx hb dX9_after_242 rfl (lv_at hl 8 rfl) ?_
            refine ro_calli (va_runV (As := [.int (nI i), .int (nI j)]) (rest := []) ⟨hx, hb, hml, hown, hts⟩ (kX9_apart l dC dI cI cJ cZ ma sv M ML H.size i j hi hj) (cwV 2 hts gX9_after_X9_apart rfl rfl rfl (by decide +kernel) ⟨Nat.le_of_ble_eq_true rfl, Nat.le_of_ble_eq_true rfl⟩) (ro_preV 0 4 (q := (RX9, TX9, 26)) rfl rfl hP hK) rfl rfl hl.1 rfl (lv_room (Nat.le_of_ble_eq_true rfl)) dX9_after_243 ⟨Nat.zero_le _, Nat.zero_le _⟩) hS hA (fun H locs kP hS => ?_)
            have hP := kP _ _ _ hP
            refine lv_if_ne (tgt := 251) hx hb dX9_after_246 (by decide) (fun c_10 => ?_) (fun c_10 => ?_)
            · exact J251 z0 v6 v5 v4 (-1) H _ ls hP hS (lv_sub hl [0, 1, 2, 3, 4, 5, 6, 7, 8, 9] rfl) ((show (fX9_after_251 M ML j i z0 v6 v5 v4 (-1)) = (fX9_after_206 M ML j i v6 v5 v4 z0) by unfold fX9_after_206; rw [if_pos c_6, if_neg c_7, if_neg c_8, if_neg c_9, if_neg c_10]).trans hv)
            · exact J249 z0 v6 v5 v4 H _ ls hP hS (lv_sub hl [0, 1, 2, 3, 4, 5, 6, 7, 8, 9] rfl) ((show (fX9_after_249 M ML j i z0 v6 v5 v4) = (fX9_after_206 M ML j i v6 v5 v4 z0) by unfold fX9_after_206; rw [if_pos c_6, if_neg c_7, if_neg c_8, if_neg c_9, if_pos c_10]).trans hv)
  have J205 : ∀ (v6 : Int32) (v5 : Int32) (v4 : Int32) (H : Heap) (locs : List Loc) (ls : Array Slot), va_P (dC, dI) vwCl (wM cI cJ cZ ma sv M ML) H → va_S (ro s.heap.size) s.heap H locs → lv_has ls 11 [(8, .int (((M 1) (((M 5) (j))).toNatClampNeg))), (7, .int (((M 1) (((M 5) (i))).toNatClampNeg))), (6, .int (v6)), (5, .int (v5)), (4, .int (v4)), (3, .int ((-1))), (0, .ref (ma 0)), (1, .int (nI j)), (2, .int (nI i))] → (fX9_after_205 M ML j i v6 v5 v4) = (fX9_after M ML j i) → W p l e (headSpec wsX9_after ({ frames := 3, cells := 0, slots := 0, locals := 68 })).room s m ([.ref (ma 0), .int (nI j), .int (nI i)] : List Value).toArray below meth c H locs 0 0 (MQ below (ro_Qi (fX9_after M ML j i) s.heap.size) ([.ref (ma 0), .int (nI j), .int (nI i)] : List Value).toArray s 0 0 ((ro s.heap.size))) (F0 m 205 ls []) := by
    intro v6 v5 v4 H locs ls hP hS hl hv
    refine lv_iconst (v := 0) hx hb dX9_after_205 (by decide) ?_
    exact J206 v6 v5 v4 0 H _ ls hP hS (lv_sub hl [0, 1, 2, 3, 4, 5, 6, 7, 8] rfl) ((show (fX9_after_206 M ML j i v6 v5 v4 0) = (fX9_after_205 M ML j i v6 v5 v4) by unfold fX9_after_205; rfl).trans hv)
  have J201 : ∀ (v6 : Int32) (v5 : Int32) (v4 : Int32) (H : Heap) (locs : List Loc) (ls : Array Slot), va_P (dC, dI) vwCl (wM cI cJ cZ ma sv M ML) H → va_S (ro s.heap.size) s.heap H locs → lv_has ls 11 [(8, .int (((M 1) (((M 5) (j))).toNatClampNeg))), (7, .int (((M 1) (((M 5) (i))).toNatClampNeg))), (6, .int (v6)), (5, .int (v5)), (4, .int (v4)), (3, .int ((-1))), (0, .ref (ma 0)), (1, .int (nI j)), (2, .int (nI i))] → (fX9_after_201 M ML j i v6 v5 v4) = (fX9_after M ML j i) → W p l e (headSpec wsX9_after ({ frames := 3, cells := 0, slots := 0, locals := 68 })).room s m ([.ref (ma 0), .int (nI j), .int (nI i)] : List Value).toArray below meth c H locs 0 0 (MQ below (ro_Qi (fX9_after M ML j i) s.heap.size) ([.ref (ma 0), .int (nI j), .int (nI i)] : List Value).toArray s 0 0 ((ro s.heap.size))) (F0 m 201 ls []) := by
    intro v6 v5 v4 H locs ls hP hS hl hv
    refine lv_iconst (v := 1) hx hb dX9_after_201 (by decide) ?_
    refine lv_goto (tgt := 206) hx hb dX9_after_202 (by decide) ?_
    exact J206 v6 v5 v4 1 H _ ls hP hS (lv_sub hl [0, 1, 2, 3, 4, 5, 6, 7, 8] rfl) ((show (fX9_after_206 M ML j i v6 v5 v4 1) = (fX9_after_201 M ML j i v6 v5 v4) by unfold fX9_after_201; rfl).trans hv)
  have J181 : ∀ (v6 : Int32) (v5 : Int32) (v4 : Int32) (H : Heap) (locs : List Loc) (ls : Array Slot), va_P (dC, dI) vwCl (wM cI cJ cZ ma sv M ML) H → va_S (ro s.heap.size) s.heap H locs → lv_has ls 11 [(8, .int (((M 1) (((M 5) (j))).toNatClampNeg))), (7, .int (((M 1) (((M 5) (i))).toNatClampNeg))), (6, .int (v6)), (5, .int (v5)), (4, .int (v4)), (3, .int ((-1))), (0, .ref (ma 0)), (1, .int (nI j)), (2, .int (nI i))] → (fX9_after_181 M ML j i v6 v5 v4) = (fX9_after M ML j i) → W p l e (headSpec wsX9_after ({ frames := 3, cells := 0, slots := 0, locals := 68 })).room s m ([.ref (ma 0), .int (nI j), .int (nI i)] : List Value).toArray below meth c H locs 0 0 (MQ below (ro_Qi (fX9_after M ML j i) s.heap.size) ([.ref (ma 0), .int (nI j), .int (nI i)] : List Value).toArray s 0 0 ((ro s.heap.size))) (F0 m 181 ls []) := by
    intro v6 v5 v4 H locs ls hP hS hl hv
    refine lv_aload_n hx hb dX9_after_181 rfl (lv_at hl 6 rfl) ?_
    refine va_get (D := (dC, dI)) (ci := 4) (v := .ref (ma 5)) (C := RX9) (T := TX9) (N := 26) hx hb hts hinX9 hown hK hP 0 rfl rfl 5 (by decide) (hts (.fieldLink RX9 16 "SlotFillerModel" "classes" "[I") (by decide +kernel)) (fun _ h9 => h9) rfl dX9_after_182 ?_
    refine lv_iload_n hx hb dX9_after_185 rfl (lv_at hl 7 rfl) ?_
    refine my_iald (j := j) hx hb hK hP 3 0 rfl rfl (hj) (by decide) dX9_after_186 ?_
    refine lv_iconst (v := 2) hx hb dX9_after_187 (by decide) ?_
    refine lv_icmp_ne (tgt := 205) hx hb dX9_after_188 (by decide) (fun c_11 => ?_) (fun c_11 => ?_)
    · exact J205 v6 v5 v4 H _ ls hP hS (lv_sub hl [0, 1, 2, 3, 4, 5, 6, 7, 8] rfl) ((show (fX9_after_205 M ML j i v6 v5 v4) = (fX9_after_181 M ML j i v6 v5 v4) by unfold fX9_after_181; rw [if_neg c_11]).trans hv)
    · refine lv_aload_n hx hb dX9_after_191 rfl (lv_at hl 6 rfl) ?_
      refine va_get (D := (dC, dI)) (ci := 4) (v := .ref (ma 5)) (C := RX9) (T := TX9) (N := 26) hx hb hts hinX9 hown hK hP 0 rfl rfl 5 (by decide) (hts (.fieldLink RX9 16 "SlotFillerModel" "classes" "[I") (by decide +kernel)) (fun _ h9 => h9) rfl dX9_after_192 ?_
      refine lv_iload_n hx hb dX9_after_195 rfl (lv_at hl 8 rfl) ?_
      refine my_iald (j := i) hx hb hK hP 3 0 rfl rfl (hi) (by decide) dX9_after_196 ?_
      refine lv_iconst (v := 1) hx hb dX9_after_197 (by decide) ?_
      refine lv_icmp_ne (tgt := 205) hx hb dX9_after_198 (by decide) (fun c_12 => ?_) (fun c_12 => ?_)
      · exact J205 v6 v5 v4 H _ ls hP hS (lv_sub hl [0, 1, 2, 3, 4, 5, 6, 7, 8] rfl) ((show (fX9_after_205 M ML j i v6 v5 v4) = (fX9_after_181 M ML j i v6 v5 v4) by unfold fX9_after_181; rw [if_pos c_11, if_neg c_12]).trans hv)
      · exact J201 v6 v5 v4 H _ ls hP hS (lv_sub hl [0, 1, 2, 3, 4, 5, 6, 7, 8] rfl) ((show (fX9_after_201 M ML j i v6 v5 v4) = (fX9_after_181 M ML j i v6 v5 v4) by unfold fX9_after_181; rw [if_pos c_11, if_pos c_12]).trans hv)
  have J123 : ∀ (v5 : Int32) (v4 : Int32) (z0 : Int32) (H : Heap) (locs : List Loc) (ls : Array Slot), va_P (dC, dI) vwCl (wM cI cJ cZ ma sv M ML) H → va_S (ro s.heap.size) s.heap H locs → lv_has ls 11 [(5, .int (v5)), (4, .int (v4)), (3, .int ((-1))), (0, .ref (ma 0)), (1, .int (nI j)), (2, .int (nI i))] → (fX9_after_123 M ML j i v5 v4 z0) = (fX9_after M ML j i) → W p l e (headSpec wsX9_after ({ frames := 3, cells := 0, slots := 0, locals := 68 })).room s m ([.ref (ma 0), .int (nI j), .int (nI i)] : List Value).toArray below meth c H locs 0 0 (MQ below (ro_Qi (fX9_after M ML j i) s.heap.size) ([.ref (ma 0), .int (nI j), .int (nI i)] : List Value).toArray s 0 0 ((ro s.heap.size))) (F0 m 123 ls [.int (z0)]) := by
    intro v5 v4 z0 H locs ls hP hS hl hv
    refine lv_istore (lv' := [(6, .int (z0)), (5, .int (v5)), (4, .int (v4)), (3, .int ((-1))), (0, .ref (ma 0)), (1, .int (nI j)), (2, .int (nI i))]) hx hb dX9_after_123 hl (by decide) rfl (fun ls hl => ?_)
    refine lv_aload_n hx hb dX9_after_125 rfl (lv_at hl 4 rfl) ?_
    refine va_get (D := (dC, dI)) (ci := 4) (v := .ref (ma 1)) (C := RX9) (T := TX9) (N := 26) hx hb hts hinX9 hown hK hP 0 rfl rfl 1 (by decide) (hts (.fieldLink RX9 7 "SlotFillerModel" "latencies" "[I") (by decide +kernel)) (fun _ h9 => h9) rfl dX9_after_126 ?_
    refine lv_aload_n hx hb dX9_after_129 rfl (lv_at hl 4 rfl) ?_
    refine va_get (D := (dC, dI)) (ci := 4) (v := .ref (ma 5)) (C := RX9) (T := TX9) (N := 26) hx hb hts hinX9 hown hK hP 0 rfl rfl 5 (by decide) (hts (.fieldLink RX9 16 "SlotFillerModel" "classes" "[I") (by decide +kernel)) (fun _ h9 => h9) rfl dX9_after_130 ?_
    refine lv_iload_n hx hb dX9_after_133 rfl (lv_at hl 6 rfl) ?_
    refine my_iald (j := i) hx hb hK hP 3 0 rfl rfl (hi) (by decide) dX9_after_134 ?_
    refine va_iald hx hb hK hP 1 0 rfl rfl (hc i hi) dX9_after_135 ?_
    refine lv_istore (lv' := [(7, .int (((M 1) (((M 5) (i))).toNatClampNeg))), (6, .int (z0)), (5, .int (v5)), (4, .int (v4)), (3, .int ((-1))), (0, .ref (ma 0)), (1, .int (nI j)), (2, .int (nI i))]) hx hb dX9_after_136 hl (by decide) rfl (fun ls hl => ?_)
    refine lv_aload_n hx hb dX9_after_138 rfl (lv_at hl 5 rfl) ?_
    refine va_get (D := (dC, dI)) (ci := 4) (v := .ref (ma 1)) (C := RX9) (T := TX9) (N := 26) hx hb hts hinX9 hown hK hP 0 rfl rfl 1 (by decide) (hts (.fieldLink RX9 7 "SlotFillerModel" "latencies" "[I") (by decide +kernel)) (fun _ h9 => h9) rfl dX9_after_139 ?_
    refine lv_aload_n hx hb dX9_after_142 rfl (lv_at hl 5 rfl) ?_
    refine va_get (D := (dC, dI)) (ci := 4) (v := .ref (ma 5)) (C := RX9) (T := TX9) (N := 26) hx hb hts hinX9 hown hK hP 0 rfl rfl 5 (by decide) (hts (.fieldLink RX9 16 "SlotFillerModel" "classes" "[I") (by decide +kernel)) (fun _ h9 => h9) rfl dX9_after_143 ?_
    refine lv_iload_n hx hb dX9_after_146 rfl (lv_at hl 6 rfl) ?_
    refine my_iald (j := j) hx hb hK hP 3 0 rfl rfl (hj) (by decide) dX9_after_147 ?_
    refine va_iald hx hb hK hP 1 0 rfl rfl (hc j hj) dX9_after_148 ?_
    refine lv_istore (lv' := [(8, .int (((M 1) (((M 5) (j))).toNatClampNeg))), (7, .int (((M 1) (((M 5) (i))).toNatClampNeg))), (6, .int (z0)), (5, .int (v5)), (4, .int (v4)), (3, .int ((-1))), (0, .ref (ma 0)), (1, .int (nI j)), (2, .int (nI i))]) hx hb dX9_after_149 hl (by decide) rfl (fun ls hl => ?_)
    refine lv_aload_n hx hb dX9_after_151 rfl (lv_at hl 6 rfl) ?_
    refine va_get (D := (dC, dI)) (ci := 4) (v := .ref (ma 5)) (C := RX9) (T := TX9) (N := 26) hx hb hts hinX9 hown hK hP 0 rfl rfl 5 (by decide) (hts (.fieldLink RX9 16 "SlotFillerModel" "classes" "[I") (by decide +kernel)) (fun _ h9 => h9) rfl dX9_after_152 ?_
    refine lv_iload_n hx hb dX9_after_155 rfl (lv_at hl 8 rfl) ?_
    refine my_iald (j := i) hx hb hK hP 3 0 rfl rfl (hi) (by decide) dX9_after_156 ?_
    refine lv_iconst (v := 2) hx hb dX9_after_157 (by decide) ?_
    refine lv_icmp_ne (tgt := 181) hx hb dX9_after_158 (by decide) (fun c_13 => ?_) (fun c_13 => ?_)
    · exact J181 z0 v5 v4 H _ ls hP hS (lv_sub hl [0, 1, 2, 3, 4, 5, 6, 7, 8] rfl) ((show (fX9_after_181 M ML j i z0 v5 v4) = (fX9_after_123 M ML j i v5 v4 z0) by unfold fX9_after_123; rw [if_neg c_13]).trans hv)
    · refine lv_aload_n hx hb dX9_after_161 rfl (lv_at hl 6 rfl) ?_
      refine va_get (D := (dC, dI)) (ci := 4) (v := .ref (ma 5)) (C := RX9) (T := TX9) (N := 26) hx hb hts hinX9 hown hK hP 0 rfl rfl 5 (by decide) (hts (.fieldLink RX9 16 "SlotFillerModel" "classes" "[I") (by decide +kernel)) (fun _ h9 => h9) rfl dX9_after_162 ?_
      refine lv_iload_n hx hb dX9_after_165 rfl (lv_at hl 7 rfl) ?_
      refine my_iald (j := j) hx hb hK hP 3 0 rfl rfl (hj) (by decide) dX9_after_166 ?_
      refine lv_iconst (v := 2) hx hb dX9_after_167 (by decide) ?_
      refine lv_icmp_eq (tgt := 201) hx hb dX9_after_168 (by decide) (fun c_14 => ?_) (fun c_14 => ?_)
      · exact J201 z0 v5 v4 H _ ls hP hS (lv_sub hl [0, 1, 2, 3, 4, 5, 6, 7, 8] rfl) ((show (fX9_after_201 M ML j i z0 v5 v4) = (fX9_after_123 M ML j i v5 v4 z0) by unfold fX9_after_123; rw [if_pos c_13, if_pos c_14]).trans hv)
      · refine lv_aload_n hx hb dX9_after_171 rfl (lv_at hl 6 rfl) ?_
        refine va_get (D := (dC, dI)) (ci := 4) (v := .ref (ma 5)) (C := RX9) (T := TX9) (N := 26) hx hb hts hinX9 hown hK hP 0 rfl rfl 5 (by decide) (hts (.fieldLink RX9 16 "SlotFillerModel" "classes" "[I") (by decide +kernel)) (fun _ h9 => h9) rfl dX9_after_172 ?_
        refine lv_iload_n hx hb dX9_after_175 rfl (lv_at hl 7 rfl) ?_
        refine my_iald (j := j) hx hb hK hP 3 0 rfl rfl (hj) (by decide) dX9_after_176 ?_
        refine lv_iconst (v := 1) hx hb dX9_after_177 (by decide) ?_
        refine lv_icmp_eq (tgt := 201) hx hb dX9_after_178 (by decide) (fun c_15 => ?_) (fun c_15 => ?_)
        · exact J201 z0 v5 v4 H _ ls hP hS (lv_sub hl [0, 1, 2, 3, 4, 5, 6, 7, 8] rfl) ((show (fX9_after_201 M ML j i z0 v5 v4) = (fX9_after_123 M ML j i v5 v4 z0) by unfold fX9_after_123; rw [if_pos c_13, if_neg c_14, if_pos c_15]).trans hv)
        · exact J181 z0 v5 v4 H _ ls hP hS (lv_sub hl [0, 1, 2, 3, 4, 5, 6, 7, 8] rfl) ((show (fX9_after_181 M ML j i z0 v5 v4) = (fX9_after_123 M ML j i v5 v4 z0) by unfold fX9_after_123; rw [if_pos c_13, if_neg c_14, if_neg c_15]).trans hv)
  have J118 : ∀ (v5 : Int32) (v4 : Int32) (H : Heap) (locs : List Loc) (ls : Array Slot), va_P (dC, dI) vwCl (wM cI cJ cZ ma sv M ML) H → va_S (ro s.heap.size) s.heap H locs → lv_has ls 11 [(5, .int (v5)), (4, .int (v4)), (3, .int ((-1))), (0, .ref (ma 0)), (1, .int (nI j)), (2, .int (nI i))] → (fX9_after_118 M ML j i v5 v4) = (fX9_after M ML j i) → W p l e (headSpec wsX9_after ({ frames := 3, cells := 0, slots := 0, locals := 68 })).room s m ([.ref (ma 0), .int (nI j), .int (nI i)] : List Value).toArray below meth c H locs 0 0 (MQ below (ro_Qi (fX9_after M ML j i) s.heap.size) ([.ref (ma 0), .int (nI j), .int (nI i)] : List Value).toArray s 0 0 ((ro s.heap.size))) (F0 m 118 ls []) := by
    intro v5 v4 H locs ls hP hS hl hv
    refine lv_iconst (v := 1) hx hb dX9_after_118 (by decide) ?_
    refine lv_goto (tgt := 123) hx hb dX9_after_119 (by decide) ?_
    exact J123 v5 v4 1 H _ ls hP hS (lv_sub hl [0, 1, 2, 3, 4, 5] rfl) ((show (fX9_after_123 M ML j i v5 v4 1) = (fX9_after_118 M ML j i v5 v4) by unfold fX9_after_118; rfl).trans hv)
  have J82 : ∀ (v4 : Int32) (z0 : Int32) (H : Heap) (locs : List Loc) (ls : Array Slot), va_P (dC, dI) vwCl (wM cI cJ cZ ma sv M ML) H → va_S (ro s.heap.size) s.heap H locs → lv_has ls 11 [(4, .int (v4)), (3, .int ((-1))), (0, .ref (ma 0)), (1, .int (nI j)), (2, .int (nI i))] → (fX9_after_82 M ML j i v4 z0) = (fX9_after M ML j i) → W p l e (headSpec wsX9_after ({ frames := 3, cells := 0, slots := 0, locals := 68 })).room s m ([.ref (ma 0), .int (nI j), .int (nI i)] : List Value).toArray below meth c H locs 0 0 (MQ below (ro_Qi (fX9_after M ML j i) s.heap.size) ([.ref (ma 0), .int (nI j), .int (nI i)] : List Value).toArray s 0 0 ((ro s.heap.size))) (F0 m 82 ls [.int (z0)]) := by
    intro v4 z0 H locs ls hP hS hl hv
    refine lv_istore (lv' := [(5, .int (z0)), (4, .int (v4)), (3, .int ((-1))), (0, .ref (ma 0)), (1, .int (nI j)), (2, .int (nI i))]) hx hb dX9_after_82 hl (by decide) rfl (fun ls hl => ?_)
    refine lv_aload_n hx hb dX9_after_84 rfl (lv_at hl 3 rfl) ?_
    refine va_get (D := (dC, dI)) (ci := 4) (v := .ref (ma 9)) (C := RX9) (T := TX9) (N := 26) hx hb hts hinX9 hown hK hP 0 rfl rfl 9 (by decide) (hts (.fieldLink RX9 29 "SlotFillerModel" "written" "[J") (by decide +kernel)) (fun _ h9 => h9) rfl dX9_after_85 ?_
    refine lv_iload_n hx hb dX9_after_88 rfl (lv_at hl 4 rfl) ?_
    refine my_lald (j := j) hx hb hK hP 7 1 rfl rfl (hj) (by decide) dX9_after_89 ?_
    refine lv_aload_n hx hb dX9_after_90 rfl (lv_at hl 3 rfl) ?_
    refine va_get (D := (dC, dI)) (ci := 4) (v := .ref (ma 9)) (C := RX9) (T := TX9) (N := 26) hx hb hts hinX9 hown hK hP 0 rfl rfl 9 (by decide) (hts (.fieldLink RX9 29 "SlotFillerModel" "written" "[J") (by decide +kernel)) (fun _ h9 => h9) rfl dX9_after_91 ?_
    refine lv_iload_n hx hb dX9_after_94 rfl (lv_at hl 5 rfl) ?_
    refine my_lald (j := i) hx hb hK hP 7 1 rfl rfl (hi) (by decide) dX9_after_95 ?_
    refine lv_land hx hb dX9_after_96 ?_
    refine lv_lconst (v := 0) hx hb dX9_after_97 (by decide) ?_
    refine W.lcmp hx hb dX9_after_98 ?_
    refine lv_if_ne (tgt := 118) hx hb dX9_after_99 (by decide) (fun c_16 => ?_) (fun c_16 => ?_)
    · exact J118 z0 v4 H _ ls hP hS (lv_sub hl [0, 1, 2, 3, 4, 5] rfl) ((show (fX9_after_118 M ML j i z0 v4) = (fX9_after_82 M ML j i v4 z0) by unfold fX9_after_82; rw [if_neg c_16]).trans hv)
    · refine lv_aload_n hx hb dX9_after_102 rfl (lv_at hl 3 rfl) ?_
      refine va_get (D := (dC, dI)) (ci := 4) (v := .ref (ma 7)) (C := RX9) (T := TX9) (N := 26) hx hb hts hinX9 hown hK hP 0 rfl rfl 7 (by decide) (hts (.fieldLink RX9 22 "SlotFillerModel" "writtenMore" "[I") (by decide +kernel)) (fun _ h9 => h9) rfl dX9_after_103 ?_
      refine lv_iload_n hx hb dX9_after_106 rfl (lv_at hl 4 rfl) ?_
      refine my_iald (j := j) hx hb hK hP 5 0 rfl rfl (hj) (by decide) dX9_after_107 ?_
      refine lv_aload_n hx hb dX9_after_108 rfl (lv_at hl 3 rfl) ?_
      refine va_get (D := (dC, dI)) (ci := 4) (v := .ref (ma 7)) (C := RX9) (T := TX9) (N := 26) hx hb hts hinX9 hown hK hP 0 rfl rfl 7 (by decide) (hts (.fieldLink RX9 22 "SlotFillerModel" "writtenMore" "[I") (by decide +kernel)) (fun _ h9 => h9) rfl dX9_after_109 ?_
      refine lv_iload_n hx hb dX9_after_112 rfl (lv_at hl 5 rfl) ?_
      refine my_iald (j := i) hx hb hK hP 5 0 rfl rfl (hi) (by decide) dX9_after_113 ?_
      refine lv_iand hx hb dX9_after_114 ?_
      refine lv_if_eq (tgt := 122) hx hb dX9_after_115 (by decide) (fun c_17 => ?_) (fun c_17 => ?_)
      · refine lv_iconst (v := 0) hx hb dX9_after_122 (by decide) ?_
        exact J123 z0 v4 0 H _ ls hP hS (lv_sub hl [0, 1, 2, 3, 4, 5] rfl) ((show (fX9_after_123 M ML j i z0 v4 0) = (fX9_after_82 M ML j i v4 z0) by unfold fX9_after_82; rw [if_pos c_16, if_pos c_17]).trans hv)
      · exact J118 z0 v4 H _ ls hP hS (lv_sub hl [0, 1, 2, 3, 4, 5] rfl) ((show (fX9_after_118 M ML j i z0 v4) = (fX9_after_82 M ML j i v4 z0) by unfold fX9_after_82; rw [if_pos c_16, if_neg c_17]).trans hv)
  have J77 : ∀ (v4 : Int32) (H : Heap) (locs : List Loc) (ls : Array Slot), va_P (dC, dI) vwCl (wM cI cJ cZ ma sv M ML) H → va_S (ro s.heap.size) s.heap H locs → lv_has ls 11 [(4, .int (v4)), (3, .int ((-1))), (0, .ref (ma 0)), (1, .int (nI j)), (2, .int (nI i))] → (fX9_after_77 M ML j i v4) = (fX9_after M ML j i) → W p l e (headSpec wsX9_after ({ frames := 3, cells := 0, slots := 0, locals := 68 })).room s m ([.ref (ma 0), .int (nI j), .int (nI i)] : List Value).toArray below meth c H locs 0 0 (MQ below (ro_Qi (fX9_after M ML j i) s.heap.size) ([.ref (ma 0), .int (nI j), .int (nI i)] : List Value).toArray s 0 0 ((ro s.heap.size))) (F0 m 77 ls []) := by
    intro v4 H locs ls hP hS hl hv
    refine lv_iconst (v := 1) hx hb dX9_after_77 (by decide) ?_
    refine lv_goto (tgt := 82) hx hb dX9_after_78 (by decide) ?_
    exact J82 v4 1 H _ ls hP hS (lv_sub hl [0, 1, 2, 3, 4] rfl) ((show (fX9_after_82 M ML j i v4 1) = (fX9_after_77 M ML j i v4) by unfold fX9_after_77; rfl).trans hv)
  have J41 : ∀ (z0 : Int32) (H : Heap) (locs : List Loc) (ls : Array Slot), va_P (dC, dI) vwCl (wM cI cJ cZ ma sv M ML) H → va_S (ro s.heap.size) s.heap H locs → lv_has ls 11 [(3, .int ((-1))), (0, .ref (ma 0)), (1, .int (nI j)), (2, .int (nI i))] → (fX9_after_41 M ML j i z0) = (fX9_after M ML j i) → W p l e (headSpec wsX9_after ({ frames := 3, cells := 0, slots := 0, locals := 68 })).room s m ([.ref (ma 0), .int (nI j), .int (nI i)] : List Value).toArray below meth c H locs 0 0 (MQ below (ro_Qi (fX9_after M ML j i) s.heap.size) ([.ref (ma 0), .int (nI j), .int (nI i)] : List Value).toArray s 0 0 ((ro s.heap.size))) (F0 m 41 ls [.int (z0)]) := by
    intro z0 H locs ls hP hS hl hv
    refine lv_istore (lv' := [(4, .int (z0)), (3, .int ((-1))), (0, .ref (ma 0)), (1, .int (nI j)), (2, .int (nI i))]) hx hb dX9_after_41 hl (by decide) rfl (fun ls hl => ?_)
    refine lv_aload_n hx hb dX9_after_43 rfl (lv_at hl 2 rfl) ?_
    refine va_get (D := (dC, dI)) (ci := 4) (v := .ref (ma 9)) (C := RX9) (T := TX9) (N := 26) hx hb hts hinX9 hown hK hP 0 rfl rfl 9 (by decide) (hts (.fieldLink RX9 29 "SlotFillerModel" "written" "[J") (by decide +kernel)) (fun _ h9 => h9) rfl dX9_after_44 ?_
    refine lv_iload_n hx hb dX9_after_47 rfl (lv_at hl 3 rfl) ?_
    refine my_lald (j := j) hx hb hK hP 7 1 rfl rfl (hj) (by decide) dX9_after_48 ?_
    refine lv_aload_n hx hb dX9_after_49 rfl (lv_at hl 2 rfl) ?_
    refine va_get (D := (dC, dI)) (ci := 4) (v := .ref (ma 8)) (C := RX9) (T := TX9) (N := 26) hx hb hts hinX9 hown hK hP 0 rfl rfl 8 (by decide) (hts (.fieldLink RX9 25 "SlotFillerModel" "read" "[J") (by decide +kernel)) (fun _ h9 => h9) rfl dX9_after_50 ?_
    refine lv_iload_n hx hb dX9_after_53 rfl (lv_at hl 4 rfl) ?_
    refine my_lald (j := i) hx hb hK hP 6 1 rfl rfl (hi) (by decide) dX9_after_54 ?_
    refine lv_land hx hb dX9_after_55 ?_
    refine lv_lconst (v := 0) hx hb dX9_after_56 (by decide) ?_
    refine W.lcmp hx hb dX9_after_57 ?_
    refine lv_if_ne (tgt := 77) hx hb dX9_after_58 (by decide) (fun c_18 => ?_) (fun c_18 => ?_)
    · exact J77 z0 H _ ls hP hS (lv_sub hl [0, 1, 2, 3, 4] rfl) ((show (fX9_after_77 M ML j i z0) = (fX9_after_41 M ML j i z0) by unfold fX9_after_41; rw [if_neg c_18]).trans hv)
    · refine lv_aload_n hx hb dX9_after_61 rfl (lv_at hl 2 rfl) ?_
      refine va_get (D := (dC, dI)) (ci := 4) (v := .ref (ma 7)) (C := RX9) (T := TX9) (N := 26) hx hb hts hinX9 hown hK hP 0 rfl rfl 7 (by decide) (hts (.fieldLink RX9 22 "SlotFillerModel" "writtenMore" "[I") (by decide +kernel)) (fun _ h9 => h9) rfl dX9_after_62 ?_
      refine lv_iload_n hx hb dX9_after_65 rfl (lv_at hl 3 rfl) ?_
      refine my_iald (j := j) hx hb hK hP 5 0 rfl rfl (hj) (by decide) dX9_after_66 ?_
      refine lv_aload_n hx hb dX9_after_67 rfl (lv_at hl 2 rfl) ?_
      refine va_get (D := (dC, dI)) (ci := 4) (v := .ref (ma 6)) (C := RX9) (T := TX9) (N := 26) hx hb hts hinX9 hown hK hP 0 rfl rfl 6 (by decide) (hts (.fieldLink RX9 19 "SlotFillerModel" "readMore" "[I") (by decide +kernel)) (fun _ h9 => h9) rfl dX9_after_68 ?_
      refine lv_iload_n hx hb dX9_after_71 rfl (lv_at hl 4 rfl) ?_
      refine my_iald (j := i) hx hb hK hP 4 0 rfl rfl (hi) (by decide) dX9_after_72 ?_
      refine lv_iand hx hb dX9_after_73 ?_
      refine lv_if_eq (tgt := 81) hx hb dX9_after_74 (by decide) (fun c_19 => ?_) (fun c_19 => ?_)
      · refine lv_iconst (v := 0) hx hb dX9_after_81 (by decide) ?_
        exact J82 z0 0 H _ ls hP hS (lv_sub hl [0, 1, 2, 3, 4] rfl) ((show (fX9_after_82 M ML j i z0 0) = (fX9_after_41 M ML j i z0) by unfold fX9_after_41; rw [if_pos c_18, if_pos c_19]).trans hv)
      · exact J77 z0 H _ ls hP hS (lv_sub hl [0, 1, 2, 3, 4] rfl) ((show (fX9_after_77 M ML j i z0) = (fX9_after_41 M ML j i z0) by unfold fX9_after_41; rw [if_pos c_18, if_neg c_19]).trans hv)
  have J36 : ∀ (H : Heap) (locs : List Loc) (ls : Array Slot), va_P (dC, dI) vwCl (wM cI cJ cZ ma sv M ML) H → va_S (ro s.heap.size) s.heap H locs → lv_has ls 11 [(3, .int ((-1))), (0, .ref (ma 0)), (1, .int (nI j)), (2, .int (nI i))] → (fX9_after_36 M ML j i) = (fX9_after M ML j i) → W p l e (headSpec wsX9_after ({ frames := 3, cells := 0, slots := 0, locals := 68 })).room s m ([.ref (ma 0), .int (nI j), .int (nI i)] : List Value).toArray below meth c H locs 0 0 (MQ below (ro_Qi (fX9_after M ML j i) s.heap.size) ([.ref (ma 0), .int (nI j), .int (nI i)] : List Value).toArray s 0 0 ((ro s.heap.size))) (F0 m 36 ls []) := by
    intro  H locs ls hP hS hl hv
    refine lv_iconst (v := 1) hx hb dX9_after_36 (by decide) ?_
    refine lv_goto (tgt := 41) hx hb dX9_after_37 (by decide) ?_
    exact J41 1 H _ ls hP hS (lv_sub hl [0, 1, 2, 3] rfl) ((show (fX9_after_41 M ML j i 1) = (fX9_after_36 M ML j i) by unfold fX9_after_36; rfl).trans hv)
  refine lv_iconst (v := (-1)) hx hb dX9_after_0 (by decide) ?_
  refine lv_istore_n (lv' := [(3, .int ((-1))), (0, .ref (ma 0)), (1, .int (nI j)), (2, .int (nI i))]) hx hb dX9_after_1 rfl hl (by decide) rfl (fun ls hl => ?_)
  refine lv_aload_n hx hb dX9_after_2 rfl (lv_at hl 1 rfl) ?_
  refine va_get (D := (dC, dI)) (ci := 4) (v := .ref (ma 8)) (C := RX9) (T := TX9) (N := 26) hx hb hts hinX9 hown hK hP 0 rfl rfl 8 (by decide) (hts (.fieldLink RX9 25 "SlotFillerModel" "read" "[J") (by decide +kernel)) (fun _ h9 => h9) rfl dX9_after_3 ?_
  refine lv_iload_n hx hb dX9_after_6 rfl (lv_at hl 2 rfl) ?_
  refine my_lald (j := j) hx hb hK hP 6 1 rfl rfl (hj) (by decide) dX9_after_7 ?_
  refine lv_aload_n hx hb dX9_after_8 rfl (lv_at hl 1 rfl) ?_
  refine va_get (D := (dC, dI)) (ci := 4) (v := .ref (ma 9)) (C := RX9) (T := TX9) (N := 26) hx hb hts hinX9 hown hK hP 0 rfl rfl 9 (by decide) (hts (.fieldLink RX9 29 "SlotFillerModel" "written" "[J") (by decide +kernel)) (fun _ h9 => h9) rfl dX9_after_9 ?_
  refine lv_iload_n hx hb dX9_after_12 rfl (lv_at hl 3 rfl) ?_
  refine my_lald (j := i) hx hb hK hP 7 1 rfl rfl (hi) (by decide) dX9_after_13 ?_
  refine lv_land hx hb dX9_after_14 ?_
  refine lv_lconst (v := 0) hx hb dX9_after_15 (by decide) ?_
  refine W.lcmp hx hb dX9_after_16 ?_
  refine lv_if_ne (tgt := 36) hx hb dX9_after_17 (by decide) (fun c_20 => ?_) (fun c_20 => ?_)
  · exact J36  s.heap _ ls hP hS (lv_sub hl [0, 1, 2, 3] rfl) ((show (fX9_after_36 M ML j i) = (fX9_after M ML j i) by unfold fX9_after; rw [if_neg c_20]).trans hv)
  · refine lv_aload_n hx hb dX9_after_20 rfl (lv_at hl 1 rfl) ?_
    refine va_get (D := (dC, dI)) (ci := 4) (v := .ref (ma 6)) (C := RX9) (T := TX9) (N := 26) hx hb hts hinX9 hown hK hP 0 rfl rfl 6 (by decide) (hts (.fieldLink RX9 19 "SlotFillerModel" "readMore" "[I") (by decide +kernel)) (fun _ h9 => h9) rfl dX9_after_21 ?_
    refine lv_iload_n hx hb dX9_after_24 rfl (lv_at hl 2 rfl) ?_
    refine my_iald (j := j) hx hb hK hP 4 0 rfl rfl (hj) (by decide) dX9_after_25 ?_
    refine lv_aload_n hx hb dX9_after_26 rfl (lv_at hl 1 rfl) ?_
    refine va_get (D := (dC, dI)) (ci := 4) (v := .ref (ma 7)) (C := RX9) (T := TX9) (N := 26) hx hb hts hinX9 hown hK hP 0 rfl rfl 7 (by decide) (hts (.fieldLink RX9 22 "SlotFillerModel" "writtenMore" "[I") (by decide +kernel)) (fun _ h9 => h9) rfl dX9_after_27 ?_
    refine lv_iload_n hx hb dX9_after_30 rfl (lv_at hl 3 rfl) ?_
    refine my_iald (j := i) hx hb hK hP 5 0 rfl rfl (hi) (by decide) dX9_after_31 ?_
    refine lv_iand hx hb dX9_after_32 ?_
    refine lv_if_eq (tgt := 40) hx hb dX9_after_33 (by decide) (fun c_21 => ?_) (fun c_21 => ?_)
    · refine lv_iconst (v := 0) hx hb dX9_after_40 (by decide) ?_
      exact J41 0 s.heap _ ls hP hS (lv_sub hl [0, 1, 2, 3] rfl) ((show (fX9_after_41 M ML j i 0) = (fX9_after M ML j i) by unfold fX9_after; rw [if_pos c_20, if_pos c_21]).trans hv)
    · exact J36  s.heap _ ls hP hS (lv_sub hl [0, 1, 2, 3] rfl) ((show (fX9_after_36 M ML j i) = (fX9_after M ML j i) by unfold fX9_after; rw [if_pos c_20, if_neg c_21]).trans hv)
def fX9_canCome_2 (M : Nat → Nat → Int32) (ML : Nat → Nat → Int64) (j : Nat) (cy : Int32) : Nat → Nat → Int32
  | 0, _ => 0
  | q2 + 1, i => if nI j ≤ nI i then 1 else if (fX9_after M ML j i) = (-1) then (fX9_canCome_2 M ML j cy q2 (i + 1)) else if ((M 24) (i)) = (-1) then 0 else if (fX9_after M ML j i) ≤ (cy - ((M 24) (i))) then (fX9_canCome_2 M ML j cy q2 (i + 1)) else 0
def fX9_canCome (M : Nat → Nat → Int32) (ML : Nat → Nat → Int64) (j : Nat) (cy : Int32) : Int32 := (fX9_canCome_2 M ML j cy 41 0)
set_option maxHeartbeats 4000000 in
set_option maxRecDepth 100000 in
theorem kX9_canCome (l : Launch) (dC : Nat → ClassId) (dI : Nat → Nat → Nat) (cI cJ cZ : ClassId) (ma : Nat → Nat) (sv : Nat → Value) (M : Nat → Nat → Int32) (ML : Nat → Nat → Int64) (sz : Nat) (j : Nat) (hj : j < 40) (cy : Int32) (hc : ∀ q, q < 40 → vp_in (M 5 q) 9) : Met l yX9_canCome wsX9_canCome ({ frames := 4, cells := 0, slots := 0, locals := 98 }) (ro_Pc (dC, dI) (wM cI cJ cZ ma sv M ML) (tyA cI cJ cZ) [.ref (ma 0), .int (nI j), .int (cy)] sz) (ro_Qi (fX9_canCome M ML j cy) sz) 0 0 (ro sz) := by
  refine Met.ofW (cc := cX9_canCome) (maxL := 5) (ret := (some .boolean)) (by decide) rfl ?_
  intro p e s m args below meth c s₁ B0 hml hv
  obtain ⟨rfl, hsz, hP, hK⟩ := hv
  have hx := B0.exec
  have hb := B0.bytes
  have hr := B0.returns
  have hts := atoms_spec (ws := wsX9_canCome) B0.pre
  have hown : s.vm.findClass RX9 = some m.cls := findClass_of_methodNamed B0.named
  have hlocks := B0.notSynchronized
  have hinX9 : ∀ w ∈ wsX90, w ∈ wsX9_canCome := fun w h => List.mem_cons_of_mem _ (List.mem_append_right _ (h))
  subst hsz
  have hA : ∀ q : Nat, s.heap.size ≤ q → ro s.heap.size q := fun _ h => h
  have hS : va_S (ro s.heap.size) s.heap s.heap [] := va_S.rf
  have hl := lv_entry ([.ref (ma 0), .int (nI j), .int (cy)]) (n := 5) (Nat.le_of_ble_eq_true rfl)
  rw [lg_entry_eq]
  generalize (lg_sl ([.ref (ma 0), .int (nI j), .int (cy)]) ++ List.replicate (5 - (lg_sl ([.ref (ma 0), .int (nI j), .int (cy)])).length) Slot.unset).toArray = ls at hl ⊢
  have hl : lv_has ls 5 [(0, .ref (ma 0)), (1, .int (nI j)), (2, .int (cy))] := hl
  have hv : (fX9_canCome M ML j cy) = (fX9_canCome M ML j cy) := rfl
  have J2 : ∀ (q2 : Nat) (i : Nat) (H : Heap) (locs : List Loc) (ls : Array Slot), (i ≤ 40 ∧ 41 ≤ i + q2) → va_P (dC, dI) vwCl (wM cI cJ cZ ma sv M ML) H → va_S (ro s.heap.size) s.heap H locs → lv_has ls 5 [(3, .int (nI i)), (0, .ref (ma 0)), (1, .int (nI j)), (2, .int (cy))] → (fX9_canCome_2 M ML j cy q2 i) = (fX9_canCome M ML j cy) → W p l e (headSpec wsX9_canCome ({ frames := 4, cells := 0, slots := 0, locals := 98 })).room s m ([.ref (ma 0), .int (nI j), .int (cy)] : List Value).toArray below meth c H locs 0 0 (MQ below (ro_Qi (fX9_canCome M ML j cy) s.heap.size) ([.ref (ma 0), .int (nI j), .int (cy)] : List Value).toArray s 0 0 ((ro s.heap.size))) (F0 m 2 ls []) := by
    intro q2
    induction q2 with
    | zero => intro i H locs ls hm2 hP hS hl hv; exact absurd hm2 (by omega)
    | succ q2 ih2 =>
      intro i H locs ls hm2 hP hS hl hv
      refine lv_iload_n hx hb dX9_canCome_2 rfl (lv_at hl 0 rfl) ?_
      refine lv_iload_n hx hb dX9_canCome_3 rfl (lv_at hl 2 rfl) ?_
      refine lv_icmp_ge (tgt := 52) hx hb dX9_canCome_4 (by decide) (fun c_1 => ?_) (fun c_1 => ?_)
      · refine lv_iconst (v := 1) hx hb dX9_canCome_52 (by decide) ?_
        exact W.zret (v := 1) hx hb hr (by decide) (fun t ht hW => ⟨⟨_, (), rfl, ((show 1 = (fX9_canCome_2 M ML j cy (q2 + 1) i) by rw [fX9_canCome_2, if_pos c_1]).trans hv), trivial⟩, hS.F ht⟩) hS.2.2 dX9_canCome_53
      · have hi : i < 40 := by have := (nI_ltI (by omega) (by omega)).mp (Int32.not_le.mp c_1); omega
        refine lv_aload_n hx hb dX9_canCome_7 rfl (lv_at hl 1 rfl) ?_
        refine lv_iload_n hx hb dX9_canCome_8 rfl (lv_at hl 2 rfl) ?_
        refine lv_iload_n hx hb dX9_canCome_9 rfl (lv_at hl 0 rfl) ?_
        refine ro_calli (va_runV (As := [.int (nI j), .int (nI i)]) (rest := []) ⟨hx, hb, hml, hown, hts⟩ (kX9_after l dC dI cI cJ cZ ma sv M ML H.size j i hj hi hc) (cwV 2 hts gX9_canCome_X9_after rfl rfl rfl (by decide +kernel) ⟨Nat.le_of_ble_eq_true rfl, Nat.le_of_ble_eq_true rfl⟩) (ro_preV 0 4 (q := (RX9, TX9, 26)) rfl rfl hP hK) rfl rfl hl.1 rfl (lv_room (Nat.le_of_ble_eq_true rfl)) dX9_canCome_10 ⟨Nat.zero_le _, Nat.zero_le _⟩) hS hA (fun H locs kP hS => ?_)
        have hP := kP _ _ _ hP
        refine lv_istore (lv' := [(4, .int ((fX9_after M ML j i))), (3, .int (nI i)), (0, .ref (ma 0)), (1, .int (nI j)), (2, .int (cy))]) hx hb dX9_canCome_13 hl (by decide) rfl (fun ls hl => ?_)
        refine lv_iload hx hb dX9_canCome_15 (lv_at hl 0 rfl) ?_
        refine lv_iconst (v := (-1)) hx hb dX9_canCome_17 (by decide) ?_
        refine lv_icmp_eq (tgt := 46) hx hb dX9_canCome_18 (by decide) (fun c_2 => ?_) (fun c_2 => ?_)
        · refine lv_iinc (v := nI (i + 1)) (lv' := [(3, .int (nI (i + 1))), (4, .int ((fX9_after M ML j i))), (0, .ref (ma 0)), (1, .int (nI j)), (2, .int (cy))]) hx hb dX9_canCome_46 hl (k := 1) rfl (nI_1 i) (by decide) rfl (fun ls hl => ?_)
          refine lv_goto (tgt := 2) hx hb dX9_canCome_49 (by decide) ?_
          exact ih2 (i + 1) H _ ls (⟨by omega, by omega⟩) hP hS (lv_sub hl [0, 2, 3, 4] rfl) ((show (fX9_canCome_2 M ML j cy q2 (i + 1)) = (fX9_canCome_2 M ML j cy (q2 + 1) i) by rw [fX9_canCome_2, if_neg c_1, if_pos c_2]).trans hv)
        · refine lv_aload_n hx hb dX9_canCome_21 rfl (lv_at hl 2 rfl) ?_
          refine va_get (D := (dC, dI)) (ci := 4) (v := .ref (ma 24)) (C := RX9) (T := TX9) (N := 26) hx hb hts hinX9 hown hK hP 0 rfl rfl 24 (by decide) (hts (.fieldLink RX9 48 "SlotFillerModel" "placed" "[I") (by decide +kernel)) (fun _ h9 => h9) rfl dX9_canCome_22 ?_
          refine lv_iload_n hx hb dX9_canCome_25 rfl (lv_at hl 1 rfl) ?_
          refine my_iald (j := i) hx hb hK hP 13 0 rfl rfl (hi) (by decide) dX9_canCome_26 ?_
          refine lv_iconst (v := (-1)) hx hb dX9_canCome_27 (by decide) ?_
          refine lv_icmp_eq (tgt := 44) hx hb dX9_canCome_28 (by decide) (fun c_3 => ?_) (fun c_3 => ?_)
          · refine lv_iconst (v := 0) hx hb dX9_canCome_44 (by decide) ?_
            exact W.zret (v := 0) hx hb hr (by decide) (fun t ht hW => ⟨⟨_, (), rfl, ((show 0 = (fX9_canCome_2 M ML j cy (q2 + 1) i) by rw [fX9_canCome_2, if_neg c_1, if_neg c_2, if_pos c_3]).trans hv), trivial⟩, hS.F ht⟩) hS.2.2 dX9_canCome_45
          · refine lv_iload_n hx hb dX9_canCome_31 rfl (lv_at hl 4 rfl) ?_
            refine lv_aload_n hx hb dX9_canCome_32 rfl (lv_at hl 2 rfl) ?_
            refine va_get (D := (dC, dI)) (ci := 4) (v := .ref (ma 24)) (C := RX9) (T := TX9) (N := 26) hx hb hts hinX9 hown hK hP 0 rfl rfl 24 (by decide) (hts (.fieldLink RX9 48 "SlotFillerModel" "placed" "[I") (by decide +kernel)) (fun _ h9 => h9) rfl dX9_canCome_33 ?_
            refine lv_iload_n hx hb dX9_canCome_36 rfl (lv_at hl 1 rfl) ?_
            refine my_iald (j := i) hx hb hK hP 13 0 rfl rfl (hi) (by decide) dX9_canCome_37 ?_
            refine lv_isub hx hb dX9_canCome_38 ?_
            refine lv_iload hx hb dX9_canCome_39 (lv_at hl 0 rfl) ?_
            refine lv_icmp_ge (tgt := 46) hx hb dX9_canCome_41 (by decide) (fun c_4 => ?_) (fun c_4 => ?_)
            · refine lv_iinc (v := nI (i + 1)) (lv' := [(3, .int (nI (i + 1))), (4, .int ((fX9_after M ML j i))), (0, .ref (ma 0)), (1, .int (nI j)), (2, .int (cy))]) hx hb dX9_canCome_46 hl (k := 1) rfl (nI_1 i) (by decide) rfl (fun ls hl => ?_)
              refine lv_goto (tgt := 2) hx hb dX9_canCome_49 (by decide) ?_
              exact ih2 (i + 1) H _ ls (⟨by omega, by omega⟩) hP hS (lv_sub hl [0, 2, 3, 4] rfl) ((show (fX9_canCome_2 M ML j cy q2 (i + 1)) = (fX9_canCome_2 M ML j cy (q2 + 1) i) by rw [fX9_canCome_2, if_neg c_1, if_neg c_2, if_neg c_3, if_pos c_4]).trans hv)
            · refine lv_iconst (v := 0) hx hb dX9_canCome_44 (by decide) ?_
              exact W.zret (v := 0) hx hb hr (by decide) (fun t ht hW => ⟨⟨_, (), rfl, ((show 0 = (fX9_canCome_2 M ML j cy (q2 + 1) i) by rw [fX9_canCome_2, if_neg c_1, if_neg c_2, if_neg c_3, if_neg c_4]).trans hv), trivial⟩, hS.F ht⟩) hS.2.2 dX9_canCome_45
  refine lv_iconst (v := 0) hx hb dX9_canCome_0 (by decide) ?_
  refine top_i (y := nI 0) (nI_0.symm) ?_
  refine lv_istore_n (lv' := [(3, .int (nI 0)), (0, .ref (ma 0)), (1, .int (nI j)), (2, .int (cy))]) hx hb dX9_canCome_1 rfl hl (by decide) rfl (fun ls hl => ?_)
  exact J2 41 0 s.heap _ ls (⟨by omega, by omega⟩) hP hS (lv_sub hl [0, 1, 2, 3] rfl) ((show (fX9_canCome_2 M ML j cy 41 0) = (fX9_canCome M ML j cy) by unfold fX9_canCome; rfl).trans hv)
