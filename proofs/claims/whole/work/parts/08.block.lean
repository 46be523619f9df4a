/-! ===== Block: its cells, and its methods that write nothing ===== -/
abbrev tyA (cI cJ cZ : ClassId) : List (ClassId × FieldType) := [(cI, .int), (cJ, .long), (cZ, .boolean)]
/-- Block's cells: ba k the address of the array in field k (ba 1 of the block itself), B k what the array of field k holds -/
def wB (cI cJ cZ : ClassId) (ba : Nat → Nat) (n : Nat) (B : Nat → Nat → Int32) (BL : Nat → Nat → Int64) : va_W := [((ba 1), .inr (0, [.ref (ba 0), .int (nI n), .ref (ba 2), .ref (ba 3), .ref (ba 4), .ref (ba 5), .ref (ba 6), .ref (ba 7), .ref (ba 8), .ref (ba 9), .ref (ba 10), .ref (ba 11), .ref (ba 12), .ref (ba 13), .ref (ba 14)])), ((ba 0), .inl (cI, 9, .inl (B 0))), ((ba 2), .inl (cI, 40, .inl (B 2))), ((ba 3), .inl (cI, 40, .inl (B 3))), ((ba 4), .inl (cZ, 40, .inl (B 4))), ((ba 5), .inl (cJ, 40, .inr (.inl (BL 5)))), ((ba 6), .inl (cJ, 40, .inr (.inl (BL 6)))), ((ba 7), .inl (cI, 40, .inl (B 7))), ((ba 8), .inl (cI, 40, .inl (B 8))), ((ba 9), .inl (cI, 40, .inl (B 9))), ((ba 10), .inl (cI, 40, .inl (B 10))), ((ba 11), .inl (cI, 40, .inl (B 11))), ((ba 12), .inl (cI, 40, .inl (B 12))), ((ba 13), .inl (cI, 40, .inl (B 13))), ((ba 14), .inl (cZ, 40, .inl (B 14)))]
def fX0_holds (n : Nat) (B : Nat → Nat → Int32) (BL : Nat → Nat → Int64) (x : Int32) : Int32 := if x < 0 then 0 else if nI n ≤ x then 0 else 1
set_option maxHeartbeats 4000000 in
set_option maxRecDepth 100000 in
theorem kX0_holds (l : Launch) (dC : Nat → ClassId) (dI : Nat → Nat → Nat) (cI cJ cZ : ClassId) (ba : Nat → Nat) (n : Nat) (B : Nat → Nat → Int32) (BL : Nat → Nat → Int64) (sz : Nat) (x : Int32) : Met l yX0_holds wsX0_holds ({ frames := 0, cells := 0, slots := 0, locals := 0 }) (ro_Pc (dC, dI) (wB cI cJ cZ ba n B BL) (tyA cI cJ cZ) [.ref (ba 1), .int (x)] sz) (ro_Qi (fX0_holds n B BL x) sz) 0 0 (ro sz) := by
  refine Met.ofW (cc := cX0_holds) (maxL := 2) (ret := (some .boolean)) (by decide) rfl ?_
  intro p e s m args below meth c s₁ B0 hml hv
  obtain ⟨rfl, hsz, hP, hK⟩ := hv
  have hx := B0.exec
  have hb := B0.bytes
  have hr := B0.returns
  have hts := atoms_spec (ws := wsX0_holds) B0.pre
  have hown : s.vm.findClass RX0 = some m.cls := findClass_of_methodNamed B0.named
  have hlocks := B0.notSynchronized
  have hinX0 : ∀ w ∈ wsX00, w ∈ wsX0_holds := fun w h => List.mem_cons_of_mem _ (List.mem_append_right _ (h))
  subst hsz
  have hA : ∀ q : Nat, s.heap.size ≤ q → ro s.heap.size q := fun _ h => h
  have hS : va_S (ro s.heap.size) s.heap s.heap [] := va_S.rf
  have hl := lv_entry ([.ref (ba 1), .int (x)]) (n := 2) (Nat.le_of_ble_eq_true rfl)
  rw [lg_entry_eq]
  generalize (lg_sl ([.ref (ba 1), .int (x)]) ++ List.replicate (2 - (lg_sl ([.ref (ba 1), .int (x)])).length) Slot.unset).toArray = ls at hl ⊢
  have hl : lv_has ls 2 [(0, .ref (ba 1)), (1, .int (x))] := hl
  have hv : (fX0_holds n B BL x) = (fX0_holds n B BL x) := rfl
  refine lv_iload_n hx hb dX0_holds_0 rfl (lv_at hl 1 rfl) ?_
  refine lv_if_lt (tgt := 16) hx hb dX0_holds_1 (by decide) (fun c_1 => ?_) (fun c_1 => ?_)
  · refine lv_iconst (v := 0) hx hb dX0_holds_16 (by decide) ?_
    exact W.zret (v := 0) hx hb hr (by decide) (fun t ht hW => ⟨⟨_, (), rfl, ((show 0 = (fX0_holds n B BL x) by unfold fX0_holds; rw [if_pos c_1]).trans hv), trivial⟩, hS.F ht⟩) hS.2.2 dX0_holds_17
  · refine lv_iload_n hx hb dX0_holds_4 rfl (lv_at hl 1 rfl) ?_
    refine lv_aload_n hx hb dX0_holds_5 rfl (lv_at hl 0 rfl) ?_
    refine va_get (D := (dC, dI)) (ci := 0) (v := .int (nI n)) (C := RX0) (T := TX0) (N := 15) hx hb hts hinX0 hown hK hP 0 rfl rfl 1 (by decide) (hts (.fieldLink RX0 23 "SlotFiller$Block" "size" "I") (by decide +kernel)) (fun _ h9 => h9) rfl dX0_holds_6 ?_
    refine lv_icmp_ge (tgt := 16) hx hb dX0_holds_9 (by decide) (fun c_2 => ?_) (fun c_2 => ?_)
    · refine lv_iconst (v := 0) hx hb dX0_holds_16 (by decide) ?_
      exact W.zret (v := 0) hx hb hr (by decide) (fun t ht hW => ⟨⟨_, (), rfl, ((show 0 = (fX0_holds n B BL x) by unfold fX0_holds; rw [if_neg c_1, if_pos c_2]).trans hv), trivial⟩, hS.F ht⟩) hS.2.2 dX0_holds_17
    · refine lv_iconst (v := 1) hx hb dX0_holds_12 (by decide) ?_
      refine lv_goto (tgt := 17) hx hb dX0_holds_13 (by decide) ?_
      exact W.zret (v := 1) hx hb hr (by decide) (fun t ht hW => ⟨⟨_, (), rfl, ((show 1 = (fX0_holds n B BL x) by unfold fX0_holds; rw [if_neg c_1, if_neg c_2]).trans hv), trivial⟩, hS.F ht⟩) hS.2.2 dX0_holds_17
def fX0_endsInBranch (n : Nat) (B : Nat → Nat → Int32) (BL : Nat → Nat → Int64) : Int32 := if nI n ≤ 0 then 0 else if ((B 3) (n - 1)) = 7 then 1 else 0
set_option maxHeartbeats 4000000 in
set_option maxRecDepth 100000 in
theorem kX0_endsInBranch (l : Launch) (dC : Nat → ClassId) (dI : Nat → Nat → Nat) (cI cJ cZ : ClassId) (ba : Nat → Nat) (n : Nat) (B : Nat → Nat → Int32) (BL : Nat → Nat → Int64) (sz : Nat) (hn : n ≤ 40) : Met l yX0_endsInBranch wsX0_endsInBranch ({ frames := 0, cells := 0, slots := 0, locals := 0 }) (ro_Pc (dC, dI) (wB cI cJ cZ ba n B BL) (tyA cI cJ cZ) [.ref (ba 1)] sz) (ro_Qi (fX0_endsInBranch n B BL) sz) 0 0 (ro sz) := by
  refine Met.ofW (cc := cX0_endsInBranch) (maxL := 1) (ret := (some .boolean)) (by decide) rfl ?_
  intro p e s m args below meth c s₁ B0 hml hv
  obtain ⟨rfl, hsz, hP, hK⟩ := hv
  have hx := B0.exec
  have hb := B0.bytes
  have hr := B0.returns
  have hts := atoms_spec (ws := wsX0_endsInBranch) B0.pre
  have hown : s.vm.findClass RX0 = some m.cls := findClass_of_methodNamed B0.named
  have hlocks := B0.notSynchronized
  have hinX0 : ∀ w ∈ wsX00, w ∈ wsX0_endsInBranch := fun w h => List.mem_cons_of_mem _ (List.mem_append_right _ (h))
  subst hsz
  have hA : ∀ q : Nat, s.heap.size ≤ q → ro s.heap.size q := fun _ h => h
  have hS : va_S (ro s.heap.size) s.heap s.heap [] := va_S.rf
  have hl := lv_entry ([.ref (ba 1)]) (n := 1) (Nat.le_of_ble_eq_true rfl)
  rw [lg_entry_eq]
  generalize (lg_sl ([.ref (ba 1)]) ++ List.replicate (1 - (lg_sl ([.ref (ba 1)])).length) Slot.unset).toArray = ls at hl ⊢
  have hl : lv_has ls 1 [(0, .ref (ba 1))] := hl
  have hv : (fX0_endsInBranch n B BL) = (fX0_endsInBranch n B BL) := rfl
  refine lv_aload_n hx hb dX0_endsInBranch_0 rfl (lv_at hl 0 rfl) ?_
  refine va_get (D := (dC, dI)) (ci := 0) (v := .int (nI n)) (C := RX0) (T := TX0) (N := 15) hx hb hts hinX0 hown hK hP 0 rfl rfl 1 (by decide) (hts (.fieldLink RX0 23 "SlotFiller$Block" "size" "I") (by decide +kernel)) (fun _ h9 => h9) rfl dX0_endsInBranch_1 ?_
  refine lv_if_le (tgt := 27) hx hb dX0_endsInBranch_4 (by decide) (fun c_1 => ?_) (fun c_1 => ?_)
  · refine lv_iconst (v := 0) hx hb dX0_endsInBranch_27 (by decide) ?_
    exact W.zret (v := 0) hx hb hr (by decide) (fun t ht hW => ⟨⟨_, (), rfl, ((show 0 = (fX0_endsInBranch n B BL) by unfold fX0_endsInBranch; rw [if_pos c_1]).trans hv), trivial⟩, hS.F ht⟩) hS.2.2 dX0_endsInBranch_28
  · refine lv_aload_n hx hb dX0_endsInBranch_7 rfl (lv_at hl 0 rfl) ?_
    refine va_get (D := (dC, dI)) (ci := 0) (v := .ref (ba 3)) (C := RX0) (T := TX0) (N := 15) hx hb hts hinX0 hown hK hP 0 rfl rfl 3 (by decide) (hts (.fieldLink RX0 30 "SlotFiller$Block" "kinds" "[I") (by decide +kernel)) (fun _ h9 => h9) rfl dX0_endsInBranch_8 ?_
    refine lv_aload_n hx hb dX0_endsInBranch_11 rfl (lv_at hl 0 rfl) ?_
    refine va_get (D := (dC, dI)) (ci := 0) (v := .int (nI n)) (C := RX0) (T := TX0) (N := 15) hx hb hts hinX0 hown hK hP 0 rfl rfl 1 (by decide) (hts (.fieldLink RX0 23 "SlotFiller$Block" "size" "I") (by decide +kernel)) (fun _ h9 => h9) rfl dX0_endsInBranch_12 ?_
    refine lv_iconst (v := 1) hx hb dX0_endsInBranch_15 (by decide) ?_
    refine lv_isub hx hb dX0_endsInBranch_16 ?_
    refine top_i (y := nI (n - 1)) (nI_sub1 (nI_pos_of c_1)) ?_
    refine my_iald (j := n - 1) hx hb hK hP 3 0 rfl rfl (Nat.lt_of_lt_of_le (Nat.sub_lt (nI_pos_of c_1) Nat.one_pos) hn) (by decide) dX0_endsInBranch_17 ?_
    refine lv_bipush (v := 7) hx hb dX0_endsInBranch_18 (by decide) ?_
    refine lv_icmp_ne (tgt := 27) hx hb dX0_endsInBranch_20 (by decide) (fun c_2 => ?_) (fun c_2 => ?_)
    · refine lv_iconst (v := 0) hx hb dX0_endsInBranch_27 (by decide) ?_
      exact W.zret (v := 0) hx hb hr (by decide) (fun t ht hW => ⟨⟨_, (), rfl, ((show 0 = (fX0_endsInBranch n B BL) by unfold fX0_endsInBranch; rw [if_neg c_1, if_neg c_2]).trans hv), trivial⟩, hS.F ht⟩) hS.2.2 dX0_endsInBranch_28
    · refine lv_iconst (v := 1) hx hb dX0_endsInBranch_23 (by decide) ?_
      refine lv_goto (tgt := 28) hx hb dX0_endsInBranch_24 (by decide) ?_
      exact W.zret (v := 1) hx hb hr (by decide) (fun t ht hW => ⟨⟨_, (), rfl, ((show 1 = (fX0_endsInBranch n B BL) by unfold fX0_endsInBranch; rw [if_neg c_1, if_pos c_2]).trans hv), trivial⟩, hS.F ht⟩) hS.2.2 dX0_endsInBranch_28
def fX0_isClosed (n : Nat) (B : Nat → Nat → Int32) (BL : Nat → Nat → Int64) : Int32 := if 40 ≤ nI n then 1 else if (fX0_endsInBranch n B BL) = 0 then 0 else 1
set_option maxHeartbeats 4000000 in
set_option maxRecDepth 100000 in
theorem kX0_isClosed (l : Launch) (dC : Nat → ClassId) (dI : Nat → Nat → Nat) (cI cJ cZ : ClassId) (ba : Nat → Nat) (n : Nat) (B : Nat → Nat → Int32) (BL : Nat → Nat → Int64) (sz : Nat) (hn : n ≤ 40) : Met l yX0_isClosed wsX0_isClosed ({ frames := 1, cells := 0, slots := 0, locals := 20 }) (ro_Pc (dC, dI) (wB cI cJ cZ ba n B BL) (tyA cI cJ cZ) [.ref (ba 1)] sz) (ro_Qi (fX0_isClosed n B BL) sz) 0 0 (ro sz) := by
  refine Met.ofW (cc := cX0_isClosed) (maxL := 1) (ret := (some .boolean)) (by decide) rfl ?_
  intro p e s m args below meth c s₁ B0 hml hv
  obtain ⟨rfl, hsz, hP, hK⟩ := hv
  have hx := B0.exec
  have hb := B0.bytes
  have hr := B0.returns
  have hts := atoms_spec (ws := wsX0_isClosed) B0.pre
  have hown : s.vm.findClass RX0 = some m.cls := findClass_of_methodNamed B0.named
  have hlocks := B0.notSynchronized
  have hinX0 : ∀ w ∈ wsX00, w ∈ wsX0_isClosed := fun w h => List.mem_cons_of_mem _ (List.mem_append_right _ (h))
  subst hsz
  have hA : ∀ q : Nat, s.heap.size ≤ q → ro s.heap.size q := fun _ h => h
  have hS : va_S (ro s.heap.size) s.heap s.heap [] := va_S.rf
  have hl := lv_entry ([.ref (ba 1)]) (n := 1) (Nat.le_of_ble_eq_true rfl)
  rw [lg_entry_eq]
  generalize (lg_sl ([.ref (ba 1)]) ++ List.replicate (1 - (lg_sl ([.ref (ba 1)])).length) Slot.unset).toArray = ls at hl ⊢
  have hl : lv_has ls 1 [(0, .ref (ba 1))] := hl
  have hv : (fX0_isClosed n B BL) = (fX0_isClosed n B BL) := rfl
  refine lv_aload_n hx hb dX0_isClosed_0 rfl (lv_at hl 0 rfl) ?_
  refine va_get (D := (dC, dI)) (ci := 0) (v := .int (nI n)) (C := RX0) (T := TX0) (N := 15) hx hb hts hinX0 hown hK hP 0 rfl rfl 1 (by decide) (hts (.fieldLink RX0 23 "SlotFiller$Block" "size" "I") (by decide +kernel)) (fun _ h9 => h9) rfl dX0_isClosed_1 ?_
  refine lv_bipush (v := 40) hx hb dX0_isClosed_4 (by decide) ?_
  refine lv_icmp_ge (tgt := 16) hx hb dX0_isClosed_6 (by decide) (fun c_1 => ?_) (fun c_1 => ?_)
  · refine lv_iconst (v := 1) hx hb dX0_isClosed_16 (by decide) ?_
    refine lv_goto (tgt := 21) hx hb dX0_isClosed_17 (by decide) ?_
    exact W.zret (v := 1) hx hb hr (by decide) (fun t ht hW => ⟨⟨_, (), rfl, ((show 1 = (fX0_isClosed n B BL) by unfold fX0_isClosed; rw [if_pos c_1]).trans hv), trivial⟩, hS.F ht⟩) hS.2.2 dX0_isClosed_21
  · refine lv_aload_n hx hb dX0_isClosed_9 rfl (lv_at hl 0 rfl) ?_
    refine ro_calli (va_runV (As := []) (rest := []) ⟨hx, hb, hml, hown, hts⟩ (kX0_endsInBranch l dC dI cI cJ cZ ba n B BL s.heap.size hn) (cwV 0 hts gX0_isClosed_X0_endsInBranch rfl rfl rfl (by decide +kernel) ⟨Nat.le_of_ble_eq_true rfl, Nat.le_of_ble_eq_true rfl⟩) (ro_preV 0 0 (q := (RX0, TX0, 15)) rfl rfl hP hK) rfl rfl hl.1 rfl (lv_room (Nat.le_of_ble_eq_true rfl)) dX0_isClosed_10 ⟨Nat.zero_le _, Nat.zero_le _⟩) hS hA (fun H locs kP hS => ?_)
    have hP := kP _ _ _ hP
    refine lv_if_eq (tgt := 20) hx hb dX0_isClosed_13 (by decide) (fun c_2 => ?_) (fun c_2 => ?_)
    · refine lv_iconst (v := 0) hx hb dX0_isClosed_20 (by decide) ?_
      exact W.zret (v := 0) hx hb hr (by decide) (fun t ht hW => ⟨⟨_, (), rfl, ((show 0 = (fX0_isClosed n B BL) by unfold fX0_isClosed; rw [if_neg c_1, if_pos c_2]).trans hv), trivial⟩, hS.F ht⟩) hS.2.2 dX0_isClosed_21
    · refine lv_iconst (v := 1) hx hb dX0_isClosed_16 (by decide) ?_
      refine lv_goto (tgt := 21) hx hb dX0_isClosed_17 (by decide) ?_
      exact W.zret (v := 1) hx hb hr (by decide) (fun t ht hW => ⟨⟨_, (), rfl, ((show 1 = (fX0_isClosed n B BL) by unfold fX0_isClosed; rw [if_neg c_1, if_neg c_2]).trans hv), trivial⟩, hS.F ht⟩) hS.2.2 dX0_isClosed_21
def fX0_sizeWithoutBranch (n : Nat) (B : Nat → Nat → Int32) (BL : Nat → Nat → Int64) : Int32 := if (fX0_endsInBranch n B BL) = 0 then nI n else (nI n - 1)
set_option maxHeartbeats 4000000 in
set_option maxRecDepth 100000 in
theorem kX0_sizeWithoutBranch (l : Launch) (dC : Nat → ClassId) (dI : Nat → Nat → Nat) (cI cJ cZ : ClassId) (ba : Nat → Nat) (n : Nat) (B : Nat → Nat → Int32) (BL : Nat → Nat → Int64) (sz : Nat) (hn : n ≤ 40) : Met l yX0_sizeWithoutBranch wsX0_sizeWithoutBranch ({ frames := 1, cells := 0, slots := 0, locals := 20 }) (ro_Pc (dC, dI) (wB cI cJ cZ ba n B BL) (tyA cI cJ cZ) [.ref (ba 1)] sz) (ro_Qi (fX0_sizeWithoutBranch n B BL) sz) 0 0 (ro sz) := by
  refine Met.ofW (cc := cX0_sizeWithoutBranch) (maxL := 1) (ret := (some .int)) (by decide) rfl ?_
  intro p e s m args below meth c s₁ B0 hml hv
  obtain ⟨rfl, hsz, hP, hK⟩ := hv
  have hx := B0.exec
  have hb := B0.bytes
  have hr := B0.returns
  have hts := atoms_spec (ws := wsX0_sizeWithoutBranch) B0.pre
  have hown : s.vm.findClass RX0 = some m.cls := findClass_of_methodNamed B0.named
  have hlocks := B0.notSynchronized
  have hinX0 : ∀ w ∈ wsX00, w ∈ wsX0_sizeWithoutBranch := fun w h => List.mem_cons_of_mem _ (List.mem_append_right _ (h))
  subst hsz
  have hA : ∀ q : Nat, s.heap.size ≤ q → ro s.heap.size q := fun _ h => h
  have hS : va_S (ro s.heap.size) s.heap s.heap [] := va_S.rf
  have hl := lv_entry ([.ref (ba 1)]) (n := 1) (Nat.le_of_ble_eq_true rfl)
  rw [lg_entry_eq]
  generalize (lg_sl ([.ref (ba 1)]) ++ List.replicate (1 - (lg_sl ([.ref (ba 1)])).length) Slot.unset).toArray = ls at hl ⊢
  have hl : lv_has ls 1 [(0, .ref (ba 1))] := hl
  have hv : (fX0_sizeWithoutBranch n B BL) = (fX0_sizeWithoutBranch n B BL) := rfl
  refine lv_aload_n hx hb dX0_sizeWithoutBranch_0 rfl (lv_at hl 0 rfl) ?_
  refine ro_calli (va_runV (As := []) (rest := []) ⟨hx, hb, hml, hown, hts⟩ (kX0_endsInBranch l dC dI cI cJ cZ ba n B BL s.heap.size hn) (cwV 0 hts gX0_sizeWithoutBranch_X0_endsInBranch rfl rfl rfl (by decide +kernel) ⟨Nat.le_of_ble_eq_true rfl, Nat.le_of_ble_eq_true rfl⟩) (ro_preV 0 0 (q := (RX0, TX0, 15)) rfl rfl hP hK) rfl rfl hl.1 rfl (lv_room (Nat.le_of_ble_eq_true rfl)) dX0_sizeWithoutBranch_1 ⟨Nat.zero_le _, Nat.zero_le _⟩) hS hA (fun H locs kP hS => ?_)
  have hP := kP _ _ _ hP
  refine lv_if_eq (tgt := 16) hx hb dX0_sizeWithoutBranch_4 (by decide) (fun c_1 => ?_) (fun c_1 => ?_)
  · refine lv_aload_n hx hb dX0_sizeWithoutBranch_16 rfl (lv_at hl 0 rfl) ?_
    refine va_get (D := (dC, dI)) (ci := 0) (v := .int (nI n)) (C := RX0) (T := TX0) (N := 15) hx hb hts hinX0 hown hK hP 0 rfl rfl 1 (by decide) (hts (.fieldLink RX0 23 "SlotFiller$Block" "size" "I") (by decide +kernel)) (fun _ h9 => h9) rfl dX0_sizeWithoutBranch_17 ?_
    exact W.iret (v := nI n) hx hb hr (fun t ht hW => ⟨⟨_, (), rfl, ((show nI n = (fX0_sizeWithoutBranch n B BL) by unfold fX0_sizeWithoutBranch; rw [if_pos c_1]).trans hv), trivial⟩, hS.F ht⟩) hS.2.2 dX0_sizeWithoutBranch_20
  · refine lv_aload_n hx hb dX0_sizeWithoutBranch_7 rfl (lv_at hl 0 rfl) ?_
    refine va_get (D := (dC, dI)) (ci := 0) (v := .int (nI n)) (C := RX0) (T := TX0) (N := 15) hx hb hts hinX0 hown hK hP 0 rfl rfl 1 (by decide) (hts (.fieldLink RX0 23 "SlotFiller$Block" "size" "I") (by decide +kernel)) (fun _ h9 => h9) rfl dX0_sizeWithoutBranch_8 ?_
    refine lv_iconst (v := 1) hx hb dX0_sizeWithoutBranch_11 (by decide) ?_
    refine lv_isub hx hb dX0_sizeWithoutBranch_12 ?_
    refine lv_goto (tgt := 20) hx hb dX0_sizeWithoutBranch_13 (by decide) ?_
    exact W.iret (v := (nI n - 1)) hx hb hr (fun t ht hW => ⟨⟨_, (), rfl, ((show (nI n - 1) = (fX0_sizeWithoutBranch n B BL) by unfold fX0_sizeWithoutBranch; rw [if_neg c_1]).trans hv), trivial⟩, hS.F ht⟩) hS.2.2 dX0_sizeWithoutBranch_20
def fX0_latencyOf (n : Nat) (B : Nat → Nat → Int32) (BL : Nat → Nat → Int64) (i : Nat) : Int32 := ((B 0) (((B 3) (i))).toNatClampNeg)
set_option maxHeartbeats 4000000 in
set_option maxRecDepth 100000 in
theorem kX0_latencyOf (l : Launch) (dC : Nat → ClassId) (dI : Nat → Nat → Nat) (cI cJ cZ : ClassId) (ba : Nat → Nat) (n : Nat) (B : Nat → Nat → Int32) (BL : Nat → Nat → Int64) (sz : Nat) (i : Nat) (hi : i < 40) (hk : ∀ q, q < 40 → vp_in (B 3 q) 9) : Met l yX0_latencyOf wsX0_latencyOf ({ frames := 0, cells := 0, slots := 0, locals := 0 }) (ro_Pc (dC, dI) (wB cI cJ cZ ba n B BL) (tyA cI cJ cZ) [.ref (ba 1), .int (nI i)] sz) (ro_Qi (fX0_latencyOf n B BL i) sz) 0 0 (ro sz) := by
  refine Met.ofW (cc := cX0_latencyOf) (maxL := 2) (ret := (some .int)) (by decide) rfl ?_
  intro p e s m args below meth c s₁ B0 hml hv
  obtain ⟨rfl, hsz, hP, hK⟩ := hv
  have hx := B0.exec
  have hb := B0.bytes
  have hr := B0.returns
  have hts := atoms_spec (ws := wsX0_latencyOf) B0.pre
  have hown : s.vm.findClass RX0 = some m.cls := findClass_of_methodNamed B0.named
  have hlocks := B0.notSynchronized
  have hinX0 : ∀ w ∈ wsX00, w ∈ wsX0_latencyOf := fun w h => List.mem_cons_of_mem _ (List.mem_append_right _ (h))
  subst hsz
  have hA : ∀ q : Nat, s.heap.size ≤ q → ro s.heap.size q := fun _ h => h
  have hS : va_S (ro s.heap.size) s.heap s.heap [] := va_S.rf
  have hl := lv_entry ([.ref (ba 1), .int (nI i)]) (n := 2) (Nat.le_of_ble_eq_true rfl)
  rw [lg_entry_eq]
  generalize (lg_sl ([.ref (ba 1), .int (nI i)]) ++ List.replicate (2 - (lg_sl ([.ref (ba 1), .int (nI i)])).length) Slot.unset).toArray = ls at hl ⊢
  have hl : lv_has ls 2 [(0, .ref (ba 1)), (1, .int (nI i))] := hl
  have hv : (fX0_latencyOf n B BL i) = (fX0_latencyOf n B BL i) := rfl
  refine lv_aload_n hx hb dX0_latencyOf_0 rfl (lv_at hl 0 rfl) ?_
  refine va_get (D := (dC, dI)) (ci := 0) (v := .ref (ba 0)) (C := RX0) (T := TX0) (N := 15) hx hb hts hinX0 hown hK hP 0 rfl rfl 0 (by decide) (hts (.fieldLink RX0 20 "SlotFiller$Block" "latencies" "[I") (by decide +kernel)) (fun _ h9 => h9) rfl dX0_latencyOf_1 ?_
  refine lv_aload_n hx hb dX0_latencyOf_4 rfl (lv_at hl 0 rfl) ?_
  refine va_get (D := (dC, dI)) (ci := 0) (v := .ref (ba 3)) (C := RX0) (T := TX0) (N := 15) hx hb hts hinX0 hown hK hP 0 rfl rfl 3 (by decide) (hts (.fieldLink RX0 30 "SlotFiller$Block" "kinds" "[I") (by decide +kernel)) (fun _ h9 => h9) rfl dX0_latencyOf_5 ?_
  refine lv_iload_n hx hb dX0_latencyOf_8 rfl (lv_at hl 1 rfl) ?_
  refine my_iald (j := i) hx hb hK hP 3 0 rfl rfl (hi) (by decide) dX0_latencyOf_9 ?_
  refine va_iald hx hb hK hP 1 0 rfl rfl (hk i hi) dX0_latencyOf_10 ?_
  exact W.iret (v := ((B 0) (((B 3) (i))).toNatClampNeg)) hx hb hr (fun t ht hW => ⟨⟨_, (), rfl, ((show ((B 0) (((B 3) (i))).toNatClampNeg) = (fX0_latencyOf n B BL i) by unfold fX0_latencyOf; rfl).trans hv), trivial⟩, hS.F ht⟩) hS.2.2 dX0_latencyOf_11
def fX0_bothInMemory (n : Nat) (B : Nat → Nat → Int32) (BL : Nat → Nat → Int64) (j : Nat) (i : Nat) : Int32 := if ((B 3) (j)) = 2 then if ((B 3) (i)) = 2 then 1 else if ((B 3) (i)) = 1 then 1 else if ((B 3) (j)) = 1 then if ((B 3) (i)) = 2 then 1 else 0 else 0 else if ((B 3) (j)) = 1 then if ((B 3) (i)) = 2 then 1 else 0 else 0
set_option maxHeartbeats 4000000 in
set_option maxRecDepth 100000 in
theorem kX0_bothInMemory (l : Launch) (dC : Nat → ClassId) (dI : Nat → Nat → Nat) (cI cJ cZ : ClassId) (ba : Nat → Nat) (n : Nat) (B : Nat → Nat → Int32) (BL : Nat → Nat → Int64) (sz : Nat) (j i : Nat) (hj : j < 40) (hi : i < 40) : Met l yX0_bothInMemory wsX0_bothInMemory ({ frames := 0, cells := 0, slots := 0, locals := 0 }) (ro_Pc (dC, dI) (wB cI cJ cZ ba n B BL) (tyA cI cJ cZ) [.ref (ba 1), .int (nI j), .int (nI i)] sz) (ro_Qi (fX0_bothInMemory n B BL j i) sz) 0 0 (ro sz) := by
  refine Met.ofW (cc := cX0_bothInMemory) (maxL := 5) (ret := (some .boolean)) (by decide) rfl ?_
  intro p e s m args below meth c s₁ B0 hml hv
  obtain ⟨rfl, hsz, hP, hK⟩ := hv
  have hx := B0.exec
  have hb := B0.bytes
  have hr := B0.returns
  have hts := atoms_spec (ws := wsX0_bothInMemory) B0.pre
  have hown : s.vm.findClass RX0 = some m.cls := findClass_of_methodNamed B0.named
  have hlocks := B0.notSynchronized
  have hinX0 : ∀ w ∈ wsX00, w ∈ wsX0_bothInMemory := fun w h => List.mem_cons_of_mem _ (List.mem_append_right _ (h))
  subst hsz
  have hA : ∀ q : Nat, s.heap.size ≤ q → ro s.heap.size q := fun _ h => h
  have hS : va_S (ro s.heap.size) s.heap s.heap [] := va_S.rf
  have hl := lv_entry ([.ref (ba 1), .int (nI j), .int (nI i)]) (n := 5) (Nat.le_of_ble_eq_true rfl)
  rw [lg_entry_eq]
  generalize (lg_sl ([.ref (ba 1), .int (nI j), .int (nI i)]) ++ List.replicate (5 - (lg_sl ([.ref (ba 1), .int (nI j), .int (nI i)])).length) Slot.unset).toArray = ls at hl ⊢
  have hl : lv_has ls 5 [(0, .ref (ba 1)), (1, .int (nI j)), (2, .int (nI i))] := hl
  have hv : (fX0_bothInMemory n B BL j i) = (fX0_bothInMemory n B BL j i) := rfl
  refine lv_aload_n hx hb dX0_bothInMemory_0 rfl (lv_at hl 0 rfl) ?_
  refine va_get (D := (dC, dI)) (ci := 0) (v := .ref (ba 3)) (C := RX0) (T := TX0) (N := 15) hx hb hts hinX0 hown hK hP 0 rfl rfl 3 (by decide) (hts (.fieldLink RX0 30 "SlotFiller$Block" "kinds" "[I") (by decide +kernel)) (fun _ h9 => h9) rfl dX0_bothInMemory_1 ?_
  refine lv_iload_n hx hb dX0_bothInMemory_4 rfl (lv_at hl 1 rfl) ?_
  refine my_iald (j := j) hx hb hK hP 3 0 rfl rfl (hj) (by decide) dX0_bothInMemory_5 ?_
  refine lv_istore_n (lv' := [(3, .int (((B 3) (j)))), (0, .ref (ba 1)), (1, .int (nI j)), (2, .int (nI i))]) hx hb dX0_bothInMemory_6 rfl hl (by decide) rfl (fun ls hl => ?_)
  refine lv_aload_n hx hb dX0_bothInMemory_7 rfl (lv_at hl 1 rfl) ?_
  refine va_get (D := (dC, dI)) (ci := 0) (v := .ref (ba 3)) (C := RX0) (T := TX0) (N := 15) hx hb hts hinX0 hown hK hP 0 rfl rfl 3 (by decide) (hts (.fieldLink RX0 30 "SlotFiller$Block" "kinds" "[I") (by decide +kernel)) (fun _ h9 => h9) rfl dX0_bothInMemory_8 ?_
  refine lv_iload_n hx hb dX0_bothInMemory_11 rfl (lv_at hl 3 rfl) ?_
  refine my_iald (j := i) hx hb hK hP 3 0 rfl rfl (hi) (by decide) dX0_bothInMemory_12 ?_
  refine lv_istore (lv' := [(4, .int (((B 3) (i)))), (3, .int (((B 3) (j)))), (0, .ref (ba 1)), (1, .int (nI j)), (2, .int (nI i))]) hx hb dX0_bothInMemory_13 hl (by decide) rfl (fun ls hl => ?_)
  refine lv_iload_n hx hb dX0_bothInMemory_15 rfl (lv_at hl 1 rfl) ?_
  refine lv_iconst (v := 2) hx hb dX0_bothInMemory_16 (by decide) ?_
  refine lv_icmp_ne (tgt := 32) hx hb dX0_bothInMemory_17 (by decide) (fun c_1 => ?_) (fun c_1 => ?_)
  · refine lv_iload_n hx hb dX0_bothInMemory_32 rfl (lv_at hl 1 rfl) ?_
    refine lv_iconst (v := 1) hx hb dX0_bothInMemory_33 (by decide) ?_
    refine lv_icmp_ne (tgt := 47) hx hb dX0_bothInMemory_34 (by decide) (fun c_2 => ?_) (fun c_2 => ?_)
    · refine lv_iconst (v := 0) hx hb dX0_bothInMemory_47 (by decide) ?_
      exact W.zret (v := 0) hx hb hr (by decide) (fun t ht hW => ⟨⟨_, (), rfl, ((show 0 = (fX0_bothInMemory n B BL j i) by unfold fX0_bothInMemory; rw [if_neg c_1, if_neg c_2]).trans hv), trivial⟩, hS.F ht⟩) hS.2.2 dX0_bothInMemory_48
    · refine lv_iload hx hb dX0_bothInMemory_37 (lv_at hl 0 rfl) ?_
      refine lv_iconst (v := 2) hx hb dX0_bothInMemory_39 (by decide) ?_
      refine lv_icmp_ne (tgt := 47) hx hb dX0_bothInMemory_40 (by decide) (fun c_3 => ?_) (fun c_3 => ?_)
      · refine lv_iconst (v := 0) hx hb dX0_bothInMemory_47 (by decide) ?_
        exact W.zret (v := 0) hx hb hr (by decide) (fun t ht hW => ⟨⟨_, (), rfl, ((show 0 = (fX0_bothInMemory n B BL j i) by unfold fX0_bothInMemory; rw [if_neg c_1, if_pos c_2, if_neg c_3]).trans hv), trivial⟩, hS.F ht⟩) hS.2.2 dX0_bothInMemory_48
      · refine lv_iconst (v := 1) hx hb dX0_bothInMemory_43 (by decide) ?_
        refine lv_goto (tgt := 48) hx hb dX0_bothInMemory_44 (by decide) ?_
        exact W.zret (v := 1) hx hb hr (by decide) (fun t ht hW => ⟨⟨_, (), rfl, ((show 1 = (fX0_bothInMemory n B BL j i) by unfold fX0_bothInMemory; rw [if_neg c_1, if_pos c_2, if_pos c_3]).trans hv), trivial⟩, hS.F ht⟩) hS.2.2 dX0_bothInMemory_48
  · refine lv_iload hx hb dX0_bothInMemory_20 (lv_at hl 0 rfl) ?_
    refine lv_iconst (v := 2) hx hb dX0_bothInMemory_22 (by decide) ?_
    refine lv_icmp_eq (tgt := 43) hx hb dX0_bothInMemory_23 (by decide) (fun c_4 => ?_) (fun c_4 => ?_)
    · refine lv_iconst (v := 1) hx hb dX0_bothInMemory_43 (by decide) ?_
      refine lv_goto (tgt := 48) hx hb dX0_bothInMemory_44 (by decide) ?_
      exact W.zret (v := 1) hx hb hr (by decide) (fun t ht hW => ⟨⟨_, (), rfl, ((show 1 = (fX0_bothInMemory n B BL j i) by unfold fX0_bothInMemory; rw [if_pos c_1, if_pos c_4]).trans hv), trivial⟩, hS.F ht⟩) hS.2.2 dX0_bothInMemory_48
    · refine lv_iload hx hb dX0_bothInMemory_26 (lv_at hl 0 rfl) ?_
      refine lv_iconst (v := 1) hx hb dX0_bothInMemory_28 (by decide) ?_
      refine lv_icmp_eq (tgt := 43) hx hb dX0_bothInMemory_29 (by decide) (fun c_5 => ?_) (fun c_5 => ?_)
      · refine lv_iconst (v := 1) hx hb dX0_bothInMemory_43 (by decide) ?_
        refine lv_goto (tgt := 48) hx hb dX0_bothInMemory_44 (by decide) ?_
        exact W.zret (v := 1) hx hb hr (by decide) (fun t ht hW => ⟨⟨_, (), rfl, ((show 1 = (fX0_bothInMemory n B BL j i) by unfold fX0_bothInMemory; rw [if_pos c_1, if_neg c_4, if_pos c_5]).trans hv), trivial⟩, hS.F ht⟩) hS.2.2 dX0_bothInMemory_48
      · refine lv_iload_n hx hb dX0_bothInMemory_32 rfl (lv_at hl 1 rfl) ?_
        refine lv_iconst (v := 1) hx hb dX0_bothInMemory_33 (by decide) ?_
        refine lv_icmp_ne (tgt := 47) hx hb dX0_bothInMemory_34 (by decide) (fun c_6 => ?_) (fun c_6 => ?_)
        · refine lv_iconst (v := 0) hx hb dX0_bothInMemory_47 (by decide) ?_
          exact W.zret (v := 0) hx hb hr (by decide) (fun t ht hW => ⟨⟨_, (), rfl, ((show 0 = (fX0_bothInMemory n B BL j i) by unfold fX0_bothInMemory; rw [if_pos c_1, if_neg c_4, if_neg c_5, if_neg c_6]).trans hv), trivial⟩, hS.F ht⟩) hS.2.2 dX0_bothInMemory_48
        · refine lv_iload hx hb dX0_bothInMemory_37 (lv_at hl 0 rfl) ?_
          refine lv_iconst (v := 2) hx hb dX0_bothInMemory_39 (by decide) ?_
          refine lv_icmp_ne (tgt := 47) hx hb dX0_bothInMemory_40 (by decide) (fun c_7 => ?_) (fun c_7 => ?_)
          · refine lv_iconst (v := 0) hx hb dX0_bothInMemory_47 (by decide) ?_
            exact W.zret (v := 0) hx hb hr (by decide) (fun t ht hW => ⟨⟨_, (), rfl, ((show 0 = (fX0_bothInMemory n B BL j i) by unfold fX0_bothInMemory; rw [if_pos c_1, if_neg c_4, if_neg c_5, if_pos c_6, if_neg c_7]).trans hv), trivial⟩, hS.F ht⟩) hS.2.2 dX0_bothInMemory_48
          · refine lv_iconst (v := 1) hx hb dX0_bothInMemory_43 (by decide) ?_
            refine lv_goto (tgt := 48) hx hb dX0_bothInMemory_44 (by decide) ?_
            exact W.zret (v := 1) hx hb hr (by decide) (fun t ht hW => ⟨⟨_, (), rfl, ((show 1 = (fX0_bothInMemory n B BL j i) by unfold fX0_bothInMemory; rw [if_pos c_1, if_neg c_4, if_neg c_5, if_pos c_6, if_pos c_7]).trans hv), trivial⟩, hS.F ht⟩) hS.2.2 dX0_bothInMemory_48
def fX0_areApart (n : Nat) (B : Nat → Nat → Int32) (BL : Nat → Nat → Int64) (j : Nat) (i : Nat) : Int32 := if ((B 9) (j)) = ((B 9) (i)) then if nI i ≤ ((B 12) (j)) then 0 else if ((B 11) (j)) ≤ ((B 10) (i)) then 1 else if ((B 10) (j)) < ((B 11) (i)) then 0 else 1 else 0
set_option maxHeartbeats 4000000 in
set_option maxRecDepth 100000 in
theorem kX0_areApart (l : Launch) (dC : Nat → ClassId) (dI : Nat → Nat → Nat) (cI cJ cZ : ClassId) (ba : Nat → Nat) (n : Nat) (B : Nat → Nat → Int32) (BL : Nat → Nat → Int64) (sz : Nat) (j i : Nat) (hj : j < 40) (hi : i < 40) : Met l yX0_areApart wsX0_areApart ({ frames := 0, cells := 0, slots := 0, locals := 0 }) (ro_Pc (dC, dI) (wB cI cJ cZ ba n B BL) (tyA cI cJ cZ) [.ref (ba 1), .int (nI j), .int (nI i)] sz) (ro_Qi (fX0_areApart n B BL j i) sz) 0 0 (ro sz) := by
  refine Met.ofW (cc := cX0_areApart) (maxL := 4) (ret := (some .boolean)) (by decide) rfl ?_
  intro p e s m args below meth c s₁ B0 hml hv
  obtain ⟨rfl, hsz, hP, hK⟩ := hv
  have hx := B0.exec
  have hb := B0.bytes
  have hr := B0.returns
  have hts := atoms_spec (ws := wsX0_areApart) B0.pre
  have hown : s.vm.findClass RX0 = some m.cls := findClass_of_methodNamed B0.named
  have hlocks := B0.notSynchronized
  have hinX0 : ∀ w ∈ wsX00, w ∈ wsX0_areApart := fun w h => List.mem_cons_of_mem _ (List.mem_append_right _ (h))
  subst hsz
  have hA : ∀ q : Nat, s.heap.size ≤ q → ro s.heap.size q := fun _ h => h
  have hS : va_S (ro s.heap.size) s.heap s.heap [] := va_S.rf
  have hl := lv_entry ([.ref (ba 1), .int (nI j), .int (nI i)]) (n := 4) (Nat.le_of_ble_eq_true rfl)
  rw [lg_entry_eq]
  generalize (lg_sl ([.ref (ba 1), .int (nI j), .int (nI i)]) ++ List.replicate (4 - (lg_sl ([.ref (ba 1), .int (nI j), .int (nI i)])).length) Slot.unset).toArray = ls at hl ⊢
  have hl : lv_has ls 4 [(0, .ref (ba 1)), (1, .int (nI j)), (2, .int (nI i))] := hl
  have hv : (fX0_areApart n B BL j i) = (fX0_areApart n B BL j i) := rfl
  refine lv_aload_n hx hb dX0_areApart_0 rfl (lv_at hl 0 rfl) ?_
  refine va_get (D := (dC, dI)) (ci := 0) (v := .ref (ba 9)) (C := RX0) (T := TX0) (N := 15) hx hb hts hinX0 hown hK hP 0 rfl rfl 9 (by decide) (hts (.fieldLink RX0 50 "SlotFiller$Block" "bases" "[I") (by decide +kernel)) (fun _ h9 => h9) rfl dX0_areApart_1 ?_
  refine lv_iload_n hx hb dX0_areApart_4 rfl (lv_at hl 1 rfl) ?_
  refine my_iald (j := j) hx hb hK hP 9 0 rfl rfl (hj) (by decide) dX0_areApart_5 ?_
  refine lv_aload_n hx hb dX0_areApart_6 rfl (lv_at hl 0 rfl) ?_
  refine va_get (D := (dC, dI)) (ci := 0) (v := .ref (ba 9)) (C := RX0) (T := TX0) (N := 15) hx hb hts hinX0 hown hK hP 0 rfl rfl 9 (by decide) (hts (.fieldLink RX0 50 "SlotFiller$Block" "bases" "[I") (by decide +kernel)) (fun _ h9 => h9) rfl dX0_areApart_7 ?_
  refine lv_iload_n hx hb dX0_areApart_10 rfl (lv_at hl 2 rfl) ?_
  refine my_iald (j := i) hx hb hK hP 9 0 rfl rfl (hi) (by decide) dX0_areApart_11 ?_
  refine lv_icmp_ne (tgt := 29) hx hb dX0_areApart_12 (by decide) (fun c_1 => ?_) (fun c_1 => ?_)
  · refine lv_iconst (v := 0) hx hb dX0_areApart_29 (by decide) ?_
    refine lv_istore_n (lv' := [(3, .int (0)), (0, .ref (ba 1)), (1, .int (nI j)), (2, .int (nI i))]) hx hb dX0_areApart_30 rfl hl (by decide) rfl (fun ls hl => ?_)
    refine lv_iload_n hx hb dX0_areApart_31 rfl (lv_at hl 0 rfl) ?_
    refine lv_if_eq (tgt := 69) hx hb dX0_areApart_32 (by decide) (fun c_2 => ?_) (fun c_2 => absurd c_2 (by decide))
    refine lv_iconst (v := 0) hx hb dX0_areApart_69 (by decide) ?_
    exact W.zret (v := 0) hx hb hr (by decide) (fun t ht hW => ⟨⟨_, (), rfl, ((show 0 = (fX0_areApart n B BL j i) by unfold fX0_areApart; rw [if_neg c_1]).trans hv), trivial⟩, hS.F ht⟩) hS.2.2 dX0_areApart_70
  · refine lv_aload_n hx hb dX0_areApart_15 rfl (lv_at hl 0 rfl) ?_
    refine va_get (D := (dC, dI)) (ci := 0) (v := .ref (ba 12)) (C := RX0) (T := TX0) (N := 15) hx hb hts hinX0 hown hK hP 0 rfl rfl 12 (by decide) (hts (.fieldLink RX0 59 "SlotFiller$Block" "baseWriters" "[I") (by decide +kernel)) (fun _ h9 => h9) rfl dX0_areApart_16 ?_
    refine lv_iload_n hx hb dX0_areApart_19 rfl (lv_at hl 1 rfl) ?_
    refine my_iald (j := j) hx hb hK hP 12 0 rfl rfl (hj) (by decide) dX0_areApart_20 ?_
    refine lv_iload_n hx hb dX0_areApart_21 rfl (lv_at hl 2 rfl) ?_
    refine lv_icmp_ge (tgt := 29) hx hb dX0_areApart_22 (by decide) (fun c_3 => ?_) (fun c_3 => ?_)
    · refine lv_iconst (v := 0) hx hb dX0_areApart_29 (by decide) ?_
      refine lv_istore_n (lv' := [(3, .int (0)), (0, .ref (ba 1)), (1, .int (nI j)), (2, .int (nI i))]) hx hb dX0_areApart_30 rfl hl (by decide) rfl (fun ls hl => ?_)
      refine lv_iload_n hx hb dX0_areApart_31 rfl (lv_at hl 0 rfl) ?_
      refine lv_if_eq (tgt := 69) hx hb dX0_areApart_32 (by decide) (fun c_4 => ?_) (fun c_4 => absurd c_4 (by decide))
      refine lv_iconst (v := 0) hx hb dX0_areApart_69 (by decide) ?_
      exact W.zret (v := 0) hx hb hr (by decide) (fun t ht hW => ⟨⟨_, (), rfl, ((show 0 = (fX0_areApart n B BL j i) by unfold fX0_areApart; rw [if_pos c_1, if_pos c_3]).trans hv), trivial⟩, hS.F ht⟩) hS.2.2 dX0_areApart_70
    · refine lv_iconst (v := 1) hx hb dX0_areApart_25 (by decide) ?_
      refine lv_goto (tgt := 30) hx hb dX0_areApart_26 (by decide) ?_
      refine lv_istore_n (lv' := [(3, .int (1)), (0, .ref (ba 1)), (1, .int (nI j)), (2, .int (nI i))]) hx hb dX0_areApart_30 rfl hl (by decide) rfl (fun ls hl => ?_)
      refine lv_iload_n hx hb dX0_areApart_31 rfl (lv_at hl 0 rfl) ?_
      refine lv_if_eq (tgt := 69) hx hb dX0_areApart_32 (by decide) (fun c_5 => absurd c_5 (by decide)) (fun c_5 => ?_)
      refine lv_aload_n hx hb dX0_areApart_35 rfl (lv_at hl 1 rfl) ?_
      refine va_get (D := (dC, dI)) (ci := 0) (v := .ref (ba 11)) (C := RX0) (T := TX0) (N := 15) hx hb hts hinX0 hown hK hP 0 rfl rfl 11 (by decide) (hts (.fieldLink RX0 56 "SlotFiller$Block" "endBytes" "[I") (by decide +kernel)) (fun _ h9 => h9) rfl dX0_areApart_36 ?_
      refine lv_iload_n hx hb dX0_areApart_39 rfl (lv_at hl 2 rfl) ?_
      refine my_iald (j := j) hx hb hK hP 11 0 rfl rfl (hj) (by decide) dX0_areApart_40 ?_
      refine lv_aload_n hx hb dX0_areApart_41 rfl (lv_at hl 1 rfl) ?_
      refine va_get (D := (dC, dI)) (ci := 0) (v := .ref (ba 10)) (C := RX0) (T := TX0) (N := 15) hx hb hts hinX0 hown hK hP 0 rfl rfl 10 (by decide) (hts (.fieldLink RX0 53 "SlotFiller$Block" "firstBytes" "[I") (by decide +kernel)) (fun _ h9 => h9) rfl dX0_areApart_42 ?_
      refine lv_iload_n hx hb dX0_areApart_45 rfl (lv_at hl 3 rfl) ?_
      refine my_iald (j := i) hx hb hK hP 10 0 rfl rfl (hi) (by decide) dX0_areApart_46 ?_
      refine lv_icmp_le (tgt := 65) hx hb dX0_areApart_47 (by decide) (fun c_6 => ?_) (fun c_6 => ?_)
      · refine lv_iconst (v := 1) hx hb dX0_areApart_65 (by decide) ?_
        refine lv_goto (tgt := 70) hx hb dX0_areApart_66 (by decide) ?_
        exact W.zret (v := 1) hx hb hr (by decide) (fun t ht hW => ⟨⟨_, (), rfl, ((show 1 = (fX0_areApart n B BL j i) by unfold fX0_areApart; rw [if_pos c_1, if_neg c_3, if_pos c_6]).trans hv), trivial⟩, hS.F ht⟩) hS.2.2 dX0_areApart_70
      · refine lv_aload_n hx hb dX0_areApart_50 rfl (lv_at hl 1 rfl) ?_
        refine va_get (D := (dC, dI)) (ci := 0) (v := .ref (ba 11)) (C := RX0) (T := TX0) (N := 15) hx hb hts hinX0 hown hK hP 0 rfl rfl 11 (by decide) (hts (.fieldLink RX0 56 "SlotFiller$Block" "endBytes" "[I") (by decide +kernel)) (fun _ h9 => h9) rfl dX0_areApart_51 ?_
        refine lv_iload_n hx hb dX0_areApart_54 rfl (lv_at hl 3 rfl) ?_
        refine my_iald (j := i) hx hb hK hP 11 0 rfl rfl (hi) (by decide) dX0_areApart_55 ?_
        refine lv_aload_n hx hb dX0_areApart_56 rfl (lv_at hl 1 rfl) ?_
        refine va_get (D := (dC, dI)) (ci := 0) (v := .ref (ba 10)) (C := RX0) (T := TX0) (N := 15) hx hb hts hinX0 hown hK hP 0 rfl rfl 10 (by decide) (hts (.fieldLink RX0 53 "SlotFiller$Block" "firstBytes" "[I") (by decide +kernel)) (fun _ h9 => h9) rfl dX0_areApart_57 ?_
        refine lv_iload_n hx hb dX0_areApart_60 rfl (lv_at hl 2 rfl) ?_
        refine my_iald (j := j) hx hb hK hP 10 0 rfl rfl (hj) (by decide) dX0_areApart_61 ?_
        refine lv_icmp_gt (tgt := 69) hx hb dX0_areApart_62 (by decide) (fun c_7 => ?_) (fun c_7 => ?_)
        · refine lv_iconst (v := 0) hx hb dX0_areApart_69 (by decide) ?_
          exact W.zret (v := 0) hx hb hr (by decide) (fun t ht hW => ⟨⟨_, (), rfl, ((show 0 = (fX0_areApart n B BL j i) by unfold fX0_areApart; rw [if_pos c_1, if_neg c_3, if_neg c_6, if_pos c_7]).trans hv), trivial⟩, hS.F ht⟩) hS.2.2 dX0_areApart_70
        · refine lv_iconst (v := 1) hx hb dX0_areApart_65 (by decide) ?_
          refine lv_goto (tgt := 70) hx hb dX0_areApart_66 (by decide) ?_
          exact W.zret (v := 1) hx hb hr (by decide) (fun t ht hW => ⟨⟨_, (), rfl, ((show 1 = (fX0_areApart n B BL j i) by unfold fX0_areApart; rw [if_pos c_1, if_neg c_3, if_neg c_6, if_neg c_7]).trans hv), trivial⟩, hS.F ht⟩) hS.2.2 dX0_areApart_70
def fX0_mustFollow (n : Nat) (B : Nat → Nat → Int32) (BL : Nat → Nat → Int64) (j : Nat) (i : Nat) : Int32 := if (fX0_meet ((BL 5) (i)) ((BL 6) (j)) ((B 7) (i)) ((B 8) (j))) = 0 then if ((B 3) (i)) = 8 then 1 else if ((B 3) (j)) = 8 then 1 else if (fX0_bothInMemory n B BL j i) = 0 then 0 else if (fX0_areApart n B BL j i) = 0 then 1 else 0 else 1
set_option maxHeartbeats 4000000 in
set_option maxRecDepth 100000 in
theorem kX0_mustFollow (l : Launch) (dC : Nat → ClassId) (dI : Nat → Nat → Nat) (cI cJ cZ : ClassId) (ba : Nat → Nat) (n : Nat) (B : Nat → Nat → Int32) (BL : Nat → Nat → Int64) (sz : Nat) (j i : Nat) (hj : j < 40) (hi : i < 40) : Met l yX0_mustFollow wsX0_mustFollow ({ frames := 1, cells := 0, slots := 0, locals := 25 }) (ro_Pc (dC, dI) (wB cI cJ cZ ba n B BL) (tyA cI cJ cZ) [.ref (ba 1), .int (nI j), .int (nI i)] sz) (ro_Qi (fX0_mustFollow n B BL j i) sz) 0 0 (ro sz) := by
  refine Met.ofW (cc := cX0_mustFollow) (maxL := 3) (ret := (some .boolean)) (by decide) rfl ?_
  intro p e s m args below meth c s₁ B0 hml hv
  obtain ⟨rfl, hsz, hP, hK⟩ := hv
  have hx := B0.exec
  have hb := B0.bytes
  have hr := B0.returns
  have hts := atoms_spec (ws := wsX0_mustFollow) B0.pre
  have hown : s.vm.findClass RX0 = some m.cls := findClass_of_methodNamed B0.named
  have hlocks := B0.notSynchronized
  have hinX0 : ∀ w ∈ wsX00, w ∈ wsX0_mustFollow := fun w h => List.mem_cons_of_mem _ (List.mem_append_right _ (h))
  subst hsz
  have hA : ∀ q : Nat, s.heap.size ≤ q → ro s.heap.size q := fun _ h => h
  have hS : va_S (ro s.heap.size) s.heap s.heap [] := va_S.rf
  have hl := lv_entry ([.ref (ba 1), .int (nI j), .int (nI i)]) (n := 3) (Nat.le_of_ble_eq_true rfl)
  rw [lg_entry_eq]
  generalize (lg_sl ([.ref (ba 1), .int (nI j), .int (nI i)]) ++ List.replicate (3 - (lg_sl ([.ref (ba 1), .int (nI j), .int (nI i)])).length) Slot.unset).toArray = ls at hl ⊢
  have hl : lv_has ls 3 [(0, .ref (ba 1)), (1, .int (nI j)), (2, .int (nI i))] := hl
  have hv : (fX0_mustFollow n B BL j i) = (fX0_mustFollow n B BL j i) := rfl
  refine lv_aload_n hx hb dX0_mustFollow_0 rfl (lv_at hl 0 rfl) ?_
  refine va_get (D := (dC, dI)) (ci := 0) (v := .ref (ba 5)) (C := RX0) (T := TX0) (N := 15) hx hb hts hinX0 hown hK hP 0 rfl rfl 5 (by decide) (hts (.fieldLink RX0 37 "SlotFiller$Block" "reads" "[J") (by decide +kernel)) (fun _ h9 => h9) rfl dX0_mustFollow_1 ?_
  refine lv_iload_n hx hb dX0_mustFollow_4 rfl (lv_at hl 2 rfl) ?_
  refine my_lald (j := i) hx hb hK hP 5 1 rfl rfl (hi) (by decide) dX0_mustFollow_5 ?_
  refine lv_aload_n hx hb dX0_mustFollow_6 rfl (lv_at hl 0 rfl) ?_
  refine va_get (D := (dC, dI)) (ci := 0) (v := .ref (ba 6)) (C := RX0) (T := TX0) (N := 15) hx hb hts hinX0 hown hK hP 0 rfl rfl 6 (by decide) (hts (.fieldLink RX0 41 "SlotFiller$Block" "writes" "[J") (by decide +kernel)) (fun _ h9 => h9) rfl dX0_mustFollow_7 ?_
  refine lv_iload_n hx hb dX0_mustFollow_10 rfl (lv_at hl 1 rfl) ?_
  refine my_lald (j := j) hx hb hK hP 6 1 rfl rfl (hj) (by decide) dX0_mustFollow_11 ?_
  refine lv_aload_n hx hb dX0_mustFollow_12 rfl (lv_at hl 0 rfl) ?_
  refine va_get (D := (dC, dI)) (ci := 0) (v := .ref (ba 7)) (C := RX0) (T := TX0) (N := 15) hx hb hts hinX0 hown hK hP 0 rfl rfl 7 (by decide) (hts (.fieldLink RX0 44 "SlotFiller$Block" "readsFractions" "[I") (by decide +kernel)) (fun _ h9 => h9) rfl dX0_mustFollow_13 ?_
  refine lv_iload_n hx hb dX0_mustFollow_16 rfl (lv_at hl 2 rfl) ?_
  refine my_iald (j := i) hx hb hK hP 7 0 rfl rfl (hi) (by decide) dX0_mustFollow_17 ?_
  refine lv_aload_n hx hb dX0_mustFollow_18 rfl (lv_at hl 0 rfl) ?_
  refine va_get (D := (dC, dI)) (ci := 0) (v := .ref (ba 8)) (C := RX0) (T := TX0) (N := 15) hx hb hts hinX0 hown hK hP 0 rfl rfl 8 (by decide) (hts (.fieldLink RX0 47 "SlotFiller$Block" "writesFractions" "[I") (by decide +kernel)) (fun _ h9 => h9) rfl dX0_mustFollow_19 ?_
  refine lv_iload_n hx hb dX0_mustFollow_22 rfl (lv_at hl 1 rfl) ?_
  refine my_iald (j := j) hx hb hK hP 8 0 rfl rfl (hj) (by decide) dX0_mustFollow_23 ?_
  refine ro_calli (va_runS (As := [.long (((BL 5) (i))), .long (((BL 6) (j))), .int (((B 7) (i))), .int (((B 8) (j)))]) (rest := []) ⟨hx, hb, hml, hown, hts⟩ (kX0_meet l s.heap.size ((BL 5) (i)) ((BL 6) (j)) ((B 7) (i)) ((B 8) (j))) (va_cwS 4 hts gX0_mustFollow_X0_meet rfl rfl rfl (by decide +kernel) ⟨Nat.le_of_ble_eq_true rfl, Nat.le_of_ble_eq_true rfl⟩) pu_preS rfl rfl hl.1 rfl (lv_room (Nat.le_of_ble_eq_true rfl)) dX0_mustFollow_24 ⟨Nat.zero_le _, Nat.zero_le _⟩) hS hA (fun H locs kP hS => ?_)
  have hP := kP _ _ _ hP
  refine lv_if_ne (tgt := 70) hx hb dX0_mustFollow_27 (by decide) (fun c_1 => ?_) (fun c_1 => ?_)
  · refine lv_iconst (v := 1) hx hb dX0_mustFollow_70 (by decide) ?_
    refine lv_goto (tgt := 75) hx hb dX0_mustFollow_71 (by decide) ?_
    exact W.zret (v := 1) hx hb hr (by decide) (fun t ht hW => ⟨⟨_, (), rfl, ((show 1 = (fX0_mustFollow n B BL j i) by unfold fX0_mustFollow; rw [if_neg c_1]).trans hv), trivial⟩, hS.F ht⟩) hS.2.2 dX0_mustFollow_75
  · refine lv_aload_n hx hb dX0_mustFollow_30 rfl (lv_at hl 0 rfl) ?_
    refine va_get (D := (dC, dI)) (ci := 0) (v := .ref (ba 3)) (C := RX0) (T := TX0) (N := 15) hx hb hts hinX0 hown hK hP 0 rfl rfl 3 (by decide) (hts (.fieldLink RX0 30 "SlotFiller$Block" "kinds" "[I") (by decide +kernel)) (fun _ h9 => h9) rfl dX0_mustFollow_31 ?_
    refine lv_iload_n hx hb dX0_mustFollow_34 rfl (lv_at hl 2 rfl) ?_
    refine my_iald (j := i) hx hb hK hP 3 0 rfl rfl (hi) (by decide) dX0_mustFollow_35 ?_
    refine lv_bipush (v := 8) hx hb dX0_mustFollow_36 (by decide) ?_
    refine lv_icmp_eq (tgt := 70) hx hb dX0_mustFollow_38 (by decide) (fun c_2 => ?_) (fun c_2 => ?_)
    · refine lv_iconst (v := 1) hx hb dX0_mustFollow_70 (by decide) ?_
      refine lv_goto (tgt := 75) hx hb dX0_mustFollow_71 (by decide) ?_
      exact W.zret (v := 1) hx hb hr (by decide) (fun t ht hW => ⟨⟨_, (), rfl, ((show 1 = (fX0_mustFollow n B BL j i) by unfold fX0_mustFollow; rw [if_pos c_1, if_pos c_2]).trans hv), trivial⟩, hS.F ht⟩) hS.2.2 dX0_mustFollow_75
    · refine lv_aload_n hx hb dX0_mustFollow_41 rfl (lv_at hl 0 rfl) ?_
      refine va_get (D := (dC, dI)) (ci := 0) (v := .ref (ba 3)) (C := RX0) (T := TX0) (N := 15) hx hb hts hinX0 hown hK hP 0 rfl rfl 3 (by decide) (hts (.fieldLink RX0 30 "SlotFiller$Block" "kinds" "[I") (by decide +kernel)) (fun _ h9 => h9) rfl dX0_mustFollow_42 ?_
      refine lv_iload_n hx hb dX0_mustFollow_45 rfl (lv_at hl 1 rfl) ?_
      refine my_iald (j := j) hx hb hK hP 3 0 rfl rfl (hj) (by decide) dX0_mustFollow_46 ?_
      refine lv_bipush (v := 8) hx hb dX0_mustFollow_47 (by decide) ?_
      refine lv_icmp_eq (tgt := 70) hx hb dX0_mustFollow_49 (by decide) (fun c_3 => ?_) (fun c_3 => ?_)
      · refine lv_iconst (v := 1) hx hb dX0_mustFollow_70 (by decide) ?_
        refine lv_goto (tgt := 75) hx hb dX0_mustFollow_71 (by decide) ?_
        exact W.zret (v := 1) hx hb hr (by decide) (fun t ht hW => ⟨⟨_, (), rfl, ((show 1 = (fX0_mustFollow n B BL j i) by unfold fX0_mustFollow; rw [if_pos c_1, if_neg c_2, if_pos c_3]).trans hv), trivial⟩, hS.F ht⟩) hS.2.2 dX0_mustFollow_75
      · refine lv_aload_n hx hb dX0_mustFollow_52 rfl (lv_at hl 0 rfl) ?_
        refine lv_iload_n hx hb dX0_mustFollow_53 rfl (lv_at hl 1 rfl) ?_
        refine lv_iload_n hx hb dX0_mustFollow_54 rfl (lv_at hl 2 rfl) ?_
        refine ro_calli (va_runV (As := [.int (nI j), .int (nI i)]) (rest := []) ⟨hx, hb, hml, hown, hts⟩ (kX0_bothInMemory l dC dI cI cJ cZ ba n B BL H.size j i hj hi) (cwV 2 hts gX0_mustFollow_X0_bothInMemory rfl rfl rfl (by decide +kernel) ⟨Nat.le_of_ble_eq_true rfl, Nat.le_of_ble_eq_true rfl⟩) (ro_preV 0 0 (q := (RX0, TX0, 15)) rfl rfl hP hK) rfl rfl hl.1 rfl (lv_room (Nat.le_of_ble_eq_true rfl)) dX0_mustFollow_55 ⟨Nat.zero_le _, Nat.zero_le _⟩) hS hA (fun H locs kP hS => ?_)
        have hP := kP _ _ _ hP
        refine lv_if_eq (tgt := 74) hx hb dX0_mustFollow_58 (by decide) (fun c_4 => ?_) (fun c_4 => ?_)
        · refine lv_iconst (v := 0) hx hb dX0_mustFollow_74 (by decide) ?_
          exact W.zret (v := 0) hx hb hr (by decide) (fun t ht hW => ⟨⟨_, (), rfl, ((show 0 = (fX0_mustFollow n B BL j i) by unfold fX0_mustFollow; rw [if_pos c_1, if_neg c_2, if_neg c_3, if_pos c_4]).trans hv), trivial⟩, hS.F ht⟩) hS.2.2 dX0_mustFollow_75
        · refine lv_aload_n hx hb dX0_mustFollow_61 rfl (lv_at hl 0 rfl) ?_
          refine lv_iload_n hx hb dX0_mustFollow_62 rfl (lv_at hl 1 rfl) ?_
          refine lv_iload_n hx hb dX0_mustFollow_63 rfl (lv_at hl 2 rfl) ?_
          refine ro_calli (va_runV (As := [.int (nI j), .int (nI i)]) (rest := []) ⟨hx, hb, hml, hown, hts⟩ (kX0_areApart l dC dI cI cJ cZ ba n B BL H.size j i hj hi) (cwV 2 hts gX0_mustFollow_X0_areApart rfl rfl rfl (by decide +kernel) ⟨Nat.le_of_ble_eq_true rfl, Nat.le_of_ble_eq_true rfl⟩) (ro_preV 0 0 (q := (RX0, TX0, 15)) rfl rfl hP hK) rfl rfl hl.1 rfl (lv_room (Nat.le_of_ble_eq_true rfl)) dX0_mustFollow_64 ⟨Nat.zero_le _, Nat.zero_le _⟩) hS hA (fun H locs kP hS => ?_)
          have hP := kP _ _ _ hP
          refine lv_if_ne (tgt := 74) hx hb dX0_mustFollow_67 (by decide) (fun c_5 => ?_) (fun c_5 => ?_)
          · refine lv_iconst (v := 0) hx hb dX0_mustFollow_74 (by decide) ?_
            exact W.zret (v := 0) hx hb hr (by decide) (fun t ht hW => ⟨⟨_, (), rfl, ((show 0 = (fX0_mustFollow n B BL j i) by unfold fX0_mustFollow; rw [if_pos c_1, if_neg c_2, if_neg c_3, if_neg c_4, if_neg c_5]).trans hv), trivial⟩, hS.F ht⟩) hS.2.2 dX0_mustFollow_75
          · refine lv_iconst (v := 1) hx hb dX0_mustFollow_70 (by decide) ?_
            refine lv_goto (tgt := 75) hx hb dX0_mustFollow_71 (by decide) ?_
            exact W.zret (v := 1) hx hb hr (by decide) (fun t ht hW => ⟨⟨_, (), rfl, ((show 1 = (fX0_mustFollow n B BL j i) by unfold fX0_mustFollow; rw [if_pos c_1, if_neg c_2, if_neg c_3, if_neg c_4, if_pos c_5]).trans hv), trivial⟩, hS.F ht⟩) hS.2.2 dX0_mustFollow_75
def fX0_distance_114 (n : Nat) (B : Nat → Nat → Int32) (BL : Nat → Nat → Int64) (j : Nat) (i : Nat) (v : Int32) : Int32 := v
def fX0_distance_62 (n : Nat) (B : Nat → Nat → Int32) (BL : Nat → Nat → Int64) (j : Nat) (i : Nat) (v : Int32) : Int32 := if (fX0_meet ((BL 6) (i)) ((BL 6) (j)) ((B 8) (i)) ((B 8) (j))) = 0 then (fX0_distance_114 n B BL j i v) else (fX0_distance_114 n B BL j i (mx v (mx 1 (((fX0_latencyOf n B BL i) - (fX0_latencyOf n B BL j)) + 1))))
def fX0_distance_21 (n : Nat) (B : Nat → Nat → Int32) (BL : Nat → Nat → Int64) (j : Nat) (i : Nat) (v : Int32) : Int32 := if (fX0_meet ((BL 6) (i)) ((BL 5) (j)) ((B 8) (i)) ((B 7) (j))) = 0 then (fX0_distance_62 n B BL j i v) else (fX0_distance_62 n B BL j i (mx v (fX0_latencyOf n B BL i)))
def fX0_distance (n : Nat) (B : Nat → Nat → Int32) (BL : Nat → Nat → Int64) (j : Nat) (i : Nat) : Int32 := if nI i < nI j then if (fX0_mustFollow n B BL j i) = 0 then (fX0_distance_21 n B BL j i 0) else (fX0_distance_21 n B BL j i 1) else 0
set_option maxHeartbeats 4000000 in
set_option maxRecDepth 100000 in
theorem kX0_distance (l : Launch) (dC : Nat → ClassId) (dI : Nat → Nat → Nat) (cI cJ cZ : ClassId) (ba : Nat → Nat) (n : Nat) (B : Nat → Nat → Int32) (BL : Nat → Nat → Int64) (sz : Nat) (j i : Nat) (hj : j < 40) (hi : i < 40) (hk : ∀ q, q < 40 → vp_in (B 3 q) 9) : Met l yX0_distance wsX0_distance ({ frames := 2, cells := 0, slots := 0, locals := 47 }) (ro_Pc (dC, dI) (wB cI cJ cZ ba n B BL) (tyA cI cJ cZ) [.ref (ba 1), .int (nI j), .int (nI i)] sz) (ro_Qi (fX0_distance n B BL j i) sz) 0 0 (ro sz) := by
  refine Met.ofW (cc := cX0_distance) (maxL := 4) (ret := (some .int)) (by decide) rfl ?_
  intro p e s m args below meth c s₁ B0 hml hv
  obtain ⟨rfl, hsz, hP, hK⟩ := hv
  have hx := B0.exec
  have hb := B0.bytes
  have hr := B0.returns
  have hts := atoms_spec (ws := wsX0_distance) B0.pre
  have hown : s.vm.findClass RX0 = some m.cls := findClass_of_methodNamed B0.named
  have hlocks := B0.notSynchronized
  have hinX0 : ∀ w ∈ wsX00, w ∈ wsX0_distance := fun w h => List.mem_cons_of_mem _ (List.mem_append_right _ (h))
  subst hsz
  have hA : ∀ q : Nat, s.heap.size ≤ q → ro s.heap.size q := fun _ h => h
  have hS : va_S (ro s.heap.size) s.heap s.heap [] := va_S.rf
  have hl := lv_entry ([.ref (ba 1), .int (nI j), .int (nI i)]) (n := 4) (Nat.le_of_ble_eq_true rfl)
  rw [lg_entry_eq]
  generalize (lg_sl ([.ref (ba 1), .int (nI j), .int (nI i)]) ++ List.replicate (4 - (lg_sl ([.ref (ba 1), .int (nI j), .int (nI i)])).length) Slot.unset).toArray = ls at hl ⊢
  have hl : lv_has ls 4 [(0, .ref (ba 1)), (1, .int (nI j)), (2, .int (nI i))] := hl
  have hv : (fX0_distance n B BL j i) = (fX0_distance n B BL j i) := rfl
  have J114 : ∀ (v : Int32) (H : Heap) (locs : List Loc) (ls : Array Slot), va_P (dC, dI) vwCl (wB cI cJ cZ ba n B BL) H → va_S (ro s.heap.size) s.heap H locs → lv_has ls 4 [(3, .int (v)), (0, .ref (ba 1)), (1, .int (nI j)), (2, .int (nI i))] → (fX0_distance_114 n B BL j i v) = (fX0_distance n B BL j i) → W p l e (headSpec wsX0_distance ({ frames := 2, cells := 0, slots := 0, locals := 47 })).room s m ([.ref (ba 1), .int (nI j), .int (nI i)] : List Value).toArray below meth c H locs 0 0 (MQ below (ro_Qi (fX0_distance n B BL j i) s.heap.size) ([.ref (ba 1), .int (nI j), .int (nI i)] : List Value).toArray s 0 0 ((ro s.heap.size))) (F0 m 114 ls []) := by
    intro v H locs ls hP hS hl hv
    refine lv_iload_n hx hb dX0_distance_114 rfl (lv_at hl 0 rfl) ?_
    exact W.iret (v := v) hx hb hr (fun t ht hW => ⟨⟨_, (), rfl, ((show v = (fX0_distance_114 n B BL j i v) by unfold fX0_distance_114; rfl).trans hv), trivial⟩, hS.F ht⟩) hS.2.2 dX0_distance_115
  have J62 : ∀ (v : Int32) (H : Heap) (locs : List Loc) (ls : Array Slot), va_P (dC, dI) vwCl (wB cI cJ cZ ba n B BL) H → va_S (ro s.heap.size) s.heap H locs → lv_has ls 4 [(3, .int (v)), (0, .ref (ba 1)), (1, .int (nI j)), (2, .int (nI i))] → (fX0_distance_62 n B BL j i v) = (fX0_distance n B BL j i) → W p l e (headSpec wsX0_distance ({ frames := 2, cells := 0, slots := 0, locals := 47 })).room s m ([.ref (ba 1), .int (nI j), .int (nI i)] : List Value).toArray below meth c H locs 0 0 (MQ below (ro_Qi (fX0_distance n B BL j i) s.heap.size) ([.ref (ba 1), .int (nI j), .int (nI i)] : List Value).toArray s 0 0 ((ro s.heap.size))) (F0 m 62 ls []) := by
    intro v H locs ls hP hS hl hv
    refine lv_aload_n hx hb dX0_distance_62 rfl (lv_at hl 1 rfl) ?_
    refine va_get (D := (dC, dI)) (ci := 0) (v := .ref (ba 6)) (C := RX0) (T := TX0) (N := 15) hx hb hts hinX0 hown hK hP 0 rfl rfl 6 (by decide) (hts (.fieldLink RX0 41 "SlotFiller$Block" "writes" "[J") (by decide +kernel)) (fun _ h9 => h9) rfl dX0_distance_63 ?_
    refine lv_iload_n hx hb dX0_distance_66 rfl (lv_at hl 3 rfl) ?_
    refine my_lald (j := i) hx hb hK hP 6 1 rfl rfl (hi) (by decide) dX0_distance_67 ?_
    refine lv_aload_n hx hb dX0_distance_68 rfl (lv_at hl 1 rfl) ?_
    refine va_get (D := (dC, dI)) (ci := 0) (v := .ref (ba 6)) (C := RX0) (T := TX0) (N := 15) hx hb hts hinX0 hown hK hP 0 rfl rfl 6 (by decide) (hts (.fieldLink RX0 41 "SlotFiller$Block" "writes" "[J") (by decide +kernel)) (fun _ h9 => h9) rfl dX0_distance_69 ?_
    refine lv_iload_n hx hb dX0_distance_72 rfl (lv_at hl 2 rfl) ?_
    refine my_lald (j := j) hx hb hK hP 6 1 rfl rfl (hj) (by decide) dX0_distance_73 ?_
    refine lv_aload_n hx hb dX0_distance_74 rfl (lv_at hl 1 rfl) ?_
    refine va_get (D := (dC, dI)) (ci := 0) (v := .ref (ba 8)) (C := RX0) (T := TX0) (N := 15) hx hb hts hinX0 hown hK hP 0 rfl rfl 8 (by decide) (hts (.fieldLink RX0 47 "SlotFiller$Block" "writesFractions" "[I") (by decide +kernel)) (fun _ h9 => h9) rfl dX0_distance_75 ?_
    refine lv_iload_n hx hb dX0_distance_78 rfl (lv_at hl 3 rfl) ?_
    refine my_iald (j := i) hx hb hK hP 8 0 rfl rfl (hi) (by decide) dX0_distance_79 ?_
    refine lv_aload_n hx hb dX0_distance_80 rfl (lv_at hl 1 rfl) ?_
    refine va_get (D := (dC, dI)) (ci := 0) (v := .ref (ba 8)) (C := RX0) (T := TX0) (N := 15) hx hb hts hinX0 hown hK hP 0 rfl rfl 8 (by decide) (hts (.fieldLink RX0 47 "SlotFiller$Block" "writesFractions" "[I") (by decide +kernel)) (fun _ h9 => h9) rfl dX0_distance_81 ?_
    refine lv_iload_n hx hb dX0_distance_84 rfl (lv_at hl 2 rfl) ?_
    refine my_iald (j := j) hx hb hK hP 8 0 rfl rfl (hj) (by decide) dX0_distance_85 ?_
    refine ro_calli (va_runS (As := [.long (((BL 6) (i))), .long (((BL 6) (j))), .int (((B 8) (i))), .int (((B 8) (j)))]) (rest := []) ⟨hx, hb, hml, hown, hts⟩ (kX0_meet l H.size ((BL 6) (i)) ((BL 6) (j)) ((B 8) (i)) ((B 8) (j))) (va_cwS 4 hts gX0_distance_X0_meet rfl rfl rfl (by decide +kernel) ⟨Nat.le_of_ble_eq_true rfl, Nat.le_of_ble_eq_true rfl⟩) pu_preS rfl rfl hl.1 rfl (lv_room (Nat.le_of_ble_eq_true rfl)) dX0_distance_86 ⟨Nat.zero_le _, Nat.zero_le _⟩) hS hA (fun H locs kP hS => ?_)
    have hP := kP _ _ _ hP
    refine lv_if_eq (tgt := 114) hx hb dX0_distance_89 (by decide) (fun c_1 => ?_) (fun c_1 => ?_)
    · exact J114 v H _ ls hP hS (lv_sub hl [0, 1, 2, 3] rfl) ((show (fX0_distance_114 n B BL j i v) = (fX0_distance_62 n B BL j i v) by unfold fX0_distance_62; rw [if_pos c_1]).trans hv)
    · refine lv_iload_n hx hb dX0_distance_92 rfl (lv_at hl 0 rfl) ?_
      refine lv_iconst (v := 1) hx hb dX0_distance_93 (by decide) ?_
      refine lv_aload_n hx hb dX0_distance_94 rfl (lv_at hl 1 rfl) ?_
      refine lv_iload_n hx hb dX0_distance_95 rfl (lv_at hl 3 rfl) ?_
      refine ro_calli (va_runV (As := [.int (nI i)]) (rest := [.int (1), .int (v)]) ⟨hx, hb, hml, hown, hts⟩ (kX0_latencyOf l dC dI cI cJ cZ ba n B BL H.size i hi hk) (cwV 1 hts gX0_distance_X0_latencyOf rfl rfl rfl (by decide +kernel) ⟨Nat.le_of_ble_eq_true rfl, Nat.le_of_ble_eq_true rfl⟩) (ro_preV 0 0 (q := (RX0, TX0, 15)) rfl rfl hP hK) rfl rfl hl.1 rfl (lv_room (Nat.le_of_ble_eq_true rfl)) dX0_distance_96 ⟨Nat.zero_le _, Nat.zero_le _⟩) hS hA (fun H locs kP hS => ?_)
      have hP := kP _ _ _ hP
      refine lv_aload_n hx hb dX0_distance_99 rfl (lv_at hl 1 rfl) ?_
      refine lv_iload_n hx hb dX0_distance_100 rfl (lv_at hl 2 rfl) ?_
      refine ro_calli (va_runV (As := [.int (nI j)]) (rest := [.int ((fX0_latencyOf n B BL i)), .int (1), .int (v)]) ⟨hx, hb, hml, hown, hts⟩ (kX0_latencyOf l dC dI cI cJ cZ ba n B BL H.size j hj hk) (cwV 1 hts gX0_distance_X0_latencyOf rfl rfl rfl (by decide +kernel) ⟨Nat.le_of_ble_eq_true rfl, Nat.le_of_ble_eq_true rfl⟩) (ro_preV 0 0 (q := (RX0, TX0, 15)) rfl rfl hP hK) rfl rfl hl.1 rfl (lv_room (Nat.le_of_ble_eq_true rfl)) dX0_distance_101 ⟨Nat.zero_le _, Nat.zero_le _⟩) hS hA (fun H locs kP hS => ?_)
      have hP := kP _ _ _ hP
      refine lv_isub hx hb dX0_distance_104 ?_
      refine lv_iconst (v := 1) hx hb dX0_distance_105 (by decide) ?_
      refine lv_iadd hx hb dX0_distance_106 ?_
      refine va_mmax hx hb (hml.trans hl.1.symm) hown (hts (.methodLink RX0 126 Lib.Math.max.name) (by decide +kernel)) (hts (.static Lib.Math.max.name) (by decide +kernel)) (hts (.initialized "java/lang/Math") (by decide +kernel)) (hts (.code Lib.Math.max.name Lib.Math.max.code 2 (some .int)) (by decide +kernel)) (Nat.le_of_ble_eq_true rfl) (Nat.le_of_ble_eq_true rfl) (Nat.zero_le _) (Nat.zero_le _) dX0_distance_107 ?_
      refine va_mmax hx hb (hml.trans hl.1.symm) hown (hts (.methodLink RX0 126 Lib.Math.max.name) (by decide +kernel)) (hts (.static Lib.Math.max.name) (by decide +kernel)) (hts (.initialized "java/lang/Math") (by decide +kernel)) (hts (.code Lib.Math.max.name Lib.Math.max.code 2 (some .int)) (by decide +kernel)) (Nat.le_of_ble_eq_true rfl) (Nat.le_of_ble_eq_true rfl) (Nat.zero_le _) (Nat.zero_le _) dX0_distance_110 ?_
      refine lv_istore_n (lv' := [(3, .int ((mx v (mx 1 (((fX0_latencyOf n B BL i) - (fX0_latencyOf n B BL j)) + 1))))), (0, .ref (ba 1)), (1, .int (nI j)), (2, .int (nI i))]) hx hb dX0_distance_113 rfl hl (by decide) rfl (fun ls hl => ?_)
      exact J114 (mx v (mx 1 (((fX0_latencyOf n B BL i) - (fX0_latencyOf n B BL j)) + 1))) H _ ls hP hS (lv_sub hl [0, 1, 2, 3] rfl) ((show (fX0_distance_114 n B BL j i (mx v (mx 1 (((fX0_latencyOf n B BL i) - (fX0_latencyOf n B BL j)) + 1)))) = (fX0_distance_62 n B BL j i v) by unfold fX0_distance_62; rw [if_neg c_1]).trans hv)
  have J21 : ∀ (v : Int32) (H : Heap) (locs : List Loc) (ls : Array Slot), va_P (dC, dI) vwCl (wB cI cJ cZ ba n B BL) H → va_S (ro s.heap.size) s.heap H locs → lv_has ls 4 [(0, .ref (ba 1)), (1, .int (nI j)), (2, .int (nI i))] → (fX0_distance_21 n B BL j i v) = (fX0_distance n B BL j i) → W p l e (headSpec wsX0_distance ({ frames := 2, cells := 0, slots := 0, locals := 47 })).room s m ([.ref (ba 1), .int (nI j), .int (nI i)] : List Value).toArray below meth c H locs 0 0 (MQ below (ro_Qi (fX0_distance n B BL j i) s.heap.size) ([.ref (ba 1), .int (nI j), .int (nI i)] : List Value).toArray s 0 0 ((ro s.heap.size))) (F0 m 21 ls [.int (v)]) := by
    intro v H locs ls hP hS hl hv
    refine lv_istore_n (lv' := [(3, .int (v)), (0, .ref (ba 1)), (1, .int (nI j)), (2, .int (nI i))]) hx hb dX0_distance_21 rfl hl (by decide) rfl (fun ls hl => ?_)
    refine lv_aload_n hx hb dX0_distance_22 rfl (lv_at hl 1 rfl) ?_
    refine va_get (D := (dC, dI)) (ci := 0) (v := .ref (ba 6)) (C := RX0) (T := TX0) (N := 15) hx hb hts hinX0 hown hK hP 0 rfl rfl 6 (by decide) (hts (.fieldLink RX0 41 "SlotFiller$Block" "writes" "[J") (by decide +kernel)) (fun _ h9 => h9) rfl dX0_distance_23 ?_
    refine lv_iload_n hx hb dX0_distance_26 rfl (lv_at hl 3 rfl) ?_
    refine my_lald (j := i) hx hb hK hP 6 1 rfl rfl (hi) (by decide) dX0_distance_27 ?_
    refine lv_aload_n hx hb dX0_distance_28 rfl (lv_at hl 1 rfl) ?_
    refine va_get (D := (dC, dI)) (ci := 0) (v := .ref (ba 5)) (C := RX0) (T := TX0) (N := 15) hx hb hts hinX0 hown hK hP 0 rfl rfl 5 (by decide) (hts (.fieldLink RX0 37 "SlotFiller$Block" "reads" "[J") (by decide +kernel)) (fun _ h9 => h9) rfl dX0_distance_29 ?_
    refine lv_iload_n hx hb dX0_distance_32 rfl (lv_at hl 2 rfl) ?_
    refine my_lald (j := j) hx hb hK hP 5 1 rfl rfl (hj) (by decide) dX0_distance_33 ?_
    refine lv_aload_n hx hb dX0_distance_34 rfl (lv_at hl 1 rfl) ?_
    refine va_get (D := (dC, dI)) (ci := 0) (v := .ref (ba 8)) (C := RX0) (T := TX0) (N := 15) hx hb hts hinX0 hown hK hP 0 rfl rfl 8 (by decide) (hts (.fieldLink RX0 47 "SlotFiller$Block" "writesFractions" "[I") (by decide +kernel)) (fun _ h9 => h9) rfl dX0_distance_35 ?_
    refine lv_iload_n hx hb dX0_distance_38 rfl (lv_at hl 3 rfl) ?_
    refine my_iald (j := i) hx hb hK hP 8 0 rfl rfl (hi) (by decide) dX0_distance_39 ?_
    refine lv_aload_n hx hb dX0_distance_40 rfl (lv_at hl 1 rfl) ?_
    refine va_get (D := (dC, dI)) (ci := 0) (v := .ref (ba 7)) (C := RX0) (T := TX0) (N := 15) hx hb hts hinX0 hown hK hP 0 rfl rfl 7 (by decide) (hts (.fieldLink RX0 44 "SlotFiller$Block" "readsFractions" "[I") (by decide +kernel)) (fun _ h9 => h9) rfl dX0_distance_41 ?_
    refine lv_iload_n hx hb dX0_distance_44 rfl (lv_at hl 2 rfl) ?_
    refine my_iald (j := j) hx hb hK hP 7 0 rfl rfl (hj) (by decide) dX0_distance_45 ?_
    refine ro_calli (va_runS (As := [.long (((BL 6) (i))), .long (((BL 5) (j))), .int (((B 8) (i))), .int (((B 7) (j)))]) (rest := []) ⟨hx, hb, hml, hown, hts⟩ (kX0_meet l H.size ((BL 6) (i)) ((BL 5) (j)) ((B 8) (i)) ((B 7) (j))) (va_cwS 4 hts gX0_distance_X0_meet rfl rfl rfl (by decide +kernel) ⟨Nat.le_of_ble_eq_true rfl, Nat.le_of_ble_eq_true rfl⟩) pu_preS rfl rfl hl.1 rfl (lv_room (Nat.le_of_ble_eq_true rfl)) dX0_distance_46 ⟨Nat.zero_le _, Nat.zero_le _⟩) hS hA (fun H locs kP hS => ?_)
    have hP := kP _ _ _ hP
    refine lv_if_eq (tgt := 62) hx hb dX0_distance_49 (by decide) (fun c_2 => ?_) (fun c_2 => ?_)
    · exact J62 v H _ ls hP hS (lv_sub hl [0, 1, 2, 3] rfl) ((show (fX0_distance_62 n B BL j i v) = (fX0_distance_21 n B BL j i v) by unfold fX0_distance_21; rw [if_pos c_2]).trans hv)
    · refine lv_iload_n hx hb dX0_distance_52 rfl (lv_at hl 0 rfl) ?_
      refine lv_aload_n hx hb dX0_distance_53 rfl (lv_at hl 1 rfl) ?_
      refine lv_iload_n hx hb dX0_distance_54 rfl (lv_at hl 3 rfl) ?_
      refine ro_calli (va_runV (As := [.int (nI i)]) (rest := [.int (v)]) ⟨hx, hb, hml, hown, hts⟩ (kX0_latencyOf l dC dI cI cJ cZ ba n B BL H.size i hi hk) (cwV 1 hts gX0_distance_X0_latencyOf rfl rfl rfl (by decide +kernel) ⟨Nat.le_of_ble_eq_true rfl, Nat.le_of_ble_eq_true rfl⟩) (ro_preV 0 0 (q := (RX0, TX0, 15)) rfl rfl hP hK) rfl rfl hl.1 rfl (lv_room (Nat.le_of_ble_eq_true rfl)) dX0_distance_55 ⟨Nat.zero_le _, Nat.zero_le _⟩) hS hA (fun H locs kP hS => ?_)
      have hP := kP _ _ _ hP
      refine va_mmax hx hb (hml.trans hl.1.symm) hown (hts (.methodLink RX0 126 Lib.Math.max.name) (by decide +kernel)) (hts (.static Lib.Math.max.name) (by decide +kernel)) (hts (.initialized "java/lang/Math") (by decide +kernel)) (hts (.code Lib.Math.max.name Lib.Math.max.code 2 (some .int)) (by decide +kernel)) (Nat.le_of_ble_eq_true rfl) (Nat.le_of_ble_eq_true rfl) (Nat.zero_le _) (Nat.zero_le _) dX0_distance_58 ?_
      refine lv_istore_n (lv' := [(3, .int ((mx v (fX0_latencyOf n B BL i)))), (0, .ref (ba 1)), (1, .int (nI j)), (2, .int (nI i))]) hx hb dX0_distance_61 rfl hl (by decide) rfl (fun ls hl => ?_)
      exact J62 (mx v (fX0_latencyOf n B BL i)) H _ ls hP hS (lv_sub hl [0, 1, 2, 3] rfl) ((show (fX0_distance_62 n B BL j i (mx v (fX0_latencyOf n B BL i))) = (fX0_distance_21 n B BL j i v) by unfold fX0_distance_21; rw [if_neg c_2]).trans hv)
  refine lv_iload_n hx hb dX0_distance_0 rfl (lv_at hl 2 rfl) ?_
  refine lv_iload_n hx hb dX0_distance_1 rfl (lv_at hl 1 rfl) ?_
  refine lv_icmp_lt (tgt := 7) hx hb dX0_distance_2 (by decide) (fun c_3 => ?_) (fun c_3 => ?_)
  · refine lv_aload_n hx hb dX0_distance_7 rfl (lv_at hl 0 rfl) ?_
    refine lv_iload_n hx hb dX0_distance_8 rfl (lv_at hl 1 rfl) ?_
    refine lv_iload_n hx hb dX0_distance_9 rfl (lv_at hl 2 rfl) ?_
    refine ro_calli (va_runV (As := [.int (nI j), .int (nI i)]) (rest := []) ⟨hx, hb, hml, hown, hts⟩ (kX0_mustFollow l dC dI cI cJ cZ ba n B BL s.heap.size j i hj hi) (cwV 2 hts gX0_distance_X0_mustFollow rfl rfl rfl (by decide +kernel) ⟨Nat.le_of_ble_eq_true rfl, Nat.le_of_ble_eq_true rfl⟩) (ro_preV 0 0 (q := (RX0, TX0, 15)) rfl rfl hP hK) rfl rfl hl.1 rfl (lv_room (Nat.le_of_ble_eq_true rfl)) dX0_distance_10 ⟨Nat.zero_le _, Nat.zero_le _⟩) hS hA (fun H locs kP hS => ?_)
    have hP := kP _ _ _ hP
    refine lv_if_eq (tgt := 20) hx hb dX0_distance_13 (by decide) (fun c_4 => ?_) (fun c_4 => ?_)
    · refine lv_iconst (v := 0) hx hb dX0_distance_20 (by decide) ?_
      exact J21 0 H _ ls hP hS (lv_sub hl [0, 1, 2] rfl) ((show (fX0_distance_21 n B BL j i 0) = (fX0_distance n B BL j i) by unfold fX0_distance; rw [if_pos c_3, if_pos c_4]).trans hv)
    · refine lv_iconst (v := 1) hx hb dX0_distance_16 (by decide) ?_
      refine lv_goto (tgt := 21) hx hb dX0_distance_17 (by decide) ?_
      exact J21 1 H _ ls hP hS (lv_sub hl [0, 1, 2] rfl) ((show (fX0_distance_21 n B BL j i 1) = (fX0_distance n B BL j i) by unfold fX0_distance; rw [if_pos c_3, if_neg c_4]).trans hv)
  · refine lv_iconst (v := 0) hx hb dX0_distance_5 (by decide) ?_
    exact W.iret (v := 0) hx hb hr (fun t ht hW => ⟨⟨_, (), rfl, ((show 0 = (fX0_distance n B BL j i) by unfold fX0_distance; rw [if_neg c_3]).trans hv), trivial⟩, hS.F ht⟩) hS.2.2 dX0_distance_6
def fX0_lastWriter_7 (n : Nat) (B : Nat → Nat → Int32) (BL : Nat → Nat → Int64) (r : Int64) : Nat → Nat → Int32
  | 0, _ => 0
  | q7 + 1, k => if dn k < 0 then (-1) else if (lg_cmp (((BL 6) (k - 1)) &&& r) 0) = 0 then (fX0_lastWriter_7 n B BL r q7 (k - 1)) else dn k
def fX0_lastWriter (n : Nat) (B : Nat → Nat → Int32) (BL : Nat → Nat → Int64) (r : Int64) : Int32 := (fX0_lastWriter_7 n B BL r (n + 1) n)
set_option maxHeartbeats 4000000 in
set_option maxRecDepth 100000 in
theorem kX0_lastWriter (l : Launch) (dC : Nat → ClassId) (dI : Nat → Nat → Nat) (cI cJ cZ : ClassId) (ba : Nat → Nat) (n : Nat) (B : Nat → Nat → Int32) (BL : Nat → Nat → Int64) (sz : Nat) (r : Int64) (hn : n ≤ 40) : Met l yX0_lastWriter wsX0_lastWriter ({ frames := 0, cells := 0, slots := 0, locals := 0 }) (ro_Pc (dC, dI) (wB cI cJ cZ ba n B BL) (tyA cI cJ cZ) [.ref (ba 1), .long (r)] sz) (ro_Qi (fX0_lastWriter n B BL r) sz) 0 0 (ro sz) := by
  refine Met.ofW (cc := cX0_lastWriter) (maxL := 4) (ret := (some .int)) (by decide) rfl ?_
  intro p e s m args below meth c s₁ B0 hml hv
  obtain ⟨rfl, hsz, hP, hK⟩ := hv
  have hx := B0.exec
  have hb := B0.bytes
  have hr := B0.returns
  have hts := atoms_spec (ws := wsX0_lastWriter) B0.pre
  have hown : s.vm.findClass RX0 = some m.cls := findClass_of_methodNamed B0.named
  have hlocks := B0.notSynchronized
  have hinX0 : ∀ w ∈ wsX00, w ∈ wsX0_lastWriter := fun w h => List.mem_cons_of_mem _ (List.mem_append_right _ (h))
  subst hsz
  have hA : ∀ q : Nat, s.heap.size ≤ q → ro s.heap.size q := fun _ h => h
  have hS : va_S (ro s.heap.size) s.heap s.heap [] := va_S.rf
  have hl := lv_entry ([.ref (ba 1), .long (r)]) (n := 4) (Nat.le_of_ble_eq_true rfl)
  rw [lg_entry_eq]
  generalize (lg_sl ([.ref (ba 1), .long (r)]) ++ List.replicate (4 - (lg_sl ([.ref (ba 1), .long (r)])).length) Slot.unset).toArray = ls at hl ⊢
  have hl : lv_has ls 4 [(0, .ref (ba 1)), (1, .long (r))] := hl
  have hv : (fX0_lastWriter n B BL r) = (fX0_lastWriter n B BL r) := rfl
  have J7 : ∀ (q7 : Nat) (k : Nat) (H : Heap) (locs : List Loc) (ls : Array Slot), (k ≤ 40 ∧ k < q7) → va_P (dC, dI) vwCl (wB cI cJ cZ ba n B BL) H → va_S (ro s.heap.size) s.heap H locs → lv_has ls 4 [(3, .int (dn k)), (0, .ref (ba 1)), (1, .long (r))] → (fX0_lastWriter_7 n B BL r q7 k) = (fX0_lastWriter n B BL r) → W p l e (headSpec wsX0_lastWriter ({ frames := 0, cells := 0, slots := 0, locals := 0 })).room s m ([.ref (ba 1), .long (r)] : List Value).toArray below meth c H locs 0 0 (MQ below (ro_Qi (fX0_lastWriter n B BL r) s.heap.size) ([.ref (ba 1), .long (r)] : List Value).toArray s 0 0 ((ro s.heap.size))) (F0 m 7 ls []) := by
    intro q7
    induction q7 with
    | zero => intro k H locs ls hm7 hP hS hl hv; exact absurd hm7 (by omega)
    | succ q7 ih7 =>
      intro k H locs ls hm7 hP hS hl hv
      refine lv_iload_n hx hb dX0_lastWriter_7 rfl (lv_at hl 0 rfl) ?_
      refine lv_if_lt (tgt := 32) hx hb dX0_lastWriter_8 (by decide) (fun c_1 => ?_) (fun c_1 => ?_)
      · refine lv_iconst (v := (-1)) hx hb dX0_lastWriter_32 (by decide) ?_
        exact W.iret (v := (-1)) hx hb hr (fun t ht hW => ⟨⟨_, (), rfl, ((show (-1) = (fX0_lastWriter_7 n B BL r (q7 + 1) k) by rw [fX0_lastWriter_7, if_pos c_1]).trans hv), trivial⟩, hS.F ht⟩) hS.2.2 dX0_lastWriter_33
      · refine lv_aload_n hx hb dX0_lastWriter_11 rfl (lv_at hl 1 rfl) ?_
        refine va_get (D := (dC, dI)) (ci := 0) (v := .ref (ba 6)) (C := RX0) (T := TX0) (N := 15) hx hb hts hinX0 hown hK hP 0 rfl rfl 6 (by decide) (hts (.fieldLink RX0 41 "SlotFiller$Block" "writes" "[J") (by decide +kernel)) (fun _ h9 => h9) rfl dX0_lastWriter_12 ?_
        refine lv_iload_n hx hb dX0_lastWriter_15 rfl (lv_at hl 0 rfl) ?_
        refine top_i (y := nI (k - 1)) (dn_eq (dn_pos c_1)) ?_
        refine my_lald (j := k - 1) hx hb hK hP 6 1 rfl rfl (by have := dn_pos c_1; omega) (by decide) dX0_lastWriter_16 ?_
        refine lv_lload_n hx hb dX0_lastWriter_17 rfl (lv_at hl 2 rfl) ?_
        refine lv_land hx hb dX0_lastWriter_18 ?_
        refine lv_lconst (v := 0) hx hb dX0_lastWriter_19 (by decide) ?_
        refine W.lcmp hx hb dX0_lastWriter_20 ?_
        refine lv_if_eq (tgt := 26) hx hb dX0_lastWriter_21 (by decide) (fun c_2 => ?_) (fun c_2 => ?_)
        · refine lv_iinc (v := dn (k - 1)) (lv' := [(3, .int (dn (k - 1))), (0, .ref (ba 1)), (1, .long (r))]) hx hb dX0_lastWriter_26 hl (k := 0) rfl (dn_step (dn_pos c_1)) (by decide) rfl (fun ls hl => ?_)
          refine lv_goto (tgt := 7) hx hb dX0_lastWriter_29 (by decide) ?_
          exact ih7 (k - 1) H _ ls (⟨by omega, by have := dn_pos c_1; omega⟩) hP hS (lv_sub hl [0, 1, 2] rfl) ((show (fX0_lastWriter_7 n B BL r q7 (k - 1)) = (fX0_lastWriter_7 n B BL r (q7 + 1) k) by rw [fX0_lastWriter_7, if_neg c_1, if_pos c_2]).trans hv)
        · refine lv_iload_n hx hb dX0_lastWriter_24 rfl (lv_at hl 0 rfl) ?_
          exact W.iret (v := dn k) hx hb hr (fun t ht hW => ⟨⟨_, (), rfl, ((show dn k = (fX0_lastWriter_7 n B BL r (q7 + 1) k) by rw [fX0_lastWriter_7, if_neg c_1, if_neg c_2]).trans hv), trivial⟩, hS.F ht⟩) hS.2.2 dX0_lastWriter_25
  refine lv_aload_n hx hb dX0_lastWriter_0 rfl (lv_at hl 0 rfl) ?_
  refine va_get (D := (dC, dI)) (ci := 0) (v := .int (nI n)) (C := RX0) (T := TX0) (N := 15) hx hb hts hinX0 hown hK hP 0 rfl rfl 1 (by decide) (hts (.fieldLink RX0 23 "SlotFiller$Block" "size" "I") (by decide +kernel)) (fun _ h9 => h9) rfl dX0_lastWriter_1 ?_
  refine lv_iconst (v := 1) hx hb dX0_lastWriter_4 (by decide) ?_
  refine lv_isub hx hb dX0_lastWriter_5 ?_
  refine top_i (y := dn n) (rfl) ?_
  refine lv_istore_n (lv' := [(3, .int (dn n)), (0, .ref (ba 1)), (1, .long (r))]) hx hb dX0_lastWriter_6 rfl hl (by decide) rfl (fun ls hl => ?_)
  exact J7 (n + 1) n s.heap _ ls (⟨hn, Nat.lt_succ_self _⟩) hP hS (lv_sub hl [0, 1, 2] rfl) ((show (fX0_lastWriter_7 n B BL r (n + 1) n) = (fX0_lastWriter n B BL r) by unfold fX0_lastWriter; rfl).trans hv)
