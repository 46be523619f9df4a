/-! ===== Block's methods that write ===== -/
abbrev BS : Type := Nat × (Nat → Nat → Int32) × (Nat → Nat → Int64)
def upB (B : Nat → Nat → Int32) (k : Nat) (f : Nat → Int32) : Nat → Nat → Int32 := fun x => if x = k then f else B x
def upBL (B : Nat → Nat → Int64) (k : Nat) (f : Nat → Int64) : Nat → Nat → Int64 := fun x => if x = k then f else B x
theorem has_nar (a b : Int32) : vp_nar .boolean (fX4_has a b) = fX4_has a b := by unfold fX4_has; split <;> rfl
theorem nI_lt40 {n : Nat} (hn : n ≤ 40) (h : nI n < 40) : n < 40 := (nI_ltI (b := 40) (by omega) (by omega)).mp h
theorem nI_geN {a b : Nat} (ha : a < 2 ^ 31) (hb : b < 2 ^ 31) (h : ¬ nI b ≤ nI a) : a < b := Nat.not_le.mp (fun q => h ((nI_leI hb ha).mpr q))
def fX0_empty  (sg : BS) : BS := (0, sg.2.1, sg.2.2)
set_option maxHeartbeats 4000000 in
set_option maxRecDepth 100000 in
theorem kX0_empty (l : Launch) (dC : Nat → ClassId) (dI : Nat → Nat → Nat) (cI cJ cZ : ClassId) (ba : Nat → Nat) (sz : Nat)  (sg : BS) : Met l yX0_empty wsX0_empty ({ frames := 0, cells := 0, slots := 0, locals := 0 }) (md_Pc (dC, dI) (wB cI cJ cZ ba sg.1 sg.2.1 sg.2.2) (tyA cI cJ cZ) [.ref (ba 1)] sz) (md_Qv (dC, dI) (wB cI cJ cZ ba ((fX0_empty  sg).1) ((fX0_empty  sg).2.1) ((fX0_empty  sg).2.2)) (va_A (wB cI cJ cZ ba sg.1 sg.2.1 sg.2.2) sz)) 0 0 (va_A (wB cI cJ cZ ba sg.1 sg.2.1 sg.2.2) sz) := by
  refine Met.ofW (cc := cX0_empty) (maxL := 1) (ret := none) (by decide) rfl ?_
  intro p e s m args below meth c s₁ B0 hml hv
  obtain ⟨rfl, hsz, hP, hK, hD0⟩ := hv
  have hx := B0.exec
  have hb := B0.bytes
  have hr := B0.returns
  have hts := atoms_spec (ws := wsX0_empty) B0.pre
  have hown : s.vm.findClass RX0 = some m.cls := findClass_of_methodNamed B0.named
  have hlocks := B0.notSynchronized
  have hinX0 : ∀ w ∈ wsX00, w ∈ wsX0_empty := fun w h => List.mem_cons_of_mem _ (List.mem_append_right _ (h))
  subst hsz
  have hD := hD0.self (sz := s.heap.size)
  generalize hAe : va_A (wB cI cJ cZ ba sg.1 sg.2.1 sg.2.2) s.heap.size = A at hD ⊢
  have hA : ∀ q : Nat, s.heap.size ≤ q → A q := fun q h => by rw [← hAe]; exact Or.inr h
  have hS : va_S A s.heap s.heap [] := va_S.rf
  have hl := lv_entry ([.ref (ba 1)]) (n := 1) (Nat.le_of_ble_eq_true rfl)
  rw [lg_entry_eq]
  generalize (lg_sl ([.ref (ba 1)]) ++ List.replicate (1 - (lg_sl ([.ref (ba 1)])).length) Slot.unset).toArray = ls at hl ⊢
  have hl : lv_has ls 1 [(0, .ref (ba 1))] := hl
  have hv : (fX0_empty  sg) = (fX0_empty  sg) := rfl
  refine lv_aload_n hx hb dX0_empty_0 rfl (lv_at hl 0 rfl) ?_
  refine lv_iconst (v := 0) hx hb dX0_empty_1 (by decide) ?_
  refine top_i (y := nI 0) (nI_0.symm) ?_
  refine va_put (D := (dC, dI)) (ci := 0) (v := .int (nI 0)) (ty := .int) (C := RX0) (T := TX0) (N := 15) hx hb hts hinX0 tyX0 tyX0_ok nmX0 hown hK hP hD hS 0 rfl rfl 1 (by decide) (hts (.fieldLink RX0 23 "SlotFiller$Block" "size" "I") (by decide +kernel)) (fun _ h9 => h9) rfl (by decide +kernel) rfl rfl (by decide) dX0_empty_2 (fun H locs hP hD hS => ?_)
  have hP : va_P (dC, dI) vwCl (wB cI cJ cZ ba 0 sg.2.1 sg.2.2) H := hP
  have hD : va_D A (wB cI cJ cZ ba 0 sg.2.1 sg.2.2) := hD
  have e9 : (0, sg.2.1, sg.2.2) = (fX0_empty  sg) := ((show (0, sg.2.1, sg.2.2) = (fX0_empty  sg) by unfold fX0_empty; rfl).trans hv)
  have hP : va_P (dC, dI) vwCl (wB cI cJ cZ ba ((fX0_empty  sg).1) ((fX0_empty  sg).2.1) ((fX0_empty  sg).2.2)) H := by rw [← e9]; exact hP
  have hD : va_D A (wB cI cJ cZ ba ((fX0_empty  sg).1) ((fX0_empty  sg).2.1) ((fX0_empty  sg).2.2)) := by rw [← e9]; exact hD
  exact W.vret hx hb hr (fun t ht hW => ⟨⟨(), rfl, trivial, by rw [ht]; exact hP, hD⟩, hS.F ht⟩) hS.2.2 dX0_empty_5
def fX0_append (w : Int32) (f : Int32) (sg : BS) : BS := if nI sg.1 < 40 then ((sg.1 + 1), (upB (upB (upB (upB (upB (upB (upB (upB (upB sg.2.1 2 (upd (sg.2.1 2) (sg.1) (w))) 3 (upd (sg.2.1 3) (sg.1) ((fX4_kindOf f)))) 4 (upd (sg.2.1 4) (sg.1) ((fX4_has f 8388608)))) 7 (upd (sg.2.1 7) (sg.1) ((fX7_readsFractions w f)))) 8 (upd (sg.2.1 8) (sg.1) ((fX7_writesFractions w f)))) 9 (upd (sg.2.1 9) (sg.1) ((fX3_s w)))) 10 (upd (sg.2.1 10) (sg.1) ((fX1_first w)))) 11 (upd (sg.2.1 11) (sg.1) ((((upd (sg.2.1 10) (sg.1) ((fX1_first w))) (sg.1)) + (fX1_many w))))) 12 (upd (sg.2.1 12) (sg.1) ((fX0_lastWriter sg.1 (upB (upB (upB (upB (upB (upB (upB (upB sg.2.1 2 (upd (sg.2.1 2) (sg.1) (w))) 3 (upd (sg.2.1 3) (sg.1) ((fX4_kindOf f)))) 4 (upd (sg.2.1 4) (sg.1) ((fX4_has f 8388608)))) 7 (upd (sg.2.1 7) (sg.1) ((fX7_readsFractions w f)))) 8 (upd (sg.2.1 8) (sg.1) ((fX7_writesFractions w f)))) 9 (upd (sg.2.1 9) (sg.1) ((fX3_s w)))) 10 (upd (sg.2.1 10) (sg.1) ((fX1_first w)))) 11 (upd (sg.2.1 11) (sg.1) ((((upd (sg.2.1 10) (sg.1) ((fX1_first w))) (sg.1)) + (fX1_many w))))) (upBL (upBL sg.2.2 5 (vp_updL (sg.2.2 5) (sg.1) ((fX7_reads w f)))) 6 (vp_updL (sg.2.2 6) (sg.1) ((fX7_writes w f)))) (fX7_register ((upd (sg.2.1 9) (sg.1) ((fX3_s w))) (sg.1))))))), (upBL (upBL sg.2.2 5 (vp_updL (sg.2.2 5) (sg.1) ((fX7_reads w f)))) 6 (vp_updL (sg.2.2 6) (sg.1) ((fX7_writes w f))))) else sg
set_option maxHeartbeats 4000000 in
set_option maxRecDepth 100000 in
theorem kX0_append (l : Launch) (dC : Nat → ClassId) (dI : Nat → Nat → Nat) (cI cJ cZ : ClassId) (ba : Nat → Nat) (sz : Nat) (w f : Int32) (sg : BS) (hn : sg.1 ≤ 40) : Met l yX0_append wsX0_append ({ frames := 4, cells := 0, slots := 0, locals := 83 }) (md_Pc (dC, dI) (wB cI cJ cZ ba sg.1 sg.2.1 sg.2.2) (tyA cI cJ cZ) [.ref (ba 1), .int (w), .int (f)] sz) (md_Qv (dC, dI) (wB cI cJ cZ ba ((fX0_append w f sg).1) ((fX0_append w f sg).2.1) ((fX0_append w f sg).2.2)) (va_A (wB cI cJ cZ ba sg.1 sg.2.1 sg.2.2) sz)) 0 0 (va_A (wB cI cJ cZ ba sg.1 sg.2.1 sg.2.2) sz) := by
  refine Met.ofW (cc := cX0_append) (maxL := 3) (ret := none) (by decide) rfl ?_
  intro p e s m args below meth c s₁ B0 hml hv
  obtain ⟨rfl, hsz, hP, hK, hD0⟩ := hv
  have hx := B0.exec
  have hb := B0.bytes
  have hr := B0.returns
  have hts := atoms_spec (ws := wsX0_append) B0.pre
  have hown : s.vm.findClass RX0 = some m.cls := findClass_of_methodNamed B0.named
  have hlocks := B0.notSynchronized
  have hinX0 : ∀ w ∈ wsX00, w ∈ wsX0_append := fun w h => List.mem_cons_of_mem _ (List.mem_append_right _ (h))
  subst hsz
  have hD := hD0.self (sz := s.heap.size)
  generalize hAe : va_A (wB cI cJ cZ ba sg.1 sg.2.1 sg.2.2) s.heap.size = A at hD ⊢
  have hA : ∀ q : Nat, s.heap.size ≤ q → A q := fun q h => by rw [← hAe]; exact Or.inr h
  have hS : va_S A s.heap s.heap [] := va_S.rf
  have hl := lv_entry ([.ref (ba 1), .int (w), .int (f)]) (n := 3) (Nat.le_of_ble_eq_true rfl)
  rw [lg_entry_eq]
  generalize (lg_sl ([.ref (ba 1), .int (w), .int (f)]) ++ List.replicate (3 - (lg_sl ([.ref (ba 1), .int (w), .int (f)])).length) Slot.unset).toArray = ls at hl ⊢
  have hl : lv_has ls 3 [(0, .ref (ba 1)), (1, .int (w)), (2, .int (f))] := hl
  have hv : (fX0_append w f sg) = (fX0_append w f sg) := rfl
  refine lv_aload_n hx hb dX0_append_0 rfl (lv_at hl 0 rfl) ?_
  refine va_get (D := (dC, dI)) (ci := 0) (v := .int (nI sg.1)) (C := RX0) (T := TX0) (N := 15) hx hb hts hinX0 hown hK hP 0 rfl rfl 1 (by decide) (hts (.fieldLink RX0 23 "SlotFiller$Block" "size" "I") (by decide +kernel)) (fun _ h9 => h9) rfl dX0_append_1 ?_
  refine lv_bipush (v := 40) hx hb dX0_append_4 (by decide) ?_
  refine lv_icmp_lt (tgt := 10) hx hb dX0_append_6 (by decide) (fun c_1 => ?_) (fun c_1 => ?_)
  · refine lv_aload_n hx hb dX0_append_10 rfl (lv_at hl 0 rfl) ?_
    refine va_get (D := (dC, dI)) (ci := 0) (v := .ref (ba 2)) (C := RX0) (T := TX0) (N := 15) hx hb hts hinX0 hown hK hP 0 rfl rfl 2 (by decide) (hts (.fieldLink RX0 27 "SlotFiller$Block" "words" "[I") (by decide +kernel)) (fun _ h9 => h9) rfl dX0_append_11 ?_
    refine lv_aload_n hx hb dX0_append_14 rfl (lv_at hl 0 rfl) ?_
    refine va_get (D := (dC, dI)) (ci := 0) (v := .int (nI sg.1)) (C := RX0) (T := TX0) (N := 15) hx hb hts hinX0 hown hK hP 0 rfl rfl 1 (by decide) (hts (.fieldLink RX0 23 "SlotFiller$Block" "size" "I") (by decide +kernel)) (fun _ h9 => h9) rfl dX0_append_15 ?_
    refine lv_iload_n hx hb dX0_append_18 rfl (lv_at hl 1 rfl) ?_
    refine my_iast (j := sg.1) hx hb hK hP hD hS 2 0 rfl rfl (nI_lt40 hn c_1) (by decide) dX0_append_19 (fun H locs hP hD hS => ?_)
    have hP : va_P (dC, dI) vwCl (wB cI cJ cZ ba sg.1 (upB sg.2.1 2 (upd (sg.2.1 2) (sg.1) (w))) sg.2.2) H := hP
    have hD : va_D A (wB cI cJ cZ ba sg.1 (upB sg.2.1 2 (upd (sg.2.1 2) (sg.1) (w))) sg.2.2) := hD
    refine lv_aload_n hx hb dX0_append_20 rfl (lv_at hl 0 rfl) ?_
    refine va_get (D := (dC, dI)) (ci := 0) (v := .ref (ba 3)) (C := RX0) (T := TX0) (N := 15) hx hb hts hinX0 hown hK hP 0 rfl rfl 3 (by decide) (hts (.fieldLink RX0 30 "SlotFiller$Block" "kinds" "[I") (by decide +kernel)) (fun _ h9 => h9) rfl dX0_append_21 ?_
    refine lv_aload_n hx hb dX0_append_24 rfl (lv_at hl 0 rfl) ?_
    refine va_get (D := (dC, dI)) (ci := 0) (v := .int (nI sg.1)) (C := RX0) (T := TX0) (N := 15) hx hb hts hinX0 hown hK hP 0 rfl rfl 1 (by decide) (hts (.fieldLink RX0 23 "SlotFiller$Block" "size" "I") (by decide +kernel)) (fun _ h9 => h9) rfl dX0_append_25 ?_
    refine lv_iload_n hx hb dX0_append_28 rfl (lv_at hl 2 rfl) ?_
    refine ro_calli (va_runS (As := [.int (f)]) (rest := [.int (nI sg.1), .ref (ba 3)]) ⟨hx, hb, hml, hown, hts⟩ (kX4_kindOf l H.size f) (va_cwS 1 hts gX0_append_X4_kindOf rfl rfl rfl (by decide +kernel) ⟨Nat.le_of_ble_eq_true rfl, Nat.le_of_ble_eq_true rfl⟩) pu_preS rfl rfl hl.1 rfl (lv_room (Nat.le_of_ble_eq_true rfl)) dX0_append_29 ⟨Nat.zero_le _, Nat.zero_le _⟩) hS hA (fun H locs kP hS => ?_)
    have hP := kP _ _ _ hP
    refine my_iast (j := sg.1) hx hb hK hP hD hS 3 0 rfl rfl (nI_lt40 hn c_1) (by decide) dX0_append_32 (fun H locs hP hD hS => ?_)
    have hP : va_P (dC, dI) vwCl (wB cI cJ cZ ba sg.1 (upB (upB sg.2.1 2 (upd (sg.2.1 2) (sg.1) (w))) 3 (upd (sg.2.1 3) (sg.1) ((fX4_kindOf f)))) sg.2.2) H := hP
    have hD : va_D A (wB cI cJ cZ ba sg.1 (upB (upB sg.2.1 2 (upd (sg.2.1 2) (sg.1) (w))) 3 (upd (sg.2.1 3) (sg.1) ((fX4_kindOf f)))) sg.2.2) := hD
    refine lv_aload_n hx hb dX0_append_33 rfl (lv_at hl 0 rfl) ?_
    refine va_get (D := (dC, dI)) (ci := 0) (v := .ref (ba 4)) (C := RX0) (T := TX0) (N := 15) hx hb hts hinX0 hown hK hP 0 rfl rfl 4 (by decide) (hts (.fieldLink RX0 33 "SlotFiller$Block" "likely" "[Z") (by decide +kernel)) (fun _ h9 => h9) rfl dX0_append_34 ?_
    refine lv_aload_n hx hb dX0_append_37 rfl (lv_at hl 0 rfl) ?_
    refine va_get (D := (dC, dI)) (ci := 0) (v := .int (nI sg.1)) (C := RX0) (T := TX0) (N := 15) hx hb hts hinX0 hown hK hP 0 rfl rfl 1 (by decide) (hts (.fieldLink RX0 23 "SlotFiller$Block" "size" "I") (by decide +kernel)) (fun _ h9 => h9) rfl dX0_append_38 ?_
    refine lv_iload_n hx hb dX0_append_41 rfl (lv_at hl 2 rfl) ?_
    refine lv_ldc (v := 8388608) hx hb hown (hts (.constant RX0 78 (8388608)) (by decide +kernel)) dX0_append_42 ?_
    refine ro_calli (va_runS (As := [.int (f), .int (8388608)]) (rest := [.int (nI sg.1), .ref (ba 4)]) ⟨hx, hb, hml, hown, hts⟩ (kX4_has l H.size f 8388608) (va_cwS 2 hts gX0_append_X4_has rfl rfl rfl (by decide +kernel) ⟨Nat.le_of_ble_eq_true rfl, Nat.le_of_ble_eq_true rfl⟩) pu_preS rfl rfl hl.1 rfl (lv_room (Nat.le_of_ble_eq_true rfl)) dX0_append_44 ⟨Nat.zero_le _, Nat.zero_le _⟩) hS hA (fun H locs kP hS => ?_)
    have hP := kP _ _ _ hP
    refine my_zast (j := sg.1) hx hb hK hP hD hS 4 2 rfl rfl (nI_lt40 hn c_1) (by decide) (has_nar _ _) dX0_append_47 (fun H locs hP hD hS => ?_)
    have hP : va_P (dC, dI) vwCl (wB cI cJ cZ ba sg.1 (upB (upB (upB sg.2.1 2 (upd (sg.2.1 2) (sg.1) (w))) 3 (upd (sg.2.1 3) (sg.1) ((fX4_kindOf f)))) 4 (upd (sg.2.1 4) (sg.1) ((fX4_has f 8388608)))) sg.2.2) H := hP
    have hD : va_D A (wB cI cJ cZ ba sg.1 (upB (upB (upB sg.2.1 2 (upd (sg.2.1 2) (sg.1) (w))) 3 (upd (sg.2.1 3) (sg.1) ((fX4_kindOf f)))) 4 (upd (sg.2.1 4) (sg.1) ((fX4_has f 8388608)))) sg.2.2) := hD
    refine lv_aload_n hx hb dX0_append_48 rfl (lv_at hl 0 rfl) ?_
    refine va_get (D := (dC, dI)) (ci := 0) (v := .ref (ba 5)) (C := RX0) (T := TX0) (N := 15) hx hb hts hinX0 hown hK hP 0 rfl rfl 5 (by decide) (hts (.fieldLink RX0 37 "SlotFiller$Block" "reads" "[J") (by decide +kernel)) (fun _ h9 => h9) rfl dX0_append_49 ?_
    refine lv_aload_n hx hb dX0_append_52 rfl (lv_at hl 0 rfl) ?_
    refine va_get (D := (dC, dI)) (ci := 0) (v := .int (nI sg.1)) (C := RX0) (T := TX0) (N := 15) hx hb hts hinX0 hown hK hP 0 rfl rfl 1 (by decide) (hts (.fieldLink RX0 23 "SlotFiller$Block" "size" "I") (by decide +kernel)) (fun _ h9 => h9) rfl dX0_append_53 ?_
    refine lv_iload_n hx hb dX0_append_56 rfl (lv_at hl 1 rfl) ?_
    refine lv_iload_n hx hb dX0_append_57 rfl (lv_at hl 2 rfl) ?_
    refine ro_calll (va_runS (As := [.int (w), .int (f)]) (rest := [.int (nI sg.1), .ref (ba 5)]) ⟨hx, hb, hml, hown, hts⟩ (kX7_reads l H.size w f) (va_cwS 2 hts gX0_append_X7_reads rfl rfl rfl (by decide +kernel) ⟨Nat.le_of_ble_eq_true rfl, Nat.le_of_ble_eq_true rfl⟩) pu_preS rfl rfl hl.1 rfl (lv_room (Nat.le_of_ble_eq_true rfl)) dX0_append_58 ⟨Nat.zero_le _, Nat.zero_le _⟩) hS hA (fun H locs kP hS => ?_)
    have hP := kP _ _ _ hP
    refine my_last (j := sg.1) hx hb hK hP hD hS 5 1 rfl rfl (nI_lt40 hn c_1) (by decide) dX0_append_61 (fun H locs hP hD hS => ?_)
    have hP : va_P (dC, dI) vwCl (wB cI cJ cZ ba sg.1 (upB (upB (upB sg.2.1 2 (upd (sg.2.1 2) (sg.1) (w))) 3 (upd (sg.2.1 3) (sg.1) ((fX4_kindOf f)))) 4 (upd (sg.2.1 4) (sg.1) ((fX4_has f 8388608)))) (upBL sg.2.2 5 (vp_updL (sg.2.2 5) (sg.1) ((fX7_reads w f))))) H := hP
    have hD : va_D A (wB cI cJ cZ ba sg.1 (upB (upB (upB sg.2.1 2 (upd (sg.2.1 2) (sg.1) (w))) 3 (upd (sg.2.1 3) (sg.1) ((fX4_kindOf f)))) 4 (upd (sg.2.1 4) (sg.1) ((fX4_has f 8388608)))) (upBL sg.2.2 5 (vp_updL (sg.2.2 5) (sg.1) ((fX7_reads w f))))) := hD
    refine lv_aload_n hx hb dX0_append_62 rfl (lv_at hl 0 rfl) ?_
    refine va_get (D := (dC, dI)) (ci := 0) (v := .ref (ba 6)) (C := RX0) (T := TX0) (N := 15) hx hb hts hinX0 hown hK hP 0 rfl rfl 6 (by decide) (hts (.fieldLink RX0 41 "SlotFiller$Block" "writes" "[J") (by decide +kernel)) (fun _ h9 => h9) rfl dX0_append_63 ?_
    refine lv_aload_n hx hb dX0_append_66 rfl (lv_at hl 0 rfl) ?_
    refine va_get (D := (dC, dI)) (ci := 0) (v := .int (nI sg.1)) (C := RX0) (T := TX0) (N := 15) hx hb hts hinX0 hown hK hP 0 rfl rfl 1 (by decide) (hts (.fieldLink RX0 23 "SlotFiller$Block" "size" "I") (by decide +kernel)) (fun _ h9 => h9) rfl dX0_append_67 ?_
    refine lv_iload_n hx hb dX0_append_70 rfl (lv_at hl 1 rfl) ?_
    refine lv_iload_n hx hb dX0_append_71 rfl (lv_at hl 2 rfl) ?_
    refine ro_calll (va_runS (As := [.int (w), .int (f)]) (rest := [.int (nI sg.1), .ref (ba 6)]) ⟨hx, hb, hml, hown, hts⟩ (kX7_writes l H.size w f) (va_cwS 2 hts gX0_append_X7_writes rfl rfl rfl (by decide +kernel) ⟨Nat.le_of_ble_eq_true rfl, Nat.le_of_ble_eq_true rfl⟩) pu_preS rfl rfl hl.1 rfl (lv_room (Nat.le_of_ble_eq_true rfl)) dX0_append_72 ⟨Nat.zero_le _, Nat.zero_le _⟩) hS hA (fun H locs kP hS => ?_)
    have hP := kP _ _ _ hP
    refine my_last (j := sg.1) hx hb hK hP hD hS 6 1 rfl rfl (nI_lt40 hn c_1) (by decide) dX0_append_75 (fun H locs hP hD hS => ?_)
    have hP : va_P (dC, dI) vwCl (wB cI cJ cZ ba sg.1 (upB (upB (upB sg.2.1 2 (upd (sg.2.1 2) (sg.1) (w))) 3 (upd (sg.2.1 3) (sg.1) ((fX4_kindOf f)))) 4 (upd (sg.2.1 4) (sg.1) ((fX4_has f 8388608)))) (upBL (upBL sg.2.2 5 (vp_updL (sg.2.2 5) (sg.1) ((fX7_reads w f)))) 6 (vp_updL (sg.2.2 6) (sg.1) ((fX7_writes w f))))) H := hP
    have hD : va_D A (wB cI cJ cZ ba sg.1 (upB (upB (upB sg.2.1 2 (upd (sg.2.1 2) (sg.1) (w))) 3 (upd (sg.2.1 3) (sg.1) ((fX4_kindOf f)))) 4 (upd (sg.2.1 4) (sg.1) ((fX4_has f 8388608)))) (upBL (upBL sg.2.2 5 (vp_updL (sg.2.2 5) (sg.1) ((fX7_reads w f)))) 6 (vp_updL (sg.2.2 6) (sg.1) ((fX7_writes w f))))) := hD
    refine lv_aload_n hx hb dX0_append_76 rfl (lv_at hl 0 rfl) ?_
    refine va_get (D := (dC, dI)) (ci := 0) (v := .ref (ba 7)) (C := RX0) (T := TX0) (N := 15) hx hb hts hinX0 hown hK hP 0 rfl rfl 7 (by decide) (hts (.fieldLink RX0 44 "SlotFiller$Block" "readsFractions" "[I") (by decide +kernel)) (fun _ h9 => h9) rfl dX0_append_77 ?_
    refine lv_aload_n hx hb dX0_append_80 rfl (lv_at hl 0 rfl) ?_
    refine va_get (D := (dC, dI)) (ci := 0) (v := .int (nI sg.1)) (C := RX0) (T := TX0) (N := 15) hx hb hts hinX0 hown hK hP 0 rfl rfl 1 (by decide) (hts (.fieldLink RX0 23 "SlotFiller$Block" "size" "I") (by decide +kernel)) (fun _ h9 => h9) rfl dX0_append_81 ?_
    refine lv_iload_n hx hb dX0_append_84 rfl (lv_at hl 1 rfl) ?_
    refine lv_iload_n hx hb dX0_append_85 rfl (lv_at hl 2 rfl) ?_
    refine ro_calli (va_runS (As := [.int (w), .int (f)]) (rest := [.int (nI sg.1), .ref (ba 7)]) ⟨hx, hb, hml, hown, hts⟩ (kX7_readsFractions l H.size w f) (va_cwS 2 hts gX0_append_X7_readsFractions rfl rfl rfl (by decide +kernel) ⟨Nat.le_of_ble_eq_true rfl, Nat.le_of_ble_eq_true rfl⟩) pu_preS rfl rfl hl.1 rfl (lv_room (Nat.le_of_ble_eq_true rfl)) dX0_append_86 ⟨Nat.zero_le _, Nat.zero_le _⟩) hS hA (fun H locs kP hS => ?_)
    have hP := kP _ _ _ hP
    refine my_iast (j := sg.1) hx hb hK hP hD hS 7 0 rfl rfl (nI_lt40 hn c_1) (by decide) dX0_append_89 (fun H locs hP hD hS => ?_)
    have hP : va_P (dC, dI) vwCl (wB cI cJ cZ ba sg.1 (upB (upB (upB (upB sg.2.1 2 (upd (sg.2.1 2) (sg.1) (w))) 3 (upd (sg.2.1 3) (sg.1) ((fX4_kindOf f)))) 4 (upd (sg.2.1 4) (sg.1) ((fX4_has f 8388608)))) 7 (upd (sg.2.1 7) (sg.1) ((fX7_readsFractions w f)))) (upBL (upBL sg.2.2 5 (vp_updL (sg.2.2 5) (sg.1) ((fX7_reads w f)))) 6 (vp_updL (sg.2.2 6) (sg.1) ((fX7_writes w f))))) H := hP
    have hD : va_D A (wB cI cJ cZ ba sg.1 (upB (upB (upB (upB sg.2.1 2 (upd (sg.2.1 2) (sg.1) (w))) 3 (upd (sg.2.1 3) (sg.1) ((fX4_kindOf f)))) 4 (upd (sg.2.1 4) (sg.1) ((fX4_has f 8388608)))) 7 (upd (sg.2.1 7) (sg.1) ((fX7_readsFractions w f)))) (upBL (upBL sg.2.2 5 (vp_updL (sg.2.2 5) (sg.1) ((fX7_reads w f)))) 6 (vp_updL (sg.2.2 6) (sg.1) ((fX7_writes w f))))) := hD
    refine lv_aload_n hx hb dX0_append_90 rfl (lv_at hl 0 rfl) ?_
    refine va_get (D := (dC, dI)) (ci := 0) (v := .ref (ba 8)) (C := RX0) (T := TX0) (N := 15) hx hb hts hinX0 hown hK hP 0 rfl rfl 8 (by decide) (hts (.fieldLink RX0 47 "SlotFiller$Block" "writesFractions" "[I") (by decide +kernel)) (fun _ h9 => h9) rfl dX0_append_91 ?_
    refine lv_aload_n hx hb dX0_append_94 rfl (lv_at hl 0 rfl) ?_
    refine va_get (D := (dC, dI)) (ci := 0) (v := .int (nI sg.1)) (C := RX0) (T := TX0) (N := 15) hx hb hts hinX0 hown hK hP 0 rfl rfl 1 (by decide) (hts (.fieldLink RX0 23 "SlotFiller$Block" "size" "I") (by decide +kernel)) (fun _ h9 => h9) rfl dX0_append_95 ?_
    refine lv_iload_n hx hb dX0_append_98 rfl (lv_at hl 1 rfl) ?_
    refine lv_iload_n hx hb dX0_append_99 rfl (lv_at hl 2 rfl) ?_
    refine ro_calli (va_runS (As := [.int (w), .int (f)]) (rest := [.int (nI sg.1), .ref (ba 8)]) ⟨hx, hb, hml, hown, hts⟩ (kX7_writesFractions l H.size w f) (va_cwS 2 hts gX0_append_X7_writesFractions rfl rfl rfl (by decide +kernel) ⟨Nat.le_of_ble_eq_true rfl, Nat.le_of_ble_eq_true rfl⟩) pu_preS rfl rfl hl.1 rfl (lv_room (Nat.le_of_ble_eq_true rfl)) dX0_append_100 ⟨Nat.zero_le _, Nat.zero_le _⟩) hS hA (fun H locs kP hS => ?_)
    have hP := kP _ _ _ hP
    refine my_iast (j := sg.1) hx hb hK hP hD hS 8 0 rfl rfl (nI_lt40 hn c_1) (by decide) dX0_append_103 (fun H locs hP hD hS => ?_)
    have hP : va_P (dC, dI) vwCl (wB cI cJ cZ ba sg.1 (upB (upB (upB (upB (upB sg.2.1 2 (upd (sg.2.1 2) (sg.1) (w))) 3 (upd (sg.2.1 3) (sg.1) ((fX4_kindOf f)))) 4 (upd (sg.2.1 4) (sg.1) ((fX4_has f 8388608)))) 7 (upd (sg.2.1 7) (sg.1) ((fX7_readsFractions w f)))) 8 (upd (sg.2.1 8) (sg.1) ((fX7_writesFractions w f)))) (upBL (upBL sg.2.2 5 (vp_updL (sg.2.2 5) (sg.1) ((fX7_reads w f)))) 6 (vp_updL (sg.2.2 6) (sg.1) ((fX7_writes w f))))) H := hP
    have hD : va_D A (wB cI cJ cZ ba sg.1 (upB (upB (upB (upB (upB sg.2.1 2 (upd (sg.2.1 2) (sg.1) (w))) 3 (upd (sg.2.1 3) (sg.1) ((fX4_kindOf f)))) 4 (upd (sg.2.1 4) (sg.1) ((fX4_has f 8388608)))) 7 (upd (sg.2.1 7) (sg.1) ((fX7_readsFractions w f)))) 8 (upd (sg.2.1 8) (sg.1) ((fX7_writesFractions w f)))) (upBL (upBL sg.2.2 5 (vp_updL (sg.2.2 5) (sg.1) ((fX7_reads w f)))) 6 (vp_updL (sg.2.2 6) (sg.1) ((fX7_writes w f))))) := hD
    refine lv_aload_n hx hb dX0_append_104 rfl (lv_at hl 0 rfl) ?_
    refine va_get (D := (dC, dI)) (ci := 0) (v := .ref (ba 9)) (C := RX0) (T := TX0) (N := 15) hx hb hts hinX0 hown hK hP 0 rfl rfl 9 (by decide) (hts (.fieldLink RX0 50 "SlotFiller$Block" "bases" "[I") (by decide +kernel)) (fun _ h9 => h9) rfl dX0_append_105 ?_
    refine lv_aload_n hx hb dX0_append_108 rfl (lv_at hl 0 rfl) ?_
    refine va_get (D := (dC, dI)) (ci := 0) (v := .int (nI sg.1)) (C := RX0) (T := TX0) (N := 15) hx hb hts hinX0 hown hK hP 0 rfl rfl 1 (by decide) (hts (.fieldLink RX0 23 "SlotFiller$Block" "size" "I") (by decide +kernel)) (fun _ h9 => h9) rfl dX0_append_109 ?_
    refine lv_iload_n hx hb dX0_append_112 rfl (lv_at hl 1 rfl) ?_
    refine ro_calli (va_runS (As := [.int (w)]) (rest := [.int (nI sg.1), .ref (ba 9)]) ⟨hx, hb, hml, hown, hts⟩ (kX3_s l H.size w) (va_cwS 1 hts gX0_append_X3_s rfl rfl rfl (by decide +kernel) ⟨Nat.le_of_ble_eq_true rfl, Nat.le_of_ble_eq_true rfl⟩) pu_preS rfl rfl hl.1 rfl (lv_room (Nat.le_of_ble_eq_true rfl)) dX0_append_113 ⟨Nat.zero_le _, Nat.zero_le _⟩) hS hA (fun H locs kP hS => ?_)
    have hP := kP _ _ _ hP
    refine my_iast (j := sg.1) hx hb hK hP hD hS 9 0 rfl rfl (nI_lt40 hn c_1) (by decide) dX0_append_116 (fun H locs hP hD hS => ?_)
    have hP : va_P (dC, dI) vwCl (wB cI cJ cZ ba sg.1 (upB (upB (upB (upB (upB (upB sg.2.1 2 (upd (sg.2.1 2) (sg.1) (w))) 3 (upd (sg.2.1 3) (sg.1) ((fX4_kindOf f)))) 4 (upd (sg.2.1 4) (sg.1) ((fX4_has f 8388608)))) 7 (upd (sg.2.1 7) (sg.1) ((fX7_readsFractions w f)))) 8 (upd (sg.2.1 8) (sg.1) ((fX7_writesFractions w f)))) 9 (upd (sg.2.1 9) (sg.1) ((fX3_s w)))) (upBL (upBL sg.2.2 5 (vp_updL (sg.2.2 5) (sg.1) ((fX7_reads w f)))) 6 (vp_updL (sg.2.2 6) (sg.1) ((fX7_writes w f))))) H := hP
    have hD : va_D A (wB cI cJ cZ ba sg.1 (upB (upB (upB (upB (upB (upB sg.2.1 2 (upd (sg.2.1 2) (sg.1) (w))) 3 (upd (sg.2.1 3) (sg.1) ((fX4_kindOf f)))) 4 (upd (sg.2.1 4) (sg.1) ((fX4_has f 8388608)))) 7 (upd (sg.2.1 7) (sg.1) ((fX7_readsFractions w f)))) 8 (upd (sg.2.1 8) (sg.1) ((fX7_writesFractions w f)))) 9 (upd (sg.2.1 9) (sg.1) ((fX3_s w)))) (upBL (upBL sg.2.2 5 (vp_updL (sg.2.2 5) (sg.1) ((fX7_reads w f)))) 6 (vp_updL (sg.2.2 6) (sg.1) ((fX7_writes w f))))) := hD
    refine lv_aload_n hx hb dX0_append_117 rfl (lv_at hl 0 rfl) ?_
    refine va_get (D := (dC, dI)) (ci := 0) (v := .ref (ba 10)) (C := RX0) (T := TX0) (N := 15) hx hb hts hinX0 hown hK hP 0 rfl rfl 10 (by decide) (hts (.fieldLink RX0 53 "SlotFiller$Block" "firstBytes" "[I") (by decide +kernel)) (fun _ h9 => h9) rfl dX0_append_118 ?_
    refine lv_aload_n hx hb dX0_append_121 rfl (lv_at hl 0 rfl) ?_
    refine va_get (D := (dC, dI)) (ci := 0) (v := .int (nI sg.1)) (C := RX0) (T := TX0) (N := 15) hx hb hts hinX0 hown hK hP 0 rfl rfl 1 (by decide) (hts (.fieldLink RX0 23 "SlotFiller$Block" "size" "I") (by decide +kernel)) (fun _ h9 => h9) rfl dX0_append_122 ?_
    refine lv_iload_n hx hb dX0_append_125 rfl (lv_at hl 1 rfl) ?_
    refine ro_calli (va_runS (As := [.int (w)]) (rest := [.int (nI sg.1), .ref (ba 10)]) ⟨hx, hb, hml, hown, hts⟩ (kX1_first l H.size w) (va_cwS 1 hts gX0_append_X1_first rfl rfl rfl (by decide +kernel) ⟨Nat.le_of_ble_eq_true rfl, Nat.le_of_ble_eq_true rfl⟩) pu_preS rfl rfl hl.1 rfl (lv_room (Nat.le_of_ble_eq_true rfl)) dX0_append_126 ⟨Nat.zero_le _, Nat.zero_le _⟩) hS hA (fun H locs kP hS => ?_)
    have hP := kP _ _ _ hP
    refine my_iast (j := sg.1) hx hb hK hP hD hS 10 0 rfl rfl (nI_lt40 hn c_1) (by decide) dX0_append_129 (fun H locs hP hD hS => ?_)
    have hP : va_P (dC, dI) vwCl (wB cI cJ cZ ba sg.1 (upB (upB (upB (upB (upB (upB (upB sg.2.1 2 (upd (sg.2.1 2) (sg.1) (w))) 3 (upd (sg.2.1 3) (sg.1) ((fX4_kindOf f)))) 4 (upd (sg.2.1 4) (sg.1) ((fX4_has f 8388608)))) 7 (upd (sg.2.1 7) (sg.1) ((fX7_readsFractions w f)))) 8 (upd (sg.2.1 8) (sg.1) ((fX7_writesFractions w f)))) 9 (upd (sg.2.1 9) (sg.1) ((fX3_s w)))) 10 (upd (sg.2.1 10) (sg.1) ((fX1_first w)))) (upBL (upBL sg.2.2 5 (vp_updL (sg.2.2 5) (sg.1) ((fX7_reads w f)))) 6 (vp_updL (sg.2.2 6) (sg.1) ((fX7_writes w f))))) H := hP
    have hD : va_D A (wB cI cJ cZ ba sg.1 (upB (upB (upB (upB (upB (upB (upB sg.2.1 2 (upd (sg.2.1 2) (sg.1) (w))) 3 (upd (sg.2.1 3) (sg.1) ((fX4_kindOf f)))) 4 (upd (sg.2.1 4) (sg.1) ((fX4_has f 8388608)))) 7 (upd (sg.2.1 7) (sg.1) ((fX7_readsFractions w f)))) 8 (upd (sg.2.1 8) (sg.1) ((fX7_writesFractions w f)))) 9 (upd (sg.2.1 9) (sg.1) ((fX3_s w)))) 10 (upd (sg.2.1 10) (sg.1) ((fX1_first w)))) (upBL (upBL sg.2.2 5 (vp_updL (sg.2.2 5) (sg.1) ((fX7_reads w f)))) 6 (vp_updL (sg.2.2 6) (sg.1) ((fX7_writes w f))))) := hD
    refine lv_aload_n hx hb dX0_append_130 rfl (lv_at hl 0 rfl) ?_
    refine va_get (D := (dC, dI)) (ci := 0) (v := .ref (ba 11)) (C := RX0) (T := TX0) (N := 15) hx hb hts hinX0 hown hK hP 0 rfl rfl 11 (by decide) (hts (.fieldLink RX0 56 "SlotFiller$Block" "endBytes" "[I") (by decide +kernel)) (fun _ h9 => h9) rfl dX0_append_131 ?_
    refine lv_aload_n hx hb dX0_append_134 rfl (lv_at hl 0 rfl) ?_
    refine va_get (D := (dC, dI)) (ci := 0) (v := .int (nI sg.1)) (C := RX0) (T := TX0) (N := 15) hx hb hts hinX0 hown hK hP 0 rfl rfl 1 (by decide) (hts (.fieldLink RX0 23 "SlotFiller$Block" "size" "I") (by decide +kernel)) (fun _ h9 => h9) rfl dX0_append_135 ?_
    refine lv_aload_n hx hb dX0_append_138 rfl (lv_at hl 0 rfl) ?_
    refine va_get (D := (dC, dI)) (ci := 0) (v := .ref (ba 10)) (C := RX0) (T := TX0) (N := 15) hx hb hts hinX0 hown hK hP 0 rfl rfl 10 (by decide) (hts (.fieldLink RX0 53 "SlotFiller$Block" "firstBytes" "[I") (by decide +kernel)) (fun _ h9 => h9) rfl dX0_append_139 ?_
    refine lv_aload_n hx hb dX0_append_142 rfl (lv_at hl 0 rfl) ?_
    refine va_get (D := (dC, dI)) (ci := 0) (v := .int (nI sg.1)) (C := RX0) (T := TX0) (N := 15) hx hb hts hinX0 hown hK hP 0 rfl rfl 1 (by decide) (hts (.fieldLink RX0 23 "SlotFiller$Block" "size" "I") (by decide +kernel)) (fun _ h9 => h9) rfl dX0_append_143 ?_
    refine my_iald (j := sg.1) hx hb hK hP 10 0 rfl rfl (nI_lt40 hn c_1) (by decide) dX0_append_146 ?_
    refine lv_iload_n hx hb dX0_append_147 rfl (lv_at hl 1 rfl) ?_
    refine ro_calli (va_runS (As := [.int (w)]) (rest := [.int (((upd (sg.2.1 10) (sg.1) ((fX1_first w))) (sg.1))), .int (nI sg.1), .ref (ba 11)]) ⟨hx, hb, hml, hown, hts⟩ (kX1_many l H.size w) (va_cwS 1 hts gX0_append_X1_many rfl rfl rfl (by decide +kernel) ⟨Nat.le_of_ble_eq_true rfl, Nat.le_of_ble_eq_true rfl⟩) pu_preS rfl rfl hl.1 rfl (lv_room (Nat.le_of_ble_eq_true rfl)) dX0_append_148 ⟨Nat.zero_le _, Nat.zero_le _⟩) hS hA (fun H locs kP hS => ?_)
    have hP := kP _ _ _ hP
    refine lv_iadd hx hb dX0_append_151 ?_
    refine my_iast (j := sg.1) hx hb hK hP hD hS 11 0 rfl rfl (nI_lt40 hn c_1) (by decide) dX0_append_152 (fun H locs hP hD hS => ?_)
    have hP : va_P (dC, dI) vwCl (wB cI cJ cZ ba sg.1 (upB (upB (upB (upB (upB (upB (upB (upB sg.2.1 2 (upd (sg.2.1 2) (sg.1) (w))) 3 (upd (sg.2.1 3) (sg.1) ((fX4_kindOf f)))) 4 (upd (sg.2.1 4) (sg.1) ((fX4_has f 8388608)))) 7 (upd (sg.2.1 7) (sg.1) ((fX7_readsFractions w f)))) 8 (upd (sg.2.1 8) (sg.1) ((fX7_writesFractions w f)))) 9 (upd (sg.2.1 9) (sg.1) ((fX3_s w)))) 10 (upd (sg.2.1 10) (sg.1) ((fX1_first w)))) 11 (upd (sg.2.1 11) (sg.1) ((((upd (sg.2.1 10) (sg.1) ((fX1_first w))) (sg.1)) + (fX1_many w))))) (upBL (upBL sg.2.2 5 (vp_updL (sg.2.2 5) (sg.1) ((fX7_reads w f)))) 6 (vp_updL (sg.2.2 6) (sg.1) ((fX7_writes w f))))) H := hP
    have hD : va_D A (wB cI cJ cZ ba sg.1 (upB (upB (upB (upB (upB (upB (upB (upB sg.2.1 2 (upd (sg.2.1 2) (sg.1) (w))) 3 (upd (sg.2.1 3) (sg.1) ((fX4_kindOf f)))) 4 (upd (sg.2.1 4) (sg.1) ((fX4_has f 8388608)))) 7 (upd (sg.2.1 7) (sg.1) ((fX7_readsFractions w f)))) 8 (upd (sg.2.1 8) (sg.1) ((fX7_writesFractions w f)))) 9 (upd (sg.2.1 9) (sg.1) ((fX3_s w)))) 10 (upd (sg.2.1 10) (sg.1) ((fX1_first w)))) 11 (upd (sg.2.1 11) (sg.1) ((((upd (sg.2.1 10) (sg.1) ((fX1_first w))) (sg.1)) + (fX1_many w))))) (upBL (upBL sg.2.2 5 (vp_updL (sg.2.2 5) (sg.1) ((fX7_reads w f)))) 6 (vp_updL (sg.2.2 6) (sg.1) ((fX7_writes w f))))) := hD
    refine lv_aload_n hx hb dX0_append_153 rfl (lv_at hl 0 rfl) ?_
    refine va_get (D := (dC, dI)) (ci := 0) (v := .ref (ba 12)) (C := RX0) (T := TX0) (N := 15) hx hb hts hinX0 hown hK hP 0 rfl rfl 12 (by decide) (hts (.fieldLink RX0 59 "SlotFiller$Block" "baseWriters" "[I") (by decide +kernel)) (fun _ h9 => h9) rfl dX0_append_154 ?_
    refine lv_aload_n hx hb dX0_append_157 rfl (lv_at hl 0 rfl) ?_
    refine va_get (D := (dC, dI)) (ci := 0) (v := .int (nI sg.1)) (C := RX0) (T := TX0) (N := 15) hx hb hts hinX0 hown hK hP 0 rfl rfl 1 (by decide) (hts (.fieldLink RX0 23 "SlotFiller$Block" "size" "I") (by decide +kernel)) (fun _ h9 => h9) rfl dX0_append_158 ?_
    refine lv_aload_n hx hb dX0_append_161 rfl (lv_at hl 0 rfl) ?_
    refine lv_aload_n hx hb dX0_append_162 rfl (lv_at hl 0 rfl) ?_
    refine va_get (D := (dC, dI)) (ci := 0) (v := .ref (ba 9)) (C := RX0) (T := TX0) (N := 15) hx hb hts hinX0 hown hK hP 0 rfl rfl 9 (by decide) (hts (.fieldLink RX0 50 "SlotFiller$Block" "bases" "[I") (by decide +kernel)) (fun _ h9 => h9) rfl dX0_append_163 ?_
    refine lv_aload_n hx hb dX0_append_166 rfl (lv_at hl 0 rfl) ?_
    refine va_get (D := (dC, dI)) (ci := 0) (v := .int (nI sg.1)) (C := RX0) (T := TX0) (N := 15) hx hb hts hinX0 hown hK hP 0 rfl rfl 1 (by decide) (hts (.fieldLink RX0 23 "SlotFiller$Block" "size" "I") (by decide +kernel)) (fun _ h9 => h9) rfl dX0_append_167 ?_
    refine my_iald (j := sg.1) hx hb hK hP 9 0 rfl rfl (nI_lt40 hn c_1) (by decide) dX0_append_170 ?_
    refine ro_calll (va_runS (As := [.int (((upd (sg.2.1 9) (sg.1) ((fX3_s w))) (sg.1)))]) (rest := [.ref (ba 1), .int (nI sg.1), .ref (ba 12)]) ⟨hx, hb, hml, hown, hts⟩ (kX7_register l H.size ((upd (sg.2.1 9) (sg.1) ((fX3_s w))) (sg.1))) (va_cwS 1 hts gX0_append_X7_register rfl rfl rfl (by decide +kernel) ⟨Nat.le_of_ble_eq_true rfl, Nat.le_of_ble_eq_true rfl⟩) pu_preS rfl rfl hl.1 rfl (lv_room (Nat.le_of_ble_eq_true rfl)) dX0_append_171 ⟨Nat.zero_le _, Nat.zero_le _⟩) hS hA (fun H locs kP hS => ?_)
    have hP := kP _ _ _ hP
    refine ro_calli (va_runV (As := [.long ((fX7_register ((upd (sg.2.1 9) (sg.1) ((fX3_s w))) (sg.1))))]) (rest := [.int (nI sg.1), .ref (ba 12)]) ⟨hx, hb, hml, hown, hts⟩ (kX0_lastWriter l dC dI cI cJ cZ ba sg.1 (upB (upB (upB (upB (upB (upB (upB (upB sg.2.1 2 (upd (sg.2.1 2) (sg.1) (w))) 3 (upd (sg.2.1 3) (sg.1) ((fX4_kindOf f)))) 4 (upd (sg.2.1 4) (sg.1) ((fX4_has f 8388608)))) 7 (upd (sg.2.1 7) (sg.1) ((fX7_readsFractions w f)))) 8 (upd (sg.2.1 8) (sg.1) ((fX7_writesFractions w f)))) 9 (upd (sg.2.1 9) (sg.1) ((fX3_s w)))) 10 (upd (sg.2.1 10) (sg.1) ((fX1_first w)))) 11 (upd (sg.2.1 11) (sg.1) ((((upd (sg.2.1 10) (sg.1) ((fX1_first w))) (sg.1)) + (fX1_many w))))) (upBL (upBL sg.2.2 5 (vp_updL (sg.2.2 5) (sg.1) ((fX7_reads w f)))) 6 (vp_updL (sg.2.2 6) (sg.1) ((fX7_writes w f)))) H.size (fX7_register ((upd (sg.2.1 9) (sg.1) ((fX3_s w))) (sg.1))) hn) (cwV 1 hts gX0_append_X0_lastWriter rfl rfl rfl (by decide +kernel) ⟨Nat.le_of_ble_eq_true rfl, Nat.le_of_ble_eq_true rfl⟩) (ro_preV 0 0 (q := (RX0, TX0, 15)) rfl rfl hP hK) rfl rfl hl.1 rfl (lv_room (Nat.le_of_ble_eq_true rfl)) dX0_append_174 ⟨Nat.zero_le _, Nat.zero_le _⟩) hS hA (fun H locs kP hS => ?_)
    have hP := kP _ _ _ hP
    refine my_iast (j := sg.1) hx hb hK hP hD hS 12 0 rfl rfl (nI_lt40 hn c_1) (by decide) dX0_append_177 (fun H locs hP hD hS => ?_)
    have hP : va_P (dC, dI) vwCl (wB cI cJ cZ ba sg.1 (upB (upB (upB (upB (upB (upB (upB (upB (upB sg.2.1 2 (upd (sg.2.1 2) (sg.1) (w))) 3 (upd (sg.2.1 3) (sg.1) ((fX4_kindOf f)))) 4 (upd (sg.2.1 4) (sg.1) ((fX4_has f 8388608)))) 7 (upd (sg.2.1 7) (sg.1) ((fX7_readsFractions w f)))) 8 (upd (sg.2.1 8) (sg.1) ((fX7_writesFractions w f)))) 9 (upd (sg.2.1 9) (sg.1) ((fX3_s w)))) 10 (upd (sg.2.1 10) (sg.1) ((fX1_first w)))) 11 (upd (sg.2.1 11) (sg.1) ((((upd (sg.2.1 10) (sg.1) ((fX1_first w))) (sg.1)) + (fX1_many w))))) 12 (upd (sg.2.1 12) (sg.1) ((fX0_lastWriter sg.1 (upB (upB (upB (upB (upB (upB (upB (upB sg.2.1 2 (upd (sg.2.1 2) (sg.1) (w))) 3 (upd (sg.2.1 3) (sg.1) ((fX4_kindOf f)))) 4 (upd (sg.2.1 4) (sg.1) ((fX4_has f 8388608)))) 7 (upd (sg.2.1 7) (sg.1) ((fX7_readsFractions w f)))) 8 (upd (sg.2.1 8) (sg.1) ((fX7_writesFractions w f)))) 9 (upd (sg.2.1 9) (sg.1) ((fX3_s w)))) 10 (upd (sg.2.1 10) (sg.1) ((fX1_first w)))) 11 (upd (sg.2.1 11) (sg.1) ((((upd (sg.2.1 10) (sg.1) ((fX1_first w))) (sg.1)) + (fX1_many w))))) (upBL (upBL sg.2.2 5 (vp_updL (sg.2.2 5) (sg.1) ((fX7_reads w f)))) 6 (vp_updL (sg.2.2 6) (sg.1) ((fX7_writes w f)))) (fX7_register ((upd (sg.2.1 9) (sg.1) ((fX3_s w))) (sg.1))))))) (upBL (upBL sg.2.2 5 (vp_updL (sg.2.2 5) (sg.1) ((fX7_reads w f)))) 6 (vp_updL (sg.2.2 6) (sg.1) ((fX7_writes w f))))) H := hP
    have hD : va_D A (wB cI cJ cZ ba sg.1 (upB (upB (upB (upB (upB (upB (upB (upB (upB sg.2.1 2 (upd (sg.2.1 2) (sg.1) (w))) 3 (upd (sg.2.1 3) (sg.1) ((fX4_kindOf f)))) 4 (upd (sg.2.1 4) (sg.1) ((fX4_has f 8388608)))) 7 (upd (sg.2.1 7) (sg.1) ((fX7_readsFractions w f)))) 8 (upd (sg.2.1 8) (sg.1) ((fX7_writesFractions w f)))) 9 (upd (sg.2.1 9) (sg.1) ((fX3_s w)))) 10 (upd (sg.2.1 10) (sg.1) ((fX1_first w)))) 11 (upd (sg.2.1 11) (sg.1) ((((upd (sg.2.1 10) (sg.1) ((fX1_first w))) (sg.1)) + (fX1_many w))))) 12 (upd (sg.2.1 12) (sg.1) ((fX0_lastWriter sg.1 (upB (upB (upB (upB (upB (upB (upB (upB sg.2.1 2 (upd (sg.2.1 2) (sg.1) (w))) 3 (upd (sg.2.1 3) (sg.1) ((fX4_kindOf f)))) 4 (upd (sg.2.1 4) (sg.1) ((fX4_has f 8388608)))) 7 (upd (sg.2.1 7) (sg.1) ((fX7_readsFractions w f)))) 8 (upd (sg.2.1 8) (sg.1) ((fX7_writesFractions w f)))) 9 (upd (sg.2.1 9) (sg.1) ((fX3_s w)))) 10 (upd (sg.2.1 10) (sg.1) ((fX1_first w)))) 11 (upd (sg.2.1 11) (sg.1) ((((upd (sg.2.1 10) (sg.1) ((fX1_first w))) (sg.1)) + (fX1_many w))))) (upBL (upBL sg.2.2 5 (vp_updL (sg.2.2 5) (sg.1) ((fX7_reads w f)))) 6 (vp_updL (sg.2.2 6) (sg.1) ((fX7_writes w f)))) (fX7_register ((upd (sg.2.1 9) (sg.1) ((fX3_s w))) (sg.1))))))) (upBL (upBL sg.2.2 5 (vp_updL (sg.2.2 5) (sg.1) ((fX7_reads w f)))) 6 (vp_updL (sg.2.2 6) (sg.1) ((fX7_writes w f))))) := hD
    refine lv_aload_n hx hb dX0_append_178 rfl (lv_at hl 0 rfl) ?_
    refine lv_dup hx hb dX0_append_179 rfl ?_
    refine va_get (D := (dC, dI)) (ci := 0) (v := .int (nI sg.1)) (C := RX0) (T := TX0) (N := 15) hx hb hts hinX0 hown hK hP 0 rfl rfl 1 (by decide) (hts (.fieldLink RX0 23 "SlotFiller$Block" "size" "I") (by decide +kernel)) (fun _ h9 => h9) rfl dX0_append_180 ?_
    refine lv_iconst (v := 1) hx hb dX0_append_183 (by decide) ?_
    refine lv_iadd hx hb dX0_append_184 ?_
    refine top_i (y := nI (sg.1 + 1)) (nI_1 _) ?_
    refine va_put (D := (dC, dI)) (ci := 0) (v := .int (nI (sg.1 + 1))) (ty := .int) (C := RX0) (T := TX0) (N := 15) hx hb hts hinX0 tyX0 tyX0_ok nmX0 hown hK hP hD hS 0 rfl rfl 1 (by decide) (hts (.fieldLink RX0 23 "SlotFiller$Block" "size" "I") (by decide +kernel)) (fun _ h9 => h9) rfl (by decide +kernel) rfl rfl (by decide) dX0_append_185 (fun H locs hP hD hS => ?_)
    have hP : va_P (dC, dI) vwCl (wB cI cJ cZ ba (sg.1 + 1) (upB (upB (upB (upB (upB (upB (upB (upB (upB sg.2.1 2 (upd (sg.2.1 2) (sg.1) (w))) 3 (upd (sg.2.1 3) (sg.1) ((fX4_kindOf f)))) 4 (upd (sg.2.1 4) (sg.1) ((fX4_has f 8388608)))) 7 (upd (sg.2.1 7) (sg.1) ((fX7_readsFractions w f)))) 8 (upd (sg.2.1 8) (sg.1) ((fX7_writesFractions w f)))) 9 (upd (sg.2.1 9) (sg.1) ((fX3_s w)))) 10 (upd (sg.2.1 10) (sg.1) ((fX1_first w)))) 11 (upd (sg.2.1 11) (sg.1) ((((upd (sg.2.1 10) (sg.1) ((fX1_first w))) (sg.1)) + (fX1_many w))))) 12 (upd (sg.2.1 12) (sg.1) ((fX0_lastWriter sg.1 (upB (upB (upB (upB (upB (upB (upB (upB sg.2.1 2 (upd (sg.2.1 2) (sg.1) (w))) 3 (upd (sg.2.1 3) (sg.1) ((fX4_kindOf f)))) 4 (upd (sg.2.1 4) (sg.1) ((fX4_has f 8388608)))) 7 (upd (sg.2.1 7) (sg.1) ((fX7_readsFractions w f)))) 8 (upd (sg.2.1 8) (sg.1) ((fX7_writesFractions w f)))) 9 (upd (sg.2.1 9) (sg.1) ((fX3_s w)))) 10 (upd (sg.2.1 10) (sg.1) ((fX1_first w)))) 11 (upd (sg.2.1 11) (sg.1) ((((upd (sg.2.1 10) (sg.1) ((fX1_first w))) (sg.1)) + (fX1_many w))))) (upBL (upBL sg.2.2 5 (vp_updL (sg.2.2 5) (sg.1) ((fX7_reads w f)))) 6 (vp_updL (sg.2.2 6) (sg.1) ((fX7_writes w f)))) (fX7_register ((upd (sg.2.1 9) (sg.1) ((fX3_s w))) (sg.1))))))) (upBL (upBL sg.2.2 5 (vp_updL (sg.2.2 5) (sg.1) ((fX7_reads w f)))) 6 (vp_updL (sg.2.2 6) (sg.1) ((fX7_writes w f))))) H := hP
    have hD : va_D A (wB cI cJ cZ ba (sg.1 + 1) (upB (upB (upB (upB (upB (upB (upB (upB (upB sg.2.1 2 (upd (sg.2.1 2) (sg.1) (w))) 3 (upd (sg.2.1 3) (sg.1) ((fX4_kindOf f)))) 4 (upd (sg.2.1 4) (sg.1) ((fX4_has f 8388608)))) 7 (upd (sg.2.1 7) (sg.1) ((fX7_readsFractions w f)))) 8 (upd (sg.2.1 8) (sg.1) ((fX7_writesFractions w f)))) 9 (upd (sg.2.1 9) (sg.1) ((fX3_s w)))) 10 (upd (sg.2.1 10) (sg.1) ((fX1_first w)))) 11 (upd (sg.2.1 11) (sg.1) ((((upd (sg.2.1 10) (sg.1) ((fX1_first w))) (sg.1)) + (fX1_many w))))) 12 (upd (sg.2.1 12) (sg.1) ((fX0_lastWriter sg.1 (upB (upB (upB (upB (upB (upB (upB (upB sg.2.1 2 (upd (sg.2.1 2) (sg.1) (w))) 3 (upd (sg.2.1 3) (sg.1) ((fX4_kindOf f)))) 4 (upd (sg.2.1 4) (sg.1) ((fX4_has f 8388608)))) 7 (upd (sg.2.1 7) (sg.1) ((fX7_readsFractions w f)))) 8 (upd (sg.2.1 8) (sg.1) ((fX7_writesFractions w f)))) 9 (upd (sg.2.1 9) (sg.1) ((fX3_s w)))) 10 (upd (sg.2.1 10) (sg.1) ((fX1_first w)))) 11 (upd (sg.2.1 11) (sg.1) ((((upd (sg.2.1 10) (sg.1) ((fX1_first w))) (sg.1)) + (fX1_many w))))) (upBL (upBL sg.2.2 5 (vp_updL (sg.2.2 5) (sg.1) ((fX7_reads w f)))) 6 (vp_updL (sg.2.2 6) (sg.1) ((fX7_writes w f)))) (fX7_register ((upd (sg.2.1 9) (sg.1) ((fX3_s w))) (sg.1))))))) (upBL (upBL sg.2.2 5 (vp_updL (sg.2.2 5) (sg.1) ((fX7_reads w f)))) 6 (vp_updL (sg.2.2 6) (sg.1) ((fX7_writes w f))))) := hD
    have e9 : ((sg.1 + 1), (upB (upB (upB (upB (upB (upB (upB (upB (upB sg.2.1 2 (upd (sg.2.1 2) (sg.1) (w))) 3 (upd (sg.2.1 3) (sg.1) ((fX4_kindOf f)))) 4 (upd (sg.2.1 4) (sg.1) ((fX4_has f 8388608)))) 7 (upd (sg.2.1 7) (sg.1) ((fX7_readsFractions w f)))) 8 (upd (sg.2.1 8) (sg.1) ((fX7_writesFractions w f)))) 9 (upd (sg.2.1 9) (sg.1) ((fX3_s w)))) 10 (upd (sg.2.1 10) (sg.1) ((fX1_first w)))) 11 (upd (sg.2.1 11) (sg.1) ((((upd (sg.2.1 10) (sg.1) ((fX1_first w))) (sg.1)) + (fX1_many w))))) 12 (upd (sg.2.1 12) (sg.1) ((fX0_lastWriter sg.1 (upB (upB (upB (upB (upB (upB (upB (upB sg.2.1 2 (upd (sg.2.1 2) (sg.1) (w))) 3 (upd (sg.2.1 3) (sg.1) ((fX4_kindOf f)))) 4 (upd (sg.2.1 4) (sg.1) ((fX4_has f 8388608)))) 7 (upd (sg.2.1 7) (sg.1) ((fX7_readsFractions w f)))) 8 (upd (sg.2.1 8) (sg.1) ((fX7_writesFractions w f)))) 9 (upd (sg.2.1 9) (sg.1) ((fX3_s w)))) 10 (upd (sg.2.1 10) (sg.1) ((fX1_first w)))) 11 (upd (sg.2.1 11) (sg.1) ((((upd (sg.2.1 10) (sg.1) ((fX1_first w))) (sg.1)) + (fX1_many w))))) (upBL (upBL sg.2.2 5 (vp_updL (sg.2.2 5) (sg.1) ((fX7_reads w f)))) 6 (vp_updL (sg.2.2 6) (sg.1) ((fX7_writes w f)))) (fX7_register ((upd (sg.2.1 9) (sg.1) ((fX3_s w))) (sg.1))))))), (upBL (upBL sg.2.2 5 (vp_updL (sg.2.2 5) (sg.1) ((fX7_reads w f)))) 6 (vp_updL (sg.2.2 6) (sg.1) ((fX7_writes w f))))) = (fX0_append w f sg) := ((show ((sg.1 + 1), (upB (upB (upB (upB (upB (upB (upB (upB (upB sg.2.1 2 (upd (sg.2.1 2) (sg.1) (w))) 3 (upd (sg.2.1 3) (sg.1) ((fX4_kindOf f)))) 4 (upd (sg.2.1 4) (sg.1) ((fX4_has f 8388608)))) 7 (upd (sg.2.1 7) (sg.1) ((fX7_readsFractions w f)))) 8 (upd (sg.2.1 8) (sg.1) ((fX7_writesFractions w f)))) 9 (upd (sg.2.1 9) (sg.1) ((fX3_s w)))) 10 (upd (sg.2.1 10) (sg.1) ((fX1_first w)))) 11 (upd (sg.2.1 11) (sg.1) ((((upd (sg.2.1 10) (sg.1) ((fX1_first w))) (sg.1)) + (fX1_many w))))) 12 (upd (sg.2.1 12) (sg.1) ((fX0_lastWriter sg.1 (upB (upB (upB (upB (upB (upB (upB (upB sg.2.1 2 (upd (sg.2.1 2) (sg.1) (w))) 3 (upd (sg.2.1 3) (sg.1) ((fX4_kindOf f)))) 4 (upd (sg.2.1 4) (sg.1) ((fX4_has f 8388608)))) 7 (upd (sg.2.1 7) (sg.1) ((fX7_readsFractions w f)))) 8 (upd (sg.2.1 8) (sg.1) ((fX7_writesFractions w f)))) 9 (upd (sg.2.1 9) (sg.1) ((fX3_s w)))) 10 (upd (sg.2.1 10) (sg.1) ((fX1_first w)))) 11 (upd (sg.2.1 11) (sg.1) ((((upd (sg.2.1 10) (sg.1) ((fX1_first w))) (sg.1)) + (fX1_many w))))) (upBL (upBL sg.2.2 5 (vp_updL (sg.2.2 5) (sg.1) ((fX7_reads w f)))) 6 (vp_updL (sg.2.2 6) (sg.1) ((fX7_writes w f)))) (fX7_register ((upd (sg.2.1 9) (sg.1) ((fX3_s w))) (sg.1))))))), (upBL (upBL sg.2.2 5 (vp_updL (sg.2.2 5) (sg.1) ((fX7_reads w f)))) 6 (vp_updL (sg.2.2 6) (sg.1) ((fX7_writes w f))))) = (fX0_append w f sg) by unfold fX0_append; rw [if_pos c_1]).trans hv)
    have hP : va_P (dC, dI) vwCl (wB cI cJ cZ ba ((fX0_append w f sg).1) ((fX0_append w f sg).2.1) ((fX0_append w f sg).2.2)) H := by rw [← e9]; exact hP
    have hD : va_D A (wB cI cJ cZ ba ((fX0_append w f sg).1) ((fX0_append w f sg).2.1) ((fX0_append w f sg).2.2)) := by rw [← e9]; exact hD
    exact W.vret hx hb hr (fun t ht hW => ⟨⟨(), rfl, trivial, by rw [ht]; exact hP, hD⟩, hS.F ht⟩) hS.2.2 dX0_append_188
  · have e9 : sg = (fX0_append w f sg) := ((show sg = (fX0_append w f sg) by unfold fX0_append; rw [if_neg c_1]).trans hv)
    have hP : va_P (dC, dI) vwCl (wB cI cJ cZ ba ((fX0_append w f sg).1) ((fX0_append w f sg).2.1) ((fX0_append w f sg).2.2)) s.heap := by rw [← e9]; exact hP
    have hD : va_D A (wB cI cJ cZ ba ((fX0_append w f sg).1) ((fX0_append w f sg).2.1) ((fX0_append w f sg).2.2)) := by rw [← e9]; exact hD
    exact W.vret hx hb hr (fun t ht hW => ⟨⟨(), rfl, trivial, by rw [ht]; exact hP, hD⟩, hS.F ht⟩) hS.2.2 dX0_append_9
