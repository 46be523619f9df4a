/-! ===== the reference's face ===== -/
theorem in9 {x : Int32} (h0 : ¬ x < 0) (h1 : ¬ 6 < x) : vp_in x 9 := by
  rw [vp_in_iff]
  rw [Int32.lt_iff_toInt_lt] at h0 h1
  have e0 : (0 : Int32).toInt = 0 := rfl
  have e6 : (6 : Int32).toInt = 6 := rfl
  omega
theorem in_lt {x : Int32} {n N : Nat} (h0 : ¬ x < 0) (h1 : x < nI n) (hn : n ≤ N) (hN : N < 2 ^ 31) : vp_in x N := by
  rw [vp_in_iff]
  rw [Int32.lt_iff_toInt_lt] at h0 h1
  rw [nI_toInt (by omega)] at h1
  have e0 : (0 : Int32).toInt = 0 := rfl
  omega
theorem in_ge {x : Int32} {n N : Nat} (h0 : ¬ x < 0) (h1 : ¬ nI n ≤ x) (hn : n ≤ N) (hN : N < 2 ^ 31) : vp_in x N := in_lt h0 (Int32.not_le.mp h1) hn hN
theorem nI_sub2 {n : Nat} (h : ¬ nI n ≤ 1) (hn : n ≤ 41) : 1 < n ∧ nI n - 1 = nI (n - 1) ∧ nI n - 2 = nI (n - 2) := by
  have h1 : 1 < n := by
    apply Nat.not_le.mp
    intro q
    exact h ((nI_leI (b := 1) (by omega) (by omega)).mpr q)
  exact ⟨h1, nI_sub1 (by omega), pk_sub (b := 2) (by omega)⟩
def fX9_fail (x : Int32) (sg : XS) : Int32 × XS := (0, (x, sg.2.1, sg.2.2.1, sg.2.2.2.1, sg.2.2.2.2.1, sg.2.2.2.2.2.1, sg.2.2.2.2.2.2.1, sg.2.2.2.2.2.2.2))
set_option maxHeartbeats 4000000 in
set_option maxRecDepth 100000 in
theorem kX9_fail (l : Launch) (dC : Nat → ClassId) (dI : Nat → Nat → Nat) (cI cJ cZ : ClassId) (ma : Nat → Nat) (sz : Nat) (x : Int32) (sg : XS) : Met l yX9_fail wsX9_fail ({ frames := 0, cells := 0, slots := 0, locals := 0 }) (md_Pc (dC, dI) (wX cI cJ cZ ma sg) (tyA cI cJ cZ) [.ref (ma 0), .int (x)] sz) (md_Qi (fX9_fail x sg).1 (dC, dI) (wX cI cJ cZ ma ((fX9_fail x sg).2)) (va_A (wX cI cJ cZ ma sg) sz)) 0 0 (va_A (wX cI cJ cZ ma sg) sz) := by
  refine Met.ofW (cc := cX9_fail) (maxL := 2) (ret := (some .int)) (by decide) rfl ?_
  intro p e s m args below meth c s₁ B0 hml hv
  obtain ⟨rfl, hsz, hP, hK, hD0⟩ := hv
  have hx := B0.exec
  have hb := B0.bytes
  have hr := B0.returns
  have hts := atoms_spec (ws := wsX9_fail) B0.pre
  have hown : s.vm.findClass RX9 = some m.cls := findClass_of_methodNamed B0.named
  have hlocks := B0.notSynchronized
  have hinX9 : ∀ w ∈ wsX90, w ∈ wsX9_fail := fun w h => List.mem_cons_of_mem _ (List.mem_append_right _ (h))
  subst hsz
  have hD := hD0.self (sz := s.heap.size)
  generalize hAe : va_A (wX cI cJ cZ ma sg) s.heap.size = A at hD ⊢
  have hA : ∀ q : Nat, s.heap.size ≤ q → A q := fun q h => by rw [← hAe]; exact Or.inr h
  have hS : va_S A s.heap s.heap [] := va_S.rf
  have hl := lv_entry ([.ref (ma 0), .int (x)]) (n := 2) (Nat.le_of_ble_eq_true rfl)
  rw [lg_entry_eq]
  generalize (lg_sl ([.ref (ma 0), .int (x)]) ++ List.replicate (2 - (lg_sl ([.ref (ma 0), .int (x)])).length) Slot.unset).toArray = ls at hl ⊢
  have hl : lv_has ls 2 [(0, .ref (ma 0)), (1, .int (x))] := hl
  have hv : (fX9_fail x sg) = (fX9_fail x sg) := rfl
  refine lv_aload_n hx hb dX9_fail_0 rfl (lv_at hl 0 rfl) ?_
  refine lv_iload_n hx hb dX9_fail_1 rfl (lv_at hl 1 rfl) ?_
  refine va_put (D := (dC, dI)) (ci := 4) (v := .int (x)) (ty := .int) (C := RX9) (T := TX9) (N := 26) hx hb hts hinX9 tyX9 tyX9_ok nmX9 hown hK hP hD hS 0 rfl rfl 0 (by decide) (hts (.fieldLink RX9 54 "SlotFillerModel" "thrown" "I") (by decide +kernel)) (fun _ h9 => h9) rfl (by decide +kernel) rfl rfl (Nat.le_of_ble_eq_true rfl) dX9_fail_2 (fun H locs hP hD hS => ?_)
  have hP : va_P (dC, dI) vwCl [((ma 0), .inr (4, [.int (x), .ref (ma 1), .int (nI sg.2.1), .int (sg.2.2.1), .ref (ma 4), .ref (ma 5), .ref (ma 6), .ref (ma 7), .ref (ma 8), .ref (ma 9), .ref (ma 10), .int (nI sg.2.2.2.1), .int (sg.2.2.2.2.1), .ref (ma 13), .ref (ma 14), .int (sg.2.2.2.2.2.1.1), .int (sg.2.2.2.2.2.1.2.1), .int (sg.2.2.2.2.2.1.2.2.1), .int (sg.2.2.2.2.2.1.2.2.2.1), .long (sg.2.2.2.2.2.1.2.2.2.2.1), .long (sg.2.2.2.2.2.1.2.2.2.2.2.1), .int (sg.2.2.2.2.2.1.2.2.2.2.2.2), .ref (ma 22), .ref (ma 23), .ref (ma 24), .ref (ma 25)])), ((ma 1), .inl (cI, 9, .inl (sg.2.2.2.2.2.2.1 1))), ((ma 4), .inl (cI, 40, .inl (sg.2.2.2.2.2.2.1 4))), ((ma 5), .inl (cI, 40, .inl (sg.2.2.2.2.2.2.1 5))), ((ma 6), .inl (cI, 40, .inl (sg.2.2.2.2.2.2.1 6))), ((ma 7), .inl (cI, 40, .inl (sg.2.2.2.2.2.2.1 7))), ((ma 8), .inl (cJ, 40, .inr (.inl (sg.2.2.2.2.2.2.2 8)))), ((ma 9), .inl (cJ, 40, .inr (.inl (sg.2.2.2.2.2.2.2 9)))), ((ma 10), .inl (cZ, 40, .inl (sg.2.2.2.2.2.2.1 10))), ((ma 13), .inl (cI, 41, .inl (sg.2.2.2.2.2.2.1 13))), ((ma 14), .inl (cI, 41, .inl (sg.2.2.2.2.2.2.1 14))), ((ma 22), .inl (cI, 40, .inl (sg.2.2.2.2.2.2.1 22))), ((ma 23), .inl (cI, 41, .inl (sg.2.2.2.2.2.2.1 23))), ((ma 24), .inl (cI, 40, .inl (sg.2.2.2.2.2.2.1 24))), ((ma 25), .inl (cI, 41, .inl (sg.2.2.2.2.2.2.1 25)))] H := hP
  have hD : va_D A [((ma 0), .inr (4, [.int (x), .ref (ma 1), .int (nI sg.2.1), .int (sg.2.2.1), .ref (ma 4), .ref (ma 5), .ref (ma 6), .ref (ma 7), .ref (ma 8), .ref (ma 9), .ref (ma 10), .int (nI sg.2.2.2.1), .int (sg.2.2.2.2.1), .ref (ma 13), .ref (ma 14), .int (sg.2.2.2.2.2.1.1), .int (sg.2.2.2.2.2.1.2.1), .int (sg.2.2.2.2.2.1.2.2.1), .int (sg.2.2.2.2.2.1.2.2.2.1), .long (sg.2.2.2.2.2.1.2.2.2.2.1), .long (sg.2.2.2.2.2.1.2.2.2.2.2.1), .int (sg.2.2.2.2.2.1.2.2.2.2.2.2), .ref (ma 22), .ref (ma 23), .ref (ma 24), .ref (ma 25)])), ((ma 1), .inl (cI, 9, .inl (sg.2.2.2.2.2.2.1 1))), ((ma 4), .inl (cI, 40, .inl (sg.2.2.2.2.2.2.1 4))), ((ma 5), .inl (cI, 40, .inl (sg.2.2.2.2.2.2.1 5))), ((ma 6), .inl (cI, 40, .inl (sg.2.2.2.2.2.2.1 6))), ((ma 7), .inl (cI, 40, .inl (sg.2.2.2.2.2.2.1 7))), ((ma 8), .inl (cJ, 40, .inr (.inl (sg.2.2.2.2.2.2.2 8)))), ((ma 9), .inl (cJ, 40, .inr (.inl (sg.2.2.2.2.2.2.2 9)))), ((ma 10), .inl (cZ, 40, .inl (sg.2.2.2.2.2.2.1 10))), ((ma 13), .inl (cI, 41, .inl (sg.2.2.2.2.2.2.1 13))), ((ma 14), .inl (cI, 41, .inl (sg.2.2.2.2.2.2.1 14))), ((ma 22), .inl (cI, 40, .inl (sg.2.2.2.2.2.2.1 22))), ((ma 23), .inl (cI, 41, .inl (sg.2.2.2.2.2.2.1 23))), ((ma 24), .inl (cI, 40, .inl (sg.2.2.2.2.2.2.1 24))), ((ma 25), .inl (cI, 41, .inl (sg.2.2.2.2.2.2.1 25)))] := hD
  refine lv_iconst (v := 0) hx hb dX9_fail_5 (by decide) ?_
  have e7 : (0, (x, sg.2.1, sg.2.2.1, sg.2.2.2.1, sg.2.2.2.2.1, sg.2.2.2.2.2.1, sg.2.2.2.2.2.2.1, sg.2.2.2.2.2.2.2)) = (fX9_fail x sg) := ((show (0, (x, sg.2.1, sg.2.2.1, sg.2.2.2.1, sg.2.2.2.2.1, sg.2.2.2.2.2.1, sg.2.2.2.2.2.2.1, sg.2.2.2.2.2.2.2)) = (fX9_fail x sg) by unfold fX9_fail; rfl).trans hv)
  have hP : va_P (dC, dI) vwCl (wX cI cJ cZ ma ((fX9_fail x sg).2)) H := by rw [← e7]; exact hP
  have hD : va_D A (wX cI cJ cZ ma ((fX9_fail x sg).2)) := by rw [← e7]; exact hD
  have e8 : 0 = (fX9_fail x sg).1 := by rw [← e7]
  exact W.iret (v := 0) hx hb hr (fun t ht hW => ⟨⟨_, (), rfl, e8, by rw [ht]; exact hP, hD⟩, hS.F ht⟩) hS.2.2 dX9_fail_6
def fX9_cycles  (sg : XS) : Int32 × XS := (sg.2.2.2.2.1, (0, sg.2.1, sg.2.2.1, sg.2.2.2.1, sg.2.2.2.2.1, sg.2.2.2.2.2.1, sg.2.2.2.2.2.2.1, sg.2.2.2.2.2.2.2))
set_option maxHeartbeats 4000000 in
set_option maxRecDepth 100000 in
theorem kX9_cycles (l : Launch) (dC : Nat → ClassId) (dI : Nat → Nat → Nat) (cI cJ cZ : ClassId) (ma : Nat → Nat) (sz : Nat)  (sg : XS) : Met l yX9_cycles wsX9_cycles ({ frames := 0, cells := 0, slots := 0, locals := 0 }) (md_Pc (dC, dI) (wX cI cJ cZ ma sg) (tyA cI cJ cZ) [.ref (ma 0)] sz) (md_Qi (fX9_cycles  sg).1 (dC, dI) (wX cI cJ cZ ma ((fX9_cycles  sg).2)) (va_A (wX cI cJ cZ ma sg) sz)) 0 0 (va_A (wX cI cJ cZ ma sg) sz) := by
  refine Met.ofW (cc := cX9_cycles) (maxL := 1) (ret := (some .int)) (by decide) rfl ?_
  intro p e s m args below meth c s₁ B0 hml hv
  obtain ⟨rfl, hsz, hP, hK, hD0⟩ := hv
  have hx := B0.exec
  have hb := B0.bytes
  have hr := B0.returns
  have hts := atoms_spec (ws := wsX9_cycles) B0.pre
  have hown : s.vm.findClass RX9 = some m.cls := findClass_of_methodNamed B0.named
  have hlocks := B0.notSynchronized
  have hinX9 : ∀ w ∈ wsX90, w ∈ wsX9_cycles := fun w h => List.mem_cons_of_mem _ (List.mem_append_right _ (h))
  subst hsz
  have hD := hD0.self (sz := s.heap.size)
  generalize hAe : va_A (wX cI cJ cZ ma sg) s.heap.size = A at hD ⊢
  have hA : ∀ q : Nat, s.heap.size ≤ q → A q := fun q h => by rw [← hAe]; exact Or.inr h
  have hS : va_S A s.heap s.heap [] := va_S.rf
  have hl := lv_entry ([.ref (ma 0)]) (n := 1) (Nat.le_of_ble_eq_true rfl)
  rw [lg_entry_eq]
  generalize (lg_sl ([.ref (ma 0)]) ++ List.replicate (1 - (lg_sl ([.ref (ma 0)])).length) Slot.unset).toArray = ls at hl ⊢
  have hl : lv_has ls 1 [(0, .ref (ma 0))] := hl
  have hv : (fX9_cycles  sg) = (fX9_cycles  sg) := rfl
  refine lv_aload_n hx hb dX9_cycles_0 rfl (lv_at hl 0 rfl) ?_
  refine lv_iconst (v := 0) hx hb dX9_cycles_1 (by decide) ?_
  refine va_put (D := (dC, dI)) (ci := 4) (v := .int (0)) (ty := .int) (C := RX9) (T := TX9) (N := 26) hx hb hts hinX9 tyX9 tyX9_ok nmX9 hown hK hP hD hS 0 rfl rfl 0 (by decide) (hts (.fieldLink RX9 54 "SlotFillerModel" "thrown" "I") (by decide +kernel)) (fun _ h9 => h9) rfl (by decide +kernel) rfl rfl (Nat.le_of_ble_eq_true rfl) dX9_cycles_2 (fun H locs hP hD hS => ?_)
  have hP : va_P (dC, dI) vwCl [((ma 0), .inr (4, [.int (0), .ref (ma 1), .int (nI sg.2.1), .int (sg.2.2.1), .ref (ma 4), .ref (ma 5), .ref (ma 6), .ref (ma 7), .ref (ma 8), .ref (ma 9), .ref (ma 10), .int (nI sg.2.2.2.1), .int (sg.2.2.2.2.1), .ref (ma 13), .ref (ma 14), .int (sg.2.2.2.2.2.1.1), .int (sg.2.2.2.2.2.1.2.1), .int (sg.2.2.2.2.2.1.2.2.1), .int (sg.2.2.2.2.2.1.2.2.2.1), .long (sg.2.2.2.2.2.1.2.2.2.2.1), .long (sg.2.2.2.2.2.1.2.2.2.2.2.1), .int (sg.2.2.2.2.2.1.2.2.2.2.2.2), .ref (ma 22), .ref (ma 23), .ref (ma 24), .ref (ma 25)])), ((ma 1), .inl (cI, 9, .inl (sg.2.2.2.2.2.2.1 1))), ((ma 4), .inl (cI, 40, .inl (sg.2.2.2.2.2.2.1 4))), ((ma 5), .inl (cI, 40, .inl (sg.2.2.2.2.2.2.1 5))), ((ma 6), .inl (cI, 40, .inl (sg.2.2.2.2.2.2.1 6))), ((ma 7), .inl (cI, 40, .inl (sg.2.2.2.2.2.2.1 7))), ((ma 8), .inl (cJ, 40, .inr (.inl (sg.2.2.2.2.2.2.2 8)))), ((ma 9), .inl (cJ, 40, .inr (.inl (sg.2.2.2.2.2.2.2 9)))), ((ma 10), .inl (cZ, 40, .inl (sg.2.2.2.2.2.2.1 10))), ((ma 13), .inl (cI, 41, .inl (sg.2.2.2.2.2.2.1 13))), ((ma 14), .inl (cI, 41, .inl (sg.2.2.2.2.2.2.1 14))), ((ma 22), .inl (cI, 40, .inl (sg.2.2.2.2.2.2.1 22))), ((ma 23), .inl (cI, 41, .inl (sg.2.2.2.2.2.2.1 23))), ((ma 24), .inl (cI, 40, .inl (sg.2.2.2.2.2.2.1 24))), ((ma 25), .inl (cI, 41, .inl (sg.2.2.2.2.2.2.1 25)))] H := hP
  have hD : va_D A [((ma 0), .inr (4, [.int (0), .ref (ma 1), .int (nI sg.2.1), .int (sg.2.2.1), .ref (ma 4), .ref (ma 5), .ref (ma 6), .ref (ma 7), .ref (ma 8), .ref (ma 9), .ref (ma 10), .int (nI sg.2.2.2.1), .int (sg.2.2.2.2.1), .ref (ma 13), .ref (ma 14), .int (sg.2.2.2.2.2.1.1), .int (sg.2.2.2.2.2.1.2.1), .int (sg.2.2.2.2.2.1.2.2.1), .int (sg.2.2.2.2.2.1.2.2.2.1), .long (sg.2.2.2.2.2.1.2.2.2.2.1), .long (sg.2.2.2.2.2.1.2.2.2.2.2.1), .int (sg.2.2.2.2.2.1.2.2.2.2.2.2), .ref (ma 22), .ref (ma 23), .ref (ma 24), .ref (ma 25)])), ((ma 1), .inl (cI, 9, .inl (sg.2.2.2.2.2.2.1 1))), ((ma 4), .inl (cI, 40, .inl (sg.2.2.2.2.2.2.1 4))), ((ma 5), .inl (cI, 40, .inl (sg.2.2.2.2.2.2.1 5))), ((ma 6), .inl (cI, 40, .inl (sg.2.2.2.2.2.2.1 6))), ((ma 7), .inl (cI, 40, .inl (sg.2.2.2.2.2.2.1 7))), ((ma 8), .inl (cJ, 40, .inr (.inl (sg.2.2.2.2.2.2.2 8)))), ((ma 9), .inl (cJ, 40, .inr (.inl (sg.2.2.2.2.2.2.2 9)))), ((ma 10), .inl (cZ, 40, .inl (sg.2.2.2.2.2.2.1 10))), ((ma 13), .inl (cI, 41, .inl (sg.2.2.2.2.2.2.1 13))), ((ma 14), .inl (cI, 41, .inl (sg.2.2.2.2.2.2.1 14))), ((ma 22), .inl (cI, 40, .inl (sg.2.2.2.2.2.2.1 22))), ((ma 23), .inl (cI, 41, .inl (sg.2.2.2.2.2.2.1 23))), ((ma 24), .inl (cI, 40, .inl (sg.2.2.2.2.2.2.1 24))), ((ma 25), .inl (cI, 41, .inl (sg.2.2.2.2.2.2.1 25)))] := hD
  refine lv_aload_n hx hb dX9_cycles_5 rfl (lv_at hl 0 rfl) ?_
  refine va_get (D := (dC, dI)) (ci := 4) (v := .int (sg.2.2.2.2.1)) (C := RX9) (T := TX9) (N := 26) hx hb hts hinX9 hown hK hP 0 rfl rfl 12 (by decide) (hts (.fieldLink RX9 190 "SlotFillerModel" "cycles" "I") (by decide +kernel)) (fun _ h9 => h9) rfl dX9_cycles_6 ?_
  have e7 : (sg.2.2.2.2.1, (0, sg.2.1, sg.2.2.1, sg.2.2.2.1, sg.2.2.2.2.1, sg.2.2.2.2.2.1, sg.2.2.2.2.2.2.1, sg.2.2.2.2.2.2.2)) = (fX9_cycles  sg) := ((show (sg.2.2.2.2.1, (0, sg.2.1, sg.2.2.1, sg.2.2.2.1, sg.2.2.2.2.1, sg.2.2.2.2.2.1, sg.2.2.2.2.2.2.1, sg.2.2.2.2.2.2.2)) = (fX9_cycles  sg) by unfold fX9_cycles; rfl).trans hv)
  have hP : va_P (dC, dI) vwCl (wX cI cJ cZ ma ((fX9_cycles  sg).2)) H := by rw [← e7]; exact hP
  have hD : va_D A (wX cI cJ cZ ma ((fX9_cycles  sg).2)) := by rw [← e7]; exact hD
  have e8 : sg.2.2.2.2.1 = (fX9_cycles  sg).1 := by rw [← e7]
  exact W.iret (v := sg.2.2.2.2.1) hx hb hr (fun t ht hW => ⟨⟨_, (), rfl, e8, by rw [ht]; exact hP, hD⟩, hS.F ht⟩) hS.2.2 dX9_cycles_9
def fX9_thrown (t0 : XS) : Int32 := t0.1
set_option maxHeartbeats 4000000 in
set_option maxRecDepth 100000 in
theorem kX9_thrown (l : Launch) (dC : Nat → ClassId) (dI : Nat → Nat → Nat) (cI cJ cZ : ClassId) (ma : Nat → Nat) (t0 : XS) (sz : Nat)  : Met l yX9_thrown wsX9_thrown ({ frames := 0, cells := 0, slots := 0, locals := 0 }) (ro_Pc (dC, dI) (wX cI cJ cZ ma t0) (tyA cI cJ cZ) [.ref (ma 0)] sz) (ro_Qi (fX9_thrown t0) sz) 0 0 (ro sz) := by
  refine Met.ofW (cc := cX9_thrown) (maxL := 1) (ret := (some .int)) (by decide) rfl ?_
  intro p e s m args below meth c s₁ B0 hml hv
  obtain ⟨rfl, hsz, hP, hK⟩ := hv
  have hx := B0.exec
  have hb := B0.bytes
  have hr := B0.returns
  have hts := atoms_spec (ws := wsX9_thrown) B0.pre
  have hown : s.vm.findClass RX9 = some m.cls := findClass_of_methodNamed B0.named
  have hlocks := B0.notSynchronized
  have hinX9 : ∀ w ∈ wsX90, w ∈ wsX9_thrown := fun w h => List.mem_cons_of_mem _ (List.mem_append_right _ (h))
  subst hsz
  have hA : ∀ q : Nat, s.heap.size ≤ q → ro s.heap.size q := fun _ h => h
  have hS : va_S (ro s.heap.size) s.heap s.heap [] := va_S.rf
  have hl := lv_entry ([.ref (ma 0)]) (n := 1) (Nat.le_of_ble_eq_true rfl)
  rw [lg_entry_eq]
  generalize (lg_sl ([.ref (ma 0)]) ++ List.replicate (1 - (lg_sl ([.ref (ma 0)])).length) Slot.unset).toArray = ls at hl ⊢
  have hl : lv_has ls 1 [(0, .ref (ma 0))] := hl
  have hv : (fX9_thrown t0) = (fX9_thrown t0) := rfl
  refine lv_aload_n hx hb dX9_thrown_0 rfl (lv_at hl 0 rfl) ?_
  refine va_get (D := (dC, dI)) (ci := 4) (v := .int (t0.1)) (C := RX9) (T := TX9) (N := 26) hx hb hts hinX9 hown hK hP 0 rfl rfl 0 (by decide) (hts (.fieldLink RX9 54 "SlotFillerModel" "thrown" "I") (by decide +kernel)) (fun _ h9 => h9) rfl dX9_thrown_1 ?_
  exact W.iret (v := t0.1) hx hb hr (fun t ht hW => ⟨⟨_, (), rfl, ((show t0.1 = (fX9_thrown t0) by unfold fX9_thrown; rfl).trans hv), trivial⟩, hS.F ht⟩) hS.2.2 dX9_thrown_4
def fX9_latency (x : Int32) (y : Int32) (sg : XS) : Int32 × XS := if x < 0 then ((fX9_fail 1 (0, sg.2.1, sg.2.2.1, sg.2.2.2.1, sg.2.2.2.2.1, sg.2.2.2.2.2.1, sg.2.2.2.2.2.2.1, sg.2.2.2.2.2.2.2)).1, ((fX9_fail 1 (0, sg.2.1, sg.2.2.1, sg.2.2.2.1, sg.2.2.2.2.1, sg.2.2.2.2.2.1, sg.2.2.2.2.2.2.1, sg.2.2.2.2.2.2.2)).2)) else if 6 < x then ((fX9_fail 1 (0, sg.2.1, sg.2.2.1, sg.2.2.2.1, sg.2.2.2.2.1, sg.2.2.2.2.2.1, sg.2.2.2.2.2.2.1, sg.2.2.2.2.2.2.2)).1, ((fX9_fail 1 (0, sg.2.1, sg.2.2.1, sg.2.2.2.1, sg.2.2.2.2.1, sg.2.2.2.2.2.1, sg.2.2.2.2.2.2.1, sg.2.2.2.2.2.2.2)).2)) else if y < 1 then ((fX9_fail 1 (0, sg.2.1, sg.2.2.1, sg.2.2.2.1, sg.2.2.2.2.1, sg.2.2.2.2.2.1, sg.2.2.2.2.2.2.1, sg.2.2.2.2.2.2.2)).1, ((fX9_fail 1 (0, sg.2.1, sg.2.2.1, sg.2.2.2.1, sg.2.2.2.2.1, sg.2.2.2.2.2.1, sg.2.2.2.2.2.2.1, sg.2.2.2.2.2.2.2)).2)) else if y ≤ 40 then (((sg.2.2.2.2.2.2.1 1) (x).toNatClampNeg), (0, sg.2.1, sg.2.2.1, sg.2.2.2.1, sg.2.2.2.2.1, sg.2.2.2.2.2.1, (upB sg.2.2.2.2.2.2.1 1 (upd (sg.2.2.2.2.2.2.1 1) (x).toNatClampNeg (y))), sg.2.2.2.2.2.2.2)) else ((fX9_fail 1 (0, sg.2.1, sg.2.2.1, sg.2.2.2.1, sg.2.2.2.2.1, sg.2.2.2.2.2.1, sg.2.2.2.2.2.2.1, sg.2.2.2.2.2.2.2)).1, ((fX9_fail 1 (0, sg.2.1, sg.2.2.1, sg.2.2.2.1, sg.2.2.2.2.1, sg.2.2.2.2.2.1, sg.2.2.2.2.2.2.1, sg.2.2.2.2.2.2.2)).2))
set_option maxHeartbeats 4000000 in
set_option maxRecDepth 100000 in
theorem kX9_latency (l : Launch) (dC : Nat → ClassId) (dI : Nat → Nat → Nat) (cI cJ cZ : ClassId) (ma : Nat → Nat) (sz : Nat) (x y : Int32) (sg : XS) : Met l yX9_latency wsX9_latency ({ frames := 1, cells := 0, slots := 0, locals := 21 }) (md_Pc (dC, dI) (wX cI cJ cZ ma sg) (tyA cI cJ cZ) [.ref (ma 0), .int (x), .int (y)] sz) (md_Qi (fX9_latency x y sg).1 (dC, dI) (wX cI cJ cZ ma ((fX9_latency x y sg).2)) (va_A (wX cI cJ cZ ma sg) sz)) 0 0 (va_A (wX cI cJ cZ ma sg) sz) := by
  refine Met.ofW (cc := cX9_latency) (maxL := 4) (ret := (some .int)) (by decide) rfl ?_
  intro p e s m args below meth c s₁ B0 hml hv
  obtain ⟨rfl, hsz, hP, hK, hD0⟩ := hv
  have hx := B0.exec
  have hb := B0.bytes
  have hr := B0.returns
  have hts := atoms_spec (ws := wsX9_latency) B0.pre
  have hown : s.vm.findClass RX9 = some m.cls := findClass_of_methodNamed B0.named
  have hlocks := B0.notSynchronized
  have hinX9 : ∀ w ∈ wsX90, w ∈ wsX9_latency := fun w h => List.mem_cons_of_mem _ (List.mem_append_right _ (h))
  subst hsz
  have hD := hD0.self (sz := s.heap.size)
  generalize hAe : va_A (wX cI cJ cZ ma sg) s.heap.size = A at hD ⊢
  have hA : ∀ q : Nat, s.heap.size ≤ q → A q := fun q h => by rw [← hAe]; exact Or.inr h
  have hS : va_S A s.heap s.heap [] := va_S.rf
  have hl := lv_entry ([.ref (ma 0), .int (x), .int (y)]) (n := 4) (Nat.le_of_ble_eq_true rfl)
  rw [lg_entry_eq]
  generalize (lg_sl ([.ref (ma 0), .int (x), .int (y)]) ++ List.replicate (4 - (lg_sl ([.ref (ma 0), .int (x), .int (y)])).length) Slot.unset).toArray = ls at hl ⊢
  have hl : lv_has ls 4 [(0, .ref (ma 0)), (1, .int (x)), (2, .int (y))] := hl
  have hv : (fX9_latency x y sg) = (fX9_latency x y sg) := rfl
  refine lv_aload_n hx hb dX9_latency_0 rfl (lv_at hl 0 rfl) ?_
  refine lv_iconst (v := 0) hx hb dX9_latency_1 (by decide) ?_
  refine va_put (D := (dC, dI)) (ci := 4) (v := .int (0)) (ty := .int) (C := RX9) (T := TX9) (N := 26) hx hb hts hinX9 tyX9 tyX9_ok nmX9 hown hK hP hD hS 0 rfl rfl 0 (by decide) (hts (.fieldLink RX9 54 "SlotFillerModel" "thrown" "I") (by decide +kernel)) (fun _ h9 => h9) rfl (by decide +kernel) rfl rfl (Nat.le_of_ble_eq_true rfl) dX9_latency_2 (fun H locs hP hD hS => ?_)
  have hP : va_P (dC, dI) vwCl [((ma 0), .inr (4, [.int (0), .ref (ma 1), .int (nI sg.2.1), .int (sg.2.2.1), .ref (ma 4), .ref (ma 5), .ref (ma 6), .ref (ma 7), .ref (ma 8), .ref (ma 9), .ref (ma 10), .int (nI sg.2.2.2.1), .int (sg.2.2.2.2.1), .ref (ma 13), .ref (ma 14), .int (sg.2.2.2.2.2.1.1), .int (sg.2.2.2.2.2.1.2.1), .int (sg.2.2.2.2.2.1.2.2.1), .int (sg.2.2.2.2.2.1.2.2.2.1), .long (sg.2.2.2.2.2.1.2.2.2.2.1), .long (sg.2.2.2.2.2.1.2.2.2.2.2.1), .int (sg.2.2.2.2.2.1.2.2.2.2.2.2), .ref (ma 22), .ref (ma 23), .ref (ma 24), .ref (ma 25)])), ((ma 1), .inl (cI, 9, .inl (sg.2.2.2.2.2.2.1 1))), ((ma 4), .inl (cI, 40, .inl (sg.2.2.2.2.2.2.1 4))), ((ma 5), .inl (cI, 40, .inl (sg.2.2.2.2.2.2.1 5))), ((ma 6), .inl (cI, 40, .inl (sg.2.2.2.2.2.2.1 6))), ((ma 7), .inl (cI, 40, .inl (sg.2.2.2.2.2.2.1 7))), ((ma 8), .inl (cJ, 40, .inr (.inl (sg.2.2.2.2.2.2.2 8)))), ((ma 9), .inl (cJ, 40, .inr (.inl (sg.2.2.2.2.2.2.2 9)))), ((ma 10), .inl (cZ, 40, .inl (sg.2.2.2.2.2.2.1 10))), ((ma 13), .inl (cI, 41, .inl (sg.2.2.2.2.2.2.1 13))), ((ma 14), .inl (cI, 41, .inl (sg.2.2.2.2.2.2.1 14))), ((ma 22), .inl (cI, 40, .inl (sg.2.2.2.2.2.2.1 22))), ((ma 23), .inl (cI, 41, .inl (sg.2.2.2.2.2.2.1 23))), ((ma 24), .inl (cI, 40, .inl (sg.2.2.2.2.2.2.1 24))), ((ma 25), .inl (cI, 41, .inl (sg.2.2.2.2.2.2.1 25)))] H := hP
  have hD : va_D A [((ma 0), .inr (4, [.int (0), .ref (ma 1), .int (nI sg.2.1), .int (sg.2.2.1), .ref (ma 4), .ref (ma 5), .ref (ma 6), .ref (ma 7), .ref (ma 8), .ref (ma 9), .ref (ma 10), .int (nI sg.2.2.2.1), .int (sg.2.2.2.2.1), .ref (ma 13), .ref (ma 14), .int (sg.2.2.2.2.2.1.1), .int (sg.2.2.2.2.2.1.2.1), .int (sg.2.2.2.2.2.1.2.2.1), .int (sg.2.2.2.2.2.1.2.2.2.1), .long (sg.2.2.2.2.2.1.2.2.2.2.1), .long (sg.2.2.2.2.2.1.2.2.2.2.2.1), .int (sg.2.2.2.2.2.1.2.2.2.2.2.2), .ref (ma 22), .ref (ma 23), .ref (ma 24), .ref (ma 25)])), ((ma 1), .inl (cI, 9, .inl (sg.2.2.2.2.2.2.1 1))), ((ma 4), .inl (cI, 40, .inl (sg.2.2.2.2.2.2.1 4))), ((ma 5), .inl (cI, 40, .inl (sg.2.2.2.2.2.2.1 5))), ((ma 6), .inl (cI, 40, .inl (sg.2.2.2.2.2.2.1 6))), ((ma 7), .inl (cI, 40, .inl (sg.2.2.2.2.2.2.1 7))), ((ma 8), .inl (cJ, 40, .inr (.inl (sg.2.2.2.2.2.2.2 8)))), ((ma 9), .inl (cJ, 40, .inr (.inl (sg.2.2.2.2.2.2.2 9)))), ((ma 10), .inl (cZ, 40, .inl (sg.2.2.2.2.2.2.1 10))), ((ma 13), .inl (cI, 41, .inl (sg.2.2.2.2.2.2.1 13))), ((ma 14), .inl (cI, 41, .inl (sg.2.2.2.2.2.2.1 14))), ((ma 22), .inl (cI, 40, .inl (sg.2.2.2.2.2.2.1 22))), ((ma 23), .inl (cI, 41, .inl (sg.2.2.2.2.2.2.1 23))), ((ma 24), .inl (cI, 40, .inl (sg.2.2.2.2.2.2.1 24))), ((ma 25), .inl (cI, 41, .inl (sg.2.2.2.2.2.2.1 25)))] := hD
  refine lv_iload_n hx hb dX9_latency_5 rfl (lv_at hl 1 rfl) ?_
  refine lv_if_lt (tgt := 26) hx hb dX9_latency_6 (by decide) (fun c_1 => ?_) (fun c_1 => ?_)
  · refine lv_aload_n hx hb dX9_latency_26 rfl (lv_at hl 0 rfl) ?_
    refine lv_iconst (v := 1) hx hb dX9_latency_27 (by decide) ?_
    refine md_calli (wr := []) (va_runV (As := [.int (1)]) (rest := []) ⟨hx, hb, hml, hown, hts⟩ (kX9_fail l dC dI cI cJ cZ ma H.size 1 (0, sg.2.1, sg.2.2.1, sg.2.2.2.1, sg.2.2.2.2.1, sg.2.2.2.2.2.1, sg.2.2.2.2.2.2.1, sg.2.2.2.2.2.2.2)) (cwV 1 hts gX9_latency_X9_fail rfl rfl rfl (by decide +kernel) ⟨Nat.le_of_ble_eq_true rfl, Nat.le_of_ble_eq_true rfl⟩) (md_preV 0 4 (q := (RX9, TX9, 26)) rfl rfl hP hK hD) rfl rfl hl.1 rfl (lv_room (Nat.le_of_ble_eq_true rfl)) dX9_latency_28 ⟨Nat.zero_le _, Nat.zero_le _⟩) hS hA hP hD [0, 1, 2, 3, 4, 5, 6, 7, 8, 9, 10, 11, 12, 13, 14] [] rfl rfl (by decide) (by decide) (fun H locs hP hD hS => ?_)
    have hP : va_P (dC, dI) vwCl (wX cI cJ cZ ma ((fX9_fail 1 (0, sg.2.1, sg.2.2.1, sg.2.2.2.1, sg.2.2.2.2.1, sg.2.2.2.2.2.1, sg.2.2.2.2.2.2.1, sg.2.2.2.2.2.2.2)).2)) H := hP
    have hD : va_D A (wX cI cJ cZ ma ((fX9_fail 1 (0, sg.2.1, sg.2.2.1, sg.2.2.2.1, sg.2.2.2.2.1, sg.2.2.2.2.2.1, sg.2.2.2.2.2.2.1, sg.2.2.2.2.2.2.2)).2)) := hD
    have e7 : ((fX9_fail 1 (0, sg.2.1, sg.2.2.1, sg.2.2.2.1, sg.2.2.2.2.1, sg.2.2.2.2.2.1, sg.2.2.2.2.2.2.1, sg.2.2.2.2.2.2.2)).1, ((fX9_fail 1 (0, sg.2.1, sg.2.2.1, sg.2.2.2.1, sg.2.2.2.2.1, sg.2.2.2.2.2.1, sg.2.2.2.2.2.2.1, sg.2.2.2.2.2.2.2)).2)) = (fX9_latency x y sg) := ((show ((fX9_fail 1 (0, sg.2.1, sg.2.2.1, sg.2.2.2.1, sg.2.2.2.2.1, sg.2.2.2.2.2.1, sg.2.2.2.2.2.2.1, sg.2.2.2.2.2.2.2)).1, ((fX9_fail 1 (0, sg.2.1, sg.2.2.1, sg.2.2.2.1, sg.2.2.2.2.1, sg.2.2.2.2.2.1, sg.2.2.2.2.2.2.1, sg.2.2.2.2.2.2.2)).2)) = (fX9_latency x y sg) by unfold fX9_latency; rw [if_pos c_1]).trans hv)
    have hP : va_P (dC, dI) vwCl (wX cI cJ cZ ma ((fX9_latency x y sg).2)) H := by rw [← e7]; exact hP
    have hD : va_D A (wX cI cJ cZ ma ((fX9_latency x y sg).2)) := by rw [← e7]; exact hD
    have e8 : (fX9_fail 1 (0, sg.2.1, sg.2.2.1, sg.2.2.2.1, sg.2.2.2.2.1, sg.2.2.2.2.2.1, sg.2.2.2.2.2.2.1, sg.2.2.2.2.2.2.2)).1 = (fX9_latency x y sg).1 := by rw [← e7]
    exact W.iret (v := (fX9_fail 1 (0, sg.2.1, sg.2.2.1, sg.2.2.2.1, sg.2.2.2.2.1, sg.2.2.2.2.2.1, sg.2.2.2.2.2.2.1, sg.2.2.2.2.2.2.2)).1) hx hb hr (fun t ht hW => ⟨⟨_, (), rfl, e8, by rw [ht]; exact hP, hD⟩, hS.F ht⟩) hS.2.2 dX9_latency_31
  · refine lv_iload_n hx hb dX9_latency_9 rfl (lv_at hl 1 rfl) ?_
    refine lv_bipush (v := 6) hx hb dX9_latency_10 (by decide) ?_
    refine lv_icmp_gt (tgt := 26) hx hb dX9_latency_12 (by decide) (fun c_2 => ?_) (fun c_2 => ?_)
    · refine lv_aload_n hx hb dX9_latency_26 rfl (lv_at hl 0 rfl) ?_
      refine lv_iconst (v := 1) hx hb dX9_latency_27 (by decide) ?_
      refine md_calli (wr := []) (va_runV (As := [.int (1)]) (rest := []) ⟨hx, hb, hml, hown, hts⟩ (kX9_fail l dC dI cI cJ cZ ma H.size 1 (0, sg.2.1, sg.2.2.1, sg.2.2.2.1, sg.2.2.2.2.1, sg.2.2.2.2.2.1, sg.2.2.2.2.2.2.1, sg.2.2.2.2.2.2.2)) (cwV 1 hts gX9_latency_X9_fail rfl rfl rfl (by decide +kernel) ⟨Nat.le_of_ble_eq_true rfl, Nat.le_of_ble_eq_true rfl⟩) (md_preV 0 4 (q := (RX9, TX9, 26)) rfl rfl hP hK hD) rfl rfl hl.1 rfl (lv_room (Nat.le_of_ble_eq_true rfl)) dX9_latency_28 ⟨Nat.zero_le _, Nat.zero_le _⟩) hS hA hP hD [0, 1, 2, 3, 4, 5, 6, 7, 8, 9, 10, 11, 12, 13, 14] [] rfl rfl (by decide) (by decide) (fun H locs hP hD hS => ?_)
      have hP : va_P (dC, dI) vwCl (wX cI cJ cZ ma ((fX9_fail 1 (0, sg.2.1, sg.2.2.1, sg.2.2.2.1, sg.2.2.2.2.1, sg.2.2.2.2.2.1, sg.2.2.2.2.2.2.1, sg.2.2.2.2.2.2.2)).2)) H := hP
      have hD : va_D A (wX cI cJ cZ ma ((fX9_fail 1 (0, sg.2.1, sg.2.2.1, sg.2.2.2.1, sg.2.2.2.2.1, sg.2.2.2.2.2.1, sg.2.2.2.2.2.2.1, sg.2.2.2.2.2.2.2)).2)) := hD
      have e7 : ((fX9_fail 1 (0, sg.2.1, sg.2.2.1, sg.2.2.2.1, sg.2.2.2.2.1, sg.2.2.2.2.2.1, sg.2.2.2.2.2.2.1, sg.2.2.2.2.2.2.2)).1, ((fX9_fail 1 (0, sg.2.1, sg.2.2.1, sg.2.2.2.1, sg.2.2.2.2.1, sg.2.2.2.2.2.1, sg.2.2.2.2.2.2.1, sg.2.2.2.2.2.2.2)).2)) = (fX9_latency x y sg) := ((show ((fX9_fail 1 (0, sg.2.1, sg.2.2.1, sg.2.2.2.1, sg.2.2.2.2.1, sg.2.2.2.2.2.1, sg.2.2.2.2.2.2.1, sg.2.2.2.2.2.2.2)).1, ((fX9_fail 1 (0, sg.2.1, sg.2.2.1, sg.2.2.2.1, sg.2.2.2.2.1, sg.2.2.2.2.2.1, sg.2.2.2.2.2.2.1, sg.2.2.2.2.2.2.2)).2)) = (fX9_latency x y sg) by unfold fX9_latency; rw [if_neg c_1, if_pos c_2]).trans hv)
      have hP : va_P (dC, dI) vwCl (wX cI cJ cZ ma ((fX9_latency x y sg).2)) H := by rw [← e7]; exact hP
      have hD : va_D A (wX cI cJ cZ ma ((fX9_latency x y sg).2)) := by rw [← e7]; exact hD
      have e8 : (fX9_fail 1 (0, sg.2.1, sg.2.2.1, sg.2.2.2.1, sg.2.2.2.2.1, sg.2.2.2.2.2.1, sg.2.2.2.2.2.2.1, sg.2.2.2.2.2.2.2)).1 = (fX9_latency x y sg).1 := by rw [← e7]
      exact W.iret (v := (fX9_fail 1 (0, sg.2.1, sg.2.2.1, sg.2.2.2.1, sg.2.2.2.2.1, sg.2.2.2.2.2.1, sg.2.2.2.2.2.2.1, sg.2.2.2.2.2.2.2)).1) hx hb hr (fun t ht hW => ⟨⟨_, (), rfl, e8, by rw [ht]; exact hP, hD⟩, hS.F ht⟩) hS.2.2 dX9_latency_31
    · refine lv_iload_n hx hb dX9_latency_15 rfl (lv_at hl 2 rfl) ?_
      refine lv_iconst (v := 1) hx hb dX9_latency_16 (by decide) ?_
      refine lv_icmp_lt (tgt := 26) hx hb dX9_latency_17 (by decide) (fun c_3 => ?_) (fun c_3 => ?_)
      · refine lv_aload_n hx hb dX9_latency_26 rfl (lv_at hl 0 rfl) ?_
        refine lv_iconst (v := 1) hx hb dX9_latency_27 (by decide) ?_
        refine md_calli (wr := []) (va_runV (As := [.int (1)]) (rest := []) ⟨hx, hb, hml, hown, hts⟩ (kX9_fail l dC dI cI cJ cZ ma H.size 1 (0, sg.2.1, sg.2.2.1, sg.2.2.2.1, sg.2.2.2.2.1, sg.2.2.2.2.2.1, sg.2.2.2.2.2.2.1, sg.2.2.2.2.2.2.2)) (cwV 1 hts gX9_latency_X9_fail rfl rfl rfl (by decide +kernel) ⟨Nat.le_of_ble_eq_true rfl, Nat.le_of_ble_eq_true rfl⟩) (md_preV 0 4 (q := (RX9, TX9, 26)) rfl rfl hP hK hD) rfl rfl hl.1 rfl (lv_room (Nat.le_of_ble_eq_true rfl)) dX9_latency_28 ⟨Nat.zero_le _, Nat.zero_le _⟩) hS hA hP hD [0, 1, 2, 3, 4, 5, 6, 7, 8, 9, 10, 11, 12, 13, 14] [] rfl rfl (by decide) (by decide) (fun H locs hP hD hS => ?_)
        have hP : va_P (dC, dI) vwCl (wX cI cJ cZ ma ((fX9_fail 1 (0, sg.2.1, sg.2.2.1, sg.2.2.2.1, sg.2.2.2.2.1, sg.2.2.2.2.2.1, sg.2.2.2.2.2.2.1, sg.2.2.2.2.2.2.2)).2)) H := hP
        have hD : va_D A (wX cI cJ cZ ma ((fX9_fail 1 (0, sg.2.1, sg.2.2.1, sg.2.2.2.1, sg.2.2.2.2.1, sg.2.2.2.2.2.1, sg.2.2.2.2.2.2.1, sg.2.2.2.2.2.2.2)).2)) := hD
        have e7 : ((fX9_fail 1 (0, sg.2.1, sg.2.2.1, sg.2.2.2.1, sg.2.2.2.2.1, sg.2.2.2.2.2.1, sg.2.2.2.2.2.2.1, sg.2.2.2.2.2.2.2)).1, ((fX9_fail 1 (0, sg.2.1, sg.2.2.1, sg.2.2.2.1, sg.2.2.2.2.1, sg.2.2.2.2.2.1, sg.2.2.2.2.2.2.1, sg.2.2.2.2.2.2.2)).2)) = (fX9_latency x y sg) := ((show ((fX9_fail 1 (0, sg.2.1, sg.2.2.1, sg.2.2.2.1, sg.2.2.2.2.1, sg.2.2.2.2.2.1, sg.2.2.2.2.2.2.1, sg.2.2.2.2.2.2.2)).1, ((fX9_fail 1 (0, sg.2.1, sg.2.2.1, sg.2.2.2.1, sg.2.2.2.2.1, sg.2.2.2.2.2.1, sg.2.2.2.2.2.2.1, sg.2.2.2.2.2.2.2)).2)) = (fX9_latency x y sg) by unfold fX9_latency; rw [if_neg c_1, if_neg c_2, if_pos c_3]).trans hv)
        have hP : va_P (dC, dI) vwCl (wX cI cJ cZ ma ((fX9_latency x y sg).2)) H := by rw [← e7]; exact hP
        have hD : va_D A (wX cI cJ cZ ma ((fX9_latency x y sg).2)) := by rw [← e7]; exact hD
        have e8 : (fX9_fail 1 (0, sg.2.1, sg.2.2.1, sg.2.2.2.1, sg.2.2.2.2.1, sg.2.2.2.2.2.1, sg.2.2.2.2.2.2.1, sg.2.2.2.2.2.2.2)).1 = (fX9_latency x y sg).1 := by rw [← e7]
        exact W.iret (v := (fX9_fail 1 (0, sg.2.1, sg.2.2.1, sg.2.2.2.1, sg.2.2.2.2.1, sg.2.2.2.2.2.1, sg.2.2.2.2.2.2.1, sg.2.2.2.2.2.2.2)).1) hx hb hr (fun t ht hW => ⟨⟨_, (), rfl, e8, by rw [ht]; exact hP, hD⟩, hS.F ht⟩) hS.2.2 dX9_latency_31
      · refine lv_iload_n hx hb dX9_latency_20 rfl (lv_at hl 2 rfl) ?_
        refine lv_bipush (v := 40) hx hb dX9_latency_21 (by decide) ?_
        refine lv_icmp_le (tgt := 32) hx hb dX9_latency_23 (by decide) (fun c_4 => ?_) (fun c_4 => ?_)
        · refine lv_aload_n hx hb dX9_latency_32 rfl (lv_at hl 0 rfl) ?_
          refine va_get (D := (dC, dI)) (ci := 4) (v := .ref (ma 1)) (C := RX9) (T := TX9) (N := 26) hx hb hts hinX9 hown hK hP 0 rfl rfl 1 (by decide) (hts (.fieldLink RX9 7 "SlotFillerModel" "latencies" "[I") (by decide +kernel)) (fun _ h9 => h9) rfl dX9_latency_33 ?_
          refine lv_iload_n hx hb dX9_latency_36 rfl (lv_at hl 1 rfl) ?_
          refine va_iald hx hb hK hP 1 0 rfl rfl (in9 c_1 c_2) dX9_latency_37 ?_
          refine lv_istore_n (lv' := [(3, .int (((sg.2.2.2.2.2.2.1 1) (x).toNatClampNeg))), (0, .ref (ma 0)), (1, .int (x)), (2, .int (y))]) hx hb dX9_latency_38 rfl hl (by decide) rfl (fun ls hl => ?_)
          refine lv_aload_n hx hb dX9_latency_39 rfl (lv_at hl 1 rfl) ?_
          refine va_get (D := (dC, dI)) (ci := 4) (v := .ref (ma 1)) (C := RX9) (T := TX9) (N := 26) hx hb hts hinX9 hown hK hP 0 rfl rfl 1 (by decide) (hts (.fieldLink RX9 7 "SlotFillerModel" "latencies" "[I") (by decide +kernel)) (fun _ h9 => h9) rfl dX9_latency_40 ?_
          refine lv_iload_n hx hb dX9_latency_43 rfl (lv_at hl 2 rfl) ?_
          refine lv_iload_n hx hb dX9_latency_44 rfl (lv_at hl 3 rfl) ?_
          refine va_iast hx hb hK hP hD hS 1 0 rfl rfl (in9 c_1 c_2) dX9_latency_45 (fun H locs hP hD hS => ?_)
          have hP : va_P (dC, dI) vwCl [((ma 0), .inr (4, [.int (0), .ref (ma 1), .int (nI sg.2.1), .int (sg.2.2.1), .ref (ma 4), .ref (ma 5), .ref (ma 6), .ref (ma 7), .ref (ma 8), .ref (ma 9), .ref (ma 10), .int (nI sg.2.2.2.1), .int (sg.2.2.2.2.1), .ref (ma 13), .ref (ma 14), .int (sg.2.2.2.2.2.1.1), .int (sg.2.2.2.2.2.1.2.1), .int (sg.2.2.2.2.2.1.2.2.1), .int (sg.2.2.2.2.2.1.2.2.2.1), .long (sg.2.2.2.2.2.1.2.2.2.2.1), .long (sg.2.2.2.2.2.1.2.2.2.2.2.1), .int (sg.2.2.2.2.2.1.2.2.2.2.2.2), .ref (ma 22), .ref (ma 23), .ref (ma 24), .ref (ma 25)])), ((ma 1), .inl (cI, 9, .inl (upd (sg.2.2.2.2.2.2.1 1) (x).toNatClampNeg (y)))), ((ma 4), .inl (cI, 40, .inl (sg.2.2.2.2.2.2.1 4))), ((ma 5), .inl (cI, 40, .inl (sg.2.2.2.2.2.2.1 5))), ((ma 6), .inl (cI, 40, .inl (sg.2.2.2.2.2.2.1 6))), ((ma 7), .inl (cI, 40, .inl (sg.2.2.2.2.2.2.1 7))), ((ma 8), .inl (cJ, 40, .inr (.inl (sg.2.2.2.2.2.2.2 8)))), ((ma 9), .inl (cJ, 40, .inr (.inl (sg.2.2.2.2.2.2.2 9)))), ((ma 10), .inl (cZ, 40, .inl (sg.2.2.2.2.2.2.1 10))), ((ma 13), .inl (cI, 41, .inl (sg.2.2.2.2.2.2.1 13))), ((ma 14), .inl (cI, 41, .inl (sg.2.2.2.2.2.2.1 14))), ((ma 22), .inl (cI, 40, .inl (sg.2.2.2.2.2.2.1 22))), ((ma 23), .inl (cI, 41, .inl (sg.2.2.2.2.2.2.1 23))), ((ma 24), .inl (cI, 40, .inl (sg.2.2.2.2.2.2.1 24))), ((ma 25), .inl (cI, 41, .inl (sg.2.2.2.2.2.2.1 25)))] H := hP
          have hD : va_D A [((ma 0), .inr (4, [.int (0), .ref (ma 1), .int (nI sg.2.1), .int (sg.2.2.1), .ref (ma 4), .ref (ma 5), .ref (ma 6), .ref (ma 7), .ref (ma 8), .ref (ma 9), .ref (ma 10), .int (nI sg.2.2.2.1), .int (sg.2.2.2.2.1), .ref (ma 13), .ref (ma 14), .int (sg.2.2.2.2.2.1.1), .int (sg.2.2.2.2.2.1.2.1), .int (sg.2.2.2.2.2.1.2.2.1), .int (sg.2.2.2.2.2.1.2.2.2.1), .long (sg.2.2.2.2.2.1.2.2.2.2.1), .long (sg.2.2.2.2.2.1.2.2.2.2.2.1), .int (sg.2.2.2.2.2.1.2.2.2.2.2.2), .ref (ma 22), .ref (ma 23), .ref (ma 24), .ref (ma 25)])), ((ma 1), .inl (cI, 9, .inl (upd (sg.2.2.2.2.2.2.1 1) (x).toNatClampNeg (y)))), ((ma 4), .inl (cI, 40, .inl (sg.2.2.2.2.2.2.1 4))), ((ma 5), .inl (cI, 40, .inl (sg.2.2.2.2.2.2.1 5))), ((ma 6), .inl (cI, 40, .inl (sg.2.2.2.2.2.2.1 6))), ((ma 7), .inl (cI, 40, .inl (sg.2.2.2.2.2.2.1 7))), ((ma 8), .inl (cJ, 40, .inr (.inl (sg.2.2.2.2.2.2.2 8)))), ((ma 9), .inl (cJ, 40, .inr (.inl (sg.2.2.2.2.2.2.2 9)))), ((ma 10), .inl (cZ, 40, .inl (sg.2.2.2.2.2.2.1 10))), ((ma 13), .inl (cI, 41, .inl (sg.2.2.2.2.2.2.1 13))), ((ma 14), .inl (cI, 41, .inl (sg.2.2.2.2.2.2.1 14))), ((ma 22), .inl (cI, 40, .inl (sg.2.2.2.2.2.2.1 22))), ((ma 23), .inl (cI, 41, .inl (sg.2.2.2.2.2.2.1 23))), ((ma 24), .inl (cI, 40, .inl (sg.2.2.2.2.2.2.1 24))), ((ma 25), .inl (cI, 41, .inl (sg.2.2.2.2.2.2.1 25)))] := hD
          refine lv_iload_n hx hb dX9_latency_46 rfl (lv_at hl 0 rfl) ?_
          have e7 : (((sg.2.2.2.2.2.2.1 1) (x).toNatClampNeg), (0, sg.2.1, sg.2.2.1, sg.2.2.2.1, sg.2.2.2.2.1, sg.2.2.2.2.2.1, (upB sg.2.2.2.2.2.2.1 1 (upd (sg.2.2.2.2.2.2.1 1) (x).toNatClampNeg (y))), sg.2.2.2.2.2.2.2)) = (fX9_latency x y sg) := ((show (((sg.2.2.2.2.2.2.1 1) (x).toNatClampNeg), (0, sg.2.1, sg.2.2.1, sg.2.2.2.1, sg.2.2.2.2.1, sg.2.2.2.2.2.1, (upB sg.2.2.2.2.2.2.1 1 (upd (sg.2.2.2.2.2.2.1 1) (x).toNatClampNeg (y))), sg.2.2.2.2.2.2.2)) = (fX9_latency x y sg) by unfold fX9_latency; rw [if_neg c_1, if_neg c_2, if_neg c_3, if_pos c_4]).trans hv)
          have hP : va_P (dC, dI) vwCl (wX cI cJ cZ ma ((fX9_latency x y sg).2)) H := by rw [← e7]; exact hP
          have hD : va_D A (wX cI cJ cZ ma ((fX9_latency x y sg).2)) := by rw [← e7]; exact hD
          have e8 : ((sg.2.2.2.2.2.2.1 1) (x).toNatClampNeg) = (fX9_latency x y sg).1 := by rw [← e7]
          exact W.iret (v := ((sg.2.2.2.2.2.2.1 1) (x).toNatClampNeg)) hx hb hr (fun t ht hW => ⟨⟨_, (), rfl, e8, by rw [ht]; exact hP, hD⟩, hS.F ht⟩) hS.2.2 dX9_latency_47
        · refine lv_aload_n hx hb dX9_latency_26 rfl (lv_at hl 0 rfl) ?_
          refine lv_iconst (v := 1) hx hb dX9_latency_27 (by decide) ?_
          refine md_calli (wr := []) (va_runV (As := [.int (1)]) (rest := []) ⟨hx, hb, hml, hown, hts⟩ (kX9_fail l dC dI cI cJ cZ ma H.size 1 (0, sg.2.1, sg.2.2.1, sg.2.2.2.1, sg.2.2.2.2.1, sg.2.2.2.2.2.1, sg.2.2.2.2.2.2.1, sg.2.2.2.2.2.2.2)) (cwV 1 hts gX9_latency_X9_fail rfl rfl rfl (by decide +kernel) ⟨Nat.le_of_ble_eq_true rfl, Nat.le_of_ble_eq_true rfl⟩) (md_preV 0 4 (q := (RX9, TX9, 26)) rfl rfl hP hK hD) rfl rfl hl.1 rfl (lv_room (Nat.le_of_ble_eq_true rfl)) dX9_latency_28 ⟨Nat.zero_le _, Nat.zero_le _⟩) hS hA hP hD [0, 1, 2, 3, 4, 5, 6, 7, 8, 9, 10, 11, 12, 13, 14] [] rfl rfl (by decide) (by decide) (fun H locs hP hD hS => ?_)
          have hP : va_P (dC, dI) vwCl (wX cI cJ cZ ma ((fX9_fail 1 (0, sg.2.1, sg.2.2.1, sg.2.2.2.1, sg.2.2.2.2.1, sg.2.2.2.2.2.1, sg.2.2.2.2.2.2.1, sg.2.2.2.2.2.2.2)).2)) H := hP
          have hD : va_D A (wX cI cJ cZ ma ((fX9_fail 1 (0, sg.2.1, sg.2.2.1, sg.2.2.2.1, sg.2.2.2.2.1, sg.2.2.2.2.2.1, sg.2.2.2.2.2.2.1, sg.2.2.2.2.2.2.2)).2)) := hD
          have e7 : ((fX9_fail 1 (0, sg.2.1, sg.2.2.1, sg.2.2.2.1, sg.2.2.2.2.1, sg.2.2.2.2.2.1, sg.2.2.2.2.2.2.1, sg.2.2.2.2.2.2.2)).1, ((fX9_fail 1 (0, sg.2.1, sg.2.2.1, sg.2.2.2.1, sg.2.2.2.2.1, sg.2.2.2.2.2.1, sg.2.2.2.2.2.2.1, sg.2.2.2.2.2.2.2)).2)) = (fX9_latency x y sg) := ((show ((fX9_fail 1 (0, sg.2.1, sg.2.2.1, sg.2.2.2.1, sg.2.2.2.2.1, sg.2.2.2.2.2.1, sg.2.2.2.2.2.2.1, sg.2.2.2.2.2.2.2)).1, ((fX9_fail 1 (0, sg.2.1, sg.2.2.1, sg.2.2.2.1, sg.2.2.2.2.1, sg.2.2.2.2.2.1, sg.2.2.2.2.2.2.1, sg.2.2.2.2.2.2.2)).2)) = (fX9_latency x y sg) by unfold fX9_latency; rw [if_neg c_1, if_neg c_2, if_neg c_3, if_neg c_4]).trans hv)
          have hP : va_P (dC, dI) vwCl (wX cI cJ cZ ma ((fX9_latency x y sg).2)) H := by rw [← e7]; exact hP
          have hD : va_D A (wX cI cJ cZ ma ((fX9_latency x y sg).2)) := by rw [← e7]; exact hD
          have e8 : (fX9_fail 1 (0, sg.2.1, sg.2.2.1, sg.2.2.2.1, sg.2.2.2.2.1, sg.2.2.2.2.2.1, sg.2.2.2.2.2.2.1, sg.2.2.2.2.2.2.2)).1 = (fX9_latency x y sg).1 := by rw [← e7]
          exact W.iret (v := (fX9_fail 1 (0, sg.2.1, sg.2.2.1, sg.2.2.2.1, sg.2.2.2.2.1, sg.2.2.2.2.2.1, sg.2.2.2.2.2.2.1, sg.2.2.2.2.2.2.2)).1) hx hb hr (fun t ht hW => ⟨⟨_, (), rfl, e8, by rw [ht]; exact hP, hD⟩, hS.F ht⟩) hS.2.2 dX9_latency_31
def fX9_word (x : Int32) (sg : XS) : Int32 × XS := if x < 0 then ((fX9_fail 1 (0, sg.2.1, sg.2.2.1, sg.2.2.2.1, sg.2.2.2.2.1, sg.2.2.2.2.2.1, sg.2.2.2.2.2.2.1, sg.2.2.2.2.2.2.2)).1, ((fX9_fail 1 (0, sg.2.1, sg.2.2.1, sg.2.2.2.1, sg.2.2.2.2.1, sg.2.2.2.2.2.1, sg.2.2.2.2.2.2.1, sg.2.2.2.2.2.2.2)).2)) else if x < nI sg.2.2.2.1 then (((sg.2.2.2.2.2.2.1 13) (x).toNatClampNeg), (0, sg.2.1, sg.2.2.1, sg.2.2.2.1, sg.2.2.2.2.1, sg.2.2.2.2.2.1, sg.2.2.2.2.2.2.1, sg.2.2.2.2.2.2.2)) else ((fX9_fail 1 (0, sg.2.1, sg.2.2.1, sg.2.2.2.1, sg.2.2.2.2.1, sg.2.2.2.2.2.1, sg.2.2.2.2.2.2.1, sg.2.2.2.2.2.2.2)).1, ((fX9_fail 1 (0, sg.2.1, sg.2.2.1, sg.2.2.2.1, sg.2.2.2.2.1, sg.2.2.2.2.2.1, sg.2.2.2.2.2.2.1, sg.2.2.2.2.2.2.2)).2))
set_option maxHeartbeats 4000000 in
set_option maxRecDepth 100000 in
theorem kX9_word (l : Launch) (dC : Nat → ClassId) (dI : Nat → Nat → Nat) (cI cJ cZ : ClassId) (ma : Nat → Nat) (sz : Nat) (x : Int32) (sg : XS) (hcm : sg.2.2.2.1 ≤ 41) : Met l yX9_word wsX9_word ({ frames := 1, cells := 0, slots := 0, locals := 21 }) (md_Pc (dC, dI) (wX cI cJ cZ ma sg) (tyA cI cJ cZ) [.ref (ma 0), .int (x)] sz) (md_Qi (fX9_word x sg).1 (dC, dI) (wX cI cJ cZ ma ((fX9_word x sg).2)) (va_A (wX cI cJ cZ ma sg) sz)) 0 0 (va_A (wX cI cJ cZ ma sg) sz) := by
  refine Met.ofW (cc := cX9_word) (maxL := 2) (ret := (some .int)) (by decide) rfl ?_
  intro p e s m args below meth c s₁ B0 hml hv
  obtain ⟨rfl, hsz, hP, hK, hD0⟩ := hv
  have hx := B0.exec
  have hb := B0.bytes
  have hr := B0.returns
  have hts := atoms_spec (ws := wsX9_word) B0.pre
  have hown : s.vm.findClass RX9 = some m.cls := findClass_of_methodNamed B0.named
  have hlocks := B0.notSynchronized
  have hinX9 : ∀ w ∈ wsX90, w ∈ wsX9_word := fun w h => List.mem_cons_of_mem _ (List.mem_append_right _ (h))
  subst hsz
  have hD := hD0.self (sz := s.heap.size)
  generalize hAe : va_A (wX cI cJ cZ ma sg) s.heap.size = A at hD ⊢
  have hA : ∀ q : Nat, s.heap.size ≤ q → A q := fun q h => by rw [← hAe]; exact Or.inr h
  have hS : va_S A s.heap s.heap [] := va_S.rf
  have hl := lv_entry ([.ref (ma 0), .int (x)]) (n := 2) (Nat.le_of_ble_eq_true rfl)
  rw [lg_entry_eq]
  generalize (lg_sl ([.ref (ma 0), .int (x)]) ++ List.replicate (2 - (lg_sl ([.ref (ma 0), .int (x)])).length) Slot.unset).toArray = ls at hl ⊢
  have hl : lv_has ls 2 [(0, .ref (ma 0)), (1, .int (x))] := hl
  have hv : (fX9_word x sg) = (fX9_word x sg) := rfl
  refine lv_aload_n hx hb dX9_word_0 rfl (lv_at hl 0 rfl) ?_
  refine lv_iconst (v := 0) hx hb dX9_word_1 (by decide) ?_
  refine va_put (D := (dC, dI)) (ci := 4) (v := .int (0)) (ty := .int) (C := RX9) (T := TX9) (N := 26) hx hb hts hinX9 tyX9 tyX9_ok nmX9 hown hK hP hD hS 0 rfl rfl 0 (by decide) (hts (.fieldLink RX9 54 "SlotFillerModel" "thrown" "I") (by decide +kernel)) (fun _ h9 => h9) rfl (by decide +kernel) rfl rfl (Nat.le_of_ble_eq_true rfl) dX9_word_2 (fun H locs hP hD hS => ?_)
  have hP : va_P (dC, dI) vwCl [((ma 0), .inr (4, [.int (0), .ref (ma 1), .int (nI sg.2.1), .int (sg.2.2.1), .ref (ma 4), .ref (ma 5), .ref (ma 6), .ref (ma 7), .ref (ma 8), .ref (ma 9), .ref (ma 10), .int (nI sg.2.2.2.1), .int (sg.2.2.2.2.1), .ref (ma 13), .ref (ma 14), .int (sg.2.2.2.2.2.1.1), .int (sg.2.2.2.2.2.1.2.1), .int (sg.2.2.2.2.2.1.2.2.1), .int (sg.2.2.2.2.2.1.2.2.2.1), .long (sg.2.2.2.2.2.1.2.2.2.2.1), .long (sg.2.2.2.2.2.1.2.2.2.2.2.1), .int (sg.2.2.2.2.2.1.2.2.2.2.2.2), .ref (ma 22), .ref (ma 23), .ref (ma 24), .ref (ma 25)])), ((ma 1), .inl (cI, 9, .inl (sg.2.2.2.2.2.2.1 1))), ((ma 4), .inl (cI, 40, .inl (sg.2.2.2.2.2.2.1 4))), ((ma 5), .inl (cI, 40, .inl (sg.2.2.2.2.2.2.1 5))), ((ma 6), .inl (cI, 40, .inl (sg.2.2.2.2.2.2.1 6))), ((ma 7), .inl (cI, 40, .inl (sg.2.2.2.2.2.2.1 7))), ((ma 8), .inl (cJ, 40, .inr (.inl (sg.2.2.2.2.2.2.2 8)))), ((ma 9), .inl (cJ, 40, .inr (.inl (sg.2.2.2.2.2.2.2 9)))), ((ma 10), .inl (cZ, 40, .inl (sg.2.2.2.2.2.2.1 10))), ((ma 13), .inl (cI, 41, .inl (sg.2.2.2.2.2.2.1 13))), ((ma 14), .inl (cI, 41, .inl (sg.2.2.2.2.2.2.1 14))), ((ma 22), .inl (cI, 40, .inl (sg.2.2.2.2.2.2.1 22))), ((ma 23), .inl (cI, 41, .inl (sg.2.2.2.2.2.2.1 23))), ((ma 24), .inl (cI, 40, .inl (sg.2.2.2.2.2.2.1 24))), ((ma 25), .inl (cI, 41, .inl (sg.2.2.2.2.2.2.1 25)))] H := hP
  have hD : va_D A [((ma 0), .inr (4, [.int (0), .ref (ma 1), .int (nI sg.2.1), .int (sg.2.2.1), .ref (ma 4), .ref (ma 5), .ref (ma 6), .ref (ma 7), .ref (ma 8), .ref (ma 9), .ref (ma 10), .int (nI sg.2.2.2.1), .int (sg.2.2.2.2.1), .ref (ma 13), .ref (ma 14), .int (sg.2.2.2.2.2.1.1), .int (sg.2.2.2.2.2.1.2.1), .int (sg.2.2.2.2.2.1.2.2.1), .int (sg.2.2.2.2.2.1.2.2.2.1), .long (sg.2.2.2.2.2.1.2.2.2.2.1), .long (sg.2.2.2.2.2.1.2.2.2.2.2.1), .int (sg.2.2.2.2.2.1.2.2.2.2.2.2), .ref (ma 22), .ref (ma 23), .ref (ma 24), .ref (ma 25)])), ((ma 1), .inl (cI, 9, .inl (sg.2.2.2.2.2.2.1 1))), ((ma 4), .inl (cI, 40, .inl (sg.2.2.2.2.2.2.1 4))), ((ma 5), .inl (cI, 40, .inl (sg.2.2.2.2.2.2.1 5))), ((ma 6), .inl (cI, 40, .inl (sg.2.2.2.2.2.2.1 6))), ((ma 7), .inl (cI, 40, .inl (sg.2.2.2.2.2.2.1 7))), ((ma 8), .inl (cJ, 40, .inr (.inl (sg.2.2.2.2.2.2.2 8)))), ((ma 9), .inl (cJ, 40, .inr (.inl (sg.2.2.2.2.2.2.2 9)))), ((ma 10), .inl (cZ, 40, .inl (sg.2.2.2.2.2.2.1 10))), ((ma 13), .inl (cI, 41, .inl (sg.2.2.2.2.2.2.1 13))), ((ma 14), .inl (cI, 41, .inl (sg.2.2.2.2.2.2.1 14))), ((ma 22), .inl (cI, 40, .inl (sg.2.2.2.2.2.2.1 22))), ((ma 23), .inl (cI, 41, .inl (sg.2.2.2.2.2.2.1 23))), ((ma 24), .inl (cI, 40, .inl (sg.2.2.2.2.2.2.1 24))), ((ma 25), .inl (cI, 41, .inl (sg.2.2.2.2.2.2.1 25)))] := hD
  refine lv_iload_n hx hb dX9_word_5 rfl (lv_at hl 1 rfl) ?_
  refine lv_if_lt (tgt := 17) hx hb dX9_word_6 (by decide) (fun c_1 => ?_) (fun c_1 => ?_)
  · refine lv_aload_n hx hb dX9_word_17 rfl (lv_at hl 0 rfl) ?_
    refine lv_iconst (v := 1) hx hb dX9_word_18 (by decide) ?_
    refine md_calli (wr := []) (va_runV (As := [.int (1)]) (rest := []) ⟨hx, hb, hml, hown, hts⟩ (kX9_fail l dC dI cI cJ cZ ma H.size 1 (0, sg.2.1, sg.2.2.1, sg.2.2.2.1, sg.2.2.2.2.1, sg.2.2.2.2.2.1, sg.2.2.2.2.2.2.1, sg.2.2.2.2.2.2.2)) (cwV 1 hts gX9_word_X9_fail rfl rfl rfl (by decide +kernel) ⟨Nat.le_of_ble_eq_true rfl, Nat.le_of_ble_eq_true rfl⟩) (md_preV 0 4 (q := (RX9, TX9, 26)) rfl rfl hP hK hD) rfl rfl hl.1 rfl (lv_room (Nat.le_of_ble_eq_true rfl)) dX9_word_19 ⟨Nat.zero_le _, Nat.zero_le _⟩) hS hA hP hD [0, 1, 2, 3, 4, 5, 6, 7, 8, 9, 10, 11, 12, 13, 14] [] rfl rfl (by decide) (by decide) (fun H locs hP hD hS => ?_)
    have hP : va_P (dC, dI) vwCl (wX cI cJ cZ ma ((fX9_fail 1 (0, sg.2.1, sg.2.2.1, sg.2.2.2.1, sg.2.2.2.2.1, sg.2.2.2.2.2.1, sg.2.2.2.2.2.2.1, sg.2.2.2.2.2.2.2)).2)) H := hP
    have hD : va_D A (wX cI cJ cZ ma ((fX9_fail 1 (0, sg.2.1, sg.2.2.1, sg.2.2.2.1, sg.2.2.2.2.1, sg.2.2.2.2.2.1, sg.2.2.2.2.2.2.1, sg.2.2.2.2.2.2.2)).2)) := hD
    refine lv_goto (tgt := 31) hx hb dX9_word_22 (by decide) ?_
    have e7 : ((fX9_fail 1 (0, sg.2.1, sg.2.2.1, sg.2.2.2.1, sg.2.2.2.2.1, sg.2.2.2.2.2.1, sg.2.2.2.2.2.2.1, sg.2.2.2.2.2.2.2)).1, ((fX9_fail 1 (0, sg.2.1, sg.2.2.1, sg.2.2.2.1, sg.2.2.2.2.1, sg.2.2.2.2.2.1, sg.2.2.2.2.2.2.1, sg.2.2.2.2.2.2.2)).2)) = (fX9_word x sg) := ((show ((fX9_fail 1 (0, sg.2.1, sg.2.2.1, sg.2.2.2.1, sg.2.2.2.2.1, sg.2.2.2.2.2.1, sg.2.2.2.2.2.2.1, sg.2.2.2.2.2.2.2)).1, ((fX9_fail 1 (0, sg.2.1, sg.2.2.1, sg.2.2.2.1, sg.2.2.2.2.1, sg.2.2.2.2.2.1, sg.2.2.2.2.2.2.1, sg.2.2.2.2.2.2.2)).2)) = (fX9_word x sg) by unfold fX9_word; rw [if_pos c_1]).trans hv)
    have hP : va_P (dC, dI) vwCl (wX cI cJ cZ ma ((fX9_word x sg).2)) H := by rw [← e7]; exact hP
    have hD : va_D A (wX cI cJ cZ ma ((fX9_word x sg).2)) := by rw [← e7]; exact hD
    have e8 : (fX9_fail 1 (0, sg.2.1, sg.2.2.1, sg.2.2.2.1, sg.2.2.2.2.1, sg.2.2.2.2.2.1, sg.2.2.2.2.2.2.1, sg.2.2.2.2.2.2.2)).1 = (fX9_word x sg).1 := by rw [← e7]
    exact W.iret (v := (fX9_fail 1 (0, sg.2.1, sg.2.2.1, sg.2.2.2.1, sg.2.2.2.2.1, sg.2.2.2.2.2.1, sg.2.2.2.2.2.2.1, sg.2.2.2.2.2.2.2)).1) hx hb hr (fun t ht hW => ⟨⟨_, (), rfl, e8, by rw [ht]; exact hP, hD⟩, hS.F ht⟩) hS.2.2 dX9_word_31
  · refine lv_iload_n hx hb dX9_word_9 rfl (lv_at hl 1 rfl) ?_
    refine lv_aload_n hx hb dX9_word_10 rfl (lv_at hl 0 rfl) ?_
    refine va_get (D := (dC, dI)) (ci := 4) (v := .int (nI sg.2.2.2.1)) (C := RX9) (T := TX9) (N := 26) hx hb hts hinX9 hown hK hP 0 rfl rfl 11 (by decide) (hts (.fieldLink RX9 181 "SlotFillerModel" "came" "I") (by decide +kernel)) (fun _ h9 => h9) rfl dX9_word_11 ?_
    refine lv_icmp_lt (tgt := 25) hx hb dX9_word_14 (by decide) (fun c_2 => ?_) (fun c_2 => ?_)
    · refine lv_aload_n hx hb dX9_word_25 rfl (lv_at hl 0 rfl) ?_
      refine va_get (D := (dC, dI)) (ci := 4) (v := .ref (ma 13)) (C := RX9) (T := TX9) (N := 26) hx hb hts hinX9 hown hK hP 0 rfl rfl 13 (by decide) (hts (.fieldLink RX9 36 "SlotFillerModel" "out" "[I") (by decide +kernel)) (fun _ h9 => h9) rfl dX9_word_26 ?_
      refine lv_iload_n hx hb dX9_word_29 rfl (lv_at hl 1 rfl) ?_
      refine va_iald hx hb hK hP 9 0 rfl rfl (in_lt c_1 c_2 hcm (by decide)) dX9_word_30 ?_
      have e7 : (((sg.2.2.2.2.2.2.1 13) (x).toNatClampNeg), (0, sg.2.1, sg.2.2.1, sg.2.2.2.1, sg.2.2.2.2.1, sg.2.2.2.2.2.1, sg.2.2.2.2.2.2.1, sg.2.2.2.2.2.2.2)) = (fX9_word x sg) := ((show (((sg.2.2.2.2.2.2.1 13) (x).toNatClampNeg), (0, sg.2.1, sg.2.2.1, sg.2.2.2.1, sg.2.2.2.2.1, sg.2.2.2.2.2.1, sg.2.2.2.2.2.2.1, sg.2.2.2.2.2.2.2)) = (fX9_word x sg) by unfold fX9_word; rw [if_neg c_1, if_pos c_2]).trans hv)
      have hP : va_P (dC, dI) vwCl (wX cI cJ cZ ma ((fX9_word x sg).2)) H := by rw [← e7]; exact hP
      have hD : va_D A (wX cI cJ cZ ma ((fX9_word x sg).2)) := by rw [← e7]; exact hD
      have e8 : ((sg.2.2.2.2.2.2.1 13) (x).toNatClampNeg) = (fX9_word x sg).1 := by rw [← e7]
      exact W.iret (v := ((sg.2.2.2.2.2.2.1 13) (x).toNatClampNeg)) hx hb hr (fun t ht hW => ⟨⟨_, (), rfl, e8, by rw [ht]; exact hP, hD⟩, hS.F ht⟩) hS.2.2 dX9_word_31
    · refine lv_aload_n hx hb dX9_word_17 rfl (lv_at hl 0 rfl) ?_
      refine lv_iconst (v := 1) hx hb dX9_word_18 (by decide) ?_
      refine md_calli (wr := []) (va_runV (As := [.int (1)]) (rest := []) ⟨hx, hb, hml, hown, hts⟩ (kX9_fail l dC dI cI cJ cZ ma H.size 1 (0, sg.2.1, sg.2.2.1, sg.2.2.2.1, sg.2.2.2.2.1, sg.2.2.2.2.2.1, sg.2.2.2.2.2.2.1, sg.2.2.2.2.2.2.2)) (cwV 1 hts gX9_word_X9_fail rfl rfl rfl (by decide +kernel) ⟨Nat.le_of_ble_eq_true rfl, Nat.le_of_ble_eq_true rfl⟩) (md_preV 0 4 (q := (RX9, TX9, 26)) rfl rfl hP hK hD) rfl rfl hl.1 rfl (lv_room (Nat.le_of_ble_eq_true rfl)) dX9_word_19 ⟨Nat.zero_le _, Nat.zero_le _⟩) hS hA hP hD [0, 1, 2, 3, 4, 5, 6, 7, 8, 9, 10, 11, 12, 13, 14] [] rfl rfl (by decide) (by decide) (fun H locs hP hD hS => ?_)
      have hP : va_P (dC, dI) vwCl (wX cI cJ cZ ma ((fX9_fail 1 (0, sg.2.1, sg.2.2.1, sg.2.2.2.1, sg.2.2.2.2.1, sg.2.2.2.2.2.1, sg.2.2.2.2.2.2.1, sg.2.2.2.2.2.2.2)).2)) H := hP
      have hD : va_D A (wX cI cJ cZ ma ((fX9_fail 1 (0, sg.2.1, sg.2.2.1, sg.2.2.2.1, sg.2.2.2.2.1, sg.2.2.2.2.2.1, sg.2.2.2.2.2.2.1, sg.2.2.2.2.2.2.2)).2)) := hD
      refine lv_goto (tgt := 31) hx hb dX9_word_22 (by decide) ?_
      have e7 : ((fX9_fail 1 (0, sg.2.1, sg.2.2.1, sg.2.2.2.1, sg.2.2.2.2.1, sg.2.2.2.2.2.1, sg.2.2.2.2.2.2.1, sg.2.2.2.2.2.2.2)).1, ((fX9_fail 1 (0, sg.2.1, sg.2.2.1, sg.2.2.2.1, sg.2.2.2.2.1, sg.2.2.2.2.2.1, sg.2.2.2.2.2.2.1, sg.2.2.2.2.2.2.2)).2)) = (fX9_word x sg) := ((show ((fX9_fail 1 (0, sg.2.1, sg.2.2.1, sg.2.2.2.1, sg.2.2.2.2.1, sg.2.2.2.2.2.1, sg.2.2.2.2.2.2.1, sg.2.2.2.2.2.2.2)).1, ((fX9_fail 1 (0, sg.2.1, sg.2.2.1, sg.2.2.2.1, sg.2.2.2.2.1, sg.2.2.2.2.2.1, sg.2.2.2.2.2.2.1, sg.2.2.2.2.2.2.2)).2)) = (fX9_word x sg) by unfold fX9_word; rw [if_neg c_1, if_neg c_2]).trans hv)
      have hP : va_P (dC, dI) vwCl (wX cI cJ cZ ma ((fX9_word x sg).2)) H := by rw [← e7]; exact hP
      have hD : va_D A (wX cI cJ cZ ma ((fX9_word x sg).2)) := by rw [← e7]; exact hD
      have e8 : (fX9_fail 1 (0, sg.2.1, sg.2.2.1, sg.2.2.2.1, sg.2.2.2.2.1, sg.2.2.2.2.2.1, sg.2.2.2.2.2.2.1, sg.2.2.2.2.2.2.2)).1 = (fX9_word x sg).1 := by rw [← e7]
      exact W.iret (v := (fX9_fail 1 (0, sg.2.1, sg.2.2.1, sg.2.2.2.1, sg.2.2.2.2.1, sg.2.2.2.2.2.1, sg.2.2.2.2.2.2.1, sg.2.2.2.2.2.2.2)).1) hx hb hr (fun t ht hW => ⟨⟨_, (), rfl, e8, by rw [ht]; exact hP, hD⟩, hS.F ht⟩) hS.2.2 dX9_word_31
def fX9_from (x : Int32) (sg : XS) : Int32 × XS := if x < 0 then ((fX9_fail 1 (0, sg.2.1, sg.2.2.1, sg.2.2.2.1, sg.2.2.2.2.1, sg.2.2.2.2.2.1, sg.2.2.2.2.2.2.1, sg.2.2.2.2.2.2.2)).1, ((fX9_fail 1 (0, sg.2.1, sg.2.2.1, sg.2.2.2.1, sg.2.2.2.2.1, sg.2.2.2.2.2.1, sg.2.2.2.2.2.2.1, sg.2.2.2.2.2.2.2)).2)) else if x < nI sg.2.2.2.1 then (((sg.2.2.2.2.2.2.1 14) (x).toNatClampNeg), (0, sg.2.1, sg.2.2.1, sg.2.2.2.1, sg.2.2.2.2.1, sg.2.2.2.2.2.1, sg.2.2.2.2.2.2.1, sg.2.2.2.2.2.2.2)) else ((fX9_fail 1 (0, sg.2.1, sg.2.2.1, sg.2.2.2.1, sg.2.2.2.2.1, sg.2.2.2.2.2.1, sg.2.2.2.2.2.2.1, sg.2.2.2.2.2.2.2)).1, ((fX9_fail 1 (0, sg.2.1, sg.2.2.1, sg.2.2.2.1, sg.2.2.2.2.1, sg.2.2.2.2.2.1, sg.2.2.2.2.2.2.1, sg.2.2.2.2.2.2.2)).2))
set_option maxHeartbeats 4000000 in
set_option maxRecDepth 100000 in
theorem kX9_from (l : Launch) (dC : Nat → ClassId) (dI : Nat → Nat → Nat) (cI cJ cZ : ClassId) (ma : Nat → Nat) (sz : Nat) (x : Int32) (sg : XS) (hcm : sg.2.2.2.1 ≤ 41) : Met l yX9_from wsX9_from ({ frames := 1, cells := 0, slots := 0, locals := 21 }) (md_Pc (dC, dI) (wX cI cJ cZ ma sg) (tyA cI cJ cZ) [.ref (ma 0), .int (x)] sz) (md_Qi (fX9_from x sg).1 (dC, dI) (wX cI cJ cZ ma ((fX9_from x sg).2)) (va_A (wX cI cJ cZ ma sg) sz)) 0 0 (va_A (wX cI cJ cZ ma sg) sz) := by
  refine Met.ofW (cc := cX9_from) (maxL := 2) (ret := (some .int)) (by decide) rfl ?_
  intro p e s m args below meth c s₁ B0 hml hv
  obtain ⟨rfl, hsz, hP, hK, hD0⟩ := hv
  have hx := B0.exec
  have hb := B0.bytes
  have hr := B0.returns
  have hts := atoms_spec (ws := wsX9_from) B0.pre
  have hown : s.vm.findClass RX9 = some m.cls := findClass_of_methodNamed B0.named
  have hlocks := B0.notSynchronized
  have hinX9 : ∀ w ∈ wsX90, w ∈ wsX9_from := fun w h => List.mem_cons_of_mem _ (List.mem_append_right _ (h))
  subst hsz
  have hD := hD0.self (sz := s.heap.size)
  generalize hAe : va_A (wX cI cJ cZ ma sg) s.heap.size = A at hD ⊢
  have hA : ∀ q : Nat, s.heap.size ≤ q → A q := fun q h => by rw [← hAe]; exact Or.inr h
  have hS : va_S A s.heap s.heap [] := va_S.rf
  have hl := lv_entry ([.ref (ma 0), .int (x)]) (n := 2) (Nat.le_of_ble_eq_true rfl)
  rw [lg_entry_eq]
  generalize (lg_sl ([.ref (ma 0), .int (x)]) ++ List.replicate (2 - (lg_sl ([.ref (ma 0), .int (x)])).length) Slot.unset).toArray = ls at hl ⊢
  have hl : lv_has ls 2 [(0, .ref (ma 0)), (1, .int (x))] := hl
  have hv : (fX9_from x sg) = (fX9_from x sg) := rfl
  refine lv_aload_n hx hb dX9_from_0 rfl (lv_at hl 0 rfl) ?_
  refine lv_iconst (v := 0) hx hb dX9_from_1 (by decide) ?_
  refine va_put (D := (dC, dI)) (ci := 4) (v := .int (0)) (ty := .int) (C := RX9) (T := TX9) (N := 26) hx hb hts hinX9 tyX9 tyX9_ok nmX9 hown hK hP hD hS 0 rfl rfl 0 (by decide) (hts (.fieldLink RX9 54 "SlotFillerModel" "thrown" "I") (by decide +kernel)) (fun _ h9 => h9) rfl (by decide +kernel) rfl rfl (Nat.le_of_ble_eq_true rfl) dX9_from_2 (fun H locs hP hD hS => ?_)
  have hP : va_P (dC, dI) vwCl [((ma 0), .inr (4, [.int (0), .ref (ma 1), .int (nI sg.2.1), .int (sg.2.2.1), .ref (ma 4), .ref (ma 5), .ref (ma 6), .ref (ma 7), .ref (ma 8), .ref (ma 9), .ref (ma 10), .int (nI sg.2.2.2.1), .int (sg.2.2.2.2.1), .ref (ma 13), .ref (ma 14), .int (sg.2.2.2.2.2.1.1), .int (sg.2.2.2.2.2.1.2.1), .int (sg.2.2.2.2.2.1.2.2.1), .int (sg.2.2.2.2.2.1.2.2.2.1), .long (sg.2.2.2.2.2.1.2.2.2.2.1), .long (sg.2.2.2.2.2.1.2.2.2.2.2.1), .int (sg.2.2.2.2.2.1.2.2.2.2.2.2), .ref (ma 22), .ref (ma 23), .ref (ma 24), .ref (ma 25)])), ((ma 1), .inl (cI, 9, .inl (sg.2.2.2.2.2.2.1 1))), ((ma 4), .inl (cI, 40, .inl (sg.2.2.2.2.2.2.1 4))), ((ma 5), .inl (cI, 40, .inl (sg.2.2.2.2.2.2.1 5))), ((ma 6), .inl (cI, 40, .inl (sg.2.2.2.2.2.2.1 6))), ((ma 7), .inl (cI, 40, .inl (sg.2.2.2.2.2.2.1 7))), ((ma 8), .inl (cJ, 40, .inr (.inl (sg.2.2.2.2.2.2.2 8)))), ((ma 9), .inl (cJ, 40, .inr (.inl (sg.2.2.2.2.2.2.2 9)))), ((ma 10), .inl (cZ, 40, .inl (sg.2.2.2.2.2.2.1 10))), ((ma 13), .inl (cI, 41, .inl (sg.2.2.2.2.2.2.1 13))), ((ma 14), .inl (cI, 41, .inl (sg.2.2.2.2.2.2.1 14))), ((ma 22), .inl (cI, 40, .inl (sg.2.2.2.2.2.2.1 22))), ((ma 23), .inl (cI, 41, .inl (sg.2.2.2.2.2.2.1 23))), ((ma 24), .inl (cI, 40, .inl (sg.2.2.2.2.2.2.1 24))), ((ma 25), .inl (cI, 41, .inl (sg.2.2.2.2.2.2.1 25)))] H := hP
  have hD : va_D A [((ma 0), .inr (4, [.int (0), .ref (ma 1), .int (nI sg.2.1), .int (sg.2.2.1), .ref (ma 4), .ref (ma 5), .ref (ma 6), .ref (ma 7), .ref (ma 8), .ref (ma 9), .ref (ma 10), .int (nI sg.2.2.2.1), .int (sg.2.2.2.2.1), .ref (ma 13), .ref (ma 14), .int (sg.2.2.2.2.2.1.1), .int (sg.2.2.2.2.2.1.2.1), .int (sg.2.2.2.2.2.1.2.2.1), .int (sg.2.2.2.2.2.1.2.2.2.1), .long (sg.2.2.2.2.2.1.2.2.2.2.1), .long (sg.2.2.2.2.2.1.2.2.2.2.2.1), .int (sg.2.2.2.2.2.1.2.2.2.2.2.2), .ref (ma 22), .ref (ma 23), .ref (ma 24), .ref (ma 25)])), ((ma 1), .inl (cI, 9, .inl (sg.2.2.2.2.2.2.1 1))), ((ma 4), .inl (cI, 40, .inl (sg.2.2.2.2.2.2.1 4))), ((ma 5), .inl (cI, 40, .inl (sg.2.2.2.2.2.2.1 5))), ((ma 6), .inl (cI, 40, .inl (sg.2.2.2.2.2.2.1 6))), ((ma 7), .inl (cI, 40, .inl (sg.2.2.2.2.2.2.1 7))), ((ma 8), .inl (cJ, 40, .inr (.inl (sg.2.2.2.2.2.2.2 8)))), ((ma 9), .inl (cJ, 40, .inr (.inl (sg.2.2.2.2.2.2.2 9)))), ((ma 10), .inl (cZ, 40, .inl (sg.2.2.2.2.2.2.1 10))), ((ma 13), .inl (cI, 41, .inl (sg.2.2.2.2.2.2.1 13))), ((ma 14), .inl (cI, 41, .inl (sg.2.2.2.2.2.2.1 14))), ((ma 22), .inl (cI, 40, .inl (sg.2.2.2.2.2.2.1 22))), ((ma 23), .inl (cI, 41, .inl (sg.2.2.2.2.2.2.1 23))), ((ma 24), .inl (cI, 40, .inl (sg.2.2.2.2.2.2.1 24))), ((ma 25), .inl (cI, 41, .inl (sg.2.2.2.2.2.2.1 25)))] := hD
  refine lv_iload_n hx hb dX9_from_5 rfl (lv_at hl 1 rfl) ?_
  refine lv_if_lt (tgt := 17) hx hb dX9_from_6 (by decide) (fun c_1 => ?_) (fun c_1 => ?_)
  · refine lv_aload_n hx hb dX9_from_17 rfl (lv_at hl 0 rfl) ?_
    refine lv_iconst (v := 1) hx hb dX9_from_18 (by decide) ?_
    refine md_calli (wr := []) (va_runV (As := [.int (1)]) (rest := []) ⟨hx, hb, hml, hown, hts⟩ (kX9_fail l dC dI cI cJ cZ ma H.size 1 (0, sg.2.1, sg.2.2.1, sg.2.2.2.1, sg.2.2.2.2.1, sg.2.2.2.2.2.1, sg.2.2.2.2.2.2.1, sg.2.2.2.2.2.2.2)) (cwV 1 hts gX9_from_X9_fail rfl rfl rfl (by decide +kernel) ⟨Nat.le_of_ble_eq_true rfl, Nat.le_of_ble_eq_true rfl⟩) (md_preV 0 4 (q := (RX9, TX9, 26)) rfl rfl hP hK hD) rfl rfl hl.1 rfl (lv_room (Nat.le_of_ble_eq_true rfl)) dX9_from_19 ⟨Nat.zero_le _, Nat.zero_le _⟩) hS hA hP hD [0, 1, 2, 3, 4, 5, 6, 7, 8, 9, 10, 11, 12, 13, 14] [] rfl rfl (by decide) (by decide) (fun H locs hP hD hS => ?_)
    have hP : va_P (dC, dI) vwCl (wX cI cJ cZ ma ((fX9_fail 1 (0, sg.2.1, sg.2.2.1, sg.2.2.2.1, sg.2.2.2.2.1, sg.2.2.2.2.2.1, sg.2.2.2.2.2.2.1, sg.2.2.2.2.2.2.2)).2)) H := hP
    have hD : va_D A (wX cI cJ cZ ma ((fX9_fail 1 (0, sg.2.1, sg.2.2.1, sg.2.2.2.1, sg.2.2.2.2.1, sg.2.2.2.2.2.1, sg.2.2.2.2.2.2.1, sg.2.2.2.2.2.2.2)).2)) := hD
    refine lv_goto (tgt := 31) hx hb dX9_from_22 (by decide) ?_
    have e7 : ((fX9_fail 1 (0, sg.2.1, sg.2.2.1, sg.2.2.2.1, sg.2.2.2.2.1, sg.2.2.2.2.2.1, sg.2.2.2.2.2.2.1, sg.2.2.2.2.2.2.2)).1, ((fX9_fail 1 (0, sg.2.1, sg.2.2.1, sg.2.2.2.1, sg.2.2.2.2.1, sg.2.2.2.2.2.1, sg.2.2.2.2.2.2.1, sg.2.2.2.2.2.2.2)).2)) = (fX9_from x sg) := ((show ((fX9_fail 1 (0, sg.2.1, sg.2.2.1, sg.2.2.2.1, sg.2.2.2.2.1, sg.2.2.2.2.2.1, sg.2.2.2.2.2.2.1, sg.2.2.2.2.2.2.2)).1, ((fX9_fail 1 (0, sg.2.1, sg.2.2.1, sg.2.2.2.1, sg.2.2.2.2.1, sg.2.2.2.2.2.1, sg.2.2.2.2.2.2.1, sg.2.2.2.2.2.2.2)).2)) = (fX9_from x sg) by unfold fX9_from; rw [if_pos c_1]).trans hv)
    have hP : va_P (dC, dI) vwCl (wX cI cJ cZ ma ((fX9_from x sg).2)) H := by rw [← e7]; exact hP
    have hD : va_D A (wX cI cJ cZ ma ((fX9_from x sg).2)) := by rw [← e7]; exact hD
    have e8 : (fX9_fail 1 (0, sg.2.1, sg.2.2.1, sg.2.2.2.1, sg.2.2.2.2.1, sg.2.2.2.2.2.1, sg.2.2.2.2.2.2.1, sg.2.2.2.2.2.2.2)).1 = (fX9_from x sg).1 := by rw [← e7]
    exact W.iret (v := (fX9_fail 1 (0, sg.2.1, sg.2.2.1, sg.2.2.2.1, sg.2.2.2.2.1, sg.2.2.2.2.2.1, sg.2.2.2.2.2.2.1, sg.2.2.2.2.2.2.2)).1) hx hb hr (fun t ht hW => ⟨⟨_, (), rfl, e8, by rw [ht]; exact hP, hD⟩, hS.F ht⟩) hS.2.2 dX9_from_31
  · refine lv_iload_n hx hb dX9_from_9 rfl (lv_at hl 1 rfl) ?_
    refine lv_aload_n hx hb dX9_from_10 rfl (lv_at hl 0 rfl) ?_
    refine va_get (D := (dC, dI)) (ci := 4) (v := .int (nI sg.2.2.2.1)) (C := RX9) (T := TX9) (N := 26) hx hb hts hinX9 hown hK hP 0 rfl rfl 11 (by decide) (hts (.fieldLink RX9 181 "SlotFillerModel" "came" "I") (by decide +kernel)) (fun _ h9 => h9) rfl dX9_from_11 ?_
    refine lv_icmp_lt (tgt := 25) hx hb dX9_from_14 (by decide) (fun c_2 => ?_) (fun c_2 => ?_)
    · refine lv_aload_n hx hb dX9_from_25 rfl (lv_at hl 0 rfl) ?_
      refine va_get (D := (dC, dI)) (ci := 4) (v := .ref (ma 14)) (C := RX9) (T := TX9) (N := 26) hx hb hts hinX9 hown hK hP 0 rfl rfl 14 (by decide) (hts (.fieldLink RX9 39 "SlotFillerModel" "outFrom" "[I") (by decide +kernel)) (fun _ h9 => h9) rfl dX9_from_26 ?_
      refine lv_iload_n hx hb dX9_from_29 rfl (lv_at hl 1 rfl) ?_
      refine va_iald hx hb hK hP 10 0 rfl rfl (in_lt c_1 c_2 hcm (by decide)) dX9_from_30 ?_
      have e7 : (((sg.2.2.2.2.2.2.1 14) (x).toNatClampNeg), (0, sg.2.1, sg.2.2.1, sg.2.2.2.1, sg.2.2.2.2.1, sg.2.2.2.2.2.1, sg.2.2.2.2.2.2.1, sg.2.2.2.2.2.2.2)) = (fX9_from x sg) := ((show (((sg.2.2.2.2.2.2.1 14) (x).toNatClampNeg), (0, sg.2.1, sg.2.2.1, sg.2.2.2.1, sg.2.2.2.2.1, sg.2.2.2.2.2.1, sg.2.2.2.2.2.2.1, sg.2.2.2.2.2.2.2)) = (fX9_from x sg) by unfold fX9_from; rw [if_neg c_1, if_pos c_2]).trans hv)
      have hP : va_P (dC, dI) vwCl (wX cI cJ cZ ma ((fX9_from x sg).2)) H := by rw [← e7]; exact hP
      have hD : va_D A (wX cI cJ cZ ma ((fX9_from x sg).2)) := by rw [← e7]; exact hD
      have e8 : ((sg.2.2.2.2.2.2.1 14) (x).toNatClampNeg) = (fX9_from x sg).1 := by rw [← e7]
      exact W.iret (v := ((sg.2.2.2.2.2.2.1 14) (x).toNatClampNeg)) hx hb hr (fun t ht hW => ⟨⟨_, (), rfl, e8, by rw [ht]; exact hP, hD⟩, hS.F ht⟩) hS.2.2 dX9_from_31
    · refine lv_aload_n hx hb dX9_from_17 rfl (lv_at hl 0 rfl) ?_
      refine lv_iconst (v := 1) hx hb dX9_from_18 (by decide) ?_
      refine md_calli (wr := []) (va_runV (As := [.int (1)]) (rest := []) ⟨hx, hb, hml, hown, hts⟩ (kX9_fail l dC dI cI cJ cZ ma H.size 1 (0, sg.2.1, sg.2.2.1, sg.2.2.2.1, sg.2.2.2.2.1, sg.2.2.2.2.2.1, sg.2.2.2.2.2.2.1, sg.2.2.2.2.2.2.2)) (cwV 1 hts gX9_from_X9_fail rfl rfl rfl (by decide +kernel) ⟨Nat.le_of_ble_eq_true rfl, Nat.le_of_ble_eq_true rfl⟩) (md_preV 0 4 (q := (RX9, TX9, 26)) rfl rfl hP hK hD) rfl rfl hl.1 rfl (lv_room (Nat.le_of_ble_eq_true rfl)) dX9_from_19 ⟨Nat.zero_le _, Nat.zero_le _⟩) hS hA hP hD [0, 1, 2, 3, 4, 5, 6, 7, 8, 9, 10, 11, 12, 13, 14] [] rfl rfl (by decide) (by decide) (fun H locs hP hD hS => ?_)
      have hP : va_P (dC, dI) vwCl (wX cI cJ cZ ma ((fX9_fail 1 (0, sg.2.1, sg.2.2.1, sg.2.2.2.1, sg.2.2.2.2.1, sg.2.2.2.2.2.1, sg.2.2.2.2.2.2.1, sg.2.2.2.2.2.2.2)).2)) H := hP
      have hD : va_D A (wX cI cJ cZ ma ((fX9_fail 1 (0, sg.2.1, sg.2.2.1, sg.2.2.2.1, sg.2.2.2.2.1, sg.2.2.2.2.2.1, sg.2.2.2.2.2.2.1, sg.2.2.2.2.2.2.2)).2)) := hD
      refine lv_goto (tgt := 31) hx hb dX9_from_22 (by decide) ?_
      have e7 : ((fX9_fail 1 (0, sg.2.1, sg.2.2.1, sg.2.2.2.1, sg.2.2.2.2.1, sg.2.2.2.2.2.1, sg.2.2.2.2.2.2.1, sg.2.2.2.2.2.2.2)).1, ((fX9_fail 1 (0, sg.2.1, sg.2.2.1, sg.2.2.2.1, sg.2.2.2.2.1, sg.2.2.2.2.2.1, sg.2.2.2.2.2.2.1, sg.2.2.2.2.2.2.2)).2)) = (fX9_from x sg) := ((show ((fX9_fail 1 (0, sg.2.1, sg.2.2.1, sg.2.2.2.1, sg.2.2.2.2.1, sg.2.2.2.2.2.1, sg.2.2.2.2.2.2.1, sg.2.2.2.2.2.2.2)).1, ((fX9_fail 1 (0, sg.2.1, sg.2.2.1, sg.2.2.2.1, sg.2.2.2.2.1, sg.2.2.2.2.2.1, sg.2.2.2.2.2.2.1, sg.2.2.2.2.2.2.2)).2)) = (fX9_from x sg) by unfold fX9_from; rw [if_neg c_1, if_neg c_2]).trans hv)
      have hP : va_P (dC, dI) vwCl (wX cI cJ cZ ma ((fX9_from x sg).2)) H := by rw [← e7]; exact hP
      have hD : va_D A (wX cI cJ cZ ma ((fX9_from x sg).2)) := by rw [← e7]; exact hD
      have e8 : (fX9_fail 1 (0, sg.2.1, sg.2.2.1, sg.2.2.2.1, sg.2.2.2.2.1, sg.2.2.2.2.2.1, sg.2.2.2.2.2.2.1, sg.2.2.2.2.2.2.2)).1 = (fX9_from x sg).1 := by rw [← e7]
      exact W.iret (v := (fX9_fail 1 (0, sg.2.1, sg.2.2.1, sg.2.2.2.1, sg.2.2.2.2.1, sg.2.2.2.2.2.1, sg.2.2.2.2.2.2.1, sg.2.2.2.2.2.2.2)).1) hx hb hr (fun t ht hW => ⟨⟨_, (), rfl, e8, by rw [ht]; exact hP, hD⟩, hS.F ht⟩) hS.2.2 dX9_from_31
def fX9_depends (x : Int32) (y : Int32) (sg : XS) : Int32 × XS := if x < 0 then ((fX9_fail 1 (0, sg.2.1, sg.2.2.1, sg.2.2.2.1, sg.2.2.2.2.1, sg.2.2.2.2.2.1, sg.2.2.2.2.2.2.1, sg.2.2.2.2.2.2.2)).1, ((fX9_fail 1 (0, sg.2.1, sg.2.2.1, sg.2.2.2.1, sg.2.2.2.2.1, sg.2.2.2.2.2.1, sg.2.2.2.2.2.2.1, sg.2.2.2.2.2.2.2)).2)) else if nI sg.2.1 ≤ x then ((fX9_fail 1 (0, sg.2.1, sg.2.2.1, sg.2.2.2.1, sg.2.2.2.2.1, sg.2.2.2.2.2.1, sg.2.2.2.2.2.2.1, sg.2.2.2.2.2.2.2)).1, ((fX9_fail 1 (0, sg.2.1, sg.2.2.1, sg.2.2.2.1, sg.2.2.2.2.1, sg.2.2.2.2.2.1, sg.2.2.2.2.2.2.1, sg.2.2.2.2.2.2.2)).2)) else if y < 0 then ((fX9_fail 1 (0, sg.2.1, sg.2.2.1, sg.2.2.2.1, sg.2.2.2.2.1, sg.2.2.2.2.2.1, sg.2.2.2.2.2.2.1, sg.2.2.2.2.2.2.2)).1, ((fX9_fail 1 (0, sg.2.1, sg.2.2.1, sg.2.2.2.1, sg.2.2.2.2.1, sg.2.2.2.2.2.1, sg.2.2.2.2.2.2.1, sg.2.2.2.2.2.2.2)).2)) else if y < nI sg.2.1 then if x ≤ y then ((-1), (0, sg.2.1, sg.2.2.1, sg.2.2.2.1, sg.2.2.2.2.1, sg.2.2.2.2.2.1, sg.2.2.2.2.2.2.1, sg.2.2.2.2.2.2.2)) else ((fX9_after sg.2.2.2.2.2.2.1 sg.2.2.2.2.2.2.2 x.toNatClampNeg y.toNatClampNeg), (0, sg.2.1, sg.2.2.1, sg.2.2.2.1, sg.2.2.2.2.1, sg.2.2.2.2.2.1, sg.2.2.2.2.2.2.1, sg.2.2.2.2.2.2.2)) else ((fX9_fail 1 (0, sg.2.1, sg.2.2.1, sg.2.2.2.1, sg.2.2.2.2.1, sg.2.2.2.2.2.1, sg.2.2.2.2.2.2.1, sg.2.2.2.2.2.2.2)).1, ((fX9_fail 1 (0, sg.2.1, sg.2.2.1, sg.2.2.2.1, sg.2.2.2.2.1, sg.2.2.2.2.2.1, sg.2.2.2.2.2.2.1, sg.2.2.2.2.2.2.2)).2))
set_option maxHeartbeats 4000000 in
set_option maxRecDepth 100000 in
theorem kX9_depends (l : Launch) (dC : Nat → ClassId) (dI : Nat → Nat → Nat) (cI cJ cZ : ClassId) (ma : Nat → Nat) (sz : Nat) (x y : Int32) (sg : XS) (hn : sg.2.1 ≤ 40) (hc0 : okC sg) : Met l yX9_depends wsX9_depends ({ frames := 4, cells := 0, slots := 0, locals := 98 }) (md_Pc (dC, dI) (wX cI cJ cZ ma sg) (tyA cI cJ cZ) [.ref (ma 0), .int (x), .int (y)] sz) (md_Qi (fX9_depends x y sg).1 (dC, dI) (wX cI cJ cZ ma ((fX9_depends x y sg).2)) (va_A (wX cI cJ cZ ma sg) sz)) 0 0 (va_A (wX cI cJ cZ ma sg) sz) := by
  refine Met.ofW (cc := cX9_depends) (maxL := 3) (ret := (some .int)) (by decide) rfl ?_
  intro p e s m args below meth c s₁ B0 hml hv
  obtain ⟨rfl, hsz, hP, hK, hD0⟩ := hv
  have hx := B0.exec
  have hb := B0.bytes
  have hr := B0.returns
  have hts := atoms_spec (ws := wsX9_depends) B0.pre
  have hown : s.vm.findClass RX9 = some m.cls := findClass_of_methodNamed B0.named
  have hlocks := B0.notSynchronized
  have hinX9 : ∀ w ∈ wsX90, w ∈ wsX9_depends := fun w h => List.mem_cons_of_mem _ (List.mem_append_right _ (h))
  subst hsz
  have hD := hD0.self (sz := s.heap.size)
  generalize hAe : va_A (wX cI cJ cZ ma sg) s.heap.size = A at hD ⊢
  have hA : ∀ q : Nat, s.heap.size ≤ q → A q := fun q h => by rw [← hAe]; exact Or.inr h
  have hS : va_S A s.heap s.heap [] := va_S.rf
  have hl := lv_entry ([.ref (ma 0), .int (x), .int (y)]) (n := 3) (Nat.le_of_ble_eq_true rfl)
  rw [lg_entry_eq]
  generalize (lg_sl ([.ref (ma 0), .int (x), .int (y)]) ++ List.replicate (3 - (lg_sl ([.ref (ma 0), .int (x), .int (y)])).length) Slot.unset).toArray = ls at hl ⊢
  have hl : lv_has ls 3 [(0, .ref (ma 0)), (1, .int (x)), (2, .int (y))] := hl
  have hv : (fX9_depends x y sg) = (fX9_depends x y sg) := rfl
  refine lv_aload_n hx hb dX9_depends_0 rfl (lv_at hl 0 rfl) ?_
  refine lv_iconst (v := 0) hx hb dX9_depends_1 (by decide) ?_
  refine va_put (D := (dC, dI)) (ci := 4) (v := .int (0)) (ty := .int) (C := RX9) (T := TX9) (N := 26) hx hb hts hinX9 tyX9 tyX9_ok nmX9 hown hK hP hD hS 0 rfl rfl 0 (by decide) (hts (.fieldLink RX9 54 "SlotFillerModel" "thrown" "I") (by decide +kernel)) (fun _ h9 => h9) rfl (by decide +kernel) rfl rfl (Nat.le_of_ble_eq_true rfl) dX9_depends_2 (fun H locs hP hD hS => ?_)
  have hP : va_P (dC, dI) vwCl [((ma 0), .inr (4, [.int (0), .ref (ma 1), .int (nI sg.2.1), .int (sg.2.2.1), .ref (ma 4), .ref (ma 5), .ref (ma 6), .ref (ma 7), .ref (ma 8), .ref (ma 9), .ref (ma 10), .int (nI sg.2.2.2.1), .int (sg.2.2.2.2.1), .ref (ma 13), .ref (ma 14), .int (sg.2.2.2.2.2.1.1), .int (sg.2.2.2.2.2.1.2.1), .int (sg.2.2.2.2.2.1.2.2.1), .int (sg.2.2.2.2.2.1.2.2.2.1), .long (sg.2.2.2.2.2.1.2.2.2.2.1), .long (sg.2.2.2.2.2.1.2.2.2.2.2.1), .int (sg.2.2.2.2.2.1.2.2.2.2.2.2), .ref (ma 22), .ref (ma 23), .ref (ma 24), .ref (ma 25)])), ((ma 1), .inl (cI, 9, .inl (sg.2.2.2.2.2.2.1 1))), ((ma 4), .inl (cI, 40, .inl (sg.2.2.2.2.2.2.1 4))), ((ma 5), .inl (cI, 40, .inl (sg.2.2.2.2.2.2.1 5))), ((ma 6), .inl (cI, 40, .inl (sg.2.2.2.2.2.2.1 6))), ((ma 7), .inl (cI, 40, .inl (sg.2.2.2.2.2.2.1 7))), ((ma 8), .inl (cJ, 40, .inr (.inl (sg.2.2.2.2.2.2.2 8)))), ((ma 9), .inl (cJ, 40, .inr (.inl (sg.2.2.2.2.2.2.2 9)))), ((ma 10), .inl (cZ, 40, .inl (sg.2.2.2.2.2.2.1 10))), ((ma 13), .inl (cI, 41, .inl (sg.2.2.2.2.2.2.1 13))), ((ma 14), .inl (cI, 41, .inl (sg.2.2.2.2.2.2.1 14))), ((ma 22), .inl (cI, 40, .inl (sg.2.2.2.2.2.2.1 22))), ((ma 23), .inl (cI, 41, .inl (sg.2.2.2.2.2.2.1 23))), ((ma 24), .inl (cI, 40, .inl (sg.2.2.2.2.2.2.1 24))), ((ma 25), .inl (cI, 41, .inl (sg.2.2.2.2.2.2.1 25)))] H := hP
  have hD : va_D A [((ma 0), .inr (4, [.int (0), .ref (ma 1), .int (nI sg.2.1), .int (sg.2.2.1), .ref (ma 4), .ref (ma 5), .ref (ma 6), .ref (ma 7), .ref (ma 8), .ref (ma 9), .ref (ma 10), .int (nI sg.2.2.2.1), .int (sg.2.2.2.2.1), .ref (ma 13), .ref (ma 14), .int (sg.2.2.2.2.2.1.1), .int (sg.2.2.2.2.2.1.2.1), .int (sg.2.2.2.2.2.1.2.2.1), .int (sg.2.2.2.2.2.1.2.2.2.1), .long (sg.2.2.2.2.2.1.2.2.2.2.1), .long (sg.2.2.2.2.2.1.2.2.2.2.2.1), .int (sg.2.2.2.2.2.1.2.2.2.2.2.2), .ref (ma 22), .ref (ma 23), .ref (ma 24), .ref (ma 25)])), ((ma 1), .inl (cI, 9, .inl (sg.2.2.2.2.2.2.1 1))), ((ma 4), .inl (cI, 40, .inl (sg.2.2.2.2.2.2.1 4))), ((ma 5), .inl (cI, 40, .inl (sg.2.2.2.2.2.2.1 5))), ((ma 6), .inl (cI, 40, .inl (sg.2.2.2.2.2.2.1 6))), ((ma 7), .inl (cI, 40, .inl (sg.2.2.2.2.2.2.1 7))), ((ma 8), .inl (cJ, 40, .inr (.inl (sg.2.2.2.2.2.2.2 8)))), ((ma 9), .inl (cJ, 40, .inr (.inl (sg.2.2.2.2.2.2.2 9)))), ((ma 10), .inl (cZ, 40, .inl (sg.2.2.2.2.2.2.1 10))), ((ma 13), .inl (cI, 41, .inl (sg.2.2.2.2.2.2.1 13))), ((ma 14), .inl (cI, 41, .inl (sg.2.2.2.2.2.2.1 14))), ((ma 22), .inl (cI, 40, .inl (sg.2.2.2.2.2.2.1 22))), ((ma 23), .inl (cI, 41, .inl (sg.2.2.2.2.2.2.1 23))), ((ma 24), .inl (cI, 40, .inl (sg.2.2.2.2.2.2.1 24))), ((ma 25), .inl (cI, 41, .inl (sg.2.2.2.2.2.2.1 25)))] := hD
  refine lv_iload_n hx hb dX9_depends_5 rfl (lv_at hl 1 rfl) ?_
  refine lv_if_lt (tgt := 29) hx hb dX9_depends_6 (by decide) (fun c_1 => ?_) (fun c_1 => ?_)
  · refine lv_aload_n hx hb dX9_depends_29 rfl (lv_at hl 0 rfl) ?_
    refine lv_iconst (v := 1) hx hb dX9_depends_30 (by decide) ?_
    refine md_calli (wr := []) (va_runV (As := [.int (1)]) (rest := []) ⟨hx, hb, hml, hown, hts⟩ (kX9_fail l dC dI cI cJ cZ ma H.size 1 (0, sg.2.1, sg.2.2.1, sg.2.2.2.1, sg.2.2.2.2.1, sg.2.2.2.2.2.1, sg.2.2.2.2.2.2.1, sg.2.2.2.2.2.2.2)) (cwV 1 hts gX9_depends_X9_fail rfl rfl rfl (by decide +kernel) ⟨Nat.le_of_ble_eq_true rfl, Nat.le_of_ble_eq_true rfl⟩) (md_preV 0 4 (q := (RX9, TX9, 26)) rfl rfl hP hK hD) rfl rfl hl.1 rfl (lv_room (Nat.le_of_ble_eq_true rfl)) dX9_depends_31 ⟨Nat.zero_le _, Nat.zero_le _⟩) hS hA hP hD [0, 1, 2, 3, 4, 5, 6, 7, 8, 9, 10, 11, 12, 13, 14] [] rfl rfl (by decide) (by decide) (fun H locs hP hD hS => ?_)
    have hP : va_P (dC, dI) vwCl (wX cI cJ cZ ma ((fX9_fail 1 (0, sg.2.1, sg.2.2.1, sg.2.2.2.1, sg.2.2.2.2.1, sg.2.2.2.2.2.1, sg.2.2.2.2.2.2.1, sg.2.2.2.2.2.2.2)).2)) H := hP
    have hD : va_D A (wX cI cJ cZ ma ((fX9_fail 1 (0, sg.2.1, sg.2.2.1, sg.2.2.2.1, sg.2.2.2.2.1, sg.2.2.2.2.2.1, sg.2.2.2.2.2.2.1, sg.2.2.2.2.2.2.2)).2)) := hD
    have e7 : ((fX9_fail 1 (0, sg.2.1, sg.2.2.1, sg.2.2.2.1, sg.2.2.2.2.1, sg.2.2.2.2.2.1, sg.2.2.2.2.2.2.1, sg.2.2.2.2.2.2.2)).1, ((fX9_fail 1 (0, sg.2.1, sg.2.2.1, sg.2.2.2.1, sg.2.2.2.2.1, sg.2.2.2.2.2.1, sg.2.2.2.2.2.2.1, sg.2.2.2.2.2.2.2)).2)) = (fX9_depends x y sg) := ((show ((fX9_fail 1 (0, sg.2.1, sg.2.2.1, sg.2.2.2.1, sg.2.2.2.2.1, sg.2.2.2.2.2.1, sg.2.2.2.2.2.2.1, sg.2.2.2.2.2.2.2)).1, ((fX9_fail 1 (0, sg.2.1, sg.2.2.1, sg.2.2.2.1, sg.2.2.2.2.1, sg.2.2.2.2.2.1, sg.2.2.2.2.2.2.1, sg.2.2.2.2.2.2.2)).2)) = (fX9_depends x y sg) by unfold fX9_depends; rw [if_pos c_1]).trans hv)
    have hP : va_P (dC, dI) vwCl (wX cI cJ cZ ma ((fX9_depends x y sg).2)) H := by rw [← e7]; exact hP
    have hD : va_D A (wX cI cJ cZ ma ((fX9_depends x y sg).2)) := by rw [← e7]; exact hD
    have e8 : (fX9_fail 1 (0, sg.2.1, sg.2.2.1, sg.2.2.2.1, sg.2.2.2.2.1, sg.2.2.2.2.2.1, sg.2.2.2.2.2.2.1, sg.2.2.2.2.2.2.2)).1 = (fX9_depends x y sg).1 := by rw [← e7]
    exact W.iret (v := (fX9_fail 1 (0, sg.2.1, sg.2.2.1, sg.2.2.2.1, sg.2.2.2.2.1, sg.2.2.2.2.2.1, sg.2.2.2.2.2.2.1, sg.2.2.2.2.2.2.2)).1) hx hb hr (fun t ht hW => ⟨⟨_, (), rfl, e8, by rw [ht]; exact hP, hD⟩, hS.F ht⟩) hS.2.2 dX9_depends_34
  · refine lv_iload_n hx hb dX9_depends_9 rfl (lv_at hl 1 rfl) ?_
    refine lv_aload_n hx hb dX9_depends_10 rfl (lv_at hl 0 rfl) ?_
    refine va_get (D := (dC, dI)) (ci := 4) (v := .int (nI sg.2.1)) (C := RX9) (T := TX9) (N := 26) hx hb hts hinX9 hown hK hP 0 rfl rfl 2 (by decide) (hts (.fieldLink RX9 148 "SlotFillerModel" "many" "I") (by decide +kernel)) (fun _ h9 => h9) rfl dX9_depends_11 ?_
    refine lv_icmp_ge (tgt := 29) hx hb dX9_depends_14 (by decide) (fun c_2 => ?_) (fun c_2 => ?_)
    · refine lv_aload_n hx hb dX9_depends_29 rfl (lv_at hl 0 rfl) ?_
      refine lv_iconst (v := 1) hx hb dX9_depends_30 (by decide) ?_
      refine md_calli (wr := []) (va_runV (As := [.int (1)]) (rest := []) ⟨hx, hb, hml, hown, hts⟩ (kX9_fail l dC dI cI cJ cZ ma H.size 1 (0, sg.2.1, sg.2.2.1, sg.2.2.2.1, sg.2.2.2.2.1, sg.2.2.2.2.2.1, sg.2.2.2.2.2.2.1, sg.2.2.2.2.2.2.2)) (cwV 1 hts gX9_depends_X9_fail rfl rfl rfl (by decide +kernel) ⟨Nat.le_of_ble_eq_true rfl, Nat.le_of_ble_eq_true rfl⟩) (md_preV 0 4 (q := (RX9, TX9, 26)) rfl rfl hP hK hD) rfl rfl hl.1 rfl (lv_room (Nat.le_of_ble_eq_true rfl)) dX9_depends_31 ⟨Nat.zero_le _, Nat.zero_le _⟩) hS hA hP hD [0, 1, 2, 3, 4, 5, 6, 7, 8, 9, 10, 11, 12, 13, 14] [] rfl rfl (by decide) (by decide) (fun H locs hP hD hS => ?_)
      have hP : va_P (dC, dI) vwCl (wX cI cJ cZ ma ((fX9_fail 1 (0, sg.2.1, sg.2.2.1, sg.2.2.2.1, sg.2.2.2.2.1, sg.2.2.2.2.2.1, sg.2.2.2.2.2.2.1, sg.2.2.2.2.2.2.2)).2)) H := hP
      have hD : va_D A (wX cI cJ cZ ma ((fX9_fail 1 (0, sg.2.1, sg.2.2.1, sg.2.2.2.1, sg.2.2.2.2.1, sg.2.2.2.2.2.1, sg.2.2.2.2.2.2.1, sg.2.2.2.2.2.2.2)).2)) := hD
      have e7 : ((fX9_fail 1 (0, sg.2.1, sg.2.2.1, sg.2.2.2.1, sg.2.2.2.2.1, sg.2.2.2.2.2.1, sg.2.2.2.2.2.2.1, sg.2.2.2.2.2.2.2)).1, ((fX9_fail 1 (0, sg.2.1, sg.2.2.1, sg.2.2.2.1, sg.2.2.2.2.1, sg.2.2.2.2.2.1, sg.2.2.2.2.2.2.1, sg.2.2.2.2.2.2.2)).2)) = (fX9_depends x y sg) := ((show ((fX9_fail 1 (0, sg.2.1, sg.2.2.1, sg.2.2.2.1, sg.2.2.2.2.1, sg.2.2.2.2.2.1, sg.2.2.2.2.2.2.1, sg.2.2.2.2.2.2.2)).1, ((fX9_fail 1 (0, sg.2.1, sg.2.2.1, sg.2.2.2.1, sg.2.2.2.2.1, sg.2.2.2.2.2.1, sg.2.2.2.2.2.2.1, sg.2.2.2.2.2.2.2)).2)) = (fX9_depends x y sg) by unfold fX9_depends; rw [if_neg c_1, if_pos c_2]).trans hv)
      have hP : va_P (dC, dI) vwCl (wX cI cJ cZ ma ((fX9_depends x y sg).2)) H := by rw [← e7]; exact hP
      have hD : va_D A (wX cI cJ cZ ma ((fX9_depends x y sg).2)) := by rw [← e7]; exact hD
      have e8 : (fX9_fail 1 (0, sg.2.1, sg.2.2.1, sg.2.2.2.1, sg.2.2.2.2.1, sg.2.2.2.2.2.1, sg.2.2.2.2.2.2.1, sg.2.2.2.2.2.2.2)).1 = (fX9_depends x y sg).1 := by rw [← e7]
      exact W.iret (v := (fX9_fail 1 (0, sg.2.1, sg.2.2.1, sg.2.2.2.1, sg.2.2.2.2.1, sg.2.2.2.2.2.1, sg.2.2.2.2.2.2.1, sg.2.2.2.2.2.2.2)).1) hx hb hr (fun t ht hW => ⟨⟨_, (), rfl, e8, by rw [ht]; exact hP, hD⟩, hS.F ht⟩) hS.2.2 dX9_depends_34
    · refine lv_iload_n hx hb dX9_depends_17 rfl (lv_at hl 2 rfl) ?_
      refine lv_if_lt (tgt := 29) hx hb dX9_depends_18 (by decide) (fun c_3 => ?_) (fun c_3 => ?_)
      · refine lv_aload_n hx hb dX9_depends_29 rfl (lv_at hl 0 rfl) ?_
        refine lv_iconst (v := 1) hx hb dX9_depends_30 (by decide) ?_
        refine md_calli (wr := []) (va_runV (As := [.int (1)]) (rest := []) ⟨hx, hb, hml, hown, hts⟩ (kX9_fail l dC dI cI cJ cZ ma H.size 1 (0, sg.2.1, sg.2.2.1, sg.2.2.2.1, sg.2.2.2.2.1, sg.2.2.2.2.2.1, sg.2.2.2.2.2.2.1, sg.2.2.2.2.2.2.2)) (cwV 1 hts gX9_depends_X9_fail rfl rfl rfl (by decide +kernel) ⟨Nat.le_of_ble_eq_true rfl, Nat.le_of_ble_eq_true rfl⟩) (md_preV 0 4 (q := (RX9, TX9, 26)) rfl rfl hP hK hD) rfl rfl hl.1 rfl (lv_room (Nat.le_of_ble_eq_true rfl)) dX9_depends_31 ⟨Nat.zero_le _, Nat.zero_le _⟩) hS hA hP hD [0, 1, 2, 3, 4, 5, 6, 7, 8, 9, 10, 11, 12, 13, 14] [] rfl rfl (by decide) (by decide) (fun H locs hP hD hS => ?_)
        have hP : va_P (dC, dI) vwCl (wX cI cJ cZ ma ((fX9_fail 1 (0, sg.2.1, sg.2.2.1, sg.2.2.2.1, sg.2.2.2.2.1, sg.2.2.2.2.2.1, sg.2.2.2.2.2.2.1, sg.2.2.2.2.2.2.2)).2)) H := hP
        have hD : va_D A (wX cI cJ cZ ma ((fX9_fail 1 (0, sg.2.1, sg.2.2.1, sg.2.2.2.1, sg.2.2.2.2.1, sg.2.2.2.2.2.1, sg.2.2.2.2.2.2.1, sg.2.2.2.2.2.2.2)).2)) := hD
        have e7 : ((fX9_fail 1 (0, sg.2.1, sg.2.2.1, sg.2.2.2.1, sg.2.2.2.2.1, sg.2.2.2.2.2.1, sg.2.2.2.2.2.2.1, sg.2.2.2.2.2.2.2)).1, ((fX9_fail 1 (0, sg.2.1, sg.2.2.1, sg.2.2.2.1, sg.2.2.2.2.1, sg.2.2.2.2.2.1, sg.2.2.2.2.2.2.1, sg.2.2.2.2.2.2.2)).2)) = (fX9_depends x y sg) := ((show ((fX9_fail 1 (0, sg.2.1, sg.2.2.1, sg.2.2.2.1, sg.2.2.2.2.1, sg.2.2.2.2.2.1, sg.2.2.2.2.2.2.1, sg.2.2.2.2.2.2.2)).1, ((fX9_fail 1 (0, sg.2.1, sg.2.2.1, sg.2.2.2.1, sg.2.2.2.2.1, sg.2.2.2.2.2.1, sg.2.2.2.2.2.2.1, sg.2.2.2.2.2.2.2)).2)) = (fX9_depends x y sg) by unfold fX9_depends; rw [if_neg c_1, if_neg c_2, if_pos c_3]).trans hv)
        have hP : va_P (dC, dI) vwCl (wX cI cJ cZ ma ((fX9_depends x y sg).2)) H := by rw [← e7]; exact hP
        have hD : va_D A (wX cI cJ cZ ma ((fX9_depends x y sg).2)) := by rw [← e7]; exact hD
        have e8 : (fX9_fail 1 (0, sg.2.1, sg.2.2.1, sg.2.2.2.1, sg.2.2.2.2.1, sg.2.2.2.2.2.1, sg.2.2.2.2.2.2.1, sg.2.2.2.2.2.2.2)).1 = (fX9_depends x y sg).1 := by rw [← e7]
        exact W.iret (v := (fX9_fail 1 (0, sg.2.1, sg.2.2.1, sg.2.2.2.1, sg.2.2.2.2.1, sg.2.2.2.2.2.1, sg.2.2.2.2.2.2.1, sg.2.2.2.2.2.2.2)).1) hx hb hr (fun t ht hW => ⟨⟨_, (), rfl, e8, by rw [ht]; exact hP, hD⟩, hS.F ht⟩) hS.2.2 dX9_depends_34
      · refine lv_iload_n hx hb dX9_depends_21 rfl (lv_at hl 2 rfl) ?_
        refine lv_aload_n hx hb dX9_depends_22 rfl (lv_at hl 0 rfl) ?_
        refine va_get (D := (dC, dI)) (ci := 4) (v := .int (nI sg.2.1)) (C := RX9) (T := TX9) (N := 26) hx hb hts hinX9 hown hK hP 0 rfl rfl 2 (by decide) (hts (.fieldLink RX9 148 "SlotFillerModel" "many" "I") (by decide +kernel)) (fun _ h9 => h9) rfl dX9_depends_23 ?_
        refine lv_icmp_lt (tgt := 35) hx hb dX9_depends_26 (by decide) (fun c_4 => ?_) (fun c_4 => ?_)
        · have hx2 := vp_nI (in_ge c_1 c_2 hn (by decide)) (by decide); have hy2 := vp_nI (in_lt c_3 c_4 hn (by decide)) (by decide)
          refine lv_iload_n hx hb dX9_depends_35 rfl (lv_at hl 2 rfl) ?_
          refine lv_iload_n hx hb dX9_depends_36 rfl (lv_at hl 1 rfl) ?_
          refine lv_icmp_ge (tgt := 49) hx hb dX9_depends_37 (by decide) (fun c_5 => ?_) (fun c_5 => ?_)
          · refine lv_iconst (v := (-1)) hx hb dX9_depends_49 (by decide) ?_
            have e7 : ((-1), (0, sg.2.1, sg.2.2.1, sg.2.2.2.1, sg.2.2.2.2.1, sg.2.2.2.2.2.1, sg.2.2.2.2.2.2.1, sg.2.2.2.2.2.2.2)) = (fX9_depends x y sg) := ((show ((-1), (0, sg.2.1, sg.2.2.1, sg.2.2.2.1, sg.2.2.2.2.1, sg.2.2.2.2.2.1, sg.2.2.2.2.2.2.1, sg.2.2.2.2.2.2.2)) = (fX9_depends x y sg) by unfold fX9_depends; rw [if_neg c_1, if_neg c_2, if_neg c_3, if_pos c_4, if_pos c_5]).trans hv)
            have hP : va_P (dC, dI) vwCl (wX cI cJ cZ ma ((fX9_depends x y sg).2)) H := by rw [← e7]; exact hP
            have hD : va_D A (wX cI cJ cZ ma ((fX9_depends x y sg).2)) := by rw [← e7]; exact hD
            have e8 : (-1) = (fX9_depends x y sg).1 := by rw [← e7]
            exact W.iret (v := (-1)) hx hb hr (fun t ht hW => ⟨⟨_, (), rfl, e8, by rw [ht]; exact hP, hD⟩, hS.F ht⟩) hS.2.2 dX9_depends_50
          · refine lv_aload_n hx hb dX9_depends_40 rfl (lv_at hl 0 rfl) ?_
            refine lv_iload_n hx hb dX9_depends_41 rfl (lv_at hl 1 rfl) ?_
            refine top_i (y := nI x.toNatClampNeg) (hx2.1) ?_
            refine lv_iload_n hx hb dX9_depends_42 rfl (lv_at hl 2 rfl) ?_
            refine top_i (y := nI y.toNatClampNeg) (hy2.1) ?_
            refine ro_calli (va_runV (As := [.int (nI x.toNatClampNeg), .int (nI y.toNatClampNeg)]) (rest := []) ⟨hx, hb, hml, hown, hts⟩ (kX9_after l dC dI cI cJ cZ ma (svX (0, sg.2.1, sg.2.2.1, sg.2.2.2.1, sg.2.2.2.2.1, sg.2.2.2.2.2.1, sg.2.2.2.2.2.2.1, sg.2.2.2.2.2.2.2)) sg.2.2.2.2.2.2.1 sg.2.2.2.2.2.2.2 H.size x.toNatClampNeg y.toNatClampNeg hx2.2 hy2.2 hc0) (cwV 2 hts gX9_depends_X9_after rfl rfl rfl (by decide +kernel) ⟨Nat.le_of_ble_eq_true rfl, Nat.le_of_ble_eq_true rfl⟩) (ro_preV 0 4 (q := (RX9, TX9, 26)) rfl rfl hP hK) rfl rfl hl.1 rfl (lv_room (Nat.le_of_ble_eq_true rfl)) dX9_depends_43 ⟨Nat.zero_le _, Nat.zero_le _⟩) hS hA (fun H locs kP hS => ?_)
            have hP := kP _ _ _ hP
            refine lv_goto (tgt := 50) hx hb dX9_depends_46 (by decide) ?_
            have e7 : ((fX9_after sg.2.2.2.2.2.2.1 sg.2.2.2.2.2.2.2 x.toNatClampNeg y.toNatClampNeg), (0, sg.2.1, sg.2.2.1, sg.2.2.2.1, sg.2.2.2.2.1, sg.2.2.2.2.2.1, sg.2.2.2.2.2.2.1, sg.2.2.2.2.2.2.2)) = (fX9_depends x y sg) := ((show ((fX9_after sg.2.2.2.2.2.2.1 sg.2.2.2.2.2.2.2 x.toNatClampNeg y.toNatClampNeg), (0, sg.2.1, sg.2.2.1, sg.2.2.2.1, sg.2.2.2.2.1, sg.2.2.2.2.2.1, sg.2.2.2.2.2.2.1, sg.2.2.2.2.2.2.2)) = (fX9_depends x y sg) by unfold fX9_depends; rw [if_neg c_1, if_neg c_2, if_neg c_3, if_pos c_4, if_neg c_5]).trans hv)
            have hP : va_P (dC, dI) vwCl (wX cI cJ cZ ma ((fX9_depends x y sg).2)) H := by rw [← e7]; exact hP
            have hD : va_D A (wX cI cJ cZ ma ((fX9_depends x y sg).2)) := by rw [← e7]; exact hD
            have e8 : (fX9_after sg.2.2.2.2.2.2.1 sg.2.2.2.2.2.2.2 x.toNatClampNeg y.toNatClampNeg) = (fX9_depends x y sg).1 := by rw [← e7]
            exact W.iret (v := (fX9_after sg.2.2.2.2.2.2.1 sg.2.2.2.2.2.2.2 x.toNatClampNeg y.toNatClampNeg)) hx hb hr (fun t ht hW => ⟨⟨_, (), rfl, e8, by rw [ht]; exact hP, hD⟩, hS.F ht⟩) hS.2.2 dX9_depends_50
        · refine lv_aload_n hx hb dX9_depends_29 rfl (lv_at hl 0 rfl) ?_
          refine lv_iconst (v := 1) hx hb dX9_depends_30 (by decide) ?_
          refine md_calli (wr := []) (va_runV (As := [.int (1)]) (rest := []) ⟨hx, hb, hml, hown, hts⟩ (kX9_fail l dC dI cI cJ cZ ma H.size 1 (0, sg.2.1, sg.2.2.1, sg.2.2.2.1, sg.2.2.2.2.1, sg.2.2.2.2.2.1, sg.2.2.2.2.2.2.1, sg.2.2.2.2.2.2.2)) (cwV 1 hts gX9_depends_X9_fail rfl rfl rfl (by decide +kernel) ⟨Nat.le_of_ble_eq_true rfl, Nat.le_of_ble_eq_true rfl⟩) (md_preV 0 4 (q := (RX9, TX9, 26)) rfl rfl hP hK hD) rfl rfl hl.1 rfl (lv_room (Nat.le_of_ble_eq_true rfl)) dX9_depends_31 ⟨Nat.zero_le _, Nat.zero_le _⟩) hS hA hP hD [0, 1, 2, 3, 4, 5, 6, 7, 8, 9, 10, 11, 12, 13, 14] [] rfl rfl (by decide) (by decide) (fun H locs hP hD hS => ?_)
          have hP : va_P (dC, dI) vwCl (wX cI cJ cZ ma ((fX9_fail 1 (0, sg.2.1, sg.2.2.1, sg.2.2.2.1, sg.2.2.2.2.1, sg.2.2.2.2.2.1, sg.2.2.2.2.2.2.1, sg.2.2.2.2.2.2.2)).2)) H := hP
          have hD : va_D A (wX cI cJ cZ ma ((fX9_fail 1 (0, sg.2.1, sg.2.2.1, sg.2.2.2.1, sg.2.2.2.2.1, sg.2.2.2.2.2.1, sg.2.2.2.2.2.2.1, sg.2.2.2.2.2.2.2)).2)) := hD
          have e7 : ((fX9_fail 1 (0, sg.2.1, sg.2.2.1, sg.2.2.2.1, sg.2.2.2.2.1, sg.2.2.2.2.2.1, sg.2.2.2.2.2.2.1, sg.2.2.2.2.2.2.2)).1, ((fX9_fail 1 (0, sg.2.1, sg.2.2.1, sg.2.2.2.1, sg.2.2.2.2.1, sg.2.2.2.2.2.1, sg.2.2.2.2.2.2.1, sg.2.2.2.2.2.2.2)).2)) = (fX9_depends x y sg) := ((show ((fX9_fail 1 (0, sg.2.1, sg.2.2.1, sg.2.2.2.1, sg.2.2.2.2.1, sg.2.2.2.2.2.1, sg.2.2.2.2.2.2.1, sg.2.2.2.2.2.2.2)).1, ((fX9_fail 1 (0, sg.2.1, sg.2.2.1, sg.2.2.2.1, sg.2.2.2.2.1, sg.2.2.2.2.2.1, sg.2.2.2.2.2.2.1, sg.2.2.2.2.2.2.2)).2)) = (fX9_depends x y sg) by unfold fX9_depends; rw [if_neg c_1, if_neg c_2, if_neg c_3, if_neg c_4]).trans hv)
          have hP : va_P (dC, dI) vwCl (wX cI cJ cZ ma ((fX9_depends x y sg).2)) H := by rw [← e7]; exact hP
          have hD : va_D A (wX cI cJ cZ ma ((fX9_depends x y sg).2)) := by rw [← e7]; exact hD
          have e8 : (fX9_fail 1 (0, sg.2.1, sg.2.2.1, sg.2.2.2.1, sg.2.2.2.2.1, sg.2.2.2.2.2.1, sg.2.2.2.2.2.2.1, sg.2.2.2.2.2.2.2)).1 = (fX9_depends x y sg).1 := by rw [← e7]
          exact W.iret (v := (fX9_fail 1 (0, sg.2.1, sg.2.2.1, sg.2.2.2.1, sg.2.2.2.2.1, sg.2.2.2.2.2.1, sg.2.2.2.2.2.2.1, sg.2.2.2.2.2.2.2)).1) hx hb hr (fun t ht hW => ⟨⟨_, (), rfl, e8, by rw [ht]; exact hP, hD⟩, hS.F ht⟩) hS.2.2 dX9_depends_34
def fX9_height (x : Int32) (sg : XS) : Int32 × XS := if x < 0 then ((fX9_fail 1 (0, sg.2.1, sg.2.2.1, sg.2.2.2.1, sg.2.2.2.2.1, sg.2.2.2.2.2.1, sg.2.2.2.2.2.2.1, sg.2.2.2.2.2.2.2)).1, ((fX9_fail 1 (0, sg.2.1, sg.2.2.1, sg.2.2.2.1, sg.2.2.2.2.1, sg.2.2.2.2.2.1, sg.2.2.2.2.2.2.1, sg.2.2.2.2.2.2.2)).2)) else if x < nI sg.2.1 then (((((fX9_findHeights (0, sg.2.1, sg.2.2.1, sg.2.2.2.1, sg.2.2.2.2.1, sg.2.2.2.2.2.1, sg.2.2.2.2.2.2.1, sg.2.2.2.2.2.2.2)).2.2.2.2.2.2.1) 22) (x).toNatClampNeg), (fX9_findHeights (0, sg.2.1, sg.2.2.1, sg.2.2.2.1, sg.2.2.2.2.1, sg.2.2.2.2.2.1, sg.2.2.2.2.2.2.1, sg.2.2.2.2.2.2.2))) else ((fX9_fail 1 (0, sg.2.1, sg.2.2.1, sg.2.2.2.1, sg.2.2.2.2.1, sg.2.2.2.2.2.1, sg.2.2.2.2.2.2.1, sg.2.2.2.2.2.2.2)).1, ((fX9_fail 1 (0, sg.2.1, sg.2.2.1, sg.2.2.2.1, sg.2.2.2.2.1, sg.2.2.2.2.2.1, sg.2.2.2.2.2.2.1, sg.2.2.2.2.2.2.2)).2))
set_option maxHeartbeats 4000000 in
set_option maxRecDepth 100000 in
theorem kX9_height (l : Launch) (dC : Nat → ClassId) (dI : Nat → Nat → Nat) (cI cJ cZ : ClassId) (ma : Nat → Nat) (sz : Nat) (x : Int32) (sg : XS) (hn : sg.2.1 ≤ 40) (hc0 : okC sg) : Met l yX9_height wsX9_height ({ frames := 5, cells := 0, slots := 0, locals := 122 }) (md_Pc (dC, dI) (wX cI cJ cZ ma sg) (tyA cI cJ cZ) [.ref (ma 0), .int (x)] sz) (md_Qi (fX9_height x sg).1 (dC, dI) (wX cI cJ cZ ma ((fX9_height x sg).2)) (va_A (wX cI cJ cZ ma sg) sz)) 0 0 (va_A (wX cI cJ cZ ma sg) sz) := by
  refine Met.ofW (cc := cX9_height) (maxL := 2) (ret := (some .int)) (by decide) rfl ?_
  intro p e s m args below meth c s₁ B0 hml hv
  obtain ⟨rfl, hsz, hP, hK, hD0⟩ := hv
  have hx := B0.exec
  have hb := B0.bytes
  have hr := B0.returns
  have hts := atoms_spec (ws := wsX9_height) B0.pre
  have hown : s.vm.findClass RX9 = some m.cls := findClass_of_methodNamed B0.named
  have hlocks := B0.notSynchronized
  have hinX9 : ∀ w ∈ wsX90, w ∈ wsX9_height := fun w h => List.mem_cons_of_mem _ (List.mem_append_right _ (h))
  subst hsz
  have hD := hD0.self (sz := s.heap.size)
  generalize hAe : va_A (wX cI cJ cZ ma sg) s.heap.size = A at hD ⊢
  have hA : ∀ q : Nat, s.heap.size ≤ q → A q := fun q h => by rw [← hAe]; exact Or.inr h
  have hS : va_S A s.heap s.heap [] := va_S.rf
  have hl := lv_entry ([.ref (ma 0), .int (x)]) (n := 2) (Nat.le_of_ble_eq_true rfl)
  rw [lg_entry_eq]
  generalize (lg_sl ([.ref (ma 0), .int (x)]) ++ List.replicate (2 - (lg_sl ([.ref (ma 0), .int (x)])).length) Slot.unset).toArray = ls at hl ⊢
  have hl : lv_has ls 2 [(0, .ref (ma 0)), (1, .int (x))] := hl
  have hv : (fX9_height x sg) = (fX9_height x sg) := rfl
  refine lv_aload_n hx hb dX9_height_0 rfl (lv_at hl 0 rfl) ?_
  refine lv_iconst (v := 0) hx hb dX9_height_1 (by decide) ?_
  refine va_put (D := (dC, dI)) (ci := 4) (v := .int (0)) (ty := .int) (C := RX9) (T := TX9) (N := 26) hx hb hts hinX9 tyX9 tyX9_ok nmX9 hown hK hP hD hS 0 rfl rfl 0 (by decide) (hts (.fieldLink RX9 54 "SlotFillerModel" "thrown" "I") (by decide +kernel)) (fun _ h9 => h9) rfl (by decide +kernel) rfl rfl (Nat.le_of_ble_eq_true rfl) dX9_height_2 (fun H locs hP hD hS => ?_)
  have hP : va_P (dC, dI) vwCl [((ma 0), .inr (4, [.int (0), .ref (ma 1), .int (nI sg.2.1), .int (sg.2.2.1), .ref (ma 4), .ref (ma 5), .ref (ma 6), .ref (ma 7), .ref (ma 8), .ref (ma 9), .ref (ma 10), .int (nI sg.2.2.2.1), .int (sg.2.2.2.2.1), .ref (ma 13), .ref (ma 14), .int (sg.2.2.2.2.2.1.1), .int (sg.2.2.2.2.2.1.2.1), .int (sg.2.2.2.2.2.1.2.2.1), .int (sg.2.2.2.2.2.1.2.2.2.1), .long (sg.2.2.2.2.2.1.2.2.2.2.1), .long (sg.2.2.2.2.2.1.2.2.2.2.2.1), .int (sg.2.2.2.2.2.1.2.2.2.2.2.2), .ref (ma 22), .ref (ma 23), .ref (ma 24), .ref (ma 25)])), ((ma 1), .inl (cI, 9, .inl (sg.2.2.2.2.2.2.1 1))), ((ma 4), .inl (cI, 40, .inl (sg.2.2.2.2.2.2.1 4))), ((ma 5), .inl (cI, 40, .inl (sg.2.2.2.2.2.2.1 5))), ((ma 6), .inl (cI, 40, .inl (sg.2.2.2.2.2.2.1 6))), ((ma 7), .inl (cI, 40, .inl (sg.2.2.2.2.2.2.1 7))), ((ma 8), .inl (cJ, 40, .inr (.inl (sg.2.2.2.2.2.2.2 8)))), ((ma 9), .inl (cJ, 40, .inr (.inl (sg.2.2.2.2.2.2.2 9)))), ((ma 10), .inl (cZ, 40, .inl (sg.2.2.2.2.2.2.1 10))), ((ma 13), .inl (cI, 41, .inl (sg.2.2.2.2.2.2.1 13))), ((ma 14), .inl (cI, 41, .inl (sg.2.2.2.2.2.2.1 14))), ((ma 22), .inl (cI, 40, .inl (sg.2.2.2.2.2.2.1 22))), ((ma 23), .inl (cI, 41, .inl (sg.2.2.2.2.2.2.1 23))), ((ma 24), .inl (cI, 40, .inl (sg.2.2.2.2.2.2.1 24))), ((ma 25), .inl (cI, 41, .inl (sg.2.2.2.2.2.2.1 25)))] H := hP
  have hD : va_D A [((ma 0), .inr (4, [.int (0), .ref (ma 1), .int (nI sg.2.1), .int (sg.2.2.1), .ref (ma 4), .ref (ma 5), .ref (ma 6), .ref (ma 7), .ref (ma 8), .ref (ma 9), .ref (ma 10), .int (nI sg.2.2.2.1), .int (sg.2.2.2.2.1), .ref (ma 13), .ref (ma 14), .int (sg.2.2.2.2.2.1.1), .int (sg.2.2.2.2.2.1.2.1), .int (sg.2.2.2.2.2.1.2.2.1), .int (sg.2.2.2.2.2.1.2.2.2.1), .long (sg.2.2.2.2.2.1.2.2.2.2.1), .long (sg.2.2.2.2.2.1.2.2.2.2.2.1), .int (sg.2.2.2.2.2.1.2.2.2.2.2.2), .ref (ma 22), .ref (ma 23), .ref (ma 24), .ref (ma 25)])), ((ma 1), .inl (cI, 9, .inl (sg.2.2.2.2.2.2.1 1))), ((ma 4), .inl (cI, 40, .inl (sg.2.2.2.2.2.2.1 4))), ((ma 5), .inl (cI, 40, .inl (sg.2.2.2.2.2.2.1 5))), ((ma 6), .inl (cI, 40, .inl (sg.2.2.2.2.2.2.1 6))), ((ma 7), .inl (cI, 40, .inl (sg.2.2.2.2.2.2.1 7))), ((ma 8), .inl (cJ, 40, .inr (.inl (sg.2.2.2.2.2.2.2 8)))), ((ma 9), .inl (cJ, 40, .inr (.inl (sg.2.2.2.2.2.2.2 9)))), ((ma 10), .inl (cZ, 40, .inl (sg.2.2.2.2.2.2.1 10))), ((ma 13), .inl (cI, 41, .inl (sg.2.2.2.2.2.2.1 13))), ((ma 14), .inl (cI, 41, .inl (sg.2.2.2.2.2.2.1 14))), ((ma 22), .inl (cI, 40, .inl (sg.2.2.2.2.2.2.1 22))), ((ma 23), .inl (cI, 41, .inl (sg.2.2.2.2.2.2.1 23))), ((ma 24), .inl (cI, 40, .inl (sg.2.2.2.2.2.2.1 24))), ((ma 25), .inl (cI, 41, .inl (sg.2.2.2.2.2.2.1 25)))] := hD
  refine lv_iload_n hx hb dX9_height_5 rfl (lv_at hl 1 rfl) ?_
  refine lv_if_lt (tgt := 17) hx hb dX9_height_6 (by decide) (fun c_1 => ?_) (fun c_1 => ?_)
  · refine lv_aload_n hx hb dX9_height_17 rfl (lv_at hl 0 rfl) ?_
    refine lv_iconst (v := 1) hx hb dX9_height_18 (by decide) ?_
    refine md_calli (wr := []) (va_runV (As := [.int (1)]) (rest := []) ⟨hx, hb, hml, hown, hts⟩ (kX9_fail l dC dI cI cJ cZ ma H.size 1 (0, sg.2.1, sg.2.2.1, sg.2.2.2.1, sg.2.2.2.2.1, sg.2.2.2.2.2.1, sg.2.2.2.2.2.2.1, sg.2.2.2.2.2.2.2)) (cwV 1 hts gX9_height_X9_fail rfl rfl rfl (by decide +kernel) ⟨Nat.le_of_ble_eq_true rfl, Nat.le_of_ble_eq_true rfl⟩) (md_preV 0 4 (q := (RX9, TX9, 26)) rfl rfl hP hK hD) rfl rfl hl.1 rfl (lv_room (Nat.le_of_ble_eq_true rfl)) dX9_height_19 ⟨Nat.zero_le _, Nat.zero_le _⟩) hS hA hP hD [0, 1, 2, 3, 4, 5, 6, 7, 8, 9, 10, 11, 12, 13, 14] [] rfl rfl (by decide) (by decide) (fun H locs hP hD hS => ?_)
    have hP : va_P (dC, dI) vwCl (wX cI cJ cZ ma ((fX9_fail 1 (0, sg.2.1, sg.2.2.1, sg.2.2.2.1, sg.2.2.2.2.1, sg.2.2.2.2.2.1, sg.2.2.2.2.2.2.1, sg.2.2.2.2.2.2.2)).2)) H := hP
    have hD : va_D A (wX cI cJ cZ ma ((fX9_fail 1 (0, sg.2.1, sg.2.2.1, sg.2.2.2.1, sg.2.2.2.2.1, sg.2.2.2.2.2.1, sg.2.2.2.2.2.2.1, sg.2.2.2.2.2.2.2)).2)) := hD
    have e7 : ((fX9_fail 1 (0, sg.2.1, sg.2.2.1, sg.2.2.2.1, sg.2.2.2.2.1, sg.2.2.2.2.2.1, sg.2.2.2.2.2.2.1, sg.2.2.2.2.2.2.2)).1, ((fX9_fail 1 (0, sg.2.1, sg.2.2.1, sg.2.2.2.1, sg.2.2.2.2.1, sg.2.2.2.2.2.1, sg.2.2.2.2.2.2.1, sg.2.2.2.2.2.2.2)).2)) = (fX9_height x sg) := ((show ((fX9_fail 1 (0, sg.2.1, sg.2.2.1, sg.2.2.2.1, sg.2.2.2.2.1, sg.2.2.2.2.2.1, sg.2.2.2.2.2.2.1, sg.2.2.2.2.2.2.2)).1, ((fX9_fail 1 (0, sg.2.1, sg.2.2.1, sg.2.2.2.1, sg.2.2.2.2.1, sg.2.2.2.2.2.1, sg.2.2.2.2.2.2.1, sg.2.2.2.2.2.2.2)).2)) = (fX9_height x sg) by unfold fX9_height; rw [if_pos c_1]).trans hv)
    have hP : va_P (dC, dI) vwCl (wX cI cJ cZ ma ((fX9_height x sg).2)) H := by rw [← e7]; exact hP
    have hD : va_D A (wX cI cJ cZ ma ((fX9_height x sg).2)) := by rw [← e7]; exact hD
    have e8 : (fX9_fail 1 (0, sg.2.1, sg.2.2.1, sg.2.2.2.1, sg.2.2.2.2.1, sg.2.2.2.2.2.1, sg.2.2.2.2.2.2.1, sg.2.2.2.2.2.2.2)).1 = (fX9_height x sg).1 := by rw [← e7]
    exact W.iret (v := (fX9_fail 1 (0, sg.2.1, sg.2.2.1, sg.2.2.2.1, sg.2.2.2.2.1, sg.2.2.2.2.2.1, sg.2.2.2.2.2.2.1, sg.2.2.2.2.2.2.2)).1) hx hb hr (fun t ht hW => ⟨⟨_, (), rfl, e8, by rw [ht]; exact hP, hD⟩, hS.F ht⟩) hS.2.2 dX9_height_22
  · refine lv_iload_n hx hb dX9_height_9 rfl (lv_at hl 1 rfl) ?_
    refine lv_aload_n hx hb dX9_height_10 rfl (lv_at hl 0 rfl) ?_
    refine va_get (D := (dC, dI)) (ci := 4) (v := .int (nI sg.2.1)) (C := RX9) (T := TX9) (N := 26) hx hb hts hinX9 hown hK hP 0 rfl rfl 2 (by decide) (hts (.fieldLink RX9 148 "SlotFillerModel" "many" "I") (by decide +kernel)) (fun _ h9 => h9) rfl dX9_height_11 ?_
    refine lv_icmp_lt (tgt := 23) hx hb dX9_height_14 (by decide) (fun c_2 => ?_) (fun c_2 => ?_)
    · refine lv_aload_n hx hb dX9_height_23 rfl (lv_at hl 0 rfl) ?_
      refine md_callv (wr := []) (va_runV (As := []) (rest := []) ⟨hx, hb, hml, hown, hts⟩ (kX9_findHeights l dC dI cI cJ cZ ma H.size  (0, sg.2.1, sg.2.2.1, sg.2.2.2.1, sg.2.2.2.2.1, sg.2.2.2.2.2.1, sg.2.2.2.2.2.2.1, sg.2.2.2.2.2.2.2) hn hc0) (cwV 0 hts gX9_height_X9_findHeights rfl rfl rfl (by decide +kernel) ⟨Nat.le_of_ble_eq_true rfl, Nat.le_of_ble_eq_true rfl⟩) (md_preV 0 4 (q := (RX9, TX9, 26)) rfl rfl hP hK hD) rfl rfl hl.1 rfl (lv_room (Nat.le_of_ble_eq_true rfl)) dX9_height_24 ⟨Nat.zero_le _, Nat.zero_le _⟩) hS hA hP hD [0, 1, 2, 3, 4, 5, 6, 7, 8, 9, 10, 11, 12, 13, 14] [] rfl rfl (by decide) (by decide) (fun H locs hP hD hS => ?_)
      have hP : va_P (dC, dI) vwCl (wX cI cJ cZ ma (fX9_findHeights (0, sg.2.1, sg.2.2.1, sg.2.2.2.1, sg.2.2.2.2.1, sg.2.2.2.2.2.1, sg.2.2.2.2.2.2.1, sg.2.2.2.2.2.2.2))) H := hP
      have hD : va_D A (wX cI cJ cZ ma (fX9_findHeights (0, sg.2.1, sg.2.2.1, sg.2.2.2.1, sg.2.2.2.2.1, sg.2.2.2.2.2.1, sg.2.2.2.2.2.2.1, sg.2.2.2.2.2.2.2))) := hD
      refine lv_aload_n hx hb dX9_height_27 rfl (lv_at hl 0 rfl) ?_
      refine va_get (D := (dC, dI)) (ci := 4) (v := .ref (ma 22)) (C := RX9) (T := TX9) (N := 26) hx hb hts hinX9 hown hK hP 0 rfl rfl 22 (by decide) (hts (.fieldLink RX9 42 "SlotFillerModel" "heights" "[I") (by decide +kernel)) (fun _ h9 => h9) rfl dX9_height_28 ?_
      refine lv_iload_n hx hb dX9_height_31 rfl (lv_at hl 1 rfl) ?_
      refine va_iald hx hb hK hP 11 0 rfl rfl (in_lt c_1 c_2 hn (by decide)) dX9_height_32 ?_
      have e7 : (((((fX9_findHeights (0, sg.2.1, sg.2.2.1, sg.2.2.2.1, sg.2.2.2.2.1, sg.2.2.2.2.2.1, sg.2.2.2.2.2.2.1, sg.2.2.2.2.2.2.2)).2.2.2.2.2.2.1) 22) (x).toNatClampNeg), (fX9_findHeights (0, sg.2.1, sg.2.2.1, sg.2.2.2.1, sg.2.2.2.2.1, sg.2.2.2.2.2.1, sg.2.2.2.2.2.2.1, sg.2.2.2.2.2.2.2))) = (fX9_height x sg) := ((show (((((fX9_findHeights (0, sg.2.1, sg.2.2.1, sg.2.2.2.1, sg.2.2.2.2.1, sg.2.2.2.2.2.1, sg.2.2.2.2.2.2.1, sg.2.2.2.2.2.2.2)).2.2.2.2.2.2.1) 22) (x).toNatClampNeg), (fX9_findHeights (0, sg.2.1, sg.2.2.1, sg.2.2.2.1, sg.2.2.2.2.1, sg.2.2.2.2.2.1, sg.2.2.2.2.2.2.1, sg.2.2.2.2.2.2.2))) = (fX9_height x sg) by unfold fX9_height; rw [if_neg c_1, if_pos c_2]).trans hv)
      have hP : va_P (dC, dI) vwCl (wX cI cJ cZ ma ((fX9_height x sg).2)) H := by rw [← e7]; exact hP
      have hD : va_D A (wX cI cJ cZ ma ((fX9_height x sg).2)) := by rw [← e7]; exact hD
      have e8 : ((((fX9_findHeights (0, sg.2.1, sg.2.2.1, sg.2.2.2.1, sg.2.2.2.2.1, sg.2.2.2.2.2.1, sg.2.2.2.2.2.2.1, sg.2.2.2.2.2.2.2)).2.2.2.2.2.2.1) 22) (x).toNatClampNeg) = (fX9_height x sg).1 := by rw [← e7]
      exact W.iret (v := ((((fX9_findHeights (0, sg.2.1, sg.2.2.1, sg.2.2.2.1, sg.2.2.2.2.1, sg.2.2.2.2.2.1, sg.2.2.2.2.2.2.1, sg.2.2.2.2.2.2.2)).2.2.2.2.2.2.1) 22) (x).toNatClampNeg)) hx hb hr (fun t ht hW => ⟨⟨_, (), rfl, e8, by rw [ht]; exact hP, hD⟩, hS.F ht⟩) hS.2.2 dX9_height_33
    · refine lv_aload_n hx hb dX9_height_17 rfl (lv_at hl 0 rfl) ?_
      refine lv_iconst (v := 1) hx hb dX9_height_18 (by decide) ?_
      refine md_calli (wr := []) (va_runV (As := [.int (1)]) (rest := []) ⟨hx, hb, hml, hown, hts⟩ (kX9_fail l dC dI cI cJ cZ ma H.size 1 (0, sg.2.1, sg.2.2.1, sg.2.2.2.1, sg.2.2.2.2.1, sg.2.2.2.2.2.1, sg.2.2.2.2.2.2.1, sg.2.2.2.2.2.2.2)) (cwV 1 hts gX9_height_X9_fail rfl rfl rfl (by decide +kernel) ⟨Nat.le_of_ble_eq_true rfl, Nat.le_of_ble_eq_true rfl⟩) (md_preV 0 4 (q := (RX9, TX9, 26)) rfl rfl hP hK hD) rfl rfl hl.1 rfl (lv_room (Nat.le_of_ble_eq_true rfl)) dX9_height_19 ⟨Nat.zero_le _, Nat.zero_le _⟩) hS hA hP hD [0, 1, 2, 3, 4, 5, 6, 7, 8, 9, 10, 11, 12, 13, 14] [] rfl rfl (by decide) (by decide) (fun H locs hP hD hS => ?_)
      have hP : va_P (dC, dI) vwCl (wX cI cJ cZ ma ((fX9_fail 1 (0, sg.2.1, sg.2.2.1, sg.2.2.2.1, sg.2.2.2.2.1, sg.2.2.2.2.2.1, sg.2.2.2.2.2.2.1, sg.2.2.2.2.2.2.2)).2)) H := hP
      have hD : va_D A (wX cI cJ cZ ma ((fX9_fail 1 (0, sg.2.1, sg.2.2.1, sg.2.2.2.1, sg.2.2.2.2.1, sg.2.2.2.2.2.1, sg.2.2.2.2.2.2.1, sg.2.2.2.2.2.2.2)).2)) := hD
      have e7 : ((fX9_fail 1 (0, sg.2.1, sg.2.2.1, sg.2.2.2.1, sg.2.2.2.2.1, sg.2.2.2.2.2.1, sg.2.2.2.2.2.2.1, sg.2.2.2.2.2.2.2)).1, ((fX9_fail 1 (0, sg.2.1, sg.2.2.1, sg.2.2.2.1, sg.2.2.2.2.1, sg.2.2.2.2.2.1, sg.2.2.2.2.2.2.1, sg.2.2.2.2.2.2.2)).2)) = (fX9_height x sg) := ((show ((fX9_fail 1 (0, sg.2.1, sg.2.2.1, sg.2.2.2.1, sg.2.2.2.2.1, sg.2.2.2.2.2.1, sg.2.2.2.2.2.2.1, sg.2.2.2.2.2.2.2)).1, ((fX9_fail 1 (0, sg.2.1, sg.2.2.1, sg.2.2.2.1, sg.2.2.2.2.1, sg.2.2.2.2.2.1, sg.2.2.2.2.2.2.1, sg.2.2.2.2.2.2.2)).2)) = (fX9_height x sg) by unfold fX9_height; rw [if_neg c_1, if_neg c_2]).trans hv)
      have hP : va_P (dC, dI) vwCl (wX cI cJ cZ ma ((fX9_height x sg).2)) H := by rw [← e7]; exact hP
      have hD : va_D A (wX cI cJ cZ ma ((fX9_height x sg).2)) := by rw [← e7]; exact hD
      have e8 : (fX9_fail 1 (0, sg.2.1, sg.2.2.1, sg.2.2.2.1, sg.2.2.2.2.1, sg.2.2.2.2.2.1, sg.2.2.2.2.2.2.1, sg.2.2.2.2.2.2.2)).1 = (fX9_height x sg).1 := by rw [← e7]
      exact W.iret (v := (fX9_fail 1 (0, sg.2.1, sg.2.2.1, sg.2.2.2.1, sg.2.2.2.2.1, sg.2.2.2.2.2.1, sg.2.2.2.2.2.2.1, sg.2.2.2.2.2.2.2)).1) hx hb hr (fun t ht hW => ⟨⟨_, (), rfl, e8, by rw [ht]; exact hP, hD⟩, hS.F ht⟩) hS.2.2 dX9_height_22
def fX9_isBranch (x : Int32) (sg : XS) : Int32 × XS := if (fX9_look x sg.2.2.2.2.2.1).2.1 = 7 then (1, (sg.1, sg.2.1, sg.2.2.1, sg.2.2.2.1, sg.2.2.2.2.1, fX9_look x sg.2.2.2.2.2.1, sg.2.2.2.2.2.2.1, sg.2.2.2.2.2.2.2)) else (0, (sg.1, sg.2.1, sg.2.2.1, sg.2.2.2.1, sg.2.2.2.2.1, fX9_look x sg.2.2.2.2.2.1, sg.2.2.2.2.2.2.1, sg.2.2.2.2.2.2.2))
set_option maxHeartbeats 4000000 in
set_option maxRecDepth 100000 in
theorem kX9_isBranch (l : Launch) (dC : Nat → ClassId) (dI : Nat → Nat → Nat) (cI cJ cZ : ClassId) (ma : Nat → Nat) (sz : Nat) (x : Int32) (sg : XS) : Met l yX9_isBranch wsX9_isBranch ({ frames := 5, cells := 0, slots := 0, locals := 110 }) (md_Pc (dC, dI) (wX cI cJ cZ ma sg) (tyA cI cJ cZ) [.ref (ma 0), .int (x)] sz) (md_Qi (fX9_isBranch x sg).1 (dC, dI) (wX cI cJ cZ ma ((fX9_isBranch x sg).2)) (va_A (wX cI cJ cZ ma sg) sz)) 0 0 (va_A (wX cI cJ cZ ma sg) sz) := by
  refine Met.ofW (cc := cX9_isBranch) (maxL := 2) (ret := (some .boolean)) (by decide) rfl ?_
  intro p e s m args below meth c s₁ B0 hml hv
  obtain ⟨rfl, hsz, hP, hK, hD0⟩ := hv
  have hx := B0.exec
  have hb := B0.bytes
  have hr := B0.returns
  have hts := atoms_spec (ws := wsX9_isBranch) B0.pre
  have hown : s.vm.findClass RX9 = some m.cls := findClass_of_methodNamed B0.named
  have hlocks := B0.notSynchronized
  have hinX9 : ∀ w ∈ wsX90, w ∈ wsX9_isBranch := fun w h => List.mem_cons_of_mem _ (List.mem_append_right _ (h))
  subst hsz
  have hD := hD0.self (sz := s.heap.size)
  generalize hAe : va_A (wX cI cJ cZ ma sg) s.heap.size = A at hD ⊢
  have hA : ∀ q : Nat, s.heap.size ≤ q → A q := fun q h => by rw [← hAe]; exact Or.inr h
  have hS : va_S A s.heap s.heap [] := va_S.rf
  have hl := lv_entry ([.ref (ma 0), .int (x)]) (n := 2) (Nat.le_of_ble_eq_true rfl)
  rw [lg_entry_eq]
  generalize (lg_sl ([.ref (ma 0), .int (x)]) ++ List.replicate (2 - (lg_sl ([.ref (ma 0), .int (x)])).length) Slot.unset).toArray = ls at hl ⊢
  have hl : lv_has ls 2 [(0, .ref (ma 0)), (1, .int (x))] := hl
  have hv : (fX9_isBranch x sg) = (fX9_isBranch x sg) := rfl
  refine lv_aload_n hx hb dX9_isBranch_0 rfl (lv_at hl 0 rfl) ?_
  refine lv_iload_n hx hb dX9_isBranch_1 rfl (lv_at hl 1 rfl) ?_
  refine md_callv (W1 := wM1 (ma 0) (fun k => ([.int (sg.1), .ref (ma 1), .int (nI sg.2.1), .int (sg.2.2.1), .ref (ma 4), .ref (ma 5), .ref (ma 6), .ref (ma 7), .ref (ma 8), .ref (ma 9), .ref (ma 10), .int (nI sg.2.2.2.1), .int (sg.2.2.2.2.1), .ref (ma 13), .ref (ma 14), .null, .null, .null, .null, .null, .null, .null, .ref (ma 22), .ref (ma 23), .ref (ma 24), .ref (ma 25)] : List Value).getD k .null) sg.2.2.2.2.2.1) (wr := [((ma 1), .inl (cI, 9, .inl (sg.2.2.2.2.2.2.1 1))), ((ma 4), .inl (cI, 40, .inl (sg.2.2.2.2.2.2.1 4))), ((ma 5), .inl (cI, 40, .inl (sg.2.2.2.2.2.2.1 5))), ((ma 6), .inl (cI, 40, .inl (sg.2.2.2.2.2.2.1 6))), ((ma 7), .inl (cI, 40, .inl (sg.2.2.2.2.2.2.1 7))), ((ma 8), .inl (cJ, 40, .inr (.inl (sg.2.2.2.2.2.2.2 8)))), ((ma 9), .inl (cJ, 40, .inr (.inl (sg.2.2.2.2.2.2.2 9)))), ((ma 10), .inl (cZ, 40, .inl (sg.2.2.2.2.2.2.1 10))), ((ma 13), .inl (cI, 41, .inl (sg.2.2.2.2.2.2.1 13))), ((ma 14), .inl (cI, 41, .inl (sg.2.2.2.2.2.2.1 14))), ((ma 22), .inl (cI, 40, .inl (sg.2.2.2.2.2.2.1 22))), ((ma 23), .inl (cI, 41, .inl (sg.2.2.2.2.2.2.1 23))), ((ma 24), .inl (cI, 40, .inl (sg.2.2.2.2.2.2.1 24))), ((ma 25), .inl (cI, 41, .inl (sg.2.2.2.2.2.2.1 25)))]) (va_runV (As := [.int (x)]) (rest := []) ⟨hx, hb, hml, hown, hts⟩ (kX9_look l dC dI (ma 0) (fun k => ([.int (sg.1), .ref (ma 1), .int (nI sg.2.1), .int (sg.2.2.1), .ref (ma 4), .ref (ma 5), .ref (ma 6), .ref (ma 7), .ref (ma 8), .ref (ma 9), .ref (ma 10), .int (nI sg.2.2.2.1), .int (sg.2.2.2.2.1), .ref (ma 13), .ref (ma 14), .null, .null, .null, .null, .null, .null, .null, .ref (ma 22), .ref (ma 23), .ref (ma 24), .ref (ma 25)] : List Value).getD k .null) s.heap.size x sg.2.2.2.2.2.1) (cwV 1 hts gX9_isBranch_X9_look rfl rfl rfl (by decide +kernel) ⟨Nat.le_of_ble_eq_true rfl, Nat.le_of_ble_eq_true rfl⟩) (md_preV 0 4 (q := (RX9, TX9, 26)) rfl rfl (hP.sub [0] rfl) (hK.sub [] rfl) (hD.sub [0] (by decide) rfl)) rfl rfl hl.1 rfl (lv_room (Nat.le_of_ble_eq_true rfl)) dX9_isBranch_2 ⟨Nat.zero_le _, Nat.zero_le _⟩) hS hA hP hD [0] [1, 2, 3, 4, 5, 6, 7, 8, 9, 10, 11, 12, 13, 14] rfl rfl (by decide) (by decide) (fun H locs hP hD hS => ?_)
  have hP : va_P (dC, dI) vwCl (wX cI cJ cZ ma (sg.1, sg.2.1, sg.2.2.1, sg.2.2.2.1, sg.2.2.2.2.1, (fX9_look x sg.2.2.2.2.2.1), sg.2.2.2.2.2.2.1, sg.2.2.2.2.2.2.2)) H := hP.sub [14, 0, 1, 2, 3, 4, 5, 6, 7, 8, 9, 10, 11, 12, 13] rfl
  have hD : va_D A (wX cI cJ cZ ma (sg.1, sg.2.1, sg.2.2.1, sg.2.2.2.1, sg.2.2.2.2.1, (fX9_look x sg.2.2.2.2.2.1), sg.2.2.2.2.2.2.1, sg.2.2.2.2.2.2.2)) := hD.sub [14, 0, 1, 2, 3, 4, 5, 6, 7, 8, 9, 10, 11, 12, 13] (by decide) rfl
  refine lv_aload_n hx hb dX9_isBranch_5 rfl (lv_at hl 0 rfl) ?_
  refine va_get (D := (dC, dI)) (ci := 4) (v := .int ((fX9_look x sg.2.2.2.2.2.1).2.1)) (C := RX9) (T := TX9) (N := 26) hx hb hts hinX9 hown hK hP 0 rfl rfl 16 (by decide) (hts (.fieldLink RX9 69 "SlotFillerModel" "sort" "I") (by decide +kernel)) (fun _ h9 => h9) rfl dX9_isBranch_6 ?_
  refine lv_bipush (v := 7) hx hb dX9_isBranch_9 (by decide) ?_
  refine lv_icmp_ne (tgt := 18) hx hb dX9_isBranch_11 (by decide) (fun c_1 => ?_) (fun c_1 => ?_)
  · refine lv_iconst (v := 0) hx hb dX9_isBranch_18 (by decide) ?_
    have e7 : (0, (sg.1, sg.2.1, sg.2.2.1, sg.2.2.2.1, sg.2.2.2.2.1, fX9_look x sg.2.2.2.2.2.1, sg.2.2.2.2.2.2.1, sg.2.2.2.2.2.2.2)) = (fX9_isBranch x sg) := ((show (0, (sg.1, sg.2.1, sg.2.2.1, sg.2.2.2.1, sg.2.2.2.2.1, fX9_look x sg.2.2.2.2.2.1, sg.2.2.2.2.2.2.1, sg.2.2.2.2.2.2.2)) = (fX9_isBranch x sg) by unfold fX9_isBranch; rw [if_neg c_1]).trans hv)
    have hP : va_P (dC, dI) vwCl (wX cI cJ cZ ma ((fX9_isBranch x sg).2)) H := by rw [← e7]; exact hP
    have hD : va_D A (wX cI cJ cZ ma ((fX9_isBranch x sg).2)) := by rw [← e7]; exact hD
    have e8 : 0 = (fX9_isBranch x sg).1 := by rw [← e7]
    exact W.zret (v := 0) hx hb hr (by decide) (fun t ht hW => ⟨⟨_, (), rfl, e8, by rw [ht]; exact hP, hD⟩, hS.F ht⟩) hS.2.2 dX9_isBranch_19
  · refine lv_iconst (v := 1) hx hb dX9_isBranch_14 (by decide) ?_
    refine lv_goto (tgt := 19) hx hb dX9_isBranch_15 (by decide) ?_
    have e7 : (1, (sg.1, sg.2.1, sg.2.2.1, sg.2.2.2.1, sg.2.2.2.2.1, fX9_look x sg.2.2.2.2.2.1, sg.2.2.2.2.2.2.1, sg.2.2.2.2.2.2.2)) = (fX9_isBranch x sg) := ((show (1, (sg.1, sg.2.1, sg.2.2.1, sg.2.2.2.1, sg.2.2.2.2.1, fX9_look x sg.2.2.2.2.2.1, sg.2.2.2.2.2.2.1, sg.2.2.2.2.2.2.2)) = (fX9_isBranch x sg) by unfold fX9_isBranch; rw [if_pos c_1]).trans hv)
    have hP : va_P (dC, dI) vwCl (wX cI cJ cZ ma ((fX9_isBranch x sg).2)) H := by rw [← e7]; exact hP
    have hD : va_D A (wX cI cJ cZ ma ((fX9_isBranch x sg).2)) := by rw [← e7]; exact hD
    have e8 : 1 = (fX9_isBranch x sg).1 := by rw [← e7]
    exact W.zret (v := 1) hx hb hr (by decide) (fun t ht hW => ⟨⟨_, (), rfl, e8, by rw [ht]; exact hP, hD⟩, hS.F ht⟩) hS.2.2 dX9_isBranch_19
def fX9_count_99 (x : Int32) (v3 : Int32) (v2 : Int32) (tg : XS) : Int32 × XS := if x = 0 then (nI tg.2.1, tg) else if x = 1 then (nI tg.2.2.2.1, tg) else if x = 2 then (v2, tg) else if v3 = 0 then (0, tg) else (1, tg)
def fX9_count_20 (x : Int32) : Nat → Nat → Int32 → XS → Int32 × XS
  | 0, k, v, tg => (0, tg)
  | q20 + 1, k, v, tg => if nI tg.2.2.2.1 ≤ nI k then if nI tg.2.2.2.1 ≤ 1 then (fX9_count_99 x 0 v tg) else if ((tg.2.2.2.2.2.2.1 14) (tg.2.2.2.1 - 1)) = (-1) then (fX9_count_99 x 0 v tg) else if (fX9_isBranch ((tg.2.2.2.2.2.2.1 13) (tg.2.2.2.1 - 2)) tg).1 = 0 then (fX9_count_99 x 0 v ((fX9_isBranch ((tg.2.2.2.2.2.2.1 13) (tg.2.2.2.1 - 2)) tg).2)) else (fX9_count_99 x 1 v ((fX9_isBranch ((tg.2.2.2.2.2.2.1 13) (tg.2.2.2.1 - 2)) tg).2)) else if ((tg.2.2.2.2.2.2.1 14) (k)) = (-1) then (fX9_count_20 x q20 (k + 1) (v + 1) tg) else (fX9_count_20 x q20 (k + 1) (v + 0) tg)
def fX9_count (x : Int32) (sg : XS) : Int32 × XS := if x < 0 then ((-1), (0, sg.2.1, sg.2.2.1, sg.2.2.2.1, sg.2.2.2.2.1, sg.2.2.2.2.2.1, sg.2.2.2.2.2.2.1, sg.2.2.2.2.2.2.2)) else if x ≤ 3 then (fX9_count_20 x 42 0 0 (0, sg.2.1, sg.2.2.1, sg.2.2.2.1, sg.2.2.2.2.1, sg.2.2.2.2.2.1, sg.2.2.2.2.2.2.1, sg.2.2.2.2.2.2.2)) else ((-1), (0, sg.2.1, sg.2.2.1, sg.2.2.2.1, sg.2.2.2.2.1, sg.2.2.2.2.2.1, sg.2.2.2.2.2.2.1, sg.2.2.2.2.2.2.2))
set_option maxHeartbeats 4000000 in
set_option maxRecDepth 100000 in
theorem kX9_count (l : Launch) (dC : Nat → ClassId) (dI : Nat → Nat → Nat) (cI cJ cZ : ClassId) (ma : Nat → Nat) (sz : Nat) (x : Int32) (sg : XS) (hcm : sg.2.2.2.1 ≤ 41) : Met l yX9_count wsX9_count ({ frames := 6, cells := 0, slots := 0, locals := 131 }) (md_Pc (dC, dI) (wX cI cJ cZ ma sg) (tyA cI cJ cZ) [.ref (ma 0), .int (x)] sz) (md_Qi (fX9_count x sg).1 (dC, dI) (wX cI cJ cZ ma ((fX9_count x sg).2)) (va_A (wX cI cJ cZ ma sg) sz)) 0 0 (va_A (wX cI cJ cZ ma sg) sz) := by
  refine Met.ofW (cc := cX9_count) (maxL := 4) (ret := (some .int)) (by decide) rfl ?_
  intro p e s m args below meth c s₁ B0 hml hv
  obtain ⟨rfl, hsz, hP, hK, hD0⟩ := hv
  have hx := B0.exec
  have hb := B0.bytes
  have hr := B0.returns
  have hts := atoms_spec (ws := wsX9_count) B0.pre
  have hown : s.vm.findClass RX9 = some m.cls := findClass_of_methodNamed B0.named
  have hlocks := B0.notSynchronized
  have hinX9 : ∀ w ∈ wsX90, w ∈ wsX9_count := fun w h => List.mem_cons_of_mem _ (List.mem_append_right _ (h))
  subst hsz
  have hD := hD0.self (sz := s.heap.size)
  generalize hAe : va_A (wX cI cJ cZ ma sg) s.heap.size = A at hD ⊢
  have hA : ∀ q : Nat, s.heap.size ≤ q → A q := fun q h => by rw [← hAe]; exact Or.inr h
  have hS : va_S A s.heap s.heap [] := va_S.rf
  have hl := lv_entry ([.ref (ma 0), .int (x)]) (n := 4) (Nat.le_of_ble_eq_true rfl)
  rw [lg_entry_eq]
  generalize (lg_sl ([.ref (ma 0), .int (x)]) ++ List.replicate (4 - (lg_sl ([.ref (ma 0), .int (x)])).length) Slot.unset).toArray = ls at hl ⊢
  have hl : lv_has ls 4 [(0, .ref (ma 0)), (1, .int (x))] := hl
  have hv : (fX9_count x sg) = (fX9_count x sg) := rfl
  have J99 : ∀ (v3 : Int32) (v2 : Int32) (tg : XS) (H : Heap) (locs : List Loc) (ls : Array Slot), va_P (dC, dI) vwCl (wX cI cJ cZ ma tg) H → va_D A (wX cI cJ cZ ma tg) → va_S A s.heap H locs → lv_has ls 4 [(3, .int (v3)), (2, .int (v2)), (0, .ref (ma 0)), (1, .int (x))] → (fX9_count_99 x v3 v2 tg) = (fX9_count x sg) → W p l e (headSpec wsX9_count ({ frames := 6, cells := 0, slots := 0, locals := 131 })).room s m ([.ref (ma 0), .int (x)] : List Value).toArray below meth c H locs 0 0 (MQ below (md_Qi (fX9_count x sg).1 (dC, dI) (wX cI cJ cZ ma ((fX9_count x sg).2)) (A)) ([.ref (ma 0), .int (x)] : List Value).toArray s 0 0 (A)) (F0 m 99 ls []) := by
    intro v3 v2 tg H locs ls hP hD hS hl hv
    refine lv_iload_n hx hb dX9_count_99 rfl (lv_at hl 3 rfl) ?_
    refine lv_if_ne (tgt := 110) hx hb dX9_count_100 (by decide) (fun c_1 => ?_) (fun c_1 => ?_)
    · refine lv_iload_n hx hb dX9_count_110 rfl (lv_at hl 3 rfl) ?_
      refine lv_iconst (v := 1) hx hb dX9_count_111 (by decide) ?_
      refine lv_icmp_ne (tgt := 122) hx hb dX9_count_112 (by decide) (fun c_2 => ?_) (fun c_2 => ?_)
      · refine lv_iload_n hx hb dX9_count_122 rfl (lv_at hl 3 rfl) ?_
        refine lv_iconst (v := 2) hx hb dX9_count_123 (by decide) ?_
        refine lv_icmp_ne (tgt := 131) hx hb dX9_count_124 (by decide) (fun c_3 => ?_) (fun c_3 => ?_)
        · refine lv_iload_n hx hb dX9_count_131 rfl (lv_at hl 0 rfl) ?_
          refine lv_if_eq (tgt := 139) hx hb dX9_count_132 (by decide) (fun c_4 => ?_) (fun c_4 => ?_)
          · refine lv_iconst (v := 0) hx hb dX9_count_139 (by decide) ?_
            have e7 : (0, tg) = (fX9_count x sg) := ((show (0, tg) = (fX9_count_99 x v3 v2 tg) by unfold fX9_count_99; rw [if_neg c_1, if_neg c_2, if_neg c_3, if_pos c_4]).trans hv)
            have hP : va_P (dC, dI) vwCl (wX cI cJ cZ ma ((fX9_count x sg).2)) H := by rw [← e7]; exact hP
            have hD : va_D A (wX cI cJ cZ ma ((fX9_count x sg).2)) := by rw [← e7]; exact hD
            have e8 : 0 = (fX9_count x sg).1 := by rw [← e7]
            exact W.iret (v := 0) hx hb hr (fun t ht hW => ⟨⟨_, (), rfl, e8, by rw [ht]; exact hP, hD⟩, hS.F ht⟩) hS.2.2 dX9_count_140
          · refine lv_iconst (v := 1) hx hb dX9_count_135 (by decide) ?_
            refine lv_goto (tgt := 140) hx hb dX9_count_136 (by decide) ?_
            have e7 : (1, tg) = (fX9_count x sg) := ((show (1, tg) = (fX9_count_99 x v3 v2 tg) by unfold fX9_count_99; rw [if_neg c_1, if_neg c_2, if_neg c_3, if_neg c_4]).trans hv)
            have hP : va_P (dC, dI) vwCl (wX cI cJ cZ ma ((fX9_count x sg).2)) H := by rw [← e7]; exact hP
            have hD : va_D A (wX cI cJ cZ ma ((fX9_count x sg).2)) := by rw [← e7]; exact hD
            have e8 : 1 = (fX9_count x sg).1 := by rw [← e7]
            exact W.iret (v := 1) hx hb hr (fun t ht hW => ⟨⟨_, (), rfl, e8, by rw [ht]; exact hP, hD⟩, hS.F ht⟩) hS.2.2 dX9_count_140
        · refine lv_iload_n hx hb dX9_count_127 rfl (lv_at hl 1 rfl) ?_
          refine lv_goto (tgt := 140) hx hb dX9_count_128 (by decide) ?_
          have e7 : (v2, tg) = (fX9_count x sg) := ((show (v2, tg) = (fX9_count_99 x v3 v2 tg) by unfold fX9_count_99; rw [if_neg c_1, if_neg c_2, if_pos c_3]).trans hv)
          have hP : va_P (dC, dI) vwCl (wX cI cJ cZ ma ((fX9_count x sg).2)) H := by rw [← e7]; exact hP
          have hD : va_D A (wX cI cJ cZ ma ((fX9_count x sg).2)) := by rw [← e7]; exact hD
          have e8 : v2 = (fX9_count x sg).1 := by rw [← e7]
          exact W.iret (v := v2) hx hb hr (fun t ht hW => ⟨⟨_, (), rfl, e8, by rw [ht]; exact hP, hD⟩, hS.F ht⟩) hS.2.2 dX9_count_140
      · refine lv_aload_n hx hb dX9_count_115 rfl (lv_at hl 2 rfl) ?_
        refine va_get (D := (dC, dI)) (ci := 4) (v := .int (nI tg.2.2.2.1)) (C := RX9) (T := TX9) (N := 26) hx hb hts hinX9 hown hK hP 0 rfl rfl 11 (by decide) (hts (.fieldLink RX9 181 "SlotFillerModel" "came" "I") (by decide +kernel)) (fun _ h9 => h9) rfl dX9_count_116 ?_
        refine lv_goto (tgt := 140) hx hb dX9_count_119 (by decide) ?_
        have e7 : (nI tg.2.2.2.1, tg) = (fX9_count x sg) := ((show (nI tg.2.2.2.1, tg) = (fX9_count_99 x v3 v2 tg) by unfold fX9_count_99; rw [if_neg c_1, if_pos c_2]).trans hv)
        have hP : va_P (dC, dI) vwCl (wX cI cJ cZ ma ((fX9_count x sg).2)) H := by rw [← e7]; exact hP
        have hD : va_D A (wX cI cJ cZ ma ((fX9_count x sg).2)) := by rw [← e7]; exact hD
        have e8 : nI tg.2.2.2.1 = (fX9_count x sg).1 := by rw [← e7]
        exact W.iret (v := nI tg.2.2.2.1) hx hb hr (fun t ht hW => ⟨⟨_, (), rfl, e8, by rw [ht]; exact hP, hD⟩, hS.F ht⟩) hS.2.2 dX9_count_140
    · refine lv_aload_n hx hb dX9_count_103 rfl (lv_at hl 2 rfl) ?_
      refine va_get (D := (dC, dI)) (ci := 4) (v := .int (nI tg.2.1)) (C := RX9) (T := TX9) (N := 26) hx hb hts hinX9 hown hK hP 0 rfl rfl 2 (by decide) (hts (.fieldLink RX9 148 "SlotFillerModel" "many" "I") (by decide +kernel)) (fun _ h9 => h9) rfl dX9_count_104 ?_
      refine lv_goto (tgt := 140) hx hb dX9_count_107 (by decide) ?_
      have e7 : (nI tg.2.1, tg) = (fX9_count x sg) := ((show (nI tg.2.1, tg) = (fX9_count_99 x v3 v2 tg) by unfold fX9_count_99; rw [if_pos c_1]).trans hv)
      have hP : va_P (dC, dI) vwCl (wX cI cJ cZ ma ((fX9_count x sg).2)) H := by rw [← e7]; exact hP
      have hD : va_D A (wX cI cJ cZ ma ((fX9_count x sg).2)) := by rw [← e7]; exact hD
      have e8 : nI tg.2.1 = (fX9_count x sg).1 := by rw [← e7]
      exact W.iret (v := nI tg.2.1) hx hb hr (fun t ht hW => ⟨⟨_, (), rfl, e8, by rw [ht]; exact hP, hD⟩, hS.F ht⟩) hS.2.2 dX9_count_140
  have J20 : ∀ (q20 : Nat) (k : Nat) (v : Int32) (tg : XS) (H : Heap) (locs : List Loc) (ls : Array Slot), ((k ≤ tg.2.2.2.1 ∧ tg.2.2.2.1 ≤ 41) ∧ 42 ≤ k + q20) → va_P (dC, dI) vwCl (wX cI cJ cZ ma tg) H → va_D A (wX cI cJ cZ ma tg) → va_S A s.heap H locs → lv_has ls 4 [(3, .int (nI k)), (2, .int (v)), (0, .ref (ma 0)), (1, .int (x))] → (fX9_count_20 x q20 k v tg) = (fX9_count x sg) → W p l e (headSpec wsX9_count ({ frames := 6, cells := 0, slots := 0, locals := 131 })).room s m ([.ref (ma 0), .int (x)] : List Value).toArray below meth c H locs 0 0 (MQ below (md_Qi (fX9_count x sg).1 (dC, dI) (wX cI cJ cZ ma ((fX9_count x sg).2)) (A)) ([.ref (ma 0), .int (x)] : List Value).toArray s 0 0 (A)) (F0 m 20 ls []) := by
    intro q20
    induction q20 with
    | zero => intro k v tg H locs ls hm20 hP hD hS hl hv; exact absurd hm20 (by omega)
    | succ q20 ih20 =>
      intro k v tg H locs ls hm20 hP hD hS hl hv
      have hkt := hm20.1.1; have ht41 := hm20.1.2; have hq := hm20.2
      refine lv_iload_n hx hb dX9_count_20 rfl (lv_at hl 0 rfl) ?_
      refine lv_aload_n hx hb dX9_count_21 rfl (lv_at hl 2 rfl) ?_
      refine va_get (D := (dC, dI)) (ci := 4) (v := .int (nI tg.2.2.2.1)) (C := RX9) (T := TX9) (N := 26) hx hb hts hinX9 hown hK hP 0 rfl rfl 11 (by decide) (hts (.fieldLink RX9 181 "SlotFillerModel" "came" "I") (by decide +kernel)) (fun _ h9 => h9) rfl dX9_count_22 ?_
      refine lv_icmp_ge (tgt := 52) hx hb dX9_count_25 (by decide) (fun c_5 => ?_) (fun c_5 => ?_)
      · refine lv_aload_n hx hb dX9_count_52 rfl (lv_at hl 2 rfl) ?_
        refine va_get (D := (dC, dI)) (ci := 4) (v := .int (nI tg.2.2.2.1)) (C := RX9) (T := TX9) (N := 26) hx hb hts hinX9 hown hK hP 0 rfl rfl 11 (by decide) (hts (.fieldLink RX9 181 "SlotFillerModel" "came" "I") (by decide +kernel)) (fun _ h9 => h9) rfl dX9_count_53 ?_
        refine lv_iconst (v := 1) hx hb dX9_count_56 (by decide) ?_
        refine lv_icmp_le (tgt := 97) hx hb dX9_count_57 (by decide) (fun c_6 => ?_) (fun c_6 => ?_)
        · refine lv_iconst (v := 0) hx hb dX9_count_97 (by decide) ?_
          refine lv_istore_n (lv' := [(3, .int (0)), (2, .int (v)), (0, .ref (ma 0)), (1, .int (x))]) hx hb dX9_count_98 rfl hl (by decide) rfl (fun ls hl => ?_)
          exact J99 0 v tg H _ ls hP hD hS (lv_sub hl [0, 1, 2, 3] rfl) ((show (fX9_count_99 x 0 v tg) = (fX9_count_20 x (q20 + 1) k v tg) by rw [fX9_count_20, if_pos c_5, if_pos c_6]).trans hv)
        · have hz := nI_sub2 c_6 ht41
          refine lv_aload_n hx hb dX9_count_60 rfl (lv_at hl 2 rfl) ?_
          refine va_get (D := (dC, dI)) (ci := 4) (v := .ref (ma 14)) (C := RX9) (T := TX9) (N := 26) hx hb hts hinX9 hown hK hP 0 rfl rfl 14 (by decide) (hts (.fieldLink RX9 39 "SlotFillerModel" "outFrom" "[I") (by decide +kernel)) (fun _ h9 => h9) rfl dX9_count_61 ?_
          refine lv_aload_n hx hb dX9_count_64 rfl (lv_at hl 2 rfl) ?_
          refine va_get (D := (dC, dI)) (ci := 4) (v := .int (nI tg.2.2.2.1)) (C := RX9) (T := TX9) (N := 26) hx hb hts hinX9 hown hK hP 0 rfl rfl 11 (by decide) (hts (.fieldLink RX9 181 "SlotFillerModel" "came" "I") (by decide +kernel)) (fun _ h9 => h9) rfl dX9_count_65 ?_
          refine lv_iconst (v := 1) hx hb dX9_count_68 (by decide) ?_
          refine lv_isub hx hb dX9_count_69 ?_
          refine top_i (y := nI (tg.2.2.2.1 - 1)) (hz.2.1) ?_
          refine my_iald (j := tg.2.2.2.1 - 1) hx hb hK hP 10 0 rfl rfl (by omega) (by decide) dX9_count_70 ?_
          refine lv_iconst (v := (-1)) hx hb dX9_count_71 (by decide) ?_
          refine lv_icmp_eq (tgt := 97) hx hb dX9_count_72 (by decide) (fun c_7 => ?_) (fun c_7 => ?_)
          · refine lv_iconst (v := 0) hx hb dX9_count_97 (by decide) ?_
            refine lv_istore_n (lv' := [(3, .int (0)), (2, .int (v)), (0, .ref (ma 0)), (1, .int (x))]) hx hb dX9_count_98 rfl hl (by decide) rfl (fun ls hl => ?_)
            exact J99 0 v tg H _ ls hP hD hS (lv_sub hl [0, 1, 2, 3] rfl) ((show (fX9_count_99 x 0 v tg) = (fX9_count_20 x (q20 + 1) k v tg) by rw [fX9_count_20, if_pos c_5, if_neg c_6, if_pos c_7]).trans hv)
          · refine lv_aload_n hx hb dX9_count_75 rfl (lv_at hl 2 rfl) ?_
            refine lv_aload_n hx hb dX9_count_76 rfl (lv_at hl 2 rfl) ?_
            refine va_get (D := (dC, dI)) (ci := 4) (v := .ref (ma 13)) (C := RX9) (T := TX9) (N := 26) hx hb hts hinX9 hown hK hP 0 rfl rfl 13 (by decide) (hts (.fieldLink RX9 36 "SlotFillerModel" "out" "[I") (by decide +kernel)) (fun _ h9 => h9) rfl dX9_count_77 ?_
            refine lv_aload_n hx hb dX9_count_80 rfl (lv_at hl 2 rfl) ?_
            refine va_get (D := (dC, dI)) (ci := 4) (v := .int (nI tg.2.2.2.1)) (C := RX9) (T := TX9) (N := 26) hx hb hts hinX9 hown hK hP 0 rfl rfl 11 (by decide) (hts (.fieldLink RX9 181 "SlotFillerModel" "came" "I") (by decide +kernel)) (fun _ h9 => h9) rfl dX9_count_81 ?_
            refine lv_iconst (v := 2) hx hb dX9_count_84 (by decide) ?_
            refine lv_isub hx hb dX9_count_85 ?_
            refine top_i (y := nI (tg.2.2.2.1 - 2)) (hz.2.2) ?_
            refine my_iald (j := tg.2.2.2.1 - 2) hx hb hK hP 9 0 rfl rfl (by omega) (by decide) dX9_count_86 ?_
            refine md_calli (wr := []) (va_runV (As := [.int (((tg.2.2.2.2.2.2.1 13) (tg.2.2.2.1 - 2)))]) (rest := []) ⟨hx, hb, hml, hown, hts⟩ (kX9_isBranch l dC dI cI cJ cZ ma H.size ((tg.2.2.2.2.2.2.1 13) (tg.2.2.2.1 - 2)) tg) (cwV 1 hts gX9_count_X9_isBranch rfl rfl rfl (by decide +kernel) ⟨Nat.le_of_ble_eq_true rfl, Nat.le_of_ble_eq_true rfl⟩) (md_preV 0 4 (q := (RX9, TX9, 26)) rfl rfl hP hK hD) rfl rfl hl.1 rfl (lv_room (Nat.le_of_ble_eq_true rfl)) dX9_count_87 ⟨Nat.zero_le _, Nat.zero_le _⟩) hS hA hP hD [0, 1, 2, 3, 4, 5, 6, 7, 8, 9, 10, 11, 12, 13, 14] [] rfl rfl (by decide) (by decide) (fun H locs hP hD hS => ?_)
            have hP : va_P (dC, dI) vwCl (wX cI cJ cZ ma ((fX9_isBranch ((tg.2.2.2.2.2.2.1 13) (tg.2.2.2.1 - 2)) tg).2)) H := hP
            have hD : va_D A (wX cI cJ cZ ma ((fX9_isBranch ((tg.2.2.2.2.2.2.1 13) (tg.2.2.2.1 - 2)) tg).2)) := hD
            refine lv_if_eq (tgt := 97) hx hb dX9_count_90 (by decide) (fun c_8 => ?_) (fun c_8 => ?_)
            · refine lv_iconst (v := 0) hx hb dX9_count_97 (by decide) ?_
              refine lv_istore_n (lv' := [(3, .int (0)), (2, .int (v)), (0, .ref (ma 0)), (1, .int (x))]) hx hb dX9_count_98 rfl hl (by decide) rfl (fun ls hl => ?_)
              exact J99 0 v ((fX9_isBranch ((tg.2.2.2.2.2.2.1 13) (tg.2.2.2.1 - 2)) tg).2) H _ ls hP hD hS (lv_sub hl [0, 1, 2, 3] rfl) ((show (fX9_count_99 x 0 v ((fX9_isBranch ((tg.2.2.2.2.2.2.1 13) (tg.2.2.2.1 - 2)) tg).2)) = (fX9_count_20 x (q20 + 1) k v tg) by rw [fX9_count_20, if_pos c_5, if_neg c_6, if_neg c_7, if_pos c_8]).trans hv)
            · refine lv_iconst (v := 1) hx hb dX9_count_93 (by decide) ?_
              refine lv_goto (tgt := 98) hx hb dX9_count_94 (by decide) ?_
              refine lv_istore_n (lv' := [(3, .int (1)), (2, .int (v)), (0, .ref (ma 0)), (1, .int (x))]) hx hb dX9_count_98 rfl hl (by decide) rfl (fun ls hl => ?_)
              exact J99 1 v ((fX9_isBranch ((tg.2.2.2.2.2.2.1 13) (tg.2.2.2.1 - 2)) tg).2) H _ ls hP hD hS (lv_sub hl [0, 1, 2, 3] rfl) ((show (fX9_count_99 x 1 v ((fX9_isBranch ((tg.2.2.2.2.2.2.1 13) (tg.2.2.2.1 - 2)) tg).2)) = (fX9_count_20 x (q20 + 1) k v tg) by rw [fX9_count_20, if_pos c_5, if_neg c_6, if_neg c_7, if_neg c_8]).trans hv)
      · have hkt1 : k + 1 ≤ tg.2.2.2.1 := nI_geN (by omega) (by omega) c_5
        refine lv_iload_n hx hb dX9_count_28 rfl (lv_at hl 1 rfl) ?_
        refine lv_aload_n hx hb dX9_count_29 rfl (lv_at hl 2 rfl) ?_
        refine va_get (D := (dC, dI)) (ci := 4) (v := .ref (ma 14)) (C := RX9) (T := TX9) (N := 26) hx hb hts hinX9 hown hK hP 0 rfl rfl 14 (by decide) (hts (.fieldLink RX9 39 "SlotFillerModel" "outFrom" "[I") (by decide +kernel)) (fun _ h9 => h9) rfl dX9_count_30 ?_
        refine lv_iload_n hx hb dX9_count_33 rfl (lv_at hl 0 rfl) ?_
        refine my_iald (j := k) hx hb hK hP 10 0 rfl rfl (by omega) (by decide) dX9_count_34 ?_
        refine lv_iconst (v := (-1)) hx hb dX9_count_35 (by decide) ?_
        refine lv_icmp_ne (tgt := 43) hx hb dX9_count_36 (by decide) (fun c_9 => ?_) (fun c_9 => ?_)
        · refine lv_iconst (v := 0) hx hb dX9_count_43 (by decide) ?_
          refine lv_iadd hx hb dX9_count_44 ?_
          refine lv_istore_n (lv' := [(2, .int ((v + 0))), (3, .int (nI k)), (0, .ref (ma 0)), (1, .int (x))]) hx hb dX9_count_45 rfl hl (by decide) rfl (fun ls hl => ?_)
          refine lv_iinc (v := nI (k + 1)) (lv' := [(3, .int (nI (k + 1))), (2, .int ((v + 0))), (0, .ref (ma 0)), (1, .int (x))]) hx hb dX9_count_46 hl (k := 1) rfl (nI_1 k) (by decide) rfl (fun ls hl => ?_)
          refine lv_goto (tgt := 20) hx hb dX9_count_49 (by decide) ?_
          exact ih20 (k + 1) (v + 0) tg H _ ls (⟨⟨hkt1, ht41⟩, by omega⟩) hP hD hS (lv_sub hl [0, 1, 2, 3] rfl) ((show (fX9_count_20 x q20 (k + 1) (v + 0) tg) = (fX9_count_20 x (q20 + 1) k v tg) by rw [fX9_count_20, if_neg c_5, if_neg c_9]).trans hv)
        · refine lv_iconst (v := 1) hx hb dX9_count_39 (by decide) ?_
          refine lv_goto (tgt := 44) hx hb dX9_count_40 (by decide) ?_
          refine lv_iadd hx hb dX9_count_44 ?_
          refine lv_istore_n (lv' := [(2, .int ((v + 1))), (3, .int (nI k)), (0, .ref (ma 0)), (1, .int (x))]) hx hb dX9_count_45 rfl hl (by decide) rfl (fun ls hl => ?_)
          refine lv_iinc (v := nI (k + 1)) (lv' := [(3, .int (nI (k + 1))), (2, .int ((v + 1))), (0, .ref (ma 0)), (1, .int (x))]) hx hb dX9_count_46 hl (k := 1) rfl (nI_1 k) (by decide) rfl (fun ls hl => ?_)
          refine lv_goto (tgt := 20) hx hb dX9_count_49 (by decide) ?_
          exact ih20 (k + 1) (v + 1) tg H _ ls (⟨⟨hkt1, ht41⟩, by omega⟩) hP hD hS (lv_sub hl [0, 1, 2, 3] rfl) ((show (fX9_count_20 x q20 (k + 1) (v + 1) tg) = (fX9_count_20 x (q20 + 1) k v tg) by rw [fX9_count_20, if_neg c_5, if_pos c_9]).trans hv)
  refine lv_aload_n hx hb dX9_count_0 rfl (lv_at hl 0 rfl) ?_
  refine lv_iconst (v := 0) hx hb dX9_count_1 (by decide) ?_
  refine va_put (D := (dC, dI)) (ci := 4) (v := .int (0)) (ty := .int) (C := RX9) (T := TX9) (N := 26) hx hb hts hinX9 tyX9 tyX9_ok nmX9 hown hK hP hD hS 0 rfl rfl 0 (by decide) (hts (.fieldLink RX9 54 "SlotFillerModel" "thrown" "I") (by decide +kernel)) (fun _ h9 => h9) rfl (by decide +kernel) rfl rfl (Nat.le_of_ble_eq_true rfl) dX9_count_2 (fun H locs hP hD hS => ?_)
  have hP : va_P (dC, dI) vwCl [((ma 0), .inr (4, [.int (0), .ref (ma 1), .int (nI sg.2.1), .int (sg.2.2.1), .ref (ma 4), .ref (ma 5), .ref (ma 6), .ref (ma 7), .ref (ma 8), .ref (ma 9), .ref (ma 10), .int (nI sg.2.2.2.1), .int (sg.2.2.2.2.1), .ref (ma 13), .ref (ma 14), .int (sg.2.2.2.2.2.1.1), .int (sg.2.2.2.2.2.1.2.1), .int (sg.2.2.2.2.2.1.2.2.1), .int (sg.2.2.2.2.2.1.2.2.2.1), .long (sg.2.2.2.2.2.1.2.2.2.2.1), .long (sg.2.2.2.2.2.1.2.2.2.2.2.1), .int (sg.2.2.2.2.2.1.2.2.2.2.2.2), .ref (ma 22), .ref (ma 23), .ref (ma 24), .ref (ma 25)])), ((ma 1), .inl (cI, 9, .inl (sg.2.2.2.2.2.2.1 1))), ((ma 4), .inl (cI, 40, .inl (sg.2.2.2.2.2.2.1 4))), ((ma 5), .inl (cI, 40, .inl (sg.2.2.2.2.2.2.1 5))), ((ma 6), .inl (cI, 40, .inl (sg.2.2.2.2.2.2.1 6))), ((ma 7), .inl (cI, 40, .inl (sg.2.2.2.2.2.2.1 7))), ((ma 8), .inl (cJ, 40, .inr (.inl (sg.2.2.2.2.2.2.2 8)))), ((ma 9), .inl (cJ, 40, .inr (.inl (sg.2.2.2.2.2.2.2 9)))), ((ma 10), .inl (cZ, 40, .inl (sg.2.2.2.2.2.2.1 10))), ((ma 13), .inl (cI, 41, .inl (sg.2.2.2.2.2.2.1 13))), ((ma 14), .inl (cI, 41, .inl (sg.2.2.2.2.2.2.1 14))), ((ma 22), .inl (cI, 40, .inl (sg.2.2.2.2.2.2.1 22))), ((ma 23), .inl (cI, 41, .inl (sg.2.2.2.2.2.2.1 23))), ((ma 24), .inl (cI, 40, .inl (sg.2.2.2.2.2.2.1 24))), ((ma 25), .inl (cI, 41, .inl (sg.2.2.2.2.2.2.1 25)))] H := hP
  have hD : va_D A [((ma 0), .inr (4, [.int (0), .ref (ma 1), .int (nI sg.2.1), .int (sg.2.2.1), .ref (ma 4), .ref (ma 5), .ref (ma 6), .ref (ma 7), .ref (ma 8), .ref (ma 9), .ref (ma 10), .int (nI sg.2.2.2.1), .int (sg.2.2.2.2.1), .ref (ma 13), .ref (ma 14), .int (sg.2.2.2.2.2.1.1), .int (sg.2.2.2.2.2.1.2.1), .int (sg.2.2.2.2.2.1.2.2.1), .int (sg.2.2.2.2.2.1.2.2.2.1), .long (sg.2.2.2.2.2.1.2.2.2.2.1), .long (sg.2.2.2.2.2.1.2.2.2.2.2.1), .int (sg.2.2.2.2.2.1.2.2.2.2.2.2), .ref (ma 22), .ref (ma 23), .ref (ma 24), .ref (ma 25)])), ((ma 1), .inl (cI, 9, .inl (sg.2.2.2.2.2.2.1 1))), ((ma 4), .inl (cI, 40, .inl (sg.2.2.2.2.2.2.1 4))), ((ma 5), .inl (cI, 40, .inl (sg.2.2.2.2.2.2.1 5))), ((ma 6), .inl (cI, 40, .inl (sg.2.2.2.2.2.2.1 6))), ((ma 7), .inl (cI, 40, .inl (sg.2.2.2.2.2.2.1 7))), ((ma 8), .inl (cJ, 40, .inr (.inl (sg.2.2.2.2.2.2.2 8)))), ((ma 9), .inl (cJ, 40, .inr (.inl (sg.2.2.2.2.2.2.2 9)))), ((ma 10), .inl (cZ, 40, .inl (sg.2.2.2.2.2.2.1 10))), ((ma 13), .inl (cI, 41, .inl (sg.2.2.2.2.2.2.1 13))), ((ma 14), .inl (cI, 41, .inl (sg.2.2.2.2.2.2.1 14))), ((ma 22), .inl (cI, 40, .inl (sg.2.2.2.2.2.2.1 22))), ((ma 23), .inl (cI, 41, .inl (sg.2.2.2.2.2.2.1 23))), ((ma 24), .inl (cI, 40, .inl (sg.2.2.2.2.2.2.1 24))), ((ma 25), .inl (cI, 41, .inl (sg.2.2.2.2.2.2.1 25)))] := hD
  refine lv_iload_n hx hb dX9_count_5 rfl (lv_at hl 1 rfl) ?_
  refine lv_if_lt (tgt := 14) hx hb dX9_count_6 (by decide) (fun c_10 => ?_) (fun c_10 => ?_)
  · refine lv_iconst (v := (-1)) hx hb dX9_count_14 (by decide) ?_
    have e7 : ((-1), (0, sg.2.1, sg.2.2.1, sg.2.2.2.1, sg.2.2.2.2.1, sg.2.2.2.2.2.1, sg.2.2.2.2.2.2.1, sg.2.2.2.2.2.2.2)) = (fX9_count x sg) := ((show ((-1), (0, sg.2.1, sg.2.2.1, sg.2.2.2.1, sg.2.2.2.2.1, sg.2.2.2.2.2.1, sg.2.2.2.2.2.2.1, sg.2.2.2.2.2.2.2)) = (fX9_count x sg) by unfold fX9_count; rw [if_pos c_10]).trans hv)
    have hP : va_P (dC, dI) vwCl (wX cI cJ cZ ma ((fX9_count x sg).2)) H := by rw [← e7]; exact hP
    have hD : va_D A (wX cI cJ cZ ma ((fX9_count x sg).2)) := by rw [← e7]; exact hD
    have e8 : (-1) = (fX9_count x sg).1 := by rw [← e7]
    exact W.iret (v := (-1)) hx hb hr (fun t ht hW => ⟨⟨_, (), rfl, e8, by rw [ht]; exact hP, hD⟩, hS.F ht⟩) hS.2.2 dX9_count_15
  · refine lv_iload_n hx hb dX9_count_9 rfl (lv_at hl 1 rfl) ?_
    refine lv_iconst (v := 3) hx hb dX9_count_10 (by decide) ?_
    refine lv_icmp_le (tgt := 16) hx hb dX9_count_11 (by decide) (fun c_11 => ?_) (fun c_11 => ?_)
    · refine lv_iconst (v := 0) hx hb dX9_count_16 (by decide) ?_
      refine lv_istore_n (lv' := [(2, .int (0)), (0, .ref (ma 0)), (1, .int (x))]) hx hb dX9_count_17 rfl hl (by decide) rfl (fun ls hl => ?_)
      refine lv_iconst (v := 0) hx hb dX9_count_18 (by decide) ?_
      refine top_i (y := nI 0) (nI_0.symm) ?_
      refine lv_istore_n (lv' := [(3, .int (nI 0)), (2, .int (0)), (0, .ref (ma 0)), (1, .int (x))]) hx hb dX9_count_19 rfl hl (by decide) rfl (fun ls hl => ?_)
      exact J20 42 0 0 (0, sg.2.1, sg.2.2.1, sg.2.2.2.1, sg.2.2.2.2.1, sg.2.2.2.2.2.1, sg.2.2.2.2.2.2.1, sg.2.2.2.2.2.2.2) H _ ls (⟨⟨Nat.zero_le _, hcm⟩, by omega⟩) hP hD hS (lv_sub hl [0, 1, 2, 3] rfl) ((show (fX9_count_20 x 42 0 0 (0, sg.2.1, sg.2.2.1, sg.2.2.2.1, sg.2.2.2.2.1, sg.2.2.2.2.2.1, sg.2.2.2.2.2.2.1, sg.2.2.2.2.2.2.2)) = (fX9_count x sg) by unfold fX9_count; rw [if_neg c_10, if_pos c_11]).trans hv)
    · refine lv_iconst (v := (-1)) hx hb dX9_count_14 (by decide) ?_
      have e7 : ((-1), (0, sg.2.1, sg.2.2.1, sg.2.2.2.1, sg.2.2.2.2.1, sg.2.2.2.2.2.1, sg.2.2.2.2.2.2.1, sg.2.2.2.2.2.2.2)) = (fX9_count x sg) := ((show ((-1), (0, sg.2.1, sg.2.2.1, sg.2.2.2.1, sg.2.2.2.2.1, sg.2.2.2.2.2.1, sg.2.2.2.2.2.2.1, sg.2.2.2.2.2.2.2)) = (fX9_count x sg) by unfold fX9_count; rw [if_neg c_10, if_neg c_11]).trans hv)
      have hP : va_P (dC, dI) vwCl (wX cI cJ cZ ma ((fX9_count x sg).2)) H := by rw [← e7]; exact hP
      have hD : va_D A (wX cI cJ cZ ma ((fX9_count x sg).2)) := by rw [← e7]; exact hD
      have e8 : (-1) = (fX9_count x sg).1 := by rw [← e7]
      exact W.iret (v := (-1)) hx hb hr (fun t ht hW => ⟨⟨_, (), rfl, e8, by rw [ht]; exact hP, hD⟩, hS.F ht⟩) hS.2.2 dX9_count_15
