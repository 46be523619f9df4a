/-! ===== the reference's scratch: w, sort, readsMore, writesMore, reads, writes, isLikely ===== -/
abbrev Sc : Type := Int32 × Int32 × Int32 × Int32 × Int64 × Int64 × Int32
def wM1 (m0 : Nat) (g : Nat → Value) (t : Sc) : va_W := [(m0, .inr (4, [(g 0), (g 1), (g 2), (g 3), (g 4), (g 5), (g 6), (g 7), (g 8), (g 9), (g 10), (g 11), (g 12), (g 13), (g 14), .int (t.1), .int (t.2.1), .int (t.2.2.1), .int (t.2.2.2.1), .long (t.2.2.2.2.1), .long (t.2.2.2.2.2.1), .int (t.2.2.2.2.2.2), (g 22), (g 23), (g 24), (g 25)]))]
def fld (w a : Int32) : Int32 := (ush w a) &&& 31
def fX9_field (x1 : Int32) (sg : Sc) : Int32 := ((ush sg.1 x1) &&& 31)
set_option maxHeartbeats 4000000 in
set_option maxRecDepth 100000 in
theorem kX9_field (l : Launch) (dC : Nat → ClassId) (dI : Nat → Nat → Nat) (m0 : Nat) (g : Nat → Value) (sz : Nat) (x1 : Int32) (sg : Sc) : Met l yX9_field wsX9_field ({ frames := 0, cells := 0, slots := 0, locals := 0 }) (ro_Pc (dC, dI) (wM1 m0 g sg) [] [.ref m0, .int (x1)] sz) (ro_Qi (fX9_field x1 sg) sz) 0 0 (ro sz) := by
  refine Met.ofW (cc := cX9_field) (maxL := 2) (ret := (some .int)) (by decide) rfl ?_
  intro p e s m args below meth c s₁ B0 hml hv
  obtain ⟨rfl, hsz, hP, hK⟩ := hv
  have hx := B0.exec
  have hb := B0.bytes
  have hr := B0.returns
  have hts := atoms_spec (ws := wsX9_field) B0.pre
  have hown : s.vm.findClass RX9 = some m.cls := findClass_of_methodNamed B0.named
  have hlocks := B0.notSynchronized
  have hinX9 : ∀ w ∈ wsX90, w ∈ wsX9_field := fun w h => List.mem_cons_of_mem _ (List.mem_append_right _ (h))
  subst hsz
  have hA : ∀ q : Nat, s.heap.size ≤ q → ro s.heap.size q := fun _ h => h
  have hS : va_S (ro s.heap.size) s.heap s.heap [] := va_S.rf
  have hl := lv_entry ([.ref m0, .int (x1)]) (n := 2) (Nat.le_of_ble_eq_true rfl)
  rw [lg_entry_eq]
  generalize (lg_sl ([.ref m0, .int (x1)]) ++ List.replicate (2 - (lg_sl ([.ref m0, .int (x1)])).length) Slot.unset).toArray = ls at hl ⊢
  have hl : lv_has ls 2 [(0, .ref m0), (1, .int (x1))] := hl
  have hv : (fX9_field x1 sg) = (fX9_field x1 sg) := rfl
  refine lv_aload_n hx hb dX9_field_0 rfl (lv_at hl 0 rfl) ?_
  refine va_get (D := (dC, dI)) (ci := 4) (v := .int (sg.1)) (C := RX9) (T := TX9) (N := 26) hx hb hts hinX9 hown hK hP 0 rfl rfl 15 (by decide) (hts (.fieldLink RX9 58 "SlotFillerModel" "w" "I") (by decide +kernel)) (fun _ h9 => h9) rfl dX9_field_1 ?_
  refine lv_iload_n hx hb dX9_field_4 rfl (lv_at hl 1 rfl) ?_
  refine lv_iushr (v := ush sg.1 x1) hx hb dX9_field_5 rfl ?_
  refine lv_bipush (v := 31) hx hb dX9_field_6 (by decide) ?_
  refine lv_iand hx hb dX9_field_8 ?_
  exact W.iret (v := ((ush sg.1 x1) &&& 31)) hx hb hr (fun t ht hW => ⟨⟨_, (), rfl, ((show ((ush sg.1 x1) &&& 31) = (fX9_field x1 sg) by unfold fX9_field; rfl).trans hv), trivial⟩, hS.F ht⟩) hS.2.2 dX9_field_9
def fX9_register (x0 : Int32) : Int64 := if x0 = 0 then 0 else (lsh 1 x0)
set_option maxHeartbeats 4000000 in
set_option maxRecDepth 100000 in
theorem kX9_register (l : Launch) (sz : Nat) (x0 : Int32) : Met l yX9_register wsX9_register ({ frames := 0, cells := 0, slots := 0, locals := 0 }) (pu_Pc [.int (x0)] sz) (ro_Ql (fX9_register x0) sz) 0 0 (ro sz) := by
  refine Met.ofW (cc := cX9_register) (maxL := 1) (ret := (some .long)) (by decide) rfl ?_
  intro p e s m args below meth c s₁ B0 hml hv
  obtain ⟨rfl, hsz⟩ := hv
  have hx := B0.exec
  have hb := B0.bytes
  have hr := B0.returns
  have hts := atoms_spec (ws := wsX9_register) B0.pre
  have hown : s.vm.findClass RX9 = some m.cls := findClass_of_methodNamed B0.named
  have hlocks := B0.notSynchronized
  subst hsz
  have hA : ∀ q : Nat, s.heap.size ≤ q → ro s.heap.size q := fun _ h => h
  have hS : va_S (ro s.heap.size) s.heap s.heap [] := va_S.rf
  have hl := lv_entry ([.int (x0)]) (n := 1) (Nat.le_of_ble_eq_true rfl)
  rw [lg_entry_eq]
  generalize (lg_sl ([.int (x0)]) ++ List.replicate (1 - (lg_sl ([.int (x0)])).length) Slot.unset).toArray = ls at hl ⊢
  have hl : lv_has ls 1 [(0, .int (x0))] := hl
  have hv : (fX9_register x0) = (fX9_register x0) := rfl
  refine lv_iload_n hx hb dX9_register_0 rfl (lv_at hl 0 rfl) ?_
  refine lv_if_ne (tgt := 8) hx hb dX9_register_1 (by decide) (fun c_1 => ?_) (fun c_1 => ?_)
  · refine lv_lconst (v := 1) hx hb dX9_register_8 (by decide) ?_
    refine lv_iload_n hx hb dX9_register_9 rfl (lv_at hl 0 rfl) ?_
    refine lv_lshl (v := (lsh 1 x0)) hx hb dX9_register_10 rfl ?_
    exact W.lret (v := (lsh 1 x0)) hx hb hr (fun t ht hW => ⟨⟨_, (), rfl, ((show (lsh 1 x0) = (fX9_register x0) by unfold fX9_register; rw [if_neg c_1]).trans hv), trivial⟩, hS.F ht⟩) hS.2.2 dX9_register_11
  · refine lv_lconst (v := 0) hx hb dX9_register_4 (by decide) ?_
    refine lv_goto (tgt := 11) hx hb dX9_register_5 (by decide) ?_
    exact W.lret (v := 0) hx hb hr (fun t ht hW => ⟨⟨_, (), rfl, ((show 0 = (fX9_register x0) by unfold fX9_register; rw [if_pos c_1]).trans hv), trivial⟩, hS.F ht⟩) hS.2.2 dX9_register_11
def rgs (w a : Int32) : Int64 := fX9_register (fld w a)
def fX9_s  (sg : Sc) : Int64 := (fX9_register (fld sg.1 21))
set_option maxHeartbeats 4000000 in
set_option maxRecDepth 100000 in
theorem kX9_s (l : Launch) (dC : Nat → ClassId) (dI : Nat → Nat → Nat) (m0 : Nat) (g : Nat → Value) (sz : Nat)  (sg : Sc) : Met l yX9_s wsX9_s ({ frames := 1, cells := 0, slots := 0, locals := 21 }) (ro_Pc (dC, dI) (wM1 m0 g sg) [] [.ref m0] sz) (ro_Ql (fX9_s  sg) sz) 0 0 (ro sz) := by
  refine Met.ofW (cc := cX9_s) (maxL := 1) (ret := (some .long)) (by decide) rfl ?_
  intro p e s m args below meth c s₁ B0 hml hv
  obtain ⟨rfl, hsz, hP, hK⟩ := hv
  have hx := B0.exec
  have hb := B0.bytes
  have hr := B0.returns
  have hts := atoms_spec (ws := wsX9_s) B0.pre
  have hown : s.vm.findClass RX9 = some m.cls := findClass_of_methodNamed B0.named
  have hlocks := B0.notSynchronized
  have hinX9 : ∀ w ∈ wsX90, w ∈ wsX9_s := fun w h => List.mem_cons_of_mem _ (List.mem_append_right _ (h))
  subst hsz
  have hA : ∀ q : Nat, s.heap.size ≤ q → ro s.heap.size q := fun _ h => h
  have hS : va_S (ro s.heap.size) s.heap s.heap [] := va_S.rf
  have hl := lv_entry ([.ref m0]) (n := 1) (Nat.le_of_ble_eq_true rfl)
  rw [lg_entry_eq]
  generalize (lg_sl ([.ref m0]) ++ List.replicate (1 - (lg_sl ([.ref m0])).length) Slot.unset).toArray = ls at hl ⊢
  have hl : lv_has ls 1 [(0, .ref m0)] := hl
  have hv : (fX9_s  sg) = (fX9_s  sg) := rfl
  refine lv_aload_n hx hb dX9_s_0 rfl (lv_at hl 0 rfl) ?_
  refine lv_bipush (v := 21) hx hb dX9_s_1 (by decide) ?_
  refine ro_calli (va_runV (As := [.int (21)]) (rest := []) ⟨hx, hb, hml, hown, hts⟩ (kX9_field l dC dI m0 g s.heap.size 21 sg) (cwV 1 hts gX9_s_X9_field rfl rfl rfl (by decide +kernel) ⟨Nat.le_of_ble_eq_true rfl, Nat.le_of_ble_eq_true rfl⟩) (ro_preV 0 4 (q := (RX9, TX9, 26)) rfl rfl hP hK) rfl rfl hl.1 rfl (lv_room (Nat.le_of_ble_eq_true rfl)) dX9_s_3 ⟨Nat.zero_le _, Nat.zero_le _⟩) hS hA (fun H locs kP hS => ?_)
  have hP := kP _ _ _ hP
  refine ro_calll (va_runS (As := [.int ((fld sg.1 21))]) (rest := []) ⟨hx, hb, hml, hown, hts⟩ (kX9_register l H.size (fld sg.1 21)) (va_cwS 1 hts gX9_s_X9_register rfl rfl rfl (by decide +kernel) ⟨Nat.le_of_ble_eq_true rfl, Nat.le_of_ble_eq_true rfl⟩) pu_preS rfl rfl hl.1 rfl (lv_room (Nat.le_of_ble_eq_true rfl)) dX9_s_6 ⟨Nat.zero_le _, Nat.zero_le _⟩) hS hA (fun H locs kP hS => ?_)
  have hP := kP _ _ _ hP
  exact W.lret (v := (fX9_register (fld sg.1 21))) hx hb hr (fun t ht hW => ⟨⟨_, (), rfl, ((show (fX9_register (fld sg.1 21)) = (fX9_s  sg) by unfold fX9_s; rfl).trans hv), trivial⟩, hS.F ht⟩) hS.2.2 dX9_s_9
def fX9_t  (sg : Sc) : Int64 := (fX9_register (fld sg.1 16))
set_option maxHeartbeats 4000000 in
set_option maxRecDepth 100000 in
theorem kX9_t (l : Launch) (dC : Nat → ClassId) (dI : Nat → Nat → Nat) (m0 : Nat) (g : Nat → Value) (sz : Nat)  (sg : Sc) : Met l yX9_t wsX9_t ({ frames := 1, cells := 0, slots := 0, locals := 21 }) (ro_Pc (dC, dI) (wM1 m0 g sg) [] [.ref m0] sz) (ro_Ql (fX9_t  sg) sz) 0 0 (ro sz) := by
  refine Met.ofW (cc := cX9_t) (maxL := 1) (ret := (some .long)) (by decide) rfl ?_
  intro p e s m args below meth c s₁ B0 hml hv
  obtain ⟨rfl, hsz, hP, hK⟩ := hv
  have hx := B0.exec
  have hb := B0.bytes
  have hr := B0.returns
  have hts := atoms_spec (ws := wsX9_t) B0.pre
  have hown : s.vm.findClass RX9 = some m.cls := findClass_of_methodNamed B0.named
  have hlocks := B0.notSynchronized
  have hinX9 : ∀ w ∈ wsX90, w ∈ wsX9_t := fun w h => List.mem_cons_of_mem _ (List.mem_append_right _ (h))
  subst hsz
  have hA : ∀ q : Nat, s.heap.size ≤ q → ro s.heap.size q := fun _ h => h
  have hS : va_S (ro s.heap.size) s.heap s.heap [] := va_S.rf
  have hl := lv_entry ([.ref m0]) (n := 1) (Nat.le_of_ble_eq_true rfl)
  rw [lg_entry_eq]
  generalize (lg_sl ([.ref m0]) ++ List.replicate (1 - (lg_sl ([.ref m0])).length) Slot.unset).toArray = ls at hl ⊢
  have hl : lv_has ls 1 [(0, .ref m0)] := hl
  have hv : (fX9_t  sg) = (fX9_t  sg) := rfl
  refine lv_aload_n hx hb dX9_t_0 rfl (lv_at hl 0 rfl) ?_
  refine lv_bipush (v := 16) hx hb dX9_t_1 (by decide) ?_
  refine ro_calli (va_runV (As := [.int (16)]) (rest := []) ⟨hx, hb, hml, hown, hts⟩ (kX9_field l dC dI m0 g s.heap.size 16 sg) (cwV 1 hts gX9_t_X9_field rfl rfl rfl (by decide +kernel) ⟨Nat.le_of_ble_eq_true rfl, Nat.le_of_ble_eq_true rfl⟩) (ro_preV 0 4 (q := (RX9, TX9, 26)) rfl rfl hP hK) rfl rfl hl.1 rfl (lv_room (Nat.le_of_ble_eq_true rfl)) dX9_t_3 ⟨Nat.zero_le _, Nat.zero_le _⟩) hS hA (fun H locs kP hS => ?_)
  have hP := kP _ _ _ hP
  refine ro_calll (va_runS (As := [.int ((fld sg.1 16))]) (rest := []) ⟨hx, hb, hml, hown, hts⟩ (kX9_register l H.size (fld sg.1 16)) (va_cwS 1 hts gX9_t_X9_register rfl rfl rfl (by decide +kernel) ⟨Nat.le_of_ble_eq_true rfl, Nat.le_of_ble_eq_true rfl⟩) pu_preS rfl rfl hl.1 rfl (lv_room (Nat.le_of_ble_eq_true rfl)) dX9_t_6 ⟨Nat.zero_le _, Nat.zero_le _⟩) hS hA (fun H locs kP hS => ?_)
  have hP := kP _ _ _ hP
  exact W.lret (v := (fX9_register (fld sg.1 16))) hx hb hr (fun t ht hW => ⟨⟨_, (), rfl, ((show (fX9_register (fld sg.1 16)) = (fX9_t  sg) by unfold fX9_t; rfl).trans hv), trivial⟩, hS.F ht⟩) hS.2.2 dX9_t_9
def fX9_d  (sg : Sc) : Int64 := (fX9_register (fld sg.1 11))
set_option maxHeartbeats 4000000 in
set_option maxRecDepth 100000 in
theorem kX9_d (l : Launch) (dC : Nat → ClassId) (dI : Nat → Nat → Nat) (m0 : Nat) (g : Nat → Value) (sz : Nat)  (sg : Sc) : Met l yX9_d wsX9_d ({ frames := 1, cells := 0, slots := 0, locals := 21 }) (ro_Pc (dC, dI) (wM1 m0 g sg) [] [.ref m0] sz) (ro_Ql (fX9_d  sg) sz) 0 0 (ro sz) := by
  refine Met.ofW (cc := cX9_d) (maxL := 1) (ret := (some .long)) (by decide) rfl ?_
  intro p e s m args below meth c s₁ B0 hml hv
  obtain ⟨rfl, hsz, hP, hK⟩ := hv
  have hx := B0.exec
  have hb := B0.bytes
  have hr := B0.returns
  have hts := atoms_spec (ws := wsX9_d) B0.pre
  have hown : s.vm.findClass RX9 = some m.cls := findClass_of_methodNamed B0.named
  have hlocks := B0.notSynchronized
  have hinX9 : ∀ w ∈ wsX90, w ∈ wsX9_d := fun w h => List.mem_cons_of_mem _ (List.mem_append_right _ (h))
  subst hsz
  have hA : ∀ q : Nat, s.heap.size ≤ q → ro s.heap.size q := fun _ h => h
  have hS : va_S (ro s.heap.size) s.heap s.heap [] := va_S.rf
  have hl := lv_entry ([.ref m0]) (n := 1) (Nat.le_of_ble_eq_true rfl)
  rw [lg_entry_eq]
  generalize (lg_sl ([.ref m0]) ++ List.replicate (1 - (lg_sl ([.ref m0])).length) Slot.unset).toArray = ls at hl ⊢
  have hl : lv_has ls 1 [(0, .ref m0)] := hl
  have hv : (fX9_d  sg) = (fX9_d  sg) := rfl
  refine lv_aload_n hx hb dX9_d_0 rfl (lv_at hl 0 rfl) ?_
  refine lv_bipush (v := 11) hx hb dX9_d_1 (by decide) ?_
  refine ro_calli (va_runV (As := [.int (11)]) (rest := []) ⟨hx, hb, hml, hown, hts⟩ (kX9_field l dC dI m0 g s.heap.size 11 sg) (cwV 1 hts gX9_d_X9_field rfl rfl rfl (by decide +kernel) ⟨Nat.le_of_ble_eq_true rfl, Nat.le_of_ble_eq_true rfl⟩) (ro_preV 0 4 (q := (RX9, TX9, 26)) rfl rfl hP hK) rfl rfl hl.1 rfl (lv_room (Nat.le_of_ble_eq_true rfl)) dX9_d_3 ⟨Nat.zero_le _, Nat.zero_le _⟩) hS hA (fun H locs kP hS => ?_)
  have hP := kP _ _ _ hP
  refine ro_calll (va_runS (As := [.int ((fld sg.1 11))]) (rest := []) ⟨hx, hb, hml, hown, hts⟩ (kX9_register l H.size (fld sg.1 11)) (va_cwS 1 hts gX9_d_X9_register rfl rfl rfl (by decide +kernel) ⟨Nat.le_of_ble_eq_true rfl, Nat.le_of_ble_eq_true rfl⟩) pu_preS rfl rfl hl.1 rfl (lv_room (Nat.le_of_ble_eq_true rfl)) dX9_d_6 ⟨Nat.zero_le _, Nat.zero_le _⟩) hS hA (fun H locs kP hS => ?_)
  have hP := kP _ _ _ hP
  exact W.lret (v := (fX9_register (fld sg.1 11))) hx hb hr (fun t ht hW => ⟨⟨_, (), rfl, ((show (fX9_register (fld sg.1 11)) = (fX9_d  sg) by unfold fX9_d; rfl).trans hv), trivial⟩, hS.F ht⟩) hS.2.2 dX9_d_9
def fX9_is (x1 : Int32) (x2 : Int64) (x3 : Int64) (sg : Sc) : Sc := (sg.1, x1, sg.2.2.1, sg.2.2.2.1, x2, x3, sg.2.2.2.2.2.2)
set_option maxHeartbeats 4000000 in
set_option maxRecDepth 100000 in
theorem kX9_is (l : Launch) (dC : Nat → ClassId) (dI : Nat → Nat → Nat) (m0 : Nat) (g : Nat → Value) (sz : Nat) (x1 : Int32) (x2 : Int64) (x3 : Int64) (sg : Sc) : Met l yX9_is wsX9_is ({ frames := 0, cells := 0, slots := 0, locals := 0 }) (md_Pc (dC, dI) (wM1 m0 g sg) [] [.ref m0, .int (x1), .long (x2), .long (x3)] sz) (md_Qv (dC, dI) (wM1 m0 g (fX9_is x1 x2 x3 sg)) (va_A (wM1 m0 g sg) sz)) 0 0 (va_A (wM1 m0 g sg) sz) := by
  refine Met.ofW (cc := cX9_is) (maxL := 6) (ret := none) (by decide) rfl ?_
  intro p e s m args below meth c s₁ B0 hml hv
  obtain ⟨rfl, hsz, hP, hK, hD0⟩ := hv
  have hx := B0.exec
  have hb := B0.bytes
  have hr := B0.returns
  have hts := atoms_spec (ws := wsX9_is) B0.pre
  have hown : s.vm.findClass RX9 = some m.cls := findClass_of_methodNamed B0.named
  have hlocks := B0.notSynchronized
  have hinX9 : ∀ w ∈ wsX90, w ∈ wsX9_is := fun w h => List.mem_cons_of_mem _ (List.mem_append_right _ (h))
  subst hsz
  have hD := hD0.self (sz := s.heap.size)
  generalize hAe : va_A (wM1 m0 g sg) s.heap.size = A at hD ⊢
  have hA : ∀ q : Nat, s.heap.size ≤ q → A q := fun q h => by rw [← hAe]; exact Or.inr h
  have hS : va_S A s.heap s.heap [] := va_S.rf
  have hl := lv_entry ([.ref m0, .int (x1), .long (x2), .long (x3)]) (n := 6) (Nat.le_of_ble_eq_true rfl)
  rw [lg_entry_eq]
  generalize (lg_sl ([.ref m0, .int (x1), .long (x2), .long (x3)]) ++ List.replicate (6 - (lg_sl ([.ref m0, .int (x1), .long (x2), .long (x3)])).length) Slot.unset).toArray = ls at hl ⊢
  have hl : lv_has ls 6 [(0, .ref m0), (1, .int (x1)), (2, .long (x2)), (4, .long (x3))] := hl
  have hv : (fX9_is x1 x2 x3 sg) = (fX9_is x1 x2 x3 sg) := rfl
  refine lv_aload_n hx hb dX9_is_0 rfl (lv_at hl 0 rfl) ?_
  refine lv_iload_n hx hb dX9_is_1 rfl (lv_at hl 1 rfl) ?_
  refine va_put (D := (dC, dI)) (ci := 4) (v := .int (x1)) (ty := .int) (C := RX9) (T := TX9) (N := 26) hx hb hts hinX9 tyX9 tyX9_ok nmX9 hown hK hP hD hS 0 rfl rfl 16 (by decide) (hts (.fieldLink RX9 69 "SlotFillerModel" "sort" "I") (by decide +kernel)) (fun _ h9 => h9) rfl (by decide +kernel) rfl rfl (Nat.le_of_ble_eq_true rfl) dX9_is_2 (fun H locs hP hD hS => ?_)
  have hP : va_P (dC, dI) vwCl [(m0, .inr (4, [(g 0), (g 1), (g 2), (g 3), (g 4), (g 5), (g 6), (g 7), (g 8), (g 9), (g 10), (g 11), (g 12), (g 13), (g 14), .int (sg.1), .int (x1), .int (sg.2.2.1), .int (sg.2.2.2.1), .long (sg.2.2.2.2.1), .long (sg.2.2.2.2.2.1), .int (sg.2.2.2.2.2.2), (g 22), (g 23), (g 24), (g 25)]))] H := hP
  have hD : va_D A [(m0, .inr (4, [(g 0), (g 1), (g 2), (g 3), (g 4), (g 5), (g 6), (g 7), (g 8), (g 9), (g 10), (g 11), (g 12), (g 13), (g 14), .int (sg.1), .int (x1), .int (sg.2.2.1), .int (sg.2.2.2.1), .long (sg.2.2.2.2.1), .long (sg.2.2.2.2.2.1), .int (sg.2.2.2.2.2.2), (g 22), (g 23), (g 24), (g 25)]))] := hD
  refine lv_aload_n hx hb dX9_is_5 rfl (lv_at hl 0 rfl) ?_
  refine lv_lload_n hx hb dX9_is_6 rfl (lv_at hl 2 rfl) ?_
  refine va_put (D := (dC, dI)) (ci := 4) (v := .long (x2)) (ty := .long) (C := RX9) (T := TX9) (N := 26) hx hb hts hinX9 tyX9 tyX9_ok nmX9 hown hK hP hD hS 0 rfl rfl 19 (by decide) (hts (.fieldLink RX9 72 "SlotFillerModel" "reads" "J") (by decide +kernel)) (fun _ h9 => h9) rfl (by decide +kernel) rfl rfl (Nat.le_of_ble_eq_true rfl) dX9_is_7 (fun H locs hP hD hS => ?_)
  have hP : va_P (dC, dI) vwCl [(m0, .inr (4, [(g 0), (g 1), (g 2), (g 3), (g 4), (g 5), (g 6), (g 7), (g 8), (g 9), (g 10), (g 11), (g 12), (g 13), (g 14), .int (sg.1), .int (x1), .int (sg.2.2.1), .int (sg.2.2.2.1), .long (x2), .long (sg.2.2.2.2.2.1), .int (sg.2.2.2.2.2.2), (g 22), (g 23), (g 24), (g 25)]))] H := hP
  have hD : va_D A [(m0, .inr (4, [(g 0), (g 1), (g 2), (g 3), (g 4), (g 5), (g 6), (g 7), (g 8), (g 9), (g 10), (g 11), (g 12), (g 13), (g 14), .int (sg.1), .int (x1), .int (sg.2.2.1), .int (sg.2.2.2.1), .long (x2), .long (sg.2.2.2.2.2.1), .int (sg.2.2.2.2.2.2), (g 22), (g 23), (g 24), (g 25)]))] := hD
  refine lv_aload_n hx hb dX9_is_10 rfl (lv_at hl 0 rfl) ?_
  refine lv_lload hx hb dX9_is_11 (lv_at hl 3 rfl) ?_
  refine va_put (D := (dC, dI)) (ci := 4) (v := .long (x3)) (ty := .long) (C := RX9) (T := TX9) (N := 26) hx hb hts hinX9 tyX9 tyX9_ok nmX9 hown hK hP hD hS 0 rfl rfl 20 (by decide) (hts (.fieldLink RX9 76 "SlotFillerModel" "writes" "J") (by decide +kernel)) (fun _ h9 => h9) rfl (by decide +kernel) rfl rfl (Nat.le_of_ble_eq_true rfl) dX9_is_13 (fun H locs hP hD hS => ?_)
  have hP : va_P (dC, dI) vwCl [(m0, .inr (4, [(g 0), (g 1), (g 2), (g 3), (g 4), (g 5), (g 6), (g 7), (g 8), (g 9), (g 10), (g 11), (g 12), (g 13), (g 14), .int (sg.1), .int (x1), .int (sg.2.2.1), .int (sg.2.2.2.1), .long (x2), .long (x3), .int (sg.2.2.2.2.2.2), (g 22), (g 23), (g 24), (g 25)]))] H := hP
  have hD : va_D A [(m0, .inr (4, [(g 0), (g 1), (g 2), (g 3), (g 4), (g 5), (g 6), (g 7), (g 8), (g 9), (g 10), (g 11), (g 12), (g 13), (g 14), .int (sg.1), .int (x1), .int (sg.2.2.1), .int (sg.2.2.2.1), .long (x2), .long (x3), .int (sg.2.2.2.2.2.2), (g 22), (g 23), (g 24), (g 25)]))] := hD
  have e9 : (sg.1, x1, sg.2.2.1, sg.2.2.2.1, x2, x3, sg.2.2.2.2.2.2) = (fX9_is x1 x2 x3 sg) := ((show (sg.1, x1, sg.2.2.1, sg.2.2.2.1, x2, x3, sg.2.2.2.2.2.2) = (fX9_is x1 x2 x3 sg) by unfold fX9_is; rfl).trans hv)
  have hP : va_P (dC, dI) vwCl (wM1 m0 g (fX9_is x1 x2 x3 sg)) H := by rw [← e9]; exact hP
  have hD : va_D A (wM1 m0 g (fX9_is x1 x2 x3 sg)) := by rw [← e9]; exact hD
  exact W.vret hx hb hr (fun t ht hW => ⟨⟨(), rfl, trivial, by rw [ht]; exact hP, hD⟩, hS.F ht⟩) hS.2.2 dX9_is_16
def fX9_also (x1 : Int32) (x2 : Int32) (sg : Sc) : Sc := (sg.1, sg.2.1, x1, x2, sg.2.2.2.2.1, sg.2.2.2.2.2.1, sg.2.2.2.2.2.2)
set_option maxHeartbeats 4000000 in
set_option maxRecDepth 100000 in
theorem kX9_also (l : Launch) (dC : Nat → ClassId) (dI : Nat → Nat → Nat) (m0 : Nat) (g : Nat → Value) (sz : Nat) (x1 : Int32) (x2 : Int32) (sg : Sc) : Met l yX9_also wsX9_also ({ frames := 0, cells := 0, slots := 0, locals := 0 }) (md_Pc (dC, dI) (wM1 m0 g sg) [] [.ref m0, .int (x1), .int (x2)] sz) (md_Qv (dC, dI) (wM1 m0 g (fX9_also x1 x2 sg)) (va_A (wM1 m0 g sg) sz)) 0 0 (va_A (wM1 m0 g sg) sz) := by
  refine Met.ofW (cc := cX9_also) (maxL := 3) (ret := none) (by decide) rfl ?_
  intro p e s m args below meth c s₁ B0 hml hv
  obtain ⟨rfl, hsz, hP, hK, hD0⟩ := hv
  have hx := B0.exec
  have hb := B0.bytes
  have hr := B0.returns
  have hts := atoms_spec (ws := wsX9_also) B0.pre
  have hown : s.vm.findClass RX9 = some m.cls := findClass_of_methodNamed B0.named
  have hlocks := B0.notSynchronized
  have hinX9 : ∀ w ∈ wsX90, w ∈ wsX9_also := fun w h => List.mem_cons_of_mem _ (List.mem_append_right _ (h))
  subst hsz
  have hD := hD0.self (sz := s.heap.size)
  generalize hAe : va_A (wM1 m0 g sg) s.heap.size = A at hD ⊢
  have hA : ∀ q : Nat, s.heap.size ≤ q → A q := fun q h => by rw [← hAe]; exact Or.inr h
  have hS : va_S A s.heap s.heap [] := va_S.rf
  have hl := lv_entry ([.ref m0, .int (x1), .int (x2)]) (n := 3) (Nat.le_of_ble_eq_true rfl)
  rw [lg_entry_eq]
  generalize (lg_sl ([.ref m0, .int (x1), .int (x2)]) ++ List.replicate (3 - (lg_sl ([.ref m0, .int (x1), .int (x2)])).length) Slot.unset).toArray = ls at hl ⊢
  have hl : lv_has ls 3 [(0, .ref m0), (1, .int (x1)), (2, .int (x2))] := hl
  have hv : (fX9_also x1 x2 sg) = (fX9_also x1 x2 sg) := rfl
  refine lv_aload_n hx hb dX9_also_0 rfl (lv_at hl 0 rfl) ?_
  refine lv_iload_n hx hb dX9_also_1 rfl (lv_at hl 1 rfl) ?_
  refine va_put (D := (dC, dI)) (ci := 4) (v := .int (x1)) (ty := .int) (C := RX9) (T := TX9) (N := 26) hx hb hts hinX9 tyX9 tyX9_ok nmX9 hown hK hP hD hS 0 rfl rfl 17 (by decide) (hts (.fieldLink RX9 79 "SlotFillerModel" "readsMore" "I") (by decide +kernel)) (fun _ h9 => h9) rfl (by decide +kernel) rfl rfl (Nat.le_of_ble_eq_true rfl) dX9_also_2 (fun H locs hP hD hS => ?_)
  have hP : va_P (dC, dI) vwCl [(m0, .inr (4, [(g 0), (g 1), (g 2), (g 3), (g 4), (g 5), (g 6), (g 7), (g 8), (g 9), (g 10), (g 11), (g 12), (g 13), (g 14), .int (sg.1), .int (sg.2.1), .int (x1), .int (sg.2.2.2.1), .long (sg.2.2.2.2.1), .long (sg.2.2.2.2.2.1), .int (sg.2.2.2.2.2.2), (g 22), (g 23), (g 24), (g 25)]))] H := hP
  have hD : va_D A [(m0, .inr (4, [(g 0), (g 1), (g 2), (g 3), (g 4), (g 5), (g 6), (g 7), (g 8), (g 9), (g 10), (g 11), (g 12), (g 13), (g 14), .int (sg.1), .int (sg.2.1), .int (x1), .int (sg.2.2.2.1), .long (sg.2.2.2.2.1), .long (sg.2.2.2.2.2.1), .int (sg.2.2.2.2.2.2), (g 22), (g 23), (g 24), (g 25)]))] := hD
  refine lv_aload_n hx hb dX9_also_5 rfl (lv_at hl 0 rfl) ?_
  refine lv_iload_n hx hb dX9_also_6 rfl (lv_at hl 2 rfl) ?_
  refine va_put (D := (dC, dI)) (ci := 4) (v := .int (x2)) (ty := .int) (C := RX9) (T := TX9) (N := 26) hx hb hts hinX9 tyX9 tyX9_ok nmX9 hown hK hP hD hS 0 rfl rfl 18 (by decide) (hts (.fieldLink RX9 82 "SlotFillerModel" "writesMore" "I") (by decide +kernel)) (fun _ h9 => h9) rfl (by decide +kernel) rfl rfl (Nat.le_of_ble_eq_true rfl) dX9_also_7 (fun H locs hP hD hS => ?_)
  have hP : va_P (dC, dI) vwCl [(m0, .inr (4, [(g 0), (g 1), (g 2), (g 3), (g 4), (g 5), (g 6), (g 7), (g 8), (g 9), (g 10), (g 11), (g 12), (g 13), (g 14), .int (sg.1), .int (sg.2.1), .int (x1), .int (x2), .long (sg.2.2.2.2.1), .long (sg.2.2.2.2.2.1), .int (sg.2.2.2.2.2.2), (g 22), (g 23), (g 24), (g 25)]))] H := hP
  have hD : va_D A [(m0, .inr (4, [(g 0), (g 1), (g 2), (g 3), (g 4), (g 5), (g 6), (g 7), (g 8), (g 9), (g 10), (g 11), (g 12), (g 13), (g 14), .int (sg.1), .int (sg.2.1), .int (x1), .int (x2), .long (sg.2.2.2.2.1), .long (sg.2.2.2.2.2.1), .int (sg.2.2.2.2.2.2), (g 22), (g 23), (g 24), (g 25)]))] := hD
  have e9 : (sg.1, sg.2.1, x1, x2, sg.2.2.2.2.1, sg.2.2.2.2.2.1, sg.2.2.2.2.2.2) = (fX9_also x1 x2 sg) := ((show (sg.1, sg.2.1, x1, x2, sg.2.2.2.2.1, sg.2.2.2.2.2.1, sg.2.2.2.2.2.2) = (fX9_also x1 x2 sg) by unfold fX9_also; rfl).trans hv)
  have hP : va_P (dC, dI) vwCl (wM1 m0 g (fX9_also x1 x2 sg)) H := by rw [← e9]; exact hP
  have hD : va_D A (wM1 m0 g (fX9_also x1 x2 sg)) := by rw [← e9]; exact hD
  exact W.vret hx hb hr (fun t ht hW => ⟨⟨(), rfl, trivial, by rw [ht]; exact hP, hD⟩, hS.F ht⟩) hS.2.2 dX9_also_10
def fX9_fraction_27 (x1 : Int32) (x2 : Int32) (z0 : Int64) (tg : Sc) : Int64 × Sc := ((lsh z0 (32 + x1)), tg)
def fX9_fraction_16 (x1 : Int32) (x2 : Int32) (tg : Sc) : Int64 × Sc := if x2 = 0 then (fX9_fraction_27 x1 x2 1 tg) else (fX9_fraction_27 x1 x2 3 tg)
def fX9_fraction (x1 : Int32) (x2 : Int32) (sg : Sc) : Int64 × Sc := if x2 = 0 then (fX9_fraction_16 x1 x2 sg) else if (x1 &&& 1) = 1 then (fX9_fraction_16 x1 x2 (sg.1, (-1), sg.2.2.1, sg.2.2.2.1, sg.2.2.2.2.1, sg.2.2.2.2.2.1, sg.2.2.2.2.2.2)) else (fX9_fraction_16 x1 x2 sg)
set_option maxHeartbeats 4000000 in
set_option maxRecDepth 100000 in
theorem kX9_fraction (l : Launch) (dC : Nat → ClassId) (dI : Nat → Nat → Nat) (m0 : Nat) (g : Nat → Value) (sz : Nat) (x1 : Int32) (x2 : Int32) (sg : Sc) : Met l yX9_fraction wsX9_fraction ({ frames := 0, cells := 0, slots := 0, locals := 0 }) (md_Pc (dC, dI) (wM1 m0 g sg) [] [.ref m0, .int (x1), .int (x2)] sz) (md_Ql (fX9_fraction x1 x2 sg).1 (dC, dI) (wM1 m0 g ((fX9_fraction x1 x2 sg).2)) (va_A (wM1 m0 g sg) sz)) 0 0 (va_A (wM1 m0 g sg) sz) := by
  refine Met.ofW (cc := cX9_fraction) (maxL := 3) (ret := (some .long)) (by decide) rfl ?_
  intro p e s m args below meth c s₁ B0 hml hv
  obtain ⟨rfl, hsz, hP, hK, hD0⟩ := hv
  have hx := B0.exec
  have hb := B0.bytes
  have hr := B0.returns
  have hts := atoms_spec (ws := wsX9_fraction) B0.pre
  have hown : s.vm.findClass RX9 = some m.cls := findClass_of_methodNamed B0.named
  have hlocks := B0.notSynchronized
  have hinX9 : ∀ w ∈ wsX90, w ∈ wsX9_fraction := fun w h => List.mem_cons_of_mem _ (List.mem_append_right _ (h))
  subst hsz
  have hD := hD0.self (sz := s.heap.size)
  generalize hAe : va_A (wM1 m0 g sg) s.heap.size = A at hD ⊢
  have hA : ∀ q : Nat, s.heap.size ≤ q → A q := fun q h => by rw [← hAe]; exact Or.inr h
  have hS : va_S A s.heap s.heap [] := va_S.rf
  have hl := lv_entry ([.ref m0, .int (x1), .int (x2)]) (n := 3) (Nat.le_of_ble_eq_true rfl)
  rw [lg_entry_eq]
  generalize (lg_sl ([.ref m0, .int (x1), .int (x2)]) ++ List.replicate (3 - (lg_sl ([.ref m0, .int (x1), .int (x2)])).length) Slot.unset).toArray = ls at hl ⊢
  have hl : lv_has ls 3 [(0, .ref m0), (1, .int (x1)), (2, .int (x2))] := hl
  have hv : (fX9_fraction x1 x2 sg) = (fX9_fraction x1 x2 sg) := rfl
  have J27 : ∀ (z0 : Int64) (tg : Sc) (H : Heap) (locs : List Loc) (ls : Array Slot), va_P (dC, dI) vwCl (wM1 m0 g tg) H → va_D A (wM1 m0 g tg) → va_S A s.heap H locs → lv_has ls 3 [(0, .ref m0), (1, .int (x1)), (2, .int (x2))] → (fX9_fraction_27 x1 x2 z0 tg) = (fX9_fraction x1 x2 sg) → W p l e (headSpec wsX9_fraction ({ frames := 0, cells := 0, slots := 0, locals := 0 })).room s m ([.ref m0, .int (x1), .int (x2)] : List Value).toArray below meth c H locs 0 0 (MQ below (md_Ql (fX9_fraction x1 x2 sg).1 (dC, dI) (wM1 m0 g ((fX9_fraction x1 x2 sg).2)) (A)) ([.ref m0, .int (x1), .int (x2)] : List Value).toArray s 0 0 (A)) (F0 m 27 ls [.long (z0)]) := by
    intro z0 tg H locs ls hP hD hS hl hv
    refine lv_bipush (v := 32) hx hb dX9_fraction_27 (by decide) ?_
    refine lv_iload_n hx hb dX9_fraction_29 rfl (lv_at hl 1 rfl) ?_
    refine lv_iadd hx hb dX9_fraction_30 ?_
    refine lv_lshl (v := (lsh z0 (32 + x1))) hx hb dX9_fraction_31 rfl ?_
    have e7 : ((lsh z0 (32 + x1)), tg) = (fX9_fraction x1 x2 sg) := ((show ((lsh z0 (32 + x1)), tg) = (fX9_fraction_27 x1 x2 z0 tg) by unfold fX9_fraction_27; rfl).trans hv)
    have hP : va_P (dC, dI) vwCl (wM1 m0 g ((fX9_fraction x1 x2 sg).2)) H := by rw [← e7]; exact hP
    have hD : va_D A (wM1 m0 g ((fX9_fraction x1 x2 sg).2)) := by rw [← e7]; exact hD
    have e8 : (lsh z0 (32 + x1)) = (fX9_fraction x1 x2 sg).1 := by rw [← e7]
    exact W.lret (v := (lsh z0 (32 + x1))) hx hb hr (fun t ht hW => ⟨⟨_, (), rfl, e8, by rw [ht]; exact hP, hD⟩, hS.F ht⟩) hS.2.2 dX9_fraction_32
  have J16 : ∀ (tg : Sc) (H : Heap) (locs : List Loc) (ls : Array Slot), va_P (dC, dI) vwCl (wM1 m0 g tg) H → va_D A (wM1 m0 g tg) → va_S A s.heap H locs → lv_has ls 3 [(0, .ref m0), (1, .int (x1)), (2, .int (x2))] → (fX9_fraction_16 x1 x2 tg) = (fX9_fraction x1 x2 sg) → W p l e (headSpec wsX9_fraction ({ frames := 0, cells := 0, slots := 0, locals := 0 })).room s m ([.ref m0, .int (x1), .int (x2)] : List Value).toArray below meth c H locs 0 0 (MQ below (md_Ql (fX9_fraction x1 x2 sg).1 (dC, dI) (wM1 m0 g ((fX9_fraction x1 x2 sg).2)) (A)) ([.ref m0, .int (x1), .int (x2)] : List Value).toArray s 0 0 (A)) (F0 m 16 ls []) := by
    intro tg H locs ls hP hD hS hl hv
    refine lv_iload_n hx hb dX9_fraction_16 rfl (lv_at hl 2 rfl) ?_
    refine lv_if_eq (tgt := 26) hx hb dX9_fraction_17 (by decide) (fun c_1 => ?_) (fun c_1 => ?_)
    · refine lv_lconst (v := 1) hx hb dX9_fraction_26 (by decide) ?_
      exact J27 1 tg H _ ls hP hD hS (lv_sub hl [0, 1, 2] rfl) ((show (fX9_fraction_27 x1 x2 1 tg) = (fX9_fraction_16 x1 x2 tg) by unfold fX9_fraction_16; rw [if_pos c_1]).trans hv)
    · refine lv_ldc2 (v := 3) hx hb hown (hts (.constantLong RX9 85 (3)) (by decide +kernel)) dX9_fraction_20 ?_
      refine lv_goto (tgt := 27) hx hb dX9_fraction_23 (by decide) ?_
      exact J27 3 tg H _ ls hP hD hS (lv_sub hl [0, 1, 2] rfl) ((show (fX9_fraction_27 x1 x2 3 tg) = (fX9_fraction_16 x1 x2 tg) by unfold fX9_fraction_16; rw [if_neg c_1]).trans hv)
  refine lv_iload_n hx hb dX9_fraction_0 rfl (lv_at hl 2 rfl) ?_
  refine lv_if_eq (tgt := 16) hx hb dX9_fraction_1 (by decide) (fun c_2 => ?_) (fun c_2 => ?_)
  · exact J16 sg s.heap _ ls hP hD hS (lv_sub hl [0, 1, 2] rfl) ((show (fX9_fraction_16 x1 x2 sg) = (fX9_fraction x1 x2 sg) by unfold fX9_fraction; rw [if_pos c_2]).trans hv)
  · refine lv_iload_n hx hb dX9_fraction_4 rfl (lv_at hl 1 rfl) ?_
    refine lv_iconst (v := 1) hx hb dX9_fraction_5 (by decide) ?_
    refine lv_iand hx hb dX9_fraction_6 ?_
    refine lv_iconst (v := 1) hx hb dX9_fraction_7 (by decide) ?_
    refine lv_icmp_ne (tgt := 16) hx hb dX9_fraction_8 (by decide) (fun c_3 => ?_) (fun c_3 => ?_)
    · exact J16 sg s.heap _ ls hP hD hS (lv_sub hl [0, 1, 2] rfl) ((show (fX9_fraction_16 x1 x2 sg) = (fX9_fraction x1 x2 sg) by unfold fX9_fraction; rw [if_neg c_2, if_neg c_3]).trans hv)
    · refine lv_aload_n hx hb dX9_fraction_11 rfl (lv_at hl 0 rfl) ?_
      refine lv_iconst (v := (-1)) hx hb dX9_fraction_12 (by decide) ?_
      refine va_put (D := (dC, dI)) (ci := 4) (v := .int ((-1))) (ty := .int) (C := RX9) (T := TX9) (N := 26) hx hb hts hinX9 tyX9 tyX9_ok nmX9 hown hK hP hD hS 0 rfl rfl 16 (by decide) (hts (.fieldLink RX9 69 "SlotFillerModel" "sort" "I") (by decide +kernel)) (fun _ h9 => h9) rfl (by decide +kernel) rfl rfl (Nat.le_of_ble_eq_true rfl) dX9_fraction_13 (fun H locs hP hD hS => ?_)
      have hP : va_P (dC, dI) vwCl [(m0, .inr (4, [(g 0), (g 1), (g 2), (g 3), (g 4), (g 5), (g 6), (g 7), (g 8), (g 9), (g 10), (g 11), (g 12), (g 13), (g 14), .int (sg.1), .int ((-1)), .int (sg.2.2.1), .int (sg.2.2.2.1), .long (sg.2.2.2.2.1), .long (sg.2.2.2.2.2.1), .int (sg.2.2.2.2.2.2), (g 22), (g 23), (g 24), (g 25)]))] H := hP
      have hD : va_D A [(m0, .inr (4, [(g 0), (g 1), (g 2), (g 3), (g 4), (g 5), (g 6), (g 7), (g 8), (g 9), (g 10), (g 11), (g 12), (g 13), (g 14), .int (sg.1), .int ((-1)), .int (sg.2.2.1), .int (sg.2.2.2.1), .long (sg.2.2.2.2.1), .long (sg.2.2.2.2.2.1), .int (sg.2.2.2.2.2.2), (g 22), (g 23), (g 24), (g 25)]))] := hD
      exact J16 (sg.1, (-1), sg.2.2.1, sg.2.2.2.1, sg.2.2.2.2.1, sg.2.2.2.2.2.1, sg.2.2.2.2.2.2) H _ ls hP hD hS (lv_sub hl [0, 1, 2] rfl) ((show (fX9_fraction_16 x1 x2 (sg.1, (-1), sg.2.2.1, sg.2.2.2.1, sg.2.2.2.2.1, sg.2.2.2.2.2.1, sg.2.2.2.2.2.2)) = (fX9_fraction x1 x2 sg) by unfold fX9_fraction; rw [if_neg c_2, if_pos c_3]).trans hv)
def frV (k z : Int32) : Int64 := if z = 0 then lsh 1 (32 + k) else lsh 3 (32 + k)
def frS (k z u : Int32) : Int32 := if z = 0 then u else if (k &&& 1) = 1 then (-1) else u
theorem fX9_fraction_eq (k z : Int32) (sg : Sc) : fX9_fraction k z sg = (frV k z, (sg.1, frS k z sg.2.1, sg.2.2)) := by
  by_cases h : z = 0 <;> by_cases h2 : (k &&& 1) = 1 <;> simp [fX9_fraction, fX9_fraction_16, fX9_fraction_27, frV, frS, h, h2]
theorem kX9_fractionE (l : Launch) (dC : Nat → ClassId) (dI : Nat → Nat → Nat) (m0 : Nat) (g : Nat → Value) (sz : Nat) (k z : Int32) (sg : Sc) : Met l yX9_fraction wsX9_fraction ({ frames := 0, cells := 0, slots := 0, locals := 0 }) (md_Pc (dC, dI) (wM1 m0 g sg) [] [.ref m0, .int k, .int z] sz) (md_Ql (frV k z) (dC, dI) (wM1 m0 g (sg.1, frS k z sg.2.1, sg.2.2)) (va_A (wM1 m0 g sg) sz)) 0 0 (va_A (wM1 m0 g sg) sz) := by
  have h := kX9_fraction l dC dI m0 g sz k z sg
  rw [fX9_fraction_eq] at h
  exact h
