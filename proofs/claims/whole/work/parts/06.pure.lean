def fX4_kindOf (x0 : Int32) : Int32 := (x0 &&& 15)
set_option maxHeartbeats 4000000 in
set_option maxRecDepth 100000 in
theorem kX4_kindOf (l : Launch) (sz : Nat) (x0 : Int32) : Met l yX4_kindOf wsX4_kindOf ({ frames := 0, cells := 0, slots := 0, locals := 0 }) (pu_Pc [.int (x0)] sz) (ro_Qi (fX4_kindOf x0) sz) 0 0 (ro sz) := by
  refine Met.ofW (cc := cX4_kindOf) (maxL := 1) (ret := (some .int)) (by decide) rfl ?_
  intro p e s m args below meth c s₁ B0 hml hv
  obtain ⟨rfl, hsz⟩ := hv
  have hx := B0.exec
  have hb := B0.bytes
  have hr := B0.returns
  have hts := atoms_spec (ws := wsX4_kindOf) B0.pre
  have hown : s.vm.findClass RX4 = some m.cls := findClass_of_methodNamed B0.named
  have hlocks := B0.notSynchronized
  subst hsz
  have hA : ∀ q : Nat, s.heap.size ≤ q → ro s.heap.size q := fun _ h => h
  have hS : va_S (ro s.heap.size) s.heap s.heap [] := va_S.rf
  have hl := lv_entry ([.int (x0)]) (n := 1) (Nat.le_of_ble_eq_true rfl)
  rw [lg_entry_eq]
  generalize (lg_sl ([.int (x0)]) ++ List.replicate (1 - (lg_sl ([.int (x0)])).length) Slot.unset).toArray = ls at hl ⊢
  have hl : lv_has ls 1 [(0, .int (x0))] := hl
  have hv : (fX4_kindOf x0) = (fX4_kindOf x0) := rfl
  refine lv_iload_n hx hb dX4_kindOf_0 rfl (lv_at hl 0 rfl) ?_
  refine lv_bipush (v := 15) hx hb dX4_kindOf_1 (by decide) ?_
  refine lv_iand hx hb dX4_kindOf_3 ?_
  exact W.iret (v := (x0 &&& 15)) hx hb hr (fun t ht hW => ⟨⟨_, (), rfl, ((show (x0 &&& 15) = (fX4_kindOf x0) by unfold fX4_kindOf; rfl).trans hv), trivial⟩, hS.F ht⟩) hS.2.2 dX4_kindOf_4
def fX4_has (x0 : Int32) (x1 : Int32) : Int32 := if (x0 &&& x1) = 0 then 0 else 1
set_option maxHeartbeats 4000000 in
set_option maxRecDepth 100000 in
theorem kX4_has (l : Launch) (sz : Nat) (x0 : Int32) (x1 : Int32) : Met l yX4_has wsX4_has ({ frames := 0, cells := 0, slots := 0, locals := 0 }) (pu_Pc [.int (x0), .int (x1)] sz) (ro_Qi (fX4_has x0 x1) sz) 0 0 (ro sz) := by
  refine Met.ofW (cc := cX4_has) (maxL := 2) (ret := (some .boolean)) (by decide) rfl ?_
  intro p e s m args below meth c s₁ B0 hml hv
  obtain ⟨rfl, hsz⟩ := hv
  have hx := B0.exec
  have hb := B0.bytes
  have hr := B0.returns
  have hts := atoms_spec (ws := wsX4_has) B0.pre
  have hown : s.vm.findClass RX4 = some m.cls := findClass_of_methodNamed B0.named
  have hlocks := B0.notSynchronized
  subst hsz
  have hA : ∀ q : Nat, s.heap.size ≤ q → ro s.heap.size q := fun _ h => h
  have hS : va_S (ro s.heap.size) s.heap s.heap [] := va_S.rf
  have hl := lv_entry ([.int (x0), .int (x1)]) (n := 2) (Nat.le_of_ble_eq_true rfl)
  rw [lg_entry_eq]
  generalize (lg_sl ([.int (x0), .int (x1)]) ++ List.replicate (2 - (lg_sl ([.int (x0), .int (x1)])).length) Slot.unset).toArray = ls at hl ⊢
  have hl : lv_has ls 2 [(0, .int (x0)), (1, .int (x1))] := hl
  have hv : (fX4_has x0 x1) = (fX4_has x0 x1) := rfl
  refine lv_iload_n hx hb dX4_has_0 rfl (lv_at hl 0 rfl) ?_
  refine lv_iload_n hx hb dX4_has_1 rfl (lv_at hl 1 rfl) ?_
  refine lv_iand hx hb dX4_has_2 ?_
  refine lv_if_eq (tgt := 10) hx hb dX4_has_3 (by decide) (fun c_1 => ?_) (fun c_1 => ?_)
  · refine lv_iconst (v := 0) hx hb dX4_has_10 (by decide) ?_
    exact W.zret (v := 0) hx hb hr (by decide) (fun t ht hW => ⟨⟨_, (), rfl, ((show 0 = (fX4_has x0 x1) by unfold fX4_has; rw [if_pos c_1]).trans hv), trivial⟩, hS.F ht⟩) hS.2.2 dX4_has_11
  · refine lv_iconst (v := 1) hx hb dX4_has_6 (by decide) ?_
    refine lv_goto (tgt := 11) hx hb dX4_has_7 (by decide) ?_
    exact W.zret (v := 1) hx hb hr (by decide) (fun t ht hW => ⟨⟨_, (), rfl, ((show 1 = (fX4_has x0 x1) by unfold fX4_has; rw [if_neg c_1]).trans hv), trivial⟩, hS.F ht⟩) hS.2.2 dX4_has_11
def fX3_operation (x0 : Int32) : Int32 := (ush x0 26)
set_option maxHeartbeats 4000000 in
set_option maxRecDepth 100000 in
theorem kX3_operation (l : Launch) (sz : Nat) (x0 : Int32) : Met l yX3_operation wsX3_operation ({ frames := 0, cells := 0, slots := 0, locals := 0 }) (pu_Pc [.int (x0)] sz) (ro_Qi (fX3_operation x0) sz) 0 0 (ro sz) := by
  refine Met.ofW (cc := cX3_operation) (maxL := 1) (ret := (some .int)) (by decide) rfl ?_
  intro p e s m args below meth c s₁ B0 hml hv
  obtain ⟨rfl, hsz⟩ := hv
  have hx := B0.exec
  have hb := B0.bytes
  have hr := B0.returns
  have hts := atoms_spec (ws := wsX3_operation) B0.pre
  have hown : s.vm.findClass RX3 = some m.cls := findClass_of_methodNamed B0.named
  have hlocks := B0.notSynchronized
  subst hsz
  have hA : ∀ q : Nat, s.heap.size ≤ q → ro s.heap.size q := fun _ h => h
  have hS : va_S (ro s.heap.size) s.heap s.heap [] := va_S.rf
  have hl := lv_entry ([.int (x0)]) (n := 1) (Nat.le_of_ble_eq_true rfl)
  rw [lg_entry_eq]
  generalize (lg_sl ([.int (x0)]) ++ List.replicate (1 - (lg_sl ([.int (x0)])).length) Slot.unset).toArray = ls at hl ⊢
  have hl : lv_has ls 1 [(0, .int (x0))] := hl
  have hv : (fX3_operation x0) = (fX3_operation x0) := rfl
  refine lv_iload_n hx hb dX3_operation_0 rfl (lv_at hl 0 rfl) ?_
  refine lv_bipush (v := 26) hx hb dX3_operation_1 (by decide) ?_
  refine lv_iushr (v := ush x0 26) hx hb dX3_operation_3 rfl ?_
  exact W.iret (v := (ush x0 26)) hx hb hr (fun t ht hW => ⟨⟨_, (), rfl, ((show (ush x0 26) = (fX3_operation x0) by unfold fX3_operation; rfl).trans hv), trivial⟩, hS.F ht⟩) hS.2.2 dX3_operation_4
def fX3_s (x0 : Int32) : Int32 := ((ush x0 21) &&& 31)
set_option maxHeartbeats 4000000 in
set_option maxRecDepth 100000 in
theorem kX3_s (l : Launch) (sz : Nat) (x0 : Int32) : Met l yX3_s wsX3_s ({ frames := 0, cells := 0, slots := 0, locals := 0 }) (pu_Pc [.int (x0)] sz) (ro_Qi (fX3_s x0) sz) 0 0 (ro sz) := by
  refine Met.ofW (cc := cX3_s) (maxL := 1) (ret := (some .int)) (by decide) rfl ?_
  intro p e s m args below meth c s₁ B0 hml hv
  obtain ⟨rfl, hsz⟩ := hv
  have hx := B0.exec
  have hb := B0.bytes
  have hr := B0.returns
  have hts := atoms_spec (ws := wsX3_s) B0.pre
  have hown : s.vm.findClass RX3 = some m.cls := findClass_of_methodNamed B0.named
  have hlocks := B0.notSynchronized
  subst hsz
  have hA : ∀ q : Nat, s.heap.size ≤ q → ro s.heap.size q := fun _ h => h
  have hS : va_S (ro s.heap.size) s.heap s.heap [] := va_S.rf
  have hl := lv_entry ([.int (x0)]) (n := 1) (Nat.le_of_ble_eq_true rfl)
  rw [lg_entry_eq]
  generalize (lg_sl ([.int (x0)]) ++ List.replicate (1 - (lg_sl ([.int (x0)])).length) Slot.unset).toArray = ls at hl ⊢
  have hl : lv_has ls 1 [(0, .int (x0))] := hl
  have hv : (fX3_s x0) = (fX3_s x0) := rfl
  refine lv_iload_n hx hb dX3_s_0 rfl (lv_at hl 0 rfl) ?_
  refine lv_bipush (v := 21) hx hb dX3_s_1 (by decide) ?_
  refine lv_iushr (v := ush x0 21) hx hb dX3_s_3 rfl ?_
  refine lv_bipush (v := 31) hx hb dX3_s_4 (by decide) ?_
  refine lv_iand hx hb dX3_s_6 ?_
  exact W.iret (v := ((ush x0 21) &&& 31)) hx hb hr (fun t ht hW => ⟨⟨_, (), rfl, ((show ((ush x0 21) &&& 31) = (fX3_s x0) by unfold fX3_s; rfl).trans hv), trivial⟩, hS.F ht⟩) hS.2.2 dX3_s_7
def fX3_t (x0 : Int32) : Int32 := ((ush x0 16) &&& 31)
set_option maxHeartbeats 4000000 in
set_option maxRecDepth 100000 in
theorem kX3_t (l : Launch) (sz : Nat) (x0 : Int32) : Met l yX3_t wsX3_t ({ frames := 0, cells := 0, slots := 0, locals := 0 }) (pu_Pc [.int (x0)] sz) (ro_Qi (fX3_t x0) sz) 0 0 (ro sz) := by
  refine Met.ofW (cc := cX3_t) (maxL := 1) (ret := (some .int)) (by decide) rfl ?_
  intro p e s m args below meth c s₁ B0 hml hv
  obtain ⟨rfl, hsz⟩ := hv
  have hx := B0.exec
  have hb := B0.bytes
  have hr := B0.returns
  have hts := atoms_spec (ws := wsX3_t) B0.pre
  have hown : s.vm.findClass RX3 = some m.cls := findClass_of_methodNamed B0.named
  have hlocks := B0.notSynchronized
  subst hsz
  have hA : ∀ q : Nat, s.heap.size ≤ q → ro s.heap.size q := fun _ h => h
  have hS : va_S (ro s.heap.size) s.heap s.heap [] := va_S.rf
  have hl := lv_entry ([.int (x0)]) (n := 1) (Nat.le_of_ble_eq_true rfl)
  rw [lg_entry_eq]
  generalize (lg_sl ([.int (x0)]) ++ List.replicate (1 - (lg_sl ([.int (x0)])).length) Slot.unset).toArray = ls at hl ⊢
  have hl : lv_has ls 1 [(0, .int (x0))] := hl
  have hv : (fX3_t x0) = (fX3_t x0) := rfl
  refine lv_iload_n hx hb dX3_t_0 rfl (lv_at hl 0 rfl) ?_
  refine lv_bipush (v := 16) hx hb dX3_t_1 (by decide) ?_
  refine lv_iushr (v := ush x0 16) hx hb dX3_t_3 rfl ?_
  refine lv_bipush (v := 31) hx hb dX3_t_4 (by decide) ?_
  refine lv_iand hx hb dX3_t_6 ?_
  exact W.iret (v := ((ush x0 16) &&& 31)) hx hb hr (fun t ht hW => ⟨⟨_, (), rfl, ((show ((ush x0 16) &&& 31) = (fX3_t x0) by unfold fX3_t; rfl).trans hv), trivial⟩, hS.F ht⟩) hS.2.2 dX3_t_7
def fX3_d (x0 : Int32) : Int32 := ((ush x0 11) &&& 31)
set_option maxHeartbeats 4000000 in
set_option maxRecDepth 100000 in
theorem kX3_d (l : Launch) (sz : Nat) (x0 : Int32) : Met l yX3_d wsX3_d ({ frames := 0, cells := 0, slots := 0, locals := 0 }) (pu_Pc [.int (x0)] sz) (ro_Qi (fX3_d x0) sz) 0 0 (ro sz) := by
  refine Met.ofW (cc := cX3_d) (maxL := 1) (ret := (some .int)) (by decide) rfl ?_
  intro p e s m args below meth c s₁ B0 hml hv
  obtain ⟨rfl, hsz⟩ := hv
  have hx := B0.exec
  have hb := B0.bytes
  have hr := B0.returns
  have hts := atoms_spec (ws := wsX3_d) B0.pre
  have hown : s.vm.findClass RX3 = some m.cls := findClass_of_methodNamed B0.named
  have hlocks := B0.notSynchronized
  subst hsz
  have hA : ∀ q : Nat, s.heap.size ≤ q → ro s.heap.size q := fun _ h => h
  have hS : va_S (ro s.heap.size) s.heap s.heap [] := va_S.rf
  have hl := lv_entry ([.int (x0)]) (n := 1) (Nat.le_of_ble_eq_true rfl)
  rw [lg_entry_eq]
  generalize (lg_sl ([.int (x0)]) ++ List.replicate (1 - (lg_sl ([.int (x0)])).length) Slot.unset).toArray = ls at hl ⊢
  have hl : lv_has ls 1 [(0, .int (x0))] := hl
  have hv : (fX3_d x0) = (fX3_d x0) := rfl
  refine lv_iload_n hx hb dX3_d_0 rfl (lv_at hl 0 rfl) ?_
  refine lv_bipush (v := 11) hx hb dX3_d_1 (by decide) ?_
  refine lv_iushr (v := ush x0 11) hx hb dX3_d_3 rfl ?_
  refine lv_bipush (v := 31) hx hb dX3_d_4 (by decide) ?_
  refine lv_iand hx hb dX3_d_6 ?_
  exact W.iret (v := ((ush x0 11) &&& 31)) hx hb hr (fun t ht hW => ⟨⟨_, (), rfl, ((show ((ush x0 11) &&& 31) = (fX3_d x0) by unfold fX3_d; rfl).trans hv), trivial⟩, hS.F ht⟩) hS.2.2 dX3_d_7
def fX3_function (x0 : Int32) : Int32 := (x0 &&& 63)
set_option maxHeartbeats 4000000 in
set_option maxRecDepth 100000 in
theorem kX3_function (l : Launch) (sz : Nat) (x0 : Int32) : Met l yX3_function wsX3_function ({ frames := 0, cells := 0, slots := 0, locals := 0 }) (pu_Pc [.int (x0)] sz) (ro_Qi (fX3_function x0) sz) 0 0 (ro sz) := by
  refine Met.ofW (cc := cX3_function) (maxL := 1) (ret := (some .int)) (by decide) rfl ?_
  intro p e s m args below meth c s₁ B0 hml hv
  obtain ⟨rfl, hsz⟩ := hv
  have hx := B0.exec
  have hb := B0.bytes
  have hr := B0.returns
  have hts := atoms_spec (ws := wsX3_function) B0.pre
  have hown : s.vm.findClass RX3 = some m.cls := findClass_of_methodNamed B0.named
  have hlocks := B0.notSynchronized
  subst hsz
  have hA : ∀ q : Nat, s.heap.size ≤ q → ro s.heap.size q := fun _ h => h
  have hS : va_S (ro s.heap.size) s.heap s.heap [] := va_S.rf
  have hl := lv_entry ([.int (x0)]) (n := 1) (Nat.le_of_ble_eq_true rfl)
  rw [lg_entry_eq]
  generalize (lg_sl ([.int (x0)]) ++ List.replicate (1 - (lg_sl ([.int (x0)])).length) Slot.unset).toArray = ls at hl ⊢
  have hl : lv_has ls 1 [(0, .int (x0))] := hl
  have hv : (fX3_function x0) = (fX3_function x0) := rfl
  refine lv_iload_n hx hb dX3_function_0 rfl (lv_at hl 0 rfl) ?_
  refine lv_bipush (v := 63) hx hb dX3_function_1 (by decide) ?_
  refine lv_iand hx hb dX3_function_3 ?_
  exact W.iret (v := (x0 &&& 63)) hx hb hr (fun t ht hW => ⟨⟨_, (), rfl, ((show (x0 &&& 63) = (fX3_function x0) by unfold fX3_function; rfl).trans hv), trivial⟩, hS.F ht⟩) hS.2.2 dX3_function_4
def fX3_offset (x0 : Int32) : Int32 := (i2s x0)
set_option maxHeartbeats 4000000 in
set_option maxRecDepth 100000 in
theorem kX3_offset (l : Launch) (sz : Nat) (x0 : Int32) : Met l yX3_offset wsX3_offset ({ frames := 0, cells := 0, slots := 0, locals := 0 }) (pu_Pc [.int (x0)] sz) (ro_Qi (fX3_offset x0) sz) 0 0 (ro sz) := by
  refine Met.ofW (cc := cX3_offset) (maxL := 1) (ret := (some .int)) (by decide) rfl ?_
  intro p e s m args below meth c s₁ B0 hml hv
  obtain ⟨rfl, hsz⟩ := hv
  have hx := B0.exec
  have hb := B0.bytes
  have hr := B0.returns
  have hts := atoms_spec (ws := wsX3_offset) B0.pre
  have hown : s.vm.findClass RX3 = some m.cls := findClass_of_methodNamed B0.named
  have hlocks := B0.notSynchronized
  subst hsz
  have hA : ∀ q : Nat, s.heap.size ≤ q → ro s.heap.size q := fun _ h => h
  have hS : va_S (ro s.heap.size) s.heap s.heap [] := va_S.rf
  have hl := lv_entry ([.int (x0)]) (n := 1) (Nat.le_of_ble_eq_true rfl)
  rw [lg_entry_eq]
  generalize (lg_sl ([.int (x0)]) ++ List.replicate (1 - (lg_sl ([.int (x0)])).length) Slot.unset).toArray = ls at hl ⊢
  have hl : lv_has ls 1 [(0, .int (x0))] := hl
  have hv : (fX3_offset x0) = (fX3_offset x0) := rfl
  refine lv_iload_n hx hb dX3_offset_0 rfl (lv_at hl 0 rfl) ?_
  refine lv_i2s (v := (i2s x0)) hx hb dX3_offset_1 rfl ?_
  exact W.iret (v := (i2s x0)) hx hb hr (fun t ht hW => ⟨⟨_, (), rfl, ((show (i2s x0) = (fX3_offset x0) by unfold fX3_offset; rfl).trans hv), trivial⟩, hS.F ht⟩) hS.2.2 dX3_offset_2
def fX3_fractionD (x0 : Int32) : Int32 := ((ush x0 6) &&& 31)
set_option maxHeartbeats 4000000 in
set_option maxRecDepth 100000 in
theorem kX3_fractionD (l : Launch) (sz : Nat) (x0 : Int32) : Met l yX3_fractionD wsX3_fractionD ({ frames := 0, cells := 0, slots := 0, locals := 0 }) (pu_Pc [.int (x0)] sz) (ro_Qi (fX3_fractionD x0) sz) 0 0 (ro sz) := by
  refine Met.ofW (cc := cX3_fractionD) (maxL := 1) (ret := (some .int)) (by decide) rfl ?_
  intro p e s m args below meth c s₁ B0 hml hv
  obtain ⟨rfl, hsz⟩ := hv
  have hx := B0.exec
  have hb := B0.bytes
  have hr := B0.returns
  have hts := atoms_spec (ws := wsX3_fractionD) B0.pre
  have hown : s.vm.findClass RX3 = some m.cls := findClass_of_methodNamed B0.named
  have hlocks := B0.notSynchronized
  subst hsz
  have hA : ∀ q : Nat, s.heap.size ≤ q → ro s.heap.size q := fun _ h => h
  have hS : va_S (ro s.heap.size) s.heap s.heap [] := va_S.rf
  have hl := lv_entry ([.int (x0)]) (n := 1) (Nat.le_of_ble_eq_true rfl)
  rw [lg_entry_eq]
  generalize (lg_sl ([.int (x0)]) ++ List.replicate (1 - (lg_sl ([.int (x0)])).length) Slot.unset).toArray = ls at hl ⊢
  have hl : lv_has ls 1 [(0, .int (x0))] := hl
  have hv : (fX3_fractionD x0) = (fX3_fractionD x0) := rfl
  refine lv_iload_n hx hb dX3_fractionD_0 rfl (lv_at hl 0 rfl) ?_
  refine lv_bipush (v := 6) hx hb dX3_fractionD_1 (by decide) ?_
  refine lv_iushr (v := ush x0 6) hx hb dX3_fractionD_3 rfl ?_
  refine lv_bipush (v := 31) hx hb dX3_fractionD_4 (by decide) ?_
  refine lv_iand hx hb dX3_fractionD_6 ?_
  exact W.iret (v := ((ush x0 6) &&& 31)) hx hb hr (fun t ht hW => ⟨⟨_, (), rfl, ((show ((ush x0 6) &&& 31) = (fX3_fractionD x0) by unfold fX3_fractionD; rfl).trans hv), trivial⟩, hS.F ht⟩) hS.2.2 dX3_fractionD_7
def fX3_fractionT (x0 : Int32) : Int32 := (fX3_t x0)
set_option maxHeartbeats 4000000 in
set_option maxRecDepth 100000 in
theorem kX3_fractionT (l : Launch) (sz : Nat) (x0 : Int32) : Met l yX3_fractionT wsX3_fractionT ({ frames := 1, cells := 0, slots := 0, locals := 20 }) (pu_Pc [.int (x0)] sz) (ro_Qi (fX3_fractionT x0) sz) 0 0 (ro sz) := by
  refine Met.ofW (cc := cX3_fractionT) (maxL := 1) (ret := (some .int)) (by decide) rfl ?_
  intro p e s m args below meth c s₁ B0 hml hv
  obtain ⟨rfl, hsz⟩ := hv
  have hx := B0.exec
  have hb := B0.bytes
  have hr := B0.returns
  have hts := atoms_spec (ws := wsX3_fractionT) B0.pre
  have hown : s.vm.findClass RX3 = some m.cls := findClass_of_methodNamed B0.named
  have hlocks := B0.notSynchronized
  subst hsz
  have hA : ∀ q : Nat, s.heap.size ≤ q → ro s.heap.size q := fun _ h => h
  have hS : va_S (ro s.heap.size) s.heap s.heap [] := va_S.rf
  have hl := lv_entry ([.int (x0)]) (n := 1) (Nat.le_of_ble_eq_true rfl)
  rw [lg_entry_eq]
  generalize (lg_sl ([.int (x0)]) ++ List.replicate (1 - (lg_sl ([.int (x0)])).length) Slot.unset).toArray = ls at hl ⊢
  have hl : lv_has ls 1 [(0, .int (x0))] := hl
  have hv : (fX3_fractionT x0) = (fX3_fractionT x0) := rfl
  refine lv_iload_n hx hb dX3_fractionT_0 rfl (lv_at hl 0 rfl) ?_
  refine ro_calli (va_runS (As := [.int (x0)]) (rest := []) ⟨hx, hb, hml, hown, hts⟩ (kX3_t l s.heap.size x0) (va_cwS 1 hts gX3_fractionT_X3_t rfl rfl rfl (by decide +kernel) ⟨Nat.le_of_ble_eq_true rfl, Nat.le_of_ble_eq_true rfl⟩) pu_preS rfl rfl hl.1 rfl (lv_room (Nat.le_of_ble_eq_true rfl)) dX3_fractionT_1 ⟨Nat.zero_le _, Nat.zero_le _⟩) hS hA (fun H locs kP hS => ?_)
  exact W.iret (v := (fX3_t x0)) hx hb hr (fun t ht hW => ⟨⟨_, (), rfl, ((show (fX3_t x0) = (fX3_fractionT x0) by unfold fX3_fractionT; rfl).trans hv), trivial⟩, hS.F ht⟩) hS.2.2 dX3_fractionT_4
def fX3_fractionS (x0 : Int32) : Int32 := (fX3_d x0)
set_option maxHeartbeats 4000000 in
set_option maxRecDepth 100000 in
theorem kX3_fractionS (l : Launch) (sz : Nat) (x0 : Int32) : Met l yX3_fractionS wsX3_fractionS ({ frames := 1, cells := 0, slots := 0, locals := 20 }) (pu_Pc [.int (x0)] sz) (ro_Qi (fX3_fractionS x0) sz) 0 0 (ro sz) := by
  refine Met.ofW (cc := cX3_fractionS) (maxL := 1) (ret := (some .int)) (by decide) rfl ?_
  intro p e s m args below meth c s₁ B0 hml hv
  obtain ⟨rfl, hsz⟩ := hv
  have hx := B0.exec
  have hb := B0.bytes
  have hr := B0.returns
  have hts := atoms_spec (ws := wsX3_fractionS) B0.pre
  have hown : s.vm.findClass RX3 = some m.cls := findClass_of_methodNamed B0.named
  have hlocks := B0.notSynchronized
  subst hsz
  have hA : ∀ q : Nat, s.heap.size ≤ q → ro s.heap.size q := fun _ h => h
  have hS : va_S (ro s.heap.size) s.heap s.heap [] := va_S.rf
  have hl := lv_entry ([.int (x0)]) (n := 1) (Nat.le_of_ble_eq_true rfl)
  rw [lg_entry_eq]
  generalize (lg_sl ([.int (x0)]) ++ List.replicate (1 - (lg_sl ([.int (x0)])).length) Slot.unset).toArray = ls at hl ⊢
  have hl : lv_has ls 1 [(0, .int (x0))] := hl
  have hv : (fX3_fractionS x0) = (fX3_fractionS x0) := rfl
  refine lv_iload_n hx hb dX3_fractionS_0 rfl (lv_at hl 0 rfl) ?_
  refine ro_calli (va_runS (As := [.int (x0)]) (rest := []) ⟨hx, hb, hml, hown, hts⟩ (kX3_d l s.heap.size x0) (va_cwS 1 hts gX3_fractionS_X3_d rfl rfl rfl (by decide +kernel) ⟨Nat.le_of_ble_eq_true rfl, Nat.le_of_ble_eq_true rfl⟩) pu_preS rfl rfl hl.1 rfl (lv_room (Nat.le_of_ble_eq_true rfl)) dX3_fractionS_1 ⟨Nat.zero_le _, Nat.zero_le _⟩) hS hA (fun H locs kP hS => ?_)
  exact W.iret (v := (fX3_d x0)) hx hb hr (fun t ht hW => ⟨⟨_, (), rfl, ((show (fX3_d x0) = (fX3_fractionS x0) by unfold fX3_fractionS; rfl).trans hv), trivial⟩, hS.F ht⟩) hS.2.2 dX3_fractionS_4
def fX7_register (x0 : Int32) : Int64 := if x0 = 0 then 0 else (lsh 1 x0)
set_option maxHeartbeats 4000000 in
set_option maxRecDepth 100000 in
theorem kX7_register (l : Launch) (sz : Nat) (x0 : Int32) : Met l yX7_register wsX7_register ({ frames := 0, cells := 0, slots := 0, locals := 0 }) (pu_Pc [.int (x0)] sz) (ro_Ql (fX7_register x0) sz) 0 0 (ro sz) := by
  refine Met.ofW (cc := cX7_register) (maxL := 1) (ret := (some .long)) (by decide) rfl ?_
  intro p e s m args below meth c s₁ B0 hml hv
  obtain ⟨rfl, hsz⟩ := hv
  have hx := B0.exec
  have hb := B0.bytes
  have hr := B0.returns
  have hts := atoms_spec (ws := wsX7_register) B0.pre
  have hown : s.vm.findClass RX7 = some m.cls := findClass_of_methodNamed B0.named
  have hlocks := B0.notSynchronized
  subst hsz
  have hA : ∀ q : Nat, s.heap.size ≤ q → ro s.heap.size q := fun _ h => h
  have hS : va_S (ro s.heap.size) s.heap s.heap [] := va_S.rf
  have hl := lv_entry ([.int (x0)]) (n := 1) (Nat.le_of_ble_eq_true rfl)
  rw [lg_entry_eq]
  generalize (lg_sl ([.int (x0)]) ++ List.replicate (1 - (lg_sl ([.int (x0)])).length) Slot.unset).toArray = ls at hl ⊢
  have hl : lv_has ls 1 [(0, .int (x0))] := hl
  have hv : (fX7_register x0) = (fX7_register x0) := rfl
  refine lv_iload_n hx hb dX7_register_0 rfl (lv_at hl 0 rfl) ?_
  refine lv_if_ne (tgt := 8) hx hb dX7_register_1 (by decide) (fun c_1 => ?_) (fun c_1 => ?_)
  · refine lv_lconst (v := 1) hx hb dX7_register_8 (by decide) ?_
    refine lv_iload_n hx hb dX7_register_9 rfl (lv_at hl 0 rfl) ?_
    refine lv_lshl (v := (lsh 1 x0)) hx hb dX7_register_10 rfl ?_
    exact W.lret (v := (lsh 1 x0)) hx hb hr (fun t ht hW => ⟨⟨_, (), rfl, ((show (lsh 1 x0) = (fX7_register x0) by unfold fX7_register; rw [if_neg c_1]).trans hv), trivial⟩, hS.F ht⟩) hS.2.2 dX7_register_11
  · refine lv_lconst (v := 0) hx hb dX7_register_4 (by decide) ?_
    refine lv_goto (tgt := 11) hx hb dX7_register_5 (by decide) ?_
    exact W.lret (v := 0) hx hb hr (fun t ht hW => ⟨⟨_, (), rfl, ((show 0 = (fX7_register x0) by unfold fX7_register; rw [if_pos c_1]).trans hv), trivial⟩, hS.F ht⟩) hS.2.2 dX7_register_11
def fX7_fraction (x0 : Int32) (x1 : Int32) : Int32 := if x1 = 0 then (1 <<< (x0 &&& 31)) else (3 <<< (x0 &&& 31))
set_option maxHeartbeats 4000000 in
set_option maxRecDepth 100000 in
theorem kX7_fraction (l : Launch) (sz : Nat) (x0 : Int32) (x1 : Int32) : Met l yX7_fraction wsX7_fraction ({ frames := 0, cells := 0, slots := 0, locals := 0 }) (pu_Pc [.int (x0), .int (x1)] sz) (ro_Qi (fX7_fraction x0 x1) sz) 0 0 (ro sz) := by
  refine Met.ofW (cc := cX7_fraction) (maxL := 2) (ret := (some .int)) (by decide) rfl ?_
  intro p e s m args below meth c s₁ B0 hml hv
  obtain ⟨rfl, hsz⟩ := hv
  have hx := B0.exec
  have hb := B0.bytes
  have hr := B0.returns
  have hts := atoms_spec (ws := wsX7_fraction) B0.pre
  have hown : s.vm.findClass RX7 = some m.cls := findClass_of_methodNamed B0.named
  have hlocks := B0.notSynchronized
  subst hsz
  have hA : ∀ q : Nat, s.heap.size ≤ q → ro s.heap.size q := fun _ h => h
  have hS : va_S (ro s.heap.size) s.heap s.heap [] := va_S.rf
  have hl := lv_entry ([.int (x0), .int (x1)]) (n := 2) (Nat.le_of_ble_eq_true rfl)
  rw [lg_entry_eq]
  generalize (lg_sl ([.int (x0), .int (x1)]) ++ List.replicate (2 - (lg_sl ([.int (x0), .int (x1)])).length) Slot.unset).toArray = ls at hl ⊢
  have hl : lv_has ls 2 [(0, .int (x0)), (1, .int (x1))] := hl
  have hv : (fX7_fraction x0 x1) = (fX7_fraction x0 x1) := rfl
  refine lv_iload_n hx hb dX7_fraction_0 rfl (lv_at hl 1 rfl) ?_
  refine lv_if_eq (tgt := 8) hx hb dX7_fraction_1 (by decide) (fun c_1 => ?_) (fun c_1 => ?_)
  · refine lv_iconst (v := 1) hx hb dX7_fraction_8 (by decide) ?_
    refine lv_iload_n hx hb dX7_fraction_9 rfl (lv_at hl 0 rfl) ?_
    refine lv_ishl hx hb dX7_fraction_10 ?_
    exact W.iret (v := (1 <<< (x0 &&& 31))) hx hb hr (fun t ht hW => ⟨⟨_, (), rfl, ((show (1 <<< (x0 &&& 31)) = (fX7_fraction x0 x1) by unfold fX7_fraction; rw [if_pos c_1]).trans hv), trivial⟩, hS.F ht⟩) hS.2.2 dX7_fraction_11
  · refine lv_iconst (v := 3) hx hb dX7_fraction_4 (by decide) ?_
    refine lv_goto (tgt := 9) hx hb dX7_fraction_5 (by decide) ?_
    refine lv_iload_n hx hb dX7_fraction_9 rfl (lv_at hl 0 rfl) ?_
    refine lv_ishl hx hb dX7_fraction_10 ?_
    exact W.iret (v := (3 <<< (x0 &&& 31))) hx hb hr (fun t ht hW => ⟨⟨_, (), rfl, ((show (3 <<< (x0 &&& 31)) = (fX7_fraction x0 x1) by unfold fX7_fraction; rw [if_neg c_1]).trans hv), trivial⟩, hS.F ht⟩) hS.2.2 dX7_fraction_11
def fX7_fractionS (x0 : Int32) (x1 : Int32) : Int32 := (fX7_fraction (fX3_fractionS x0) (fX4_has x1 1048576))
set_option maxHeartbeats 4000000 in
set_option maxRecDepth 100000 in
theorem kX7_fractionS (l : Launch) (sz : Nat) (x0 : Int32) (x1 : Int32) : Met l yX7_fractionS wsX7_fractionS ({ frames := 2, cells := 0, slots := 0, locals := 40 }) (pu_Pc [.int (x0), .int (x1)] sz) (ro_Qi (fX7_fractionS x0 x1) sz) 0 0 (ro sz) := by
  refine Met.ofW (cc := cX7_fractionS) (maxL := 2) (ret := (some .int)) (by decide) rfl ?_
  intro p e s m args below meth c s₁ B0 hml hv
  obtain ⟨rfl, hsz⟩ := hv
  have hx := B0.exec
  have hb := B0.bytes
  have hr := B0.returns
  have hts := atoms_spec (ws := wsX7_fractionS) B0.pre
  have hown : s.vm.findClass RX7 = some m.cls := findClass_of_methodNamed B0.named
  have hlocks := B0.notSynchronized
  subst hsz
  have hA : ∀ q : Nat, s.heap.size ≤ q → ro s.heap.size q := fun _ h => h
  have hS : va_S (ro s.heap.size) s.heap s.heap [] := va_S.rf
  have hl := lv_entry ([.int (x0), .int (x1)]) (n := 2) (Nat.le_of_ble_eq_true rfl)
  rw [lg_entry_eq]
  generalize (lg_sl ([.int (x0), .int (x1)]) ++ List.replicate (2 - (lg_sl ([.int (x0), .int (x1)])).length) Slot.unset).toArray = ls at hl ⊢
  have hl : lv_has ls 2 [(0, .int (x0)), (1, .int (x1))] := hl
  have hv : (fX7_fractionS x0 x1) = (fX7_fractionS x0 x1) := rfl
  refine lv_iload_n hx hb dX7_fractionS_0 rfl (lv_at hl 0 rfl) ?_
  refine ro_calli (va_runS (As := [.int (x0)]) (rest := []) ⟨hx, hb, hml, hown, hts⟩ (kX3_fractionS l s.heap.size x0) (va_cwS 1 hts gX7_fractionS_X3_fractionS rfl rfl rfl (by decide +kernel) ⟨Nat.le_of_ble_eq_true rfl, Nat.le_of_ble_eq_true rfl⟩) pu_preS rfl rfl hl.1 rfl (lv_room (Nat.le_of_ble_eq_true rfl)) dX7_fractionS_1 ⟨Nat.zero_le _, Nat.zero_le _⟩) hS hA (fun H locs kP hS => ?_)
  refine lv_iload_n hx hb dX7_fractionS_4 rfl (lv_at hl 1 rfl) ?_
  refine lv_ldc (v := 1048576) hx hb hown (hts (.constant RX7 52 (1048576)) (by decide +kernel)) dX7_fractionS_5 ?_
  refine ro_calli (va_runS (As := [.int (x1), .int (1048576)]) (rest := [.int ((fX3_fractionS x0))]) ⟨hx, hb, hml, hown, hts⟩ (kX4_has l H.size x1 1048576) (va_cwS 2 hts gX7_fractionS_X4_has rfl rfl rfl (by decide +kernel) ⟨Nat.le_of_ble_eq_true rfl, Nat.le_of_ble_eq_true rfl⟩) pu_preS rfl rfl hl.1 rfl (lv_room (Nat.le_of_ble_eq_true rfl)) dX7_fractionS_7 ⟨Nat.zero_le _, Nat.zero_le _⟩) hS hA (fun H locs kP hS => ?_)
  refine ro_calli (va_runS (As := [.int ((fX3_fractionS x0)), .int ((fX4_has x1 1048576))]) (rest := []) ⟨hx, hb, hml, hown, hts⟩ (kX7_fraction l H.size (fX3_fractionS x0) (fX4_has x1 1048576)) (va_cwS 2 hts gX7_fractionS_X7_fraction rfl rfl rfl (by decide +kernel) ⟨Nat.le_of_ble_eq_true rfl, Nat.le_of_ble_eq_true rfl⟩) pu_preS rfl rfl hl.1 rfl (lv_room (Nat.le_of_ble_eq_true rfl)) dX7_fractionS_10 ⟨Nat.zero_le _, Nat.zero_le _⟩) hS hA (fun H locs kP hS => ?_)
  exact W.iret (v := (fX7_fraction (fX3_fractionS x0) (fX4_has x1 1048576))) hx hb hr (fun t ht hW => ⟨⟨_, (), rfl, ((show (fX7_fraction (fX3_fractionS x0) (fX4_has x1 1048576)) = (fX7_fractionS x0 x1) by unfold fX7_fractionS; rfl).trans hv), trivial⟩, hS.F ht⟩) hS.2.2 dX7_fractionS_13
def fX7_fractionT (x0 : Int32) (x1 : Int32) : Int32 := (fX7_fraction (fX3_fractionT x0) (fX4_has x1 2097152))
set_option maxHeartbeats 4000000 in
set_option maxRecDepth 100000 in
theorem kX7_fractionT (l : Launch) (sz : Nat) (x0 : Int32) (x1 : Int32) : Met l yX7_fractionT wsX7_fractionT ({ frames := 2, cells := 0, slots := 0, locals := 40 }) (pu_Pc [.int (x0), .int (x1)] sz) (ro_Qi (fX7_fractionT x0 x1) sz) 0 0 (ro sz) := by
  refine Met.ofW (cc := cX7_fractionT) (maxL := 2) (ret := (some .int)) (by decide) rfl ?_
  intro p e s m args below meth c s₁ B0 hml hv
  obtain ⟨rfl, hsz⟩ := hv
  have hx := B0.exec
  have hb := B0.bytes
  have hr := B0.returns
  have hts := atoms_spec (ws := wsX7_fractionT) B0.pre
  have hown : s.vm.findClass RX7 = some m.cls := findClass_of_methodNamed B0.named
  have hlocks := B0.notSynchronized
  subst hsz
  have hA : ∀ q : Nat, s.heap.size ≤ q → ro s.heap.size q := fun _ h => h
  have hS : va_S (ro s.heap.size) s.heap s.heap [] := va_S.rf
  have hl := lv_entry ([.int (x0), .int (x1)]) (n := 2) (Nat.le_of_ble_eq_true rfl)
  rw [lg_entry_eq]
  generalize (lg_sl ([.int (x0), .int (x1)]) ++ List.replicate (2 - (lg_sl ([.int (x0), .int (x1)])).length) Slot.unset).toArray = ls at hl ⊢
  have hl : lv_has ls 2 [(0, .int (x0)), (1, .int (x1))] := hl
  have hv : (fX7_fractionT x0 x1) = (fX7_fractionT x0 x1) := rfl
  refine lv_iload_n hx hb dX7_fractionT_0 rfl (lv_at hl 0 rfl) ?_
  refine ro_calli (va_runS (As := [.int (x0)]) (rest := []) ⟨hx, hb, hml, hown, hts⟩ (kX3_fractionT l s.heap.size x0) (va_cwS 1 hts gX7_fractionT_X3_fractionT rfl rfl rfl (by decide +kernel) ⟨Nat.le_of_ble_eq_true rfl, Nat.le_of_ble_eq_true rfl⟩) pu_preS rfl rfl hl.1 rfl (lv_room (Nat.le_of_ble_eq_true rfl)) dX7_fractionT_1 ⟨Nat.zero_le _, Nat.zero_le _⟩) hS hA (fun H locs kP hS => ?_)
  refine lv_iload_n hx hb dX7_fractionT_4 rfl (lv_at hl 1 rfl) ?_
  refine lv_ldc (v := 2097152) hx hb hown (hts (.constant RX7 59 (2097152)) (by decide +kernel)) dX7_fractionT_5 ?_
  refine ro_calli (va_runS (As := [.int (x1), .int (2097152)]) (rest := [.int ((fX3_fractionT x0))]) ⟨hx, hb, hml, hown, hts⟩ (kX4_has l H.size x1 2097152) (va_cwS 2 hts gX7_fractionT_X4_has rfl rfl rfl (by decide +kernel) ⟨Nat.le_of_ble_eq_true rfl, Nat.le_of_ble_eq_true rfl⟩) pu_preS rfl rfl hl.1 rfl (lv_room (Nat.le_of_ble_eq_true rfl)) dX7_fractionT_7 ⟨Nat.zero_le _, Nat.zero_le _⟩) hS hA (fun H locs kP hS => ?_)
  refine ro_calli (va_runS (As := [.int ((fX3_fractionT x0)), .int ((fX4_has x1 2097152))]) (rest := []) ⟨hx, hb, hml, hown, hts⟩ (kX7_fraction l H.size (fX3_fractionT x0) (fX4_has x1 2097152)) (va_cwS 2 hts gX7_fractionT_X7_fraction rfl rfl rfl (by decide +kernel) ⟨Nat.le_of_ble_eq_true rfl, Nat.le_of_ble_eq_true rfl⟩) pu_preS rfl rfl hl.1 rfl (lv_room (Nat.le_of_ble_eq_true rfl)) dX7_fractionT_10 ⟨Nat.zero_le _, Nat.zero_le _⟩) hS hA (fun H locs kP hS => ?_)
  exact W.iret (v := (fX7_fraction (fX3_fractionT x0) (fX4_has x1 2097152))) hx hb hr (fun t ht hW => ⟨⟨_, (), rfl, ((show (fX7_fraction (fX3_fractionT x0) (fX4_has x1 2097152)) = (fX7_fractionT x0 x1) by unfold fX7_fractionT; rfl).trans hv), trivial⟩, hS.F ht⟩) hS.2.2 dX7_fractionT_13
def fX7_fractionD (x0 : Int32) (x1 : Int32) : Int32 := (fX7_fraction (fX3_fractionD x0) (fX4_has x1 4194304))
set_option maxHeartbeats 4000000 in
set_option maxRecDepth 100000 in
theorem kX7_fractionD (l : Launch) (sz : Nat) (x0 : Int32) (x1 : Int32) : Met l yX7_fractionD wsX7_fractionD ({ frames := 1, cells := 0, slots := 0, locals := 21 }) (pu_Pc [.int (x0), .int (x1)] sz) (ro_Qi (fX7_fractionD x0 x1) sz) 0 0 (ro sz) := by
  refine Met.ofW (cc := cX7_fractionD) (maxL := 2) (ret := (some .int)) (by decide) rfl ?_
  intro p e s m args below meth c s₁ B0 hml hv
  obtain ⟨rfl, hsz⟩ := hv
  have hx := B0.exec
  have hb := B0.bytes
  have hr := B0.returns
  have hts := atoms_spec (ws := wsX7_fractionD) B0.pre
  have hown : s.vm.findClass RX7 = some m.cls := findClass_of_methodNamed B0.named
  have hlocks := B0.notSynchronized
  subst hsz
  have hA : ∀ q : Nat, s.heap.size ≤ q → ro s.heap.size q := fun _ h => h
  have hS : va_S (ro s.heap.size) s.heap s.heap [] := va_S.rf
  have hl := lv_entry ([.int (x0), .int (x1)]) (n := 2) (Nat.le_of_ble_eq_true rfl)
  rw [lg_entry_eq]
  generalize (lg_sl ([.int (x0), .int (x1)]) ++ List.replicate (2 - (lg_sl ([.int (x0), .int (x1)])).length) Slot.unset).toArray = ls at hl ⊢
  have hl : lv_has ls 2 [(0, .int (x0)), (1, .int (x1))] := hl
  have hv : (fX7_fractionD x0 x1) = (fX7_fractionD x0 x1) := rfl
  refine lv_iload_n hx hb dX7_fractionD_0 rfl (lv_at hl 0 rfl) ?_
  refine ro_calli (va_runS (As := [.int (x0)]) (rest := []) ⟨hx, hb, hml, hown, hts⟩ (kX3_fractionD l s.heap.size x0) (va_cwS 1 hts gX7_fractionD_X3_fractionD rfl rfl rfl (by decide +kernel) ⟨Nat.le_of_ble_eq_true rfl, Nat.le_of_ble_eq_true rfl⟩) pu_preS rfl rfl hl.1 rfl (lv_room (Nat.le_of_ble_eq_true rfl)) dX7_fractionD_1 ⟨Nat.zero_le _, Nat.zero_le _⟩) hS hA (fun H locs kP hS => ?_)
  refine lv_iload_n hx hb dX7_fractionD_4 rfl (lv_at hl 1 rfl) ?_
  refine lv_ldc (v := 4194304) hx hb hown (hts (.constant RX7 62 (4194304)) (by decide +kernel)) dX7_fractionD_5 ?_
  refine ro_calli (va_runS (As := [.int (x1), .int (4194304)]) (rest := [.int ((fX3_fractionD x0))]) ⟨hx, hb, hml, hown, hts⟩ (kX4_has l H.size x1 4194304) (va_cwS 2 hts gX7_fractionD_X4_has rfl rfl rfl (by decide +kernel) ⟨Nat.le_of_ble_eq_true rfl, Nat.le_of_ble_eq_true rfl⟩) pu_preS rfl rfl hl.1 rfl (lv_room (Nat.le_of_ble_eq_true rfl)) dX7_fractionD_7 ⟨Nat.zero_le _, Nat.zero_le _⟩) hS hA (fun H locs kP hS => ?_)
  refine ro_calli (va_runS (As := [.int ((fX3_fractionD x0)), .int ((fX4_has x1 4194304))]) (rest := []) ⟨hx, hb, hml, hown, hts⟩ (kX7_fraction l H.size (fX3_fractionD x0) (fX4_has x1 4194304)) (va_cwS 2 hts gX7_fractionD_X7_fraction rfl rfl rfl (by decide +kernel) ⟨Nat.le_of_ble_eq_true rfl, Nat.le_of_ble_eq_true rfl⟩) pu_preS rfl rfl hl.1 rfl (lv_room (Nat.le_of_ble_eq_true rfl)) dX7_fractionD_10 ⟨Nat.zero_le _, Nat.zero_le _⟩) hS hA (fun H locs kP hS => ?_)
  exact W.iret (v := (fX7_fraction (fX3_fractionD x0) (fX4_has x1 4194304))) hx hb hr (fun t ht hW => ⟨⟨_, (), rfl, ((show (fX7_fraction (fX3_fractionD x0) (fX4_has x1 4194304)) = (fX7_fractionD x0 x1) by unfold fX7_fractionD; rfl).trans hv), trivial⟩, hS.F ht⟩) hS.2.2 dX7_fractionD_13
def fX7_reads_91 (w : Int32) (f : Int32) (v : Int64) : Int64 := v
def fX7_reads_75 (w : Int32) (f : Int32) (v : Int64) : Int64 := if (fX4_has f 4096) = 0 then (fX7_reads_91 w f v) else (fX7_reads_91 w f (v ||| 8589934592))
def fX7_reads_59 (w : Int32) (f : Int32) (v : Int64) : Int64 := if (fX4_has f 1024) = 0 then (fX7_reads_75 w f v) else (fX7_reads_75 w f (v ||| 4294967296))
def fX7_reads_40 (w : Int32) (f : Int32) (v : Int64) : Int64 := if (fX4_has f 64) = 0 then (fX7_reads_59 w f v) else (fX7_reads_59 w f (v ||| (fX7_register (fX3_d w))))
def fX7_reads_21 (w : Int32) (f : Int32) (v : Int64) : Int64 := if (fX4_has f 32) = 0 then (fX7_reads_40 w f v) else (fX7_reads_40 w f (v ||| (fX7_register (fX3_t w))))
def fX7_reads (w : Int32) (f : Int32) : Int64 := if (fX4_has f 16) = 0 then (fX7_reads_21 w f 0) else (fX7_reads_21 w f (0 ||| (fX7_register (fX3_s w))))
set_option maxHeartbeats 4000000 in
set_option maxRecDepth 100000 in
theorem kX7_reads (l : Launch) (sz : Nat) (w : Int32) (f : Int32) : Met l yX7_reads wsX7_reads ({ frames := 1, cells := 0, slots := 0, locals := 21 }) (pu_Pc [.int (w), .int (f)] sz) (ro_Ql (fX7_reads w f) sz) 0 0 (ro sz) := by
  refine Met.ofW (cc := cX7_reads) (maxL := 4) (ret := (some .long)) (by decide) rfl ?_
  intro p e s m args below meth c s₁ B0 hml hv
  obtain ⟨rfl, hsz⟩ := hv
  have hx := B0.exec
  have hb := B0.bytes
  have hr := B0.returns
  have hts := atoms_spec (ws := wsX7_reads) B0.pre
  have hown : s.vm.findClass RX7 = some m.cls := findClass_of_methodNamed B0.named
  have hlocks := B0.notSynchronized
  subst hsz
  have hA : ∀ q : Nat, s.heap.size ≤ q → ro s.heap.size q := fun _ h => h
  have hS : va_S (ro s.heap.size) s.heap s.heap [] := va_S.rf
  have hl := lv_entry ([.int (w), .int (f)]) (n := 4) (Nat.le_of_ble_eq_true rfl)
  rw [lg_entry_eq]
  generalize (lg_sl ([.int (w), .int (f)]) ++ List.replicate (4 - (lg_sl ([.int (w), .int (f)])).length) Slot.unset).toArray = ls at hl ⊢
  have hl : lv_has ls 4 [(0, .int (w)), (1, .int (f))] := hl
  have hv : (fX7_reads w f) = (fX7_reads w f) := rfl
  have J91 : ∀ (v : Int64) (H : Heap) (locs : List Loc) (ls : Array Slot), va_S (ro s.heap.size) s.heap H locs → lv_has ls 4 [(2, .long (v)), (0, .int (w)), (1, .int (f))] → (fX7_reads_91 w f v) = (fX7_reads w f) → W p l e (headSpec wsX7_reads ({ frames := 1, cells := 0, slots := 0, locals := 21 })).room s m ([.int (w), .int (f)] : List Value).toArray below meth c H locs 0 0 (MQ below (ro_Ql (fX7_reads w f) s.heap.size) ([.int (w), .int (f)] : List Value).toArray s 0 0 ((ro s.heap.size))) (F0 m 91 ls []) := by
    intro v H locs ls hS hl hv
    refine lv_lload_n hx hb dX7_reads_91 rfl (lv_at hl 0 rfl) ?_
    exact W.lret (v := v) hx hb hr (fun t ht hW => ⟨⟨_, (), rfl, ((show v = (fX7_reads_91 w f v) by unfold fX7_reads_91; rfl).trans hv), trivial⟩, hS.F ht⟩) hS.2.2 dX7_reads_92
  have J75 : ∀ (v : Int64) (H : Heap) (locs : List Loc) (ls : Array Slot), va_S (ro s.heap.size) s.heap H locs → lv_has ls 4 [(2, .long (v)), (0, .int (w)), (1, .int (f))] → (fX7_reads_75 w f v) = (fX7_reads w f) → W p l e (headSpec wsX7_reads ({ frames := 1, cells := 0, slots := 0, locals := 21 })).room s m ([.int (w), .int (f)] : List Value).toArray below meth c H locs 0 0 (MQ below (ro_Ql (fX7_reads w f) s.heap.size) ([.int (w), .int (f)] : List Value).toArray s 0 0 ((ro s.heap.size))) (F0 m 75 ls []) := by
    intro v H locs ls hS hl hv
    refine lv_iload_n hx hb dX7_reads_75 rfl (lv_at hl 2 rfl) ?_
    refine lv_sipush (v := 4096) hx hb dX7_reads_76 (by decide) ?_
    refine ro_calli (va_runS (As := [.int (f), .int (4096)]) (rest := []) ⟨hx, hb, hml, hown, hts⟩ (kX4_has l H.size f 4096) (va_cwS 2 hts gX7_reads_X4_has rfl rfl rfl (by decide +kernel) ⟨Nat.le_of_ble_eq_true rfl, Nat.le_of_ble_eq_true rfl⟩) pu_preS rfl rfl hl.1 rfl (lv_room (Nat.le_of_ble_eq_true rfl)) dX7_reads_79 ⟨Nat.zero_le _, Nat.zero_le _⟩) hS hA (fun H locs kP hS => ?_)
    refine lv_if_eq (tgt := 91) hx hb dX7_reads_82 (by decide) (fun c_1 => ?_) (fun c_1 => ?_)
    · exact J91 v H _ ls hS (lv_sub hl [0, 1, 2] rfl) ((show (fX7_reads_91 w f v) = (fX7_reads_75 w f v) by unfold fX7_reads_75; rw [if_pos c_1]).trans hv)
    · refine lv_lload_n hx hb dX7_reads_85 rfl (lv_at hl 0 rfl) ?_
      refine lv_ldc2 (v := 8589934592) hx hb hown (hts (.constantLong RX7 33 (8589934592)) (by decide +kernel)) dX7_reads_86 ?_
      refine lv_lor hx hb dX7_reads_89 ?_
      refine lv_lstore_n (lv' := [(2, .long ((v ||| 8589934592))), (0, .int (w)), (1, .int (f))]) hx hb dX7_reads_90 rfl hl (by decide) rfl (fun ls hl => ?_)
      exact J91 (v ||| 8589934592) H _ ls hS (lv_sub hl [0, 1, 2] rfl) ((show (fX7_reads_91 w f (v ||| 8589934592)) = (fX7_reads_75 w f v) by unfold fX7_reads_75; rw [if_neg c_1]).trans hv)
  have J59 : ∀ (v : Int64) (H : Heap) (locs : List Loc) (ls : Array Slot), va_S (ro s.heap.size) s.heap H locs → lv_has ls 4 [(2, .long (v)), (0, .int (w)), (1, .int (f))] → (fX7_reads_59 w f v) = (fX7_reads w f) → W p l e (headSpec wsX7_reads ({ frames := 1, cells := 0, slots := 0, locals := 21 })).room s m ([.int (w), .int (f)] : List Value).toArray below meth c H locs 0 0 (MQ below (ro_Ql (fX7_reads w f) s.heap.size) ([.int (w), .int (f)] : List Value).toArray s 0 0 ((ro s.heap.size))) (F0 m 59 ls []) := by
    intro v H locs ls hS hl hv
    refine lv_iload_n hx hb dX7_reads_59 rfl (lv_at hl 2 rfl) ?_
    refine lv_sipush (v := 1024) hx hb dX7_reads_60 (by decide) ?_
    refine ro_calli (va_runS (As := [.int (f), .int (1024)]) (rest := []) ⟨hx, hb, hml, hown, hts⟩ (kX4_has l H.size f 1024) (va_cwS 2 hts gX7_reads_X4_has rfl rfl rfl (by decide +kernel) ⟨Nat.le_of_ble_eq_true rfl, Nat.le_of_ble_eq_true rfl⟩) pu_preS rfl rfl hl.1 rfl (lv_room (Nat.le_of_ble_eq_true rfl)) dX7_reads_63 ⟨Nat.zero_le _, Nat.zero_le _⟩) hS hA (fun H locs kP hS => ?_)
    refine lv_if_eq (tgt := 75) hx hb dX7_reads_66 (by decide) (fun c_2 => ?_) (fun c_2 => ?_)
    · exact J75 v H _ ls hS (lv_sub hl [0, 1, 2] rfl) ((show (fX7_reads_75 w f v) = (fX7_reads_59 w f v) by unfold fX7_reads_59; rw [if_pos c_2]).trans hv)
    · refine lv_lload_n hx hb dX7_reads_69 rfl (lv_at hl 0 rfl) ?_
      refine lv_ldc2 (v := 4294967296) hx hb hown (hts (.constantLong RX7 31 (4294967296)) (by decide +kernel)) dX7_reads_70 ?_
      refine lv_lor hx hb dX7_reads_73 ?_
      refine lv_lstore_n (lv' := [(2, .long ((v ||| 4294967296))), (0, .int (w)), (1, .int (f))]) hx hb dX7_reads_74 rfl hl (by decide) rfl (fun ls hl => ?_)
      exact J75 (v ||| 4294967296) H _ ls hS (lv_sub hl [0, 1, 2] rfl) ((show (fX7_reads_75 w f (v ||| 4294967296)) = (fX7_reads_59 w f v) by unfold fX7_reads_59; rw [if_neg c_2]).trans hv)
  have J40 : ∀ (v : Int64) (H : Heap) (locs : List Loc) (ls : Array Slot), va_S (ro s.heap.size) s.heap H locs → lv_has ls 4 [(2, .long (v)), (0, .int (w)), (1, .int (f))] → (fX7_reads_40 w f v) = (fX7_reads w f) → W p l e (headSpec wsX7_reads ({ frames := 1, cells := 0, slots := 0, locals := 21 })).room s m ([.int (w), .int (f)] : List Value).toArray below meth c H locs 0 0 (MQ below (ro_Ql (fX7_reads w f) s.heap.size) ([.int (w), .int (f)] : List Value).toArray s 0 0 ((ro s.heap.size))) (F0 m 40 ls []) := by
    intro v H locs ls hS hl hv
    refine lv_iload_n hx hb dX7_reads_40 rfl (lv_at hl 2 rfl) ?_
    refine lv_bipush (v := 64) hx hb dX7_reads_41 (by decide) ?_
    refine ro_calli (va_runS (As := [.int (f), .int (64)]) (rest := []) ⟨hx, hb, hml, hown, hts⟩ (kX4_has l H.size f 64) (va_cwS 2 hts gX7_reads_X4_has rfl rfl rfl (by decide +kernel) ⟨Nat.le_of_ble_eq_true rfl, Nat.le_of_ble_eq_true rfl⟩) pu_preS rfl rfl hl.1 rfl (lv_room (Nat.le_of_ble_eq_true rfl)) dX7_reads_43 ⟨Nat.zero_le _, Nat.zero_le _⟩) hS hA (fun H locs kP hS => ?_)
    refine lv_if_eq (tgt := 59) hx hb dX7_reads_46 (by decide) (fun c_3 => ?_) (fun c_3 => ?_)
    · exact J59 v H _ ls hS (lv_sub hl [0, 1, 2] rfl) ((show (fX7_reads_59 w f v) = (fX7_reads_40 w f v) by unfold fX7_reads_40; rw [if_pos c_3]).trans hv)
    · refine lv_lload_n hx hb dX7_reads_49 rfl (lv_at hl 0 rfl) ?_
      refine lv_iload_n hx hb dX7_reads_50 rfl (lv_at hl 1 rfl) ?_
      refine ro_calli (va_runS (As := [.int (w)]) (rest := [.long (v)]) ⟨hx, hb, hml, hown, hts⟩ (kX3_d l H.size w) (va_cwS 1 hts gX7_reads_X3_d rfl rfl rfl (by decide +kernel) ⟨Nat.le_of_ble_eq_true rfl, Nat.le_of_ble_eq_true rfl⟩) pu_preS rfl rfl hl.1 rfl (lv_room (Nat.le_of_ble_eq_true rfl)) dX7_reads_51 ⟨Nat.zero_le _, Nat.zero_le _⟩) hS hA (fun H locs kP hS => ?_)
      refine ro_calll (va_runS (As := [.int ((fX3_d w))]) (rest := [.long (v)]) ⟨hx, hb, hml, hown, hts⟩ (kX7_register l H.size (fX3_d w)) (va_cwS 1 hts gX7_reads_X7_register rfl rfl rfl (by decide +kernel) ⟨Nat.le_of_ble_eq_true rfl, Nat.le_of_ble_eq_true rfl⟩) pu_preS rfl rfl hl.1 rfl (lv_room (Nat.le_of_ble_eq_true rfl)) dX7_reads_54 ⟨Nat.zero_le _, Nat.zero_le _⟩) hS hA (fun H locs kP hS => ?_)
      refine lv_lor hx hb dX7_reads_57 ?_
      refine lv_lstore_n (lv' := [(2, .long ((v ||| (fX7_register (fX3_d w))))), (0, .int (w)), (1, .int (f))]) hx hb dX7_reads_58 rfl hl (by decide) rfl (fun ls hl => ?_)
      exact J59 (v ||| (fX7_register (fX3_d w))) H _ ls hS (lv_sub hl [0, 1, 2] rfl) ((show (fX7_reads_59 w f (v ||| (fX7_register (fX3_d w)))) = (fX7_reads_40 w f v) by unfold fX7_reads_40; rw [if_neg c_3]).trans hv)
  have J21 : ∀ (v : Int64) (H : Heap) (locs : List Loc) (ls : Array Slot), va_S (ro s.heap.size) s.heap H locs → lv_has ls 4 [(2, .long (v)), (0, .int (w)), (1, .int (f))] → (fX7_reads_21 w f v) = (fX7_reads w f) → W p l e (headSpec wsX7_reads ({ frames := 1, cells := 0, slots := 0, locals := 21 })).room s m ([.int (w), .int (f)] : List Value).toArray below meth c H locs 0 0 (MQ below (ro_Ql (fX7_reads w f) s.heap.size) ([.int (w), .int (f)] : List Value).toArray s 0 0 ((ro s.heap.size))) (F0 m 21 ls []) := by
    intro v H locs ls hS hl hv
    refine lv_iload_n hx hb dX7_reads_21 rfl (lv_at hl 2 rfl) ?_
    refine lv_bipush (v := 32) hx hb dX7_reads_22 (by decide) ?_
    refine ro_calli (va_runS (As := [.int (f), .int (32)]) (rest := []) ⟨hx, hb, hml, hown, hts⟩ (kX4_has l H.size f 32) (va_cwS 2 hts gX7_reads_X4_has rfl rfl rfl (by decide +kernel) ⟨Nat.le_of_ble_eq_true rfl, Nat.le_of_ble_eq_true rfl⟩) pu_preS rfl rfl hl.1 rfl (lv_room (Nat.le_of_ble_eq_true rfl)) dX7_reads_24 ⟨Nat.zero_le _, Nat.zero_le _⟩) hS hA (fun H locs kP hS => ?_)
    refine lv_if_eq (tgt := 40) hx hb dX7_reads_27 (by decide) (fun c_4 => ?_) (fun c_4 => ?_)
    · exact J40 v H _ ls hS (lv_sub hl [0, 1, 2] rfl) ((show (fX7_reads_40 w f v) = (fX7_reads_21 w f v) by unfold fX7_reads_21; rw [if_pos c_4]).trans hv)
    · refine lv_lload_n hx hb dX7_reads_30 rfl (lv_at hl 0 rfl) ?_
      refine lv_iload_n hx hb dX7_reads_31 rfl (lv_at hl 1 rfl) ?_
      refine ro_calli (va_runS (As := [.int (w)]) (rest := [.long (v)]) ⟨hx, hb, hml, hown, hts⟩ (kX3_t l H.size w) (va_cwS 1 hts gX7_reads_X3_t rfl rfl rfl (by decide +kernel) ⟨Nat.le_of_ble_eq_true rfl, Nat.le_of_ble_eq_true rfl⟩) pu_preS rfl rfl hl.1 rfl (lv_room (Nat.le_of_ble_eq_true rfl)) dX7_reads_32 ⟨Nat.zero_le _, Nat.zero_le _⟩) hS hA (fun H locs kP hS => ?_)
      refine ro_calll (va_runS (As := [.int ((fX3_t w))]) (rest := [.long (v)]) ⟨hx, hb, hml, hown, hts⟩ (kX7_register l H.size (fX3_t w)) (va_cwS 1 hts gX7_reads_X7_register rfl rfl rfl (by decide +kernel) ⟨Nat.le_of_ble_eq_true rfl, Nat.le_of_ble_eq_true rfl⟩) pu_preS rfl rfl hl.1 rfl (lv_room (Nat.le_of_ble_eq_true rfl)) dX7_reads_35 ⟨Nat.zero_le _, Nat.zero_le _⟩) hS hA (fun H locs kP hS => ?_)
      refine lv_lor hx hb dX7_reads_38 ?_
      refine lv_lstore_n (lv' := [(2, .long ((v ||| (fX7_register (fX3_t w))))), (0, .int (w)), (1, .int (f))]) hx hb dX7_reads_39 rfl hl (by decide) rfl (fun ls hl => ?_)
      exact J40 (v ||| (fX7_register (fX3_t w))) H _ ls hS (lv_sub hl [0, 1, 2] rfl) ((show (fX7_reads_40 w f (v ||| (fX7_register (fX3_t w)))) = (fX7_reads_21 w f v) by unfold fX7_reads_21; rw [if_neg c_4]).trans hv)
  refine lv_lconst (v := 0) hx hb dX7_reads_0 (by decide) ?_
  refine lv_lstore_n (lv' := [(2, .long (0)), (0, .int (w)), (1, .int (f))]) hx hb dX7_reads_1 rfl hl (by decide) rfl (fun ls hl => ?_)
  refine lv_iload_n hx hb dX7_reads_2 rfl (lv_at hl 2 rfl) ?_
  refine lv_bipush (v := 16) hx hb dX7_reads_3 (by decide) ?_
  refine ro_calli (va_runS (As := [.int (f), .int (16)]) (rest := []) ⟨hx, hb, hml, hown, hts⟩ (kX4_has l s.heap.size f 16) (va_cwS 2 hts gX7_reads_X4_has rfl rfl rfl (by decide +kernel) ⟨Nat.le_of_ble_eq_true rfl, Nat.le_of_ble_eq_true rfl⟩) pu_preS rfl rfl hl.1 rfl (lv_room (Nat.le_of_ble_eq_true rfl)) dX7_reads_5 ⟨Nat.zero_le _, Nat.zero_le _⟩) hS hA (fun H locs kP hS => ?_)
  refine lv_if_eq (tgt := 21) hx hb dX7_reads_8 (by decide) (fun c_5 => ?_) (fun c_5 => ?_)
  · exact J21 0 H _ ls hS (lv_sub hl [0, 1, 2] rfl) ((show (fX7_reads_21 w f 0) = (fX7_reads w f) by unfold fX7_reads; rw [if_pos c_5]).trans hv)
  · refine lv_lload_n hx hb dX7_reads_11 rfl (lv_at hl 0 rfl) ?_
    refine lv_iload_n hx hb dX7_reads_12 rfl (lv_at hl 1 rfl) ?_
    refine ro_calli (va_runS (As := [.int (w)]) (rest := [.long (0)]) ⟨hx, hb, hml, hown, hts⟩ (kX3_s l H.size w) (va_cwS 1 hts gX7_reads_X3_s rfl rfl rfl (by decide +kernel) ⟨Nat.le_of_ble_eq_true rfl, Nat.le_of_ble_eq_true rfl⟩) pu_preS rfl rfl hl.1 rfl (lv_room (Nat.le_of_ble_eq_true rfl)) dX7_reads_13 ⟨Nat.zero_le _, Nat.zero_le _⟩) hS hA (fun H locs kP hS => ?_)
    refine ro_calll (va_runS (As := [.int ((fX3_s w))]) (rest := [.long (0)]) ⟨hx, hb, hml, hown, hts⟩ (kX7_register l H.size (fX3_s w)) (va_cwS 1 hts gX7_reads_X7_register rfl rfl rfl (by decide +kernel) ⟨Nat.le_of_ble_eq_true rfl, Nat.le_of_ble_eq_true rfl⟩) pu_preS rfl rfl hl.1 rfl (lv_room (Nat.le_of_ble_eq_true rfl)) dX7_reads_16 ⟨Nat.zero_le _, Nat.zero_le _⟩) hS hA (fun H locs kP hS => ?_)
    refine lv_lor hx hb dX7_reads_19 ?_
    refine lv_lstore_n (lv' := [(2, .long ((0 ||| (fX7_register (fX3_s w))))), (0, .int (w)), (1, .int (f))]) hx hb dX7_reads_20 rfl hl (by decide) rfl (fun ls hl => ?_)
    exact J21 (0 ||| (fX7_register (fX3_s w))) H _ ls hS (lv_sub hl [0, 1, 2] rfl) ((show (fX7_reads_21 w f (0 ||| (fX7_register (fX3_s w)))) = (fX7_reads w f) by unfold fX7_reads; rw [if_neg c_5]).trans hv)
def fX7_writes_92 (w : Int32) (f : Int32) (v : Int64) : Int64 := v
def fX7_writes_76 (w : Int32) (f : Int32) (v : Int64) : Int64 := if (fX4_has f 8192) = 0 then (fX7_writes_92 w f v) else (fX7_writes_92 w f (v ||| 8589934592))
def fX7_writes_60 (w : Int32) (f : Int32) (v : Int64) : Int64 := if (fX4_has f 2048) = 0 then (fX7_writes_76 w f v) else (fX7_writes_76 w f (v ||| 4294967296))
def fX7_writes_42 (w : Int32) (f : Int32) (v : Int64) : Int64 := if (fX4_has f 512) = 0 then (fX7_writes_60 w f v) else (fX7_writes_60 w f (v ||| (fX7_register 31)))
def fX7_writes_22 (w : Int32) (f : Int32) (v : Int64) : Int64 := if (fX4_has f 256) = 0 then (fX7_writes_42 w f v) else (fX7_writes_42 w f (v ||| (fX7_register (fX3_d w))))
def fX7_writes (w : Int32) (f : Int32) : Int64 := if (fX4_has f 128) = 0 then (fX7_writes_22 w f 0) else (fX7_writes_22 w f (0 ||| (fX7_register (fX3_t w))))
set_option maxHeartbeats 4000000 in
set_option maxRecDepth 100000 in
theorem kX7_writes (l : Launch) (sz : Nat) (w : Int32) (f : Int32) : Met l yX7_writes wsX7_writes ({ frames := 1, cells := 0, slots := 0, locals := 21 }) (pu_Pc [.int (w), .int (f)] sz) (ro_Ql (fX7_writes w f) sz) 0 0 (ro sz) := by
  refine Met.ofW (cc := cX7_writes) (maxL := 4) (ret := (some .long)) (by decide) rfl ?_
  intro p e s m args below meth c s₁ B0 hml hv
  obtain ⟨rfl, hsz⟩ := hv
  have hx := B0.exec
  have hb := B0.bytes
  have hr := B0.returns
  have hts := atoms_spec (ws := wsX7_writes) B0.pre
  have hown : s.vm.findClass RX7 = some m.cls := findClass_of_methodNamed B0.named
  have hlocks := B0.notSynchronized
  subst hsz
  have hA : ∀ q : Nat, s.heap.size ≤ q → ro s.heap.size q := fun _ h => h
  have hS : va_S (ro s.heap.size) s.heap s.heap [] := va_S.rf
  have hl := lv_entry ([.int (w), .int (f)]) (n := 4) (Nat.le_of_ble_eq_true rfl)
  rw [lg_entry_eq]
  generalize (lg_sl ([.int (w), .int (f)]) ++ List.replicate (4 - (lg_sl ([.int (w), .int (f)])).length) Slot.unset).toArray = ls at hl ⊢
  have hl : lv_has ls 4 [(0, .int (w)), (1, .int (f))] := hl
  have hv : (fX7_writes w f) = (fX7_writes w f) := rfl
  have J92 : ∀ (v : Int64) (H : Heap) (locs : List Loc) (ls : Array Slot), va_S (ro s.heap.size) s.heap H locs → lv_has ls 4 [(2, .long (v)), (0, .int (w)), (1, .int (f))] → (fX7_writes_92 w f v) = (fX7_writes w f) → W p l e (headSpec wsX7_writes ({ frames := 1, cells := 0, slots := 0, locals := 21 })).room s m ([.int (w), .int (f)] : List Value).toArray below meth c H locs 0 0 (MQ below (ro_Ql (fX7_writes w f) s.heap.size) ([.int (w), .int (f)] : List Value).toArray s 0 0 ((ro s.heap.size))) (F0 m 92 ls []) := by
    intro v H locs ls hS hl hv
    refine lv_lload_n hx hb dX7_writes_92 rfl (lv_at hl 0 rfl) ?_
    exact W.lret (v := v) hx hb hr (fun t ht hW => ⟨⟨_, (), rfl, ((show v = (fX7_writes_92 w f v) by unfold fX7_writes_92; rfl).trans hv), trivial⟩, hS.F ht⟩) hS.2.2 dX7_writes_93
  have J76 : ∀ (v : Int64) (H : Heap) (locs : List Loc) (ls : Array Slot), va_S (ro s.heap.size) s.heap H locs → lv_has ls 4 [(2, .long (v)), (0, .int (w)), (1, .int (f))] → (fX7_writes_76 w f v) = (fX7_writes w f) → W p l e (headSpec wsX7_writes ({ frames := 1, cells := 0, slots := 0, locals := 21 })).room s m ([.int (w), .int (f)] : List Value).toArray below meth c H locs 0 0 (MQ below (ro_Ql (fX7_writes w f) s.heap.size) ([.int (w), .int (f)] : List Value).toArray s 0 0 ((ro s.heap.size))) (F0 m 76 ls []) := by
    intro v H locs ls hS hl hv
    refine lv_iload_n hx hb dX7_writes_76 rfl (lv_at hl 2 rfl) ?_
    refine lv_sipush (v := 8192) hx hb dX7_writes_77 (by decide) ?_
    refine ro_calli (va_runS (As := [.int (f), .int (8192)]) (rest := []) ⟨hx, hb, hml, hown, hts⟩ (kX4_has l H.size f 8192) (va_cwS 2 hts gX7_writes_X4_has rfl rfl rfl (by decide +kernel) ⟨Nat.le_of_ble_eq_true rfl, Nat.le_of_ble_eq_true rfl⟩) pu_preS rfl rfl hl.1 rfl (lv_room (Nat.le_of_ble_eq_true rfl)) dX7_writes_80 ⟨Nat.zero_le _, Nat.zero_le _⟩) hS hA (fun H locs kP hS => ?_)
    refine lv_if_eq (tgt := 92) hx hb dX7_writes_83 (by decide) (fun c_1 => ?_) (fun c_1 => ?_)
    · exact J92 v H _ ls hS (lv_sub hl [0, 1, 2] rfl) ((show (fX7_writes_92 w f v) = (fX7_writes_76 w f v) by unfold fX7_writes_76; rw [if_pos c_1]).trans hv)
    · refine lv_lload_n hx hb dX7_writes_86 rfl (lv_at hl 0 rfl) ?_
      refine lv_ldc2 (v := 8589934592) hx hb hown (hts (.constantLong RX7 33 (8589934592)) (by decide +kernel)) dX7_writes_87 ?_
      refine lv_lor hx hb dX7_writes_90 ?_
      refine lv_lstore_n (lv' := [(2, .long ((v ||| 8589934592))), (0, .int (w)), (1, .int (f))]) hx hb dX7_writes_91 rfl hl (by decide) rfl (fun ls hl => ?_)
      exact J92 (v ||| 8589934592) H _ ls hS (lv_sub hl [0, 1, 2] rfl) ((show (fX7_writes_92 w f (v ||| 8589934592)) = (fX7_writes_76 w f v) by unfold fX7_writes_76; rw [if_neg c_1]).trans hv)
  have J60 : ∀ (v : Int64) (H : Heap) (locs : List Loc) (ls : Array Slot), va_S (ro s.heap.size) s.heap H locs → lv_has ls 4 [(2, .long (v)), (0, .int (w)), (1, .int (f))] → (fX7_writes_60 w f v) = (fX7_writes w f) → W p l e (headSpec wsX7_writes ({ frames := 1, cells := 0, slots := 0, locals := 21 })).room s m ([.int (w), .int (f)] : List Value).toArray below meth c H locs 0 0 (MQ below (ro_Ql (fX7_writes w f) s.heap.size) ([.int (w), .int (f)] : List Value).toArray s 0 0 ((ro s.heap.size))) (F0 m 60 ls []) := by
    intro v H locs ls hS hl hv
    refine lv_iload_n hx hb dX7_writes_60 rfl (lv_at hl 2 rfl) ?_
    refine lv_sipush (v := 2048) hx hb dX7_writes_61 (by decide) ?_
    refine ro_calli (va_runS (As := [.int (f), .int (2048)]) (rest := []) ⟨hx, hb, hml, hown, hts⟩ (kX4_has l H.size f 2048) (va_cwS 2 hts gX7_writes_X4_has rfl rfl rfl (by decide +kernel) ⟨Nat.le_of_ble_eq_true rfl, Nat.le_of_ble_eq_true rfl⟩) pu_preS rfl rfl hl.1 rfl (lv_room (Nat.le_of_ble_eq_true rfl)) dX7_writes_64 ⟨Nat.zero_le _, Nat.zero_le _⟩) hS hA (fun H locs kP hS => ?_)
    refine lv_if_eq (tgt := 76) hx hb dX7_writes_67 (by decide) (fun c_2 => ?_) (fun c_2 => ?_)
    · exact J76 v H _ ls hS (lv_sub hl [0, 1, 2] rfl) ((show (fX7_writes_76 w f v) = (fX7_writes_60 w f v) by unfold fX7_writes_60; rw [if_pos c_2]).trans hv)
    · refine lv_lload_n hx hb dX7_writes_70 rfl (lv_at hl 0 rfl) ?_
      refine lv_ldc2 (v := 4294967296) hx hb hown (hts (.constantLong RX7 31 (4294967296)) (by decide +kernel)) dX7_writes_71 ?_
      refine lv_lor hx hb dX7_writes_74 ?_
      refine lv_lstore_n (lv' := [(2, .long ((v ||| 4294967296))), (0, .int (w)), (1, .int (f))]) hx hb dX7_writes_75 rfl hl (by decide) rfl (fun ls hl => ?_)
      exact J76 (v ||| 4294967296) H _ ls hS (lv_sub hl [0, 1, 2] rfl) ((show (fX7_writes_76 w f (v ||| 4294967296)) = (fX7_writes_60 w f v) by unfold fX7_writes_60; rw [if_neg c_2]).trans hv)
  have J42 : ∀ (v : Int64) (H : Heap) (locs : List Loc) (ls : Array Slot), va_S (ro s.heap.size) s.heap H locs → lv_has ls 4 [(2, .long (v)), (0, .int (w)), (1, .int (f))] → (fX7_writes_42 w f v) = (fX7_writes w f) → W p l e (headSpec wsX7_writes ({ frames := 1, cells := 0, slots := 0, locals := 21 })).room s m ([.int (w), .int (f)] : List Value).toArray below meth c H locs 0 0 (MQ below (ro_Ql (fX7_writes w f) s.heap.size) ([.int (w), .int (f)] : List Value).toArray s 0 0 ((ro s.heap.size))) (F0 m 42 ls []) := by
    intro v H locs ls hS hl hv
    refine lv_iload_n hx hb dX7_writes_42 rfl (lv_at hl 2 rfl) ?_
    refine lv_sipush (v := 512) hx hb dX7_writes_43 (by decide) ?_
    refine ro_calli (va_runS (As := [.int (f), .int (512)]) (rest := []) ⟨hx, hb, hml, hown, hts⟩ (kX4_has l H.size f 512) (va_cwS 2 hts gX7_writes_X4_has rfl rfl rfl (by decide +kernel) ⟨Nat.le_of_ble_eq_true rfl, Nat.le_of_ble_eq_true rfl⟩) pu_preS rfl rfl hl.1 rfl (lv_room (Nat.le_of_ble_eq_true rfl)) dX7_writes_46 ⟨Nat.zero_le _, Nat.zero_le _⟩) hS hA (fun H locs kP hS => ?_)
    refine lv_if_eq (tgt := 60) hx hb dX7_writes_49 (by decide) (fun c_3 => ?_) (fun c_3 => ?_)
    · exact J60 v H _ ls hS (lv_sub hl [0, 1, 2] rfl) ((show (fX7_writes_60 w f v) = (fX7_writes_42 w f v) by unfold fX7_writes_42; rw [if_pos c_3]).trans hv)
    · refine lv_lload_n hx hb dX7_writes_52 rfl (lv_at hl 0 rfl) ?_
      refine lv_bipush (v := 31) hx hb dX7_writes_53 (by decide) ?_
      refine ro_calll (va_runS (As := [.int (31)]) (rest := [.long (v)]) ⟨hx, hb, hml, hown, hts⟩ (kX7_register l H.size 31) (va_cwS 1 hts gX7_writes_X7_register rfl rfl rfl (by decide +kernel) ⟨Nat.le_of_ble_eq_true rfl, Nat.le_of_ble_eq_true rfl⟩) pu_preS rfl rfl hl.1 rfl (lv_room (Nat.le_of_ble_eq_true rfl)) dX7_writes_55 ⟨Nat.zero_le _, Nat.zero_le _⟩) hS hA (fun H locs kP hS => ?_)
      refine lv_lor hx hb dX7_writes_58 ?_
      refine lv_lstore_n (lv' := [(2, .long ((v ||| (fX7_register 31)))), (0, .int (w)), (1, .int (f))]) hx hb dX7_writes_59 rfl hl (by decide) rfl (fun ls hl => ?_)
      exact J60 (v ||| (fX7_register 31)) H _ ls hS (lv_sub hl [0, 1, 2] rfl) ((show (fX7_writes_60 w f (v ||| (fX7_register 31))) = (fX7_writes_42 w f v) by unfold fX7_writes_42; rw [if_neg c_3]).trans hv)
  have J22 : ∀ (v : Int64) (H : Heap) (locs : List Loc) (ls : Array Slot), va_S (ro s.heap.size) s.heap H locs → lv_has ls 4 [(2, .long (v)), (0, .int (w)), (1, .int (f))] → (fX7_writes_22 w f v) = (fX7_writes w f) → W p l e (headSpec wsX7_writes ({ frames := 1, cells := 0, slots := 0, locals := 21 })).room s m ([.int (w), .int (f)] : List Value).toArray below meth c H locs 0 0 (MQ below (ro_Ql (fX7_writes w f) s.heap.size) ([.int (w), .int (f)] : List Value).toArray s 0 0 ((ro s.heap.size))) (F0 m 22 ls []) := by
    intro v H locs ls hS hl hv
    refine lv_iload_n hx hb dX7_writes_22 rfl (lv_at hl 2 rfl) ?_
    refine lv_sipush (v := 256) hx hb dX7_writes_23 (by decide) ?_
    refine ro_calli (va_runS (As := [.int (f), .int (256)]) (rest := []) ⟨hx, hb, hml, hown, hts⟩ (kX4_has l H.size f 256) (va_cwS 2 hts gX7_writes_X4_has rfl rfl rfl (by decide +kernel) ⟨Nat.le_of_ble_eq_true rfl, Nat.le_of_ble_eq_true rfl⟩) pu_preS rfl rfl hl.1 rfl (lv_room (Nat.le_of_ble_eq_true rfl)) dX7_writes_26 ⟨Nat.zero_le _, Nat.zero_le _⟩) hS hA (fun H locs kP hS => ?_)
    refine lv_if_eq (tgt := 42) hx hb dX7_writes_29 (by decide) (fun c_4 => ?_) (fun c_4 => ?_)
    · exact J42 v H _ ls hS (lv_sub hl [0, 1, 2] rfl) ((show (fX7_writes_42 w f v) = (fX7_writes_22 w f v) by unfold fX7_writes_22; rw [if_pos c_4]).trans hv)
    · refine lv_lload_n hx hb dX7_writes_32 rfl (lv_at hl 0 rfl) ?_
      refine lv_iload_n hx hb dX7_writes_33 rfl (lv_at hl 1 rfl) ?_
      refine ro_calli (va_runS (As := [.int (w)]) (rest := [.long (v)]) ⟨hx, hb, hml, hown, hts⟩ (kX3_d l H.size w) (va_cwS 1 hts gX7_writes_X3_d rfl rfl rfl (by decide +kernel) ⟨Nat.le_of_ble_eq_true rfl, Nat.le_of_ble_eq_true rfl⟩) pu_preS rfl rfl hl.1 rfl (lv_room (Nat.le_of_ble_eq_true rfl)) dX7_writes_34 ⟨Nat.zero_le _, Nat.zero_le _⟩) hS hA (fun H locs kP hS => ?_)
      refine ro_calll (va_runS (As := [.int ((fX3_d w))]) (rest := [.long (v)]) ⟨hx, hb, hml, hown, hts⟩ (kX7_register l H.size (fX3_d w)) (va_cwS 1 hts gX7_writes_X7_register rfl rfl rfl (by decide +kernel) ⟨Nat.le_of_ble_eq_true rfl, Nat.le_of_ble_eq_true rfl⟩) pu_preS rfl rfl hl.1 rfl (lv_room (Nat.le_of_ble_eq_true rfl)) dX7_writes_37 ⟨Nat.zero_le _, Nat.zero_le _⟩) hS hA (fun H locs kP hS => ?_)
      refine lv_lor hx hb dX7_writes_40 ?_
      refine lv_lstore_n (lv' := [(2, .long ((v ||| (fX7_register (fX3_d w))))), (0, .int (w)), (1, .int (f))]) hx hb dX7_writes_41 rfl hl (by decide) rfl (fun ls hl => ?_)
      exact J42 (v ||| (fX7_register (fX3_d w))) H _ ls hS (lv_sub hl [0, 1, 2] rfl) ((show (fX7_writes_42 w f (v ||| (fX7_register (fX3_d w)))) = (fX7_writes_22 w f v) by unfold fX7_writes_22; rw [if_neg c_4]).trans hv)
  refine lv_lconst (v := 0) hx hb dX7_writes_0 (by decide) ?_
  refine lv_lstore_n (lv' := [(2, .long (0)), (0, .int (w)), (1, .int (f))]) hx hb dX7_writes_1 rfl hl (by decide) rfl (fun ls hl => ?_)
  refine lv_iload_n hx hb dX7_writes_2 rfl (lv_at hl 2 rfl) ?_
  refine lv_sipush (v := 128) hx hb dX7_writes_3 (by decide) ?_
  refine ro_calli (va_runS (As := [.int (f), .int (128)]) (rest := []) ⟨hx, hb, hml, hown, hts⟩ (kX4_has l s.heap.size f 128) (va_cwS 2 hts gX7_writes_X4_has rfl rfl rfl (by decide +kernel) ⟨Nat.le_of_ble_eq_true rfl, Nat.le_of_ble_eq_true rfl⟩) pu_preS rfl rfl hl.1 rfl (lv_room (Nat.le_of_ble_eq_true rfl)) dX7_writes_6 ⟨Nat.zero_le _, Nat.zero_le _⟩) hS hA (fun H locs kP hS => ?_)
  refine lv_if_eq (tgt := 22) hx hb dX7_writes_9 (by decide) (fun c_5 => ?_) (fun c_5 => ?_)
  · exact J22 0 H _ ls hS (lv_sub hl [0, 1, 2] rfl) ((show (fX7_writes_22 w f 0) = (fX7_writes w f) by unfold fX7_writes; rw [if_pos c_5]).trans hv)
  · refine lv_lload_n hx hb dX7_writes_12 rfl (lv_at hl 0 rfl) ?_
    refine lv_iload_n hx hb dX7_writes_13 rfl (lv_at hl 1 rfl) ?_
    refine ro_calli (va_runS (As := [.int (w)]) (rest := [.long (0)]) ⟨hx, hb, hml, hown, hts⟩ (kX3_t l H.size w) (va_cwS 1 hts gX7_writes_X3_t rfl rfl rfl (by decide +kernel) ⟨Nat.le_of_ble_eq_true rfl, Nat.le_of_ble_eq_true rfl⟩) pu_preS rfl rfl hl.1 rfl (lv_room (Nat.le_of_ble_eq_true rfl)) dX7_writes_14 ⟨Nat.zero_le _, Nat.zero_le _⟩) hS hA (fun H locs kP hS => ?_)
    refine ro_calll (va_runS (As := [.int ((fX3_t w))]) (rest := [.long (0)]) ⟨hx, hb, hml, hown, hts⟩ (kX7_register l H.size (fX3_t w)) (va_cwS 1 hts gX7_writes_X7_register rfl rfl rfl (by decide +kernel) ⟨Nat.le_of_ble_eq_true rfl, Nat.le_of_ble_eq_true rfl⟩) pu_preS rfl rfl hl.1 rfl (lv_room (Nat.le_of_ble_eq_true rfl)) dX7_writes_17 ⟨Nat.zero_le _, Nat.zero_le _⟩) hS hA (fun H locs kP hS => ?_)
    refine lv_lor hx hb dX7_writes_20 ?_
    refine lv_lstore_n (lv' := [(2, .long ((0 ||| (fX7_register (fX3_t w))))), (0, .int (w)), (1, .int (f))]) hx hb dX7_writes_21 rfl hl (by decide) rfl (fun ls hl => ?_)
    exact J22 (0 ||| (fX7_register (fX3_t w))) H _ ls hS (lv_sub hl [0, 1, 2] rfl) ((show (fX7_writes_22 w f (0 ||| (fX7_register (fX3_t w)))) = (fX7_writes w f) by unfold fX7_writes; rw [if_neg c_5]).trans hv)
def fX7_readsFractions_54 (w : Int32) (f : Int32) (v : Int32) : Int32 := v
def fX7_readsFractions_37 (w : Int32) (f : Int32) (v : Int32) : Int32 := if (fX4_has f 65536) = 0 then (fX7_readsFractions_54 w f v) else (fX7_readsFractions_54 w f (v ||| (fX7_fractionD w f)))
def fX7_readsFractions_20 (w : Int32) (f : Int32) (v : Int32) : Int32 := if (fX4_has f 32768) = 0 then (fX7_readsFractions_37 w f v) else (fX7_readsFractions_37 w f (v ||| (fX7_fractionT w f)))
def fX7_readsFractions (w : Int32) (f : Int32) : Int32 := if (fX4_has f 16384) = 0 then (fX7_readsFractions_20 w f 0) else (fX7_readsFractions_20 w f (0 ||| (fX7_fractionS w f)))
set_option maxHeartbeats 4000000 in
set_option maxRecDepth 100000 in
theorem kX7_readsFractions (l : Launch) (sz : Nat) (w : Int32) (f : Int32) : Met l yX7_readsFractions wsX7_readsFractions ({ frames := 3, cells := 0, slots := 0, locals := 61 }) (pu_Pc [.int (w), .int (f)] sz) (ro_Qi (fX7_readsFractions w f) sz) 0 0 (ro sz) := by
  refine Met.ofW (cc := cX7_readsFractions) (maxL := 3) (ret := (some .int)) (by decide) rfl ?_
  intro p e s m args below meth c s₁ B0 hml hv
  obtain ⟨rfl, hsz⟩ := hv
  have hx := B0.exec
  have hb := B0.bytes
  have hr := B0.returns
  have hts := atoms_spec (ws := wsX7_readsFractions) B0.pre
  have hown : s.vm.findClass RX7 = some m.cls := findClass_of_methodNamed B0.named
  have hlocks := B0.notSynchronized
  subst hsz
  have hA : ∀ q : Nat, s.heap.size ≤ q → ro s.heap.size q := fun _ h => h
  have hS : va_S (ro s.heap.size) s.heap s.heap [] := va_S.rf
  have hl := lv_entry ([.int (w), .int (f)]) (n := 3) (Nat.le_of_ble_eq_true rfl)
  rw [lg_entry_eq]
  generalize (lg_sl ([.int (w), .int (f)]) ++ List.replicate (3 - (lg_sl ([.int (w), .int (f)])).length) Slot.unset).toArray = ls at hl ⊢
  have hl : lv_has ls 3 [(0, .int (w)), (1, .int (f))] := hl
  have hv : (fX7_readsFractions w f) = (fX7_readsFractions w f) := rfl
  have J54 : ∀ (v : Int32) (H : Heap) (locs : List Loc) (ls : Array Slot), va_S (ro s.heap.size) s.heap H locs → lv_has ls 3 [(2, .int (v)), (0, .int (w)), (1, .int (f))] → (fX7_readsFractions_54 w f v) = (fX7_readsFractions w f) → W p l e (headSpec wsX7_readsFractions ({ frames := 3, cells := 0, slots := 0, locals := 61 })).room s m ([.int (w), .int (f)] : List Value).toArray below meth c H locs 0 0 (MQ below (ro_Qi (fX7_readsFractions w f) s.heap.size) ([.int (w), .int (f)] : List Value).toArray s 0 0 ((ro s.heap.size))) (F0 m 54 ls []) := by
    intro v H locs ls hS hl hv
    refine lv_iload_n hx hb dX7_readsFractions_54 rfl (lv_at hl 0 rfl) ?_
    exact W.iret (v := v) hx hb hr (fun t ht hW => ⟨⟨_, (), rfl, ((show v = (fX7_readsFractions_54 w f v) by unfold fX7_readsFractions_54; rfl).trans hv), trivial⟩, hS.F ht⟩) hS.2.2 dX7_readsFractions_55
  have J37 : ∀ (v : Int32) (H : Heap) (locs : List Loc) (ls : Array Slot), va_S (ro s.heap.size) s.heap H locs → lv_has ls 3 [(2, .int (v)), (0, .int (w)), (1, .int (f))] → (fX7_readsFractions_37 w f v) = (fX7_readsFractions w f) → W p l e (headSpec wsX7_readsFractions ({ frames := 3, cells := 0, slots := 0, locals := 61 })).room s m ([.int (w), .int (f)] : List Value).toArray below meth c H locs 0 0 (MQ below (ro_Qi (fX7_readsFractions w f) s.heap.size) ([.int (w), .int (f)] : List Value).toArray s 0 0 ((ro s.heap.size))) (F0 m 37 ls []) := by
    intro v H locs ls hS hl hv
    refine lv_iload_n hx hb dX7_readsFractions_37 rfl (lv_at hl 2 rfl) ?_
    refine lv_ldc (v := 65536) hx hb hown (hts (.constant RX7 43 (65536)) (by decide +kernel)) dX7_readsFractions_38 ?_
    refine ro_calli (va_runS (As := [.int (f), .int (65536)]) (rest := []) ⟨hx, hb, hml, hown, hts⟩ (kX4_has l H.size f 65536) (va_cwS 2 hts gX7_readsFractions_X4_has rfl rfl rfl (by decide +kernel) ⟨Nat.le_of_ble_eq_true rfl, Nat.le_of_ble_eq_true rfl⟩) pu_preS rfl rfl hl.1 rfl (lv_room (Nat.le_of_ble_eq_true rfl)) dX7_readsFractions_40 ⟨Nat.zero_le _, Nat.zero_le _⟩) hS hA (fun H locs kP hS => ?_)
    refine lv_if_eq (tgt := 54) hx hb dX7_readsFractions_43 (by decide) (fun c_1 => ?_) (fun c_1 => ?_)
    · exact J54 v H _ ls hS (lv_sub hl [0, 1, 2] rfl) ((show (fX7_readsFractions_54 w f v) = (fX7_readsFractions_37 w f v) by unfold fX7_readsFractions_37; rw [if_pos c_1]).trans hv)
    · refine lv_iload_n hx hb dX7_readsFractions_46 rfl (lv_at hl 0 rfl) ?_
      refine lv_iload_n hx hb dX7_readsFractions_47 rfl (lv_at hl 1 rfl) ?_
      refine lv_iload_n hx hb dX7_readsFractions_48 rfl (lv_at hl 2 rfl) ?_
      refine ro_calli (va_runS (As := [.int (w), .int (f)]) (rest := [.int (v)]) ⟨hx, hb, hml, hown, hts⟩ (kX7_fractionD l H.size w f) (va_cwS 2 hts gX7_readsFractions_X7_fractionD rfl rfl rfl (by decide +kernel) ⟨Nat.le_of_ble_eq_true rfl, Nat.le_of_ble_eq_true rfl⟩) pu_preS rfl rfl hl.1 rfl (lv_room (Nat.le_of_ble_eq_true rfl)) dX7_readsFractions_49 ⟨Nat.zero_le _, Nat.zero_le _⟩) hS hA (fun H locs kP hS => ?_)
      refine lv_ior hx hb dX7_readsFractions_52 ?_
      refine lv_istore_n (lv' := [(2, .int ((v ||| (fX7_fractionD w f)))), (0, .int (w)), (1, .int (f))]) hx hb dX7_readsFractions_53 rfl hl (by decide) rfl (fun ls hl => ?_)
      exact J54 (v ||| (fX7_fractionD w f)) H _ ls hS (lv_sub hl [0, 1, 2] rfl) ((show (fX7_readsFractions_54 w f (v ||| (fX7_fractionD w f))) = (fX7_readsFractions_37 w f v) by unfold fX7_readsFractions_37; rw [if_neg c_1]).trans hv)
  have J20 : ∀ (v : Int32) (H : Heap) (locs : List Loc) (ls : Array Slot), va_S (ro s.heap.size) s.heap H locs → lv_has ls 3 [(2, .int (v)), (0, .int (w)), (1, .int (f))] → (fX7_readsFractions_20 w f v) = (fX7_readsFractions w f) → W p l e (headSpec wsX7_readsFractions ({ frames := 3, cells := 0, slots := 0, locals := 61 })).room s m ([.int (w), .int (f)] : List Value).toArray below meth c H locs 0 0 (MQ below (ro_Qi (fX7_readsFractions w f) s.heap.size) ([.int (w), .int (f)] : List Value).toArray s 0 0 ((ro s.heap.size))) (F0 m 20 ls []) := by
    intro v H locs ls hS hl hv
    refine lv_iload_n hx hb dX7_readsFractions_20 rfl (lv_at hl 2 rfl) ?_
    refine lv_ldc (v := 32768) hx hb hown (hts (.constant RX7 39 (32768)) (by decide +kernel)) dX7_readsFractions_21 ?_
    refine ro_calli (va_runS (As := [.int (f), .int (32768)]) (rest := []) ⟨hx, hb, hml, hown, hts⟩ (kX4_has l H.size f 32768) (va_cwS 2 hts gX7_readsFractions_X4_has rfl rfl rfl (by decide +kernel) ⟨Nat.le_of_ble_eq_true rfl, Nat.le_of_ble_eq_true rfl⟩) pu_preS rfl rfl hl.1 rfl (lv_room (Nat.le_of_ble_eq_true rfl)) dX7_readsFractions_23 ⟨Nat.zero_le _, Nat.zero_le _⟩) hS hA (fun H locs kP hS => ?_)
    refine lv_if_eq (tgt := 37) hx hb dX7_readsFractions_26 (by decide) (fun c_2 => ?_) (fun c_2 => ?_)
    · exact J37 v H _ ls hS (lv_sub hl [0, 1, 2] rfl) ((show (fX7_readsFractions_37 w f v) = (fX7_readsFractions_20 w f v) by unfold fX7_readsFractions_20; rw [if_pos c_2]).trans hv)
    · refine lv_iload_n hx hb dX7_readsFractions_29 rfl (lv_at hl 0 rfl) ?_
      refine lv_iload_n hx hb dX7_readsFractions_30 rfl (lv_at hl 1 rfl) ?_
      refine lv_iload_n hx hb dX7_readsFractions_31 rfl (lv_at hl 2 rfl) ?_
      refine ro_calli (va_runS (As := [.int (w), .int (f)]) (rest := [.int (v)]) ⟨hx, hb, hml, hown, hts⟩ (kX7_fractionT l H.size w f) (va_cwS 2 hts gX7_readsFractions_X7_fractionT rfl rfl rfl (by decide +kernel) ⟨Nat.le_of_ble_eq_true rfl, Nat.le_of_ble_eq_true rfl⟩) pu_preS rfl rfl hl.1 rfl (lv_room (Nat.le_of_ble_eq_true rfl)) dX7_readsFractions_32 ⟨Nat.zero_le _, Nat.zero_le _⟩) hS hA (fun H locs kP hS => ?_)
      refine lv_ior hx hb dX7_readsFractions_35 ?_
      refine lv_istore_n (lv' := [(2, .int ((v ||| (fX7_fractionT w f)))), (0, .int (w)), (1, .int (f))]) hx hb dX7_readsFractions_36 rfl hl (by decide) rfl (fun ls hl => ?_)
      exact J37 (v ||| (fX7_fractionT w f)) H _ ls hS (lv_sub hl [0, 1, 2] rfl) ((show (fX7_readsFractions_37 w f (v ||| (fX7_fractionT w f))) = (fX7_readsFractions_20 w f v) by unfold fX7_readsFractions_20; rw [if_neg c_2]).trans hv)
  refine lv_iconst (v := 0) hx hb dX7_readsFractions_0 (by decide) ?_
  refine lv_istore_n (lv' := [(2, .int (0)), (0, .int (w)), (1, .int (f))]) hx hb dX7_readsFractions_1 rfl hl (by decide) rfl (fun ls hl => ?_)
  refine lv_iload_n hx hb dX7_readsFractions_2 rfl (lv_at hl 2 rfl) ?_
  refine lv_sipush (v := 16384) hx hb dX7_readsFractions_3 (by decide) ?_
  refine ro_calli (va_runS (As := [.int (f), .int (16384)]) (rest := []) ⟨hx, hb, hml, hown, hts⟩ (kX4_has l s.heap.size f 16384) (va_cwS 2 hts gX7_readsFractions_X4_has rfl rfl rfl (by decide +kernel) ⟨Nat.le_of_ble_eq_true rfl, Nat.le_of_ble_eq_true rfl⟩) pu_preS rfl rfl hl.1 rfl (lv_room (Nat.le_of_ble_eq_true rfl)) dX7_readsFractions_6 ⟨Nat.zero_le _, Nat.zero_le _⟩) hS hA (fun H locs kP hS => ?_)
  refine lv_if_eq (tgt := 20) hx hb dX7_readsFractions_9 (by decide) (fun c_3 => ?_) (fun c_3 => ?_)
  · exact J20 0 H _ ls hS (lv_sub hl [0, 1, 2] rfl) ((show (fX7_readsFractions_20 w f 0) = (fX7_readsFractions w f) by unfold fX7_readsFractions; rw [if_pos c_3]).trans hv)
  · refine lv_iload_n hx hb dX7_readsFractions_12 rfl (lv_at hl 0 rfl) ?_
    refine lv_iload_n hx hb dX7_readsFractions_13 rfl (lv_at hl 1 rfl) ?_
    refine lv_iload_n hx hb dX7_readsFractions_14 rfl (lv_at hl 2 rfl) ?_
    refine ro_calli (va_runS (As := [.int (w), .int (f)]) (rest := [.int (0)]) ⟨hx, hb, hml, hown, hts⟩ (kX7_fractionS l H.size w f) (va_cwS 2 hts gX7_readsFractions_X7_fractionS rfl rfl rfl (by decide +kernel) ⟨Nat.le_of_ble_eq_true rfl, Nat.le_of_ble_eq_true rfl⟩) pu_preS rfl rfl hl.1 rfl (lv_room (Nat.le_of_ble_eq_true rfl)) dX7_readsFractions_15 ⟨Nat.zero_le _, Nat.zero_le _⟩) hS hA (fun H locs kP hS => ?_)
    refine lv_ior hx hb dX7_readsFractions_18 ?_
    refine lv_istore_n (lv' := [(2, .int ((0 ||| (fX7_fractionS w f)))), (0, .int (w)), (1, .int (f))]) hx hb dX7_readsFractions_19 rfl hl (by decide) rfl (fun ls hl => ?_)
    exact J20 (0 ||| (fX7_fractionS w f)) H _ ls hS (lv_sub hl [0, 1, 2] rfl) ((show (fX7_readsFractions_20 w f (0 ||| (fX7_fractionS w f))) = (fX7_readsFractions w f) by unfold fX7_readsFractions; rw [if_neg c_3]).trans hv)
def fX7_writesFractions_53 (w : Int32) (f : Int32) (v : Int32) : Int32 := v
def fX7_writesFractions_36 (w : Int32) (f : Int32) (v : Int32) : Int32 := if (fX4_has f 524288) = 0 then (fX7_writesFractions_53 w f v) else (fX7_writesFractions_53 w f (v ||| (fX7_fractionD w f)))
def fX7_writesFractions_19 (w : Int32) (f : Int32) (v : Int32) : Int32 := if (fX4_has f 262144) = 0 then (fX7_writesFractions_36 w f v) else (fX7_writesFractions_36 w f (v ||| (fX7_fractionT w f)))
def fX7_writesFractions (w : Int32) (f : Int32) : Int32 := if (fX4_has f 131072) = 0 then (fX7_writesFractions_19 w f 0) else (fX7_writesFractions_19 w f (0 ||| (fX7_fractionS w f)))
set_option maxHeartbeats 4000000 in
set_option maxRecDepth 100000 in
theorem kX7_writesFractions (l : Launch) (sz : Nat) (w : Int32) (f : Int32) : Met l yX7_writesFractions wsX7_writesFractions ({ frames := 3, cells := 0, slots := 0, locals := 61 }) (pu_Pc [.int (w), .int (f)] sz) (ro_Qi (fX7_writesFractions w f) sz) 0 0 (ro sz) := by
  refine Met.ofW (cc := cX7_writesFractions) (maxL := 3) (ret := (some .int)) (by decide) rfl ?_
  intro p e s m args below meth c s₁ B0 hml hv
  obtain ⟨rfl, hsz⟩ := hv
  have hx := B0.exec
  have hb := B0.bytes
  have hr := B0.returns
  have hts := atoms_spec (ws := wsX7_writesFractions) B0.pre
  have hown : s.vm.findClass RX7 = some m.cls := findClass_of_methodNamed B0.named
  have hlocks := B0.notSynchronized
  subst hsz
  have hA : ∀ q : Nat, s.heap.size ≤ q → ro s.heap.size q := fun _ h => h
  have hS : va_S (ro s.heap.size) s.heap s.heap [] := va_S.rf
  have hl := lv_entry ([.int (w), .int (f)]) (n := 3) (Nat.le_of_ble_eq_true rfl)
  rw [lg_entry_eq]
  generalize (lg_sl ([.int (w), .int (f)]) ++ List.replicate (3 - (lg_sl ([.int (w), .int (f)])).length) Slot.unset).toArray = ls at hl ⊢
  have hl : lv_has ls 3 [(0, .int (w)), (1, .int (f))] := hl
  have hv : (fX7_writesFractions w f) = (fX7_writesFractions w f) := rfl
  have J53 : ∀ (v : Int32) (H : Heap) (locs : List Loc) (ls : Array Slot), va_S (ro s.heap.size) s.heap H locs → lv_has ls 3 [(2, .int (v)), (0, .int (w)), (1, .int (f))] → (fX7_writesFractions_53 w f v) = (fX7_writesFractions w f) → W p l e (headSpec wsX7_writesFractions ({ frames := 3, cells := 0, slots := 0, locals := 61 })).room s m ([.int (w), .int (f)] : List Value).toArray below meth c H locs 0 0 (MQ below (ro_Qi (fX7_writesFractions w f) s.heap.size) ([.int (w), .int (f)] : List Value).toArray s 0 0 ((ro s.heap.size))) (F0 m 53 ls []) := by
    intro v H locs ls hS hl hv
    refine lv_iload_n hx hb dX7_writesFractions_53 rfl (lv_at hl 0 rfl) ?_
    exact W.iret (v := v) hx hb hr (fun t ht hW => ⟨⟨_, (), rfl, ((show v = (fX7_writesFractions_53 w f v) by unfold fX7_writesFractions_53; rfl).trans hv), trivial⟩, hS.F ht⟩) hS.2.2 dX7_writesFractions_54
  have J36 : ∀ (v : Int32) (H : Heap) (locs : List Loc) (ls : Array Slot), va_S (ro s.heap.size) s.heap H locs → lv_has ls 3 [(2, .int (v)), (0, .int (w)), (1, .int (f))] → (fX7_writesFractions_36 w f v) = (fX7_writesFractions w f) → W p l e (headSpec wsX7_writesFractions ({ frames := 3, cells := 0, slots := 0, locals := 61 })).room s m ([.int (w), .int (f)] : List Value).toArray below meth c H locs 0 0 (MQ below (ro_Qi (fX7_writesFractions w f) s.heap.size) ([.int (w), .int (f)] : List Value).toArray s 0 0 ((ro s.heap.size))) (F0 m 36 ls []) := by
    intro v H locs ls hS hl hv
    refine lv_iload_n hx hb dX7_writesFractions_36 rfl (lv_at hl 2 rfl) ?_
    refine lv_ldc (v := 524288) hx hb hown (hts (.constant RX7 49 (524288)) (by decide +kernel)) dX7_writesFractions_37 ?_
    refine ro_calli (va_runS (As := [.int (f), .int (524288)]) (rest := []) ⟨hx, hb, hml, hown, hts⟩ (kX4_has l H.size f 524288) (va_cwS 2 hts gX7_writesFractions_X4_has rfl rfl rfl (by decide +kernel) ⟨Nat.le_of_ble_eq_true rfl, Nat.le_of_ble_eq_true rfl⟩) pu_preS rfl rfl hl.1 rfl (lv_room (Nat.le_of_ble_eq_true rfl)) dX7_writesFractions_39 ⟨Nat.zero_le _, Nat.zero_le _⟩) hS hA (fun H locs kP hS => ?_)
    refine lv_if_eq (tgt := 53) hx hb dX7_writesFractions_42 (by decide) (fun c_1 => ?_) (fun c_1 => ?_)
    · exact J53 v H _ ls hS (lv_sub hl [0, 1, 2] rfl) ((show (fX7_writesFractions_53 w f v) = (fX7_writesFractions_36 w f v) by unfold fX7_writesFractions_36; rw [if_pos c_1]).trans hv)
    · refine lv_iload_n hx hb dX7_writesFractions_45 rfl (lv_at hl 0 rfl) ?_
      refine lv_iload_n hx hb dX7_writesFractions_46 rfl (lv_at hl 1 rfl) ?_
      refine lv_iload_n hx hb dX7_writesFractions_47 rfl (lv_at hl 2 rfl) ?_
      refine ro_calli (va_runS (As := [.int (w), .int (f)]) (rest := [.int (v)]) ⟨hx, hb, hml, hown, hts⟩ (kX7_fractionD l H.size w f) (va_cwS 2 hts gX7_writesFractions_X7_fractionD rfl rfl rfl (by decide +kernel) ⟨Nat.le_of_ble_eq_true rfl, Nat.le_of_ble_eq_true rfl⟩) pu_preS rfl rfl hl.1 rfl (lv_room (Nat.le_of_ble_eq_true rfl)) dX7_writesFractions_48 ⟨Nat.zero_le _, Nat.zero_le _⟩) hS hA (fun H locs kP hS => ?_)
      refine lv_ior hx hb dX7_writesFractions_51 ?_
      refine lv_istore_n (lv' := [(2, .int ((v ||| (fX7_fractionD w f)))), (0, .int (w)), (1, .int (f))]) hx hb dX7_writesFractions_52 rfl hl (by decide) rfl (fun ls hl => ?_)
      exact J53 (v ||| (fX7_fractionD w f)) H _ ls hS (lv_sub hl [0, 1, 2] rfl) ((show (fX7_writesFractions_53 w f (v ||| (fX7_fractionD w f))) = (fX7_writesFractions_36 w f v) by unfold fX7_writesFractions_36; rw [if_neg c_1]).trans hv)
  have J19 : ∀ (v : Int32) (H : Heap) (locs : List Loc) (ls : Array Slot), va_S (ro s.heap.size) s.heap H locs → lv_has ls 3 [(2, .int (v)), (0, .int (w)), (1, .int (f))] → (fX7_writesFractions_19 w f v) = (fX7_writesFractions w f) → W p l e (headSpec wsX7_writesFractions ({ frames := 3, cells := 0, slots := 0, locals := 61 })).room s m ([.int (w), .int (f)] : List Value).toArray below meth c H locs 0 0 (MQ below (ro_Qi (fX7_writesFractions w f) s.heap.size) ([.int (w), .int (f)] : List Value).toArray s 0 0 ((ro s.heap.size))) (F0 m 19 ls []) := by
    intro v H locs ls hS hl hv
    refine lv_iload_n hx hb dX7_writesFractions_19 rfl (lv_at hl 2 rfl) ?_
    refine lv_ldc (v := 262144) hx hb hown (hts (.constant RX7 48 (262144)) (by decide +kernel)) dX7_writesFractions_20 ?_
    refine ro_calli (va_runS (As := [.int (f), .int (262144)]) (rest := []) ⟨hx, hb, hml, hown, hts⟩ (kX4_has l H.size f 262144) (va_cwS 2 hts gX7_writesFractions_X4_has rfl rfl rfl (by decide +kernel) ⟨Nat.le_of_ble_eq_true rfl, Nat.le_of_ble_eq_true rfl⟩) pu_preS rfl rfl hl.1 rfl (lv_room (Nat.le_of_ble_eq_true rfl)) dX7_writesFractions_22 ⟨Nat.zero_le _, Nat.zero_le _⟩) hS hA (fun H locs kP hS => ?_)
    refine lv_if_eq (tgt := 36) hx hb dX7_writesFractions_25 (by decide) (fun c_2 => ?_) (fun c_2 => ?_)
    · exact J36 v H _ ls hS (lv_sub hl [0, 1, 2] rfl) ((show (fX7_writesFractions_36 w f v) = (fX7_writesFractions_19 w f v) by unfold fX7_writesFractions_19; rw [if_pos c_2]).trans hv)
    · refine lv_iload_n hx hb dX7_writesFractions_28 rfl (lv_at hl 0 rfl) ?_
      refine lv_iload_n hx hb dX7_writesFractions_29 rfl (lv_at hl 1 rfl) ?_
      refine lv_iload_n hx hb dX7_writesFractions_30 rfl (lv_at hl 2 rfl) ?_
      refine ro_calli (va_runS (As := [.int (w), .int (f)]) (rest := [.int (v)]) ⟨hx, hb, hml, hown, hts⟩ (kX7_fractionT l H.size w f) (va_cwS 2 hts gX7_writesFractions_X7_fractionT rfl rfl rfl (by decide +kernel) ⟨Nat.le_of_ble_eq_true rfl, Nat.le_of_ble_eq_true rfl⟩) pu_preS rfl rfl hl.1 rfl (lv_room (Nat.le_of_ble_eq_true rfl)) dX7_writesFractions_31 ⟨Nat.zero_le _, Nat.zero_le _⟩) hS hA (fun H locs kP hS => ?_)
      refine lv_ior hx hb dX7_writesFractions_34 ?_
      refine lv_istore_n (lv' := [(2, .int ((v ||| (fX7_fractionT w f)))), (0, .int (w)), (1, .int (f))]) hx hb dX7_writesFractions_35 rfl hl (by decide) rfl (fun ls hl => ?_)
      exact J36 (v ||| (fX7_fractionT w f)) H _ ls hS (lv_sub hl [0, 1, 2] rfl) ((show (fX7_writesFractions_36 w f (v ||| (fX7_fractionT w f))) = (fX7_writesFractions_19 w f v) by unfold fX7_writesFractions_19; rw [if_neg c_2]).trans hv)
  refine lv_iconst (v := 0) hx hb dX7_writesFractions_0 (by decide) ?_
  refine lv_istore_n (lv' := [(2, .int (0)), (0, .int (w)), (1, .int (f))]) hx hb dX7_writesFractions_1 rfl hl (by decide) rfl (fun ls hl => ?_)
  refine lv_iload_n hx hb dX7_writesFractions_2 rfl (lv_at hl 2 rfl) ?_
  refine lv_ldc (v := 131072) hx hb hown (hts (.constant RX7 47 (131072)) (by decide +kernel)) dX7_writesFractions_3 ?_
  refine ro_calli (va_runS (As := [.int (f), .int (131072)]) (rest := []) ⟨hx, hb, hml, hown, hts⟩ (kX4_has l s.heap.size f 131072) (va_cwS 2 hts gX7_writesFractions_X4_has rfl rfl rfl (by decide +kernel) ⟨Nat.le_of_ble_eq_true rfl, Nat.le_of_ble_eq_true rfl⟩) pu_preS rfl rfl hl.1 rfl (lv_room (Nat.le_of_ble_eq_true rfl)) dX7_writesFractions_5 ⟨Nat.zero_le _, Nat.zero_le _⟩) hS hA (fun H locs kP hS => ?_)
  refine lv_if_eq (tgt := 19) hx hb dX7_writesFractions_8 (by decide) (fun c_3 => ?_) (fun c_3 => ?_)
  · exact J19 0 H _ ls hS (lv_sub hl [0, 1, 2] rfl) ((show (fX7_writesFractions_19 w f 0) = (fX7_writesFractions w f) by unfold fX7_writesFractions; rw [if_pos c_3]).trans hv)
  · refine lv_iload_n hx hb dX7_writesFractions_11 rfl (lv_at hl 0 rfl) ?_
    refine lv_iload_n hx hb dX7_writesFractions_12 rfl (lv_at hl 1 rfl) ?_
    refine lv_iload_n hx hb dX7_writesFractions_13 rfl (lv_at hl 2 rfl) ?_
    refine ro_calli (va_runS (As := [.int (w), .int (f)]) (rest := [.int (0)]) ⟨hx, hb, hml, hown, hts⟩ (kX7_fractionS l H.size w f) (va_cwS 2 hts gX7_writesFractions_X7_fractionS rfl rfl rfl (by decide +kernel) ⟨Nat.le_of_ble_eq_true rfl, Nat.le_of_ble_eq_true rfl⟩) pu_preS rfl rfl hl.1 rfl (lv_room (Nat.le_of_ble_eq_true rfl)) dX7_writesFractions_14 ⟨Nat.zero_le _, Nat.zero_le _⟩) hS hA (fun H locs kP hS => ?_)
    refine lv_ior hx hb dX7_writesFractions_17 ?_
    refine lv_istore_n (lv' := [(2, .int ((0 ||| (fX7_fractionS w f)))), (0, .int (w)), (1, .int (f))]) hx hb dX7_writesFractions_18 rfl hl (by decide) rfl (fun ls hl => ?_)
    exact J19 (0 ||| (fX7_fractionS w f)) H _ ls hS (lv_sub hl [0, 1, 2] rfl) ((show (fX7_writesFractions_19 w f (0 ||| (fX7_fractionS w f))) = (fX7_writesFractions w f) by unfold fX7_writesFractions; rw [if_neg c_3]).trans hv)
def fX1_touchesWholeWord (x0 : Int32) : Int32 := if x0 = 34 then 1 else if x0 = 38 then 1 else if x0 = 42 then 1 else if x0 = 46 then 1 else 0
set_option maxHeartbeats 4000000 in
set_option maxRecDepth 100000 in
theorem kX1_touchesWholeWord (l : Launch) (sz : Nat) (x0 : Int32) : Met l yX1_touchesWholeWord wsX1_touchesWholeWord ({ frames := 0, cells := 0, slots := 0, locals := 0 }) (pu_Pc [.int (x0)] sz) (ro_Qi (fX1_touchesWholeWord x0) sz) 0 0 (ro sz) := by
  refine Met.ofW (cc := cX1_touchesWholeWord) (maxL := 1) (ret := (some .boolean)) (by decide) rfl ?_
  intro p e s m args below meth c s₁ B0 hml hv
  obtain ⟨rfl, hsz⟩ := hv
  have hx := B0.exec
  have hb := B0.bytes
  have hr := B0.returns
  have hts := atoms_spec (ws := wsX1_touchesWholeWord) B0.pre
  have hown : s.vm.findClass RX1 = some m.cls := findClass_of_methodNamed B0.named
  have hlocks := B0.notSynchronized
  subst hsz
  have hA : ∀ q : Nat, s.heap.size ≤ q → ro s.heap.size q := fun _ h => h
  have hS : va_S (ro s.heap.size) s.heap s.heap [] := va_S.rf
  have hl := lv_entry ([.int (x0)]) (n := 1) (Nat.le_of_ble_eq_true rfl)
  rw [lg_entry_eq]
  generalize (lg_sl ([.int (x0)]) ++ List.replicate (1 - (lg_sl ([.int (x0)])).length) Slot.unset).toArray = ls at hl ⊢
  have hl : lv_has ls 1 [(0, .int (x0))] := hl
  have hv : (fX1_touchesWholeWord x0) = (fX1_touchesWholeWord x0) := rfl
  refine lv_iload_n hx hb dX1_touchesWholeWord_0 rfl (lv_at hl 0 rfl) ?_
  refine lv_bipush (v := 34) hx hb dX1_touchesWholeWord_1 (by decide) ?_
  refine lv_icmp_eq (tgt := 24) hx hb dX1_touchesWholeWord_3 (by decide) (fun c_1 => ?_) (fun c_1 => ?_)
  · refine lv_iconst (v := 1) hx hb dX1_touchesWholeWord_24 (by decide) ?_
    refine lv_goto (tgt := 29) hx hb dX1_touchesWholeWord_25 (by decide) ?_
    exact W.zret (v := 1) hx hb hr (by decide) (fun t ht hW => ⟨⟨_, (), rfl, ((show 1 = (fX1_touchesWholeWord x0) by unfold fX1_touchesWholeWord; rw [if_pos c_1]).trans hv), trivial⟩, hS.F ht⟩) hS.2.2 dX1_touchesWholeWord_29
  · refine lv_iload_n hx hb dX1_touchesWholeWord_6 rfl (lv_at hl 0 rfl) ?_
    refine lv_bipush (v := 38) hx hb dX1_touchesWholeWord_7 (by decide) ?_
    refine lv_icmp_eq (tgt := 24) hx hb dX1_touchesWholeWord_9 (by decide) (fun c_2 => ?_) (fun c_2 => ?_)
    · refine lv_iconst (v := 1) hx hb dX1_touchesWholeWord_24 (by decide) ?_
      refine lv_goto (tgt := 29) hx hb dX1_touchesWholeWord_25 (by decide) ?_
      exact W.zret (v := 1) hx hb hr (by decide) (fun t ht hW => ⟨⟨_, (), rfl, ((show 1 = (fX1_touchesWholeWord x0) by unfold fX1_touchesWholeWord; rw [if_neg c_1, if_pos c_2]).trans hv), trivial⟩, hS.F ht⟩) hS.2.2 dX1_touchesWholeWord_29
    · refine lv_iload_n hx hb dX1_touchesWholeWord_12 rfl (lv_at hl 0 rfl) ?_
      refine lv_bipush (v := 42) hx hb dX1_touchesWholeWord_13 (by decide) ?_
      refine lv_icmp_eq (tgt := 24) hx hb dX1_touchesWholeWord_15 (by decide) (fun c_3 => ?_) (fun c_3 => ?_)
      · refine lv_iconst (v := 1) hx hb dX1_touchesWholeWord_24 (by decide) ?_
        refine lv_goto (tgt := 29) hx hb dX1_touchesWholeWord_25 (by decide) ?_
        exact W.zret (v := 1) hx hb hr (by decide) (fun t ht hW => ⟨⟨_, (), rfl, ((show 1 = (fX1_touchesWholeWord x0) by unfold fX1_touchesWholeWord; rw [if_neg c_1, if_neg c_2, if_pos c_3]).trans hv), trivial⟩, hS.F ht⟩) hS.2.2 dX1_touchesWholeWord_29
      · refine lv_iload_n hx hb dX1_touchesWholeWord_18 rfl (lv_at hl 0 rfl) ?_
        refine lv_bipush (v := 46) hx hb dX1_touchesWholeWord_19 (by decide) ?_
        refine lv_icmp_ne (tgt := 28) hx hb dX1_touchesWholeWord_21 (by decide) (fun c_4 => ?_) (fun c_4 => ?_)
        · refine lv_iconst (v := 0) hx hb dX1_touchesWholeWord_28 (by decide) ?_
          exact W.zret (v := 0) hx hb hr (by decide) (fun t ht hW => ⟨⟨_, (), rfl, ((show 0 = (fX1_touchesWholeWord x0) by unfold fX1_touchesWholeWord; rw [if_neg c_1, if_neg c_2, if_neg c_3, if_neg c_4]).trans hv), trivial⟩, hS.F ht⟩) hS.2.2 dX1_touchesWholeWord_29
        · refine lv_iconst (v := 1) hx hb dX1_touchesWholeWord_24 (by decide) ?_
          refine lv_goto (tgt := 29) hx hb dX1_touchesWholeWord_25 (by decide) ?_
          exact W.zret (v := 1) hx hb hr (by decide) (fun t ht hW => ⟨⟨_, (), rfl, ((show 1 = (fX1_touchesWholeWord x0) by unfold fX1_touchesWholeWord; rw [if_neg c_1, if_neg c_2, if_neg c_3, if_pos c_4]).trans hv), trivial⟩, hS.F ht⟩) hS.2.2 dX1_touchesWholeWord_29
def fX1_first (x0 : Int32) : Int32 := if (fX1_touchesWholeWord (fX3_operation x0)) = 0 then (fX3_offset x0) else ((fX3_offset x0) &&& (-4))
set_option maxHeartbeats 4000000 in
set_option maxRecDepth 100000 in
theorem kX1_first (l : Launch) (sz : Nat) (x0 : Int32) : Met l yX1_first wsX1_first ({ frames := 1, cells := 0, slots := 0, locals := 20 }) (pu_Pc [.int (x0)] sz) (ro_Qi (fX1_first x0) sz) 0 0 (ro sz) := by
  refine Met.ofW (cc := cX1_first) (maxL := 2) (ret := (some .int)) (by decide) rfl ?_
  intro p e s m args below meth c s₁ B0 hml hv
  obtain ⟨rfl, hsz⟩ := hv
  have hx := B0.exec
  have hb := B0.bytes
  have hr := B0.returns
  have hts := atoms_spec (ws := wsX1_first) B0.pre
  have hown : s.vm.findClass RX1 = some m.cls := findClass_of_methodNamed B0.named
  have hlocks := B0.notSynchronized
  subst hsz
  have hA : ∀ q : Nat, s.heap.size ≤ q → ro s.heap.size q := fun _ h => h
  have hS : va_S (ro s.heap.size) s.heap s.heap [] := va_S.rf
  have hl := lv_entry ([.int (x0)]) (n := 2) (Nat.le_of_ble_eq_true rfl)
  rw [lg_entry_eq]
  generalize (lg_sl ([.int (x0)]) ++ List.replicate (2 - (lg_sl ([.int (x0)])).length) Slot.unset).toArray = ls at hl ⊢
  have hl : lv_has ls 2 [(0, .int (x0))] := hl
  have hv : (fX1_first x0) = (fX1_first x0) := rfl
  refine lv_iload_n hx hb dX1_first_0 rfl (lv_at hl 0 rfl) ?_
  refine ro_calli (va_runS (As := [.int (x0)]) (rest := []) ⟨hx, hb, hml, hown, hts⟩ (kX3_offset l s.heap.size x0) (va_cwS 1 hts gX1_first_X3_offset rfl rfl rfl (by decide +kernel) ⟨Nat.le_of_ble_eq_true rfl, Nat.le_of_ble_eq_true rfl⟩) pu_preS rfl rfl hl.1 rfl (lv_room (Nat.le_of_ble_eq_true rfl)) dX1_first_1 ⟨Nat.zero_le _, Nat.zero_le _⟩) hS hA (fun H locs kP hS => ?_)
  refine lv_istore_n (lv' := [(1, .int ((fX3_offset x0))), (0, .int (x0))]) hx hb dX1_first_4 rfl hl (by decide) rfl (fun ls hl => ?_)
  refine lv_iload_n hx hb dX1_first_5 rfl (lv_at hl 1 rfl) ?_
  refine ro_calli (va_runS (As := [.int (x0)]) (rest := []) ⟨hx, hb, hml, hown, hts⟩ (kX3_operation l H.size x0) (va_cwS 1 hts gX1_first_X3_operation rfl rfl rfl (by decide +kernel) ⟨Nat.le_of_ble_eq_true rfl, Nat.le_of_ble_eq_true rfl⟩) pu_preS rfl rfl hl.1 rfl (lv_room (Nat.le_of_ble_eq_true rfl)) dX1_first_6 ⟨Nat.zero_le _, Nat.zero_le _⟩) hS hA (fun H locs kP hS => ?_)
  refine ro_calli (va_runS (As := [.int ((fX3_operation x0))]) (rest := []) ⟨hx, hb, hml, hown, hts⟩ (kX1_touchesWholeWord l H.size (fX3_operation x0)) (va_cwS 1 hts gX1_first_X1_touchesWholeWord rfl rfl rfl (by decide +kernel) ⟨Nat.le_of_ble_eq_true rfl, Nat.le_of_ble_eq_true rfl⟩) pu_preS rfl rfl hl.1 rfl (lv_room (Nat.le_of_ble_eq_true rfl)) dX1_first_9 ⟨Nat.zero_le _, Nat.zero_le _⟩) hS hA (fun H locs kP hS => ?_)
  refine lv_if_eq (tgt := 22) hx hb dX1_first_12 (by decide) (fun c_1 => ?_) (fun c_1 => ?_)
  · refine lv_iload_n hx hb dX1_first_22 rfl (lv_at hl 0 rfl) ?_
    exact W.iret (v := (fX3_offset x0)) hx hb hr (fun t ht hW => ⟨⟨_, (), rfl, ((show (fX3_offset x0) = (fX1_first x0) by unfold fX1_first; rw [if_pos c_1]).trans hv), trivial⟩, hS.F ht⟩) hS.2.2 dX1_first_23
  · refine lv_iload_n hx hb dX1_first_15 rfl (lv_at hl 0 rfl) ?_
    refine lv_bipush (v := (-4)) hx hb dX1_first_16 (by decide) ?_
    refine lv_iand hx hb dX1_first_18 ?_
    refine lv_goto (tgt := 23) hx hb dX1_first_19 (by decide) ?_
    exact W.iret (v := ((fX3_offset x0) &&& (-4))) hx hb hr (fun t ht hW => ⟨⟨_, (), rfl, ((show ((fX3_offset x0) &&& (-4)) = (fX1_first x0) by unfold fX1_first; rw [if_neg c_1]).trans hv), trivial⟩, hS.F ht⟩) hS.2.2 dX1_first_23
def swX1_many_4 (x : Int32) : Int := swT 32 61 [136, 138, 143, 143, 136, 138, 143, 143, 136, 138, 143, 143, 143, 143, 143, 143, 143, 143, 143, 143, 143, 140, 143, 143, 143, 143, 143, 143, 143, 140] 143 x
theorem swX1_many_4_c (x : Int32) : swX1_many_4 x = 136 ∨ swX1_many_4 x = 138 ∨ swX1_many_4 x = 140 ∨ swX1_many_4 x = 143 := (show ∀ v ∈ ([143, 136, 138, 143, 143, 136, 138, 143, 143, 136, 138, 143, 143, 143, 143, 143, 143, 143, 143, 143, 143, 143, 140, 143, 143, 143, 143, 143, 143, 143, 140] : List Int), v = 136 ∨ v = 138 ∨ v = 140 ∨ v = 143 by decide) _ (swT_mem _ _ _ _ _)
def fX1_many (x0 : Int32) : Int32 := if swX1_many_4 ((fX3_operation x0)) = 136 then 1 else if swX1_many_4 ((fX3_operation x0)) = 138 then 2 else if swX1_many_4 ((fX3_operation x0)) = 140 then 8 else 4
set_option maxHeartbeats 4000000 in
set_option maxRecDepth 100000 in
theorem kX1_many (l : Launch) (sz : Nat) (x0 : Int32) : Met l yX1_many wsX1_many ({ frames := 1, cells := 0, slots := 0, locals := 20 }) (pu_Pc [.int (x0)] sz) (ro_Qi (fX1_many x0) sz) 0 0 (ro sz) := by
  refine Met.ofW (cc := cX1_many) (maxL := 1) (ret := (some .int)) (by decide) rfl ?_
  intro p e s m args below meth c s₁ B0 hml hv
  obtain ⟨rfl, hsz⟩ := hv
  have hx := B0.exec
  have hb := B0.bytes
  have hr := B0.returns
  have hts := atoms_spec (ws := wsX1_many) B0.pre
  have hown : s.vm.findClass RX1 = some m.cls := findClass_of_methodNamed B0.named
  have hlocks := B0.notSynchronized
  subst hsz
  have hA : ∀ q : Nat, s.heap.size ≤ q → ro s.heap.size q := fun _ h => h
  have hS : va_S (ro s.heap.size) s.heap s.heap [] := va_S.rf
  have hl := lv_entry ([.int (x0)]) (n := 1) (Nat.le_of_ble_eq_true rfl)
  rw [lg_entry_eq]
  generalize (lg_sl ([.int (x0)]) ++ List.replicate (1 - (lg_sl ([.int (x0)])).length) Slot.unset).toArray = ls at hl ⊢
  have hl : lv_has ls 1 [(0, .int (x0))] := hl
  have hv : (fX1_many x0) = (fX1_many x0) := rfl
  refine lv_iload_n hx hb dX1_many_0 rfl (lv_at hl 0 rfl) ?_
  refine ro_calli (va_runS (As := [.int (x0)]) (rest := []) ⟨hx, hb, hml, hown, hts⟩ (kX3_operation l s.heap.size x0) (va_cwS 1 hts gX1_many_X3_operation rfl rfl rfl (by decide +kernel) ⟨Nat.le_of_ble_eq_true rfl, Nat.le_of_ble_eq_true rfl⟩) pu_preS rfl rfl hl.1 rfl (lv_room (Nat.le_of_ble_eq_true rfl)) dX1_many_1 ⟨Nat.zero_le _, Nat.zero_le _⟩) hS hA (fun H locs kP hS => ?_)
  rcases swX1_many_4_c ((fX3_operation x0)) with c_1 | c_1 | c_1 | c_1
  · refine my_table (tgt := 140) hx hb dX1_many_4 (by decide) c_1 (by decide) ?_
    refine lv_iconst (v := 1) hx hb dX1_many_140 (by decide) ?_
    exact W.iret (v := 1) hx hb hr (fun t ht hW => ⟨⟨_, (), rfl, ((show 1 = (fX1_many x0) by unfold fX1_many; rw [if_pos c_1]).trans hv), trivial⟩, hS.F ht⟩) hS.2.2 dX1_many_141
  · refine my_table (tgt := 142) hx hb dX1_many_4 (by decide) c_1 (by decide) ?_
    refine lv_iconst (v := 2) hx hb dX1_many_142 (by decide) ?_
    exact W.iret (v := 2) hx hb hr (fun t ht hW => ⟨⟨_, (), rfl, ((show 2 = (fX1_many x0) by unfold fX1_many; rw [if_neg (show ¬ (swX1_many_4 ((fX3_operation x0)) = 136) by rw [c_1]; decide), if_pos c_1]).trans hv), trivial⟩, hS.F ht⟩) hS.2.2 dX1_many_143
  · refine my_table (tgt := 144) hx hb dX1_many_4 (by decide) c_1 (by decide) ?_
    refine lv_bipush (v := 8) hx hb dX1_many_144 (by decide) ?_
    exact W.iret (v := 8) hx hb hr (fun t ht hW => ⟨⟨_, (), rfl, ((show 8 = (fX1_many x0) by unfold fX1_many; rw [if_neg (show ¬ (swX1_many_4 ((fX3_operation x0)) = 136) by rw [c_1]; decide), if_neg (show ¬ (swX1_many_4 ((fX3_operation x0)) = 138) by rw [c_1]; decide), if_pos c_1]).trans hv), trivial⟩, hS.F ht⟩) hS.2.2 dX1_many_146
  · refine my_table (tgt := 147) hx hb dX1_many_4 (by decide) c_1 (by decide) ?_
    refine lv_iconst (v := 4) hx hb dX1_many_147 (by decide) ?_
    exact W.iret (v := 4) hx hb hr (fun t ht hW => ⟨⟨_, (), rfl, ((show 4 = (fX1_many x0) by unfold fX1_many; rw [if_neg (show ¬ (swX1_many_4 ((fX3_operation x0)) = 136) by rw [c_1]; decide), if_neg (show ¬ (swX1_many_4 ((fX3_operation x0)) = 138) by rw [c_1]; decide), if_neg (show ¬ (swX1_many_4 ((fX3_operation x0)) = 140) by rw [c_1]; decide)]).trans hv), trivial⟩, hS.F ht⟩) hS.2.2 dX1_many_148
def fX0_meet (x0 : Int64) (x1 : Int64) (x2 : Int32) (x3 : Int32) : Int32 := if (lg_cmp (x0 &&& x1) 0) = 0 then if (x2 &&& x3) = 0 then 0 else 1 else 1
set_option maxHeartbeats 4000000 in
set_option maxRecDepth 100000 in
theorem kX0_meet (l : Launch) (sz : Nat) (x0 : Int64) (x1 : Int64) (x2 : Int32) (x3 : Int32) : Met l yX0_meet wsX0_meet ({ frames := 0, cells := 0, slots := 0, locals := 0 }) (pu_Pc [.long (x0), .long (x1), .int (x2), .int (x3)] sz) (ro_Qi (fX0_meet x0 x1 x2 x3) sz) 0 0 (ro sz) := by
  refine Met.ofW (cc := cX0_meet) (maxL := 6) (ret := (some .boolean)) (by decide) rfl ?_
  intro p e s m args below meth c s₁ B0 hml hv
  obtain ⟨rfl, hsz⟩ := hv
  have hx := B0.exec
  have hb := B0.bytes
  have hr := B0.returns
  have hts := atoms_spec (ws := wsX0_meet) B0.pre
  have hown : s.vm.findClass RX0 = some m.cls := findClass_of_methodNamed B0.named
  have hlocks := B0.notSynchronized
  subst hsz
  have hA : ∀ q : Nat, s.heap.size ≤ q → ro s.heap.size q := fun _ h => h
  have hS : va_S (ro s.heap.size) s.heap s.heap [] := va_S.rf
  have hl := lv_entry ([.long (x0), .long (x1), .int (x2), .int (x3)]) (n := 6) (Nat.le_of_ble_eq_true rfl)
  rw [lg_entry_eq]
  generalize (lg_sl ([.long (x0), .long (x1), .int (x2), .int (x3)]) ++ List.replicate (6 - (lg_sl ([.long (x0), .long (x1), .int (x2), .int (x3)])).length) Slot.unset).toArray = ls at hl ⊢
  have hl : lv_has ls 6 [(0, .long (x0)), (2, .long (x1)), (4, .int (x2)), (5, .int (x3))] := hl
  have hv : (fX0_meet x0 x1 x2 x3) = (fX0_meet x0 x1 x2 x3) := rfl
  refine lv_lload_n hx hb dX0_meet_0 rfl (lv_at hl 0 rfl) ?_
  refine lv_lload_n hx hb dX0_meet_1 rfl (lv_at hl 1 rfl) ?_
  refine lv_land hx hb dX0_meet_2 ?_
  refine lv_lconst (v := 0) hx hb dX0_meet_3 (by decide) ?_
  refine W.lcmp hx hb dX0_meet_4 ?_
  refine lv_if_ne (tgt := 16) hx hb dX0_meet_5 (by decide) (fun c_1 => ?_) (fun c_1 => ?_)
  · refine lv_iconst (v := 1) hx hb dX0_meet_16 (by decide) ?_
    refine lv_goto (tgt := 21) hx hb dX0_meet_17 (by decide) ?_
    exact W.zret (v := 1) hx hb hr (by decide) (fun t ht hW => ⟨⟨_, (), rfl, ((show 1 = (fX0_meet x0 x1 x2 x3) by unfold fX0_meet; rw [if_neg c_1]).trans hv), trivial⟩, hS.F ht⟩) hS.2.2 dX0_meet_21
  · refine lv_iload hx hb dX0_meet_8 (lv_at hl 2 rfl) ?_
    refine lv_iload hx hb dX0_meet_10 (lv_at hl 3 rfl) ?_
    refine lv_iand hx hb dX0_meet_12 ?_
    refine lv_if_eq (tgt := 20) hx hb dX0_meet_13 (by decide) (fun c_2 => ?_) (fun c_2 => ?_)
    · refine lv_iconst (v := 0) hx hb dX0_meet_20 (by decide) ?_
      exact W.zret (v := 0) hx hb hr (by decide) (fun t ht hW => ⟨⟨_, (), rfl, ((show 0 = (fX0_meet x0 x1 x2 x3) by unfold fX0_meet; rw [if_pos c_1, if_pos c_2]).trans hv), trivial⟩, hS.F ht⟩) hS.2.2 dX0_meet_21
    · refine lv_iconst (v := 1) hx hb dX0_meet_16 (by decide) ?_
      refine lv_goto (tgt := 21) hx hb dX0_meet_17 (by decide) ?_
      exact W.zret (v := 1) hx hb hr (by decide) (fun t ht hW => ⟨⟨_, (), rfl, ((show 1 = (fX0_meet x0 x1 x2 x3) by unfold fX0_meet; rw [if_pos c_1, if_neg c_2]).trans hv), trivial⟩, hS.F ht⟩) hS.2.2 dX0_meet_21
