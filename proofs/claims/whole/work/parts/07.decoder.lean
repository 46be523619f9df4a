def swX2_threeOrBarrier_1 (x : Int32) : Int := swT 4 54 [219, 226, 219, 219, 226, 226, 226, 226, 223, 223, 226, 223, 226, 226, 226, 226, 226, 226, 226, 226, 226, 226, 226, 226, 226, 226, 226, 226, 223, 219, 223, 219, 219, 219, 219, 219, 226, 226, 219, 219, 226, 226, 226, 226, 223, 223, 223, 223, 223, 226, 223] 226 x
theorem swX2_threeOrBarrier_1_c (x : Int32) : swX2_threeOrBarrier_1 x = 219 ∨ swX2_threeOrBarrier_1 x = 223 ∨ swX2_threeOrBarrier_1 x = 226 := (show ∀ v ∈ ([226, 219, 226, 219, 219, 226, 226, 226, 226, 223, 223, 226, 223, 226, 226, 226, 226, 226, 226, 226, 226, 226, 226, 226, 226, 226, 226, 226, 226, 223, 219, 223, 219, 219, 219, 219, 219, 226, 226, 219, 219, 226, 226, 226, 226, 223, 223, 223, 223, 223, 226, 223] : List Int), v = 219 ∨ v = 223 ∨ v = 226 by decide) _ (swT_mem _ _ _ _ _)
def fX2_threeOrBarrier (x0 : Int32) : Int32 := if swX2_threeOrBarrier_1 (x0) = 219 then 304 else if swX2_threeOrBarrier_1 (x0) = 223 then 8 else (-1)
set_option maxHeartbeats 4000000 in
set_option maxRecDepth 100000 in
theorem kX2_threeOrBarrier (l : Launch) (sz : Nat) (x0 : Int32) : Met l yX2_threeOrBarrier wsX2_threeOrBarrier ({ frames := 0, cells := 0, slots := 0, locals := 0 }) (pu_Pc [.int (x0)] sz) (ro_Qi (fX2_threeOrBarrier x0) sz) 0 0 (ro sz) := by
  refine Met.ofW (cc := cX2_threeOrBarrier) (maxL := 1) (ret := (some .int)) (by decide) rfl ?_
  intro p e s m args below meth c s₁ B0 hml hv
  obtain ⟨rfl, hsz⟩ := hv
  have hx := B0.exec
  have hb := B0.bytes
  have hr := B0.returns
  have hts := atoms_spec (ws := wsX2_threeOrBarrier) B0.pre
  have hown : s.vm.findClass RX2 = some m.cls := findClass_of_methodNamed B0.named
  have hlocks := B0.notSynchronized
  subst hsz
  have hA : ∀ q : Nat, s.heap.size ≤ q → ro s.heap.size q := fun _ h => h
  have hS : va_S (ro s.heap.size) s.heap s.heap [] := va_S.rf
  have hl := lv_entry ([.int (x0)]) (n := 1) (Nat.le_of_ble_eq_true rfl)
  rw [lg_entry_eq]
  generalize (lg_sl ([.int (x0)]) ++ List.replicate (1 - (lg_sl ([.int (x0)])).length) Slot.unset).toArray = ls at hl ⊢
  have hl : lv_has ls 1 [(0, .int (x0))] := hl
  have hv : (fX2_threeOrBarrier x0) = (fX2_threeOrBarrier x0) := rfl
  refine lv_iload_n hx hb dX2_threeOrBarrier_0 rfl (lv_at hl 0 rfl) ?_
  rcases swX2_threeOrBarrier_1_c (x0) with c_1 | c_1 | c_1
  · refine my_table (tgt := 220) hx hb dX2_threeOrBarrier_1 (by decide) c_1 (by decide) ?_
    refine lv_sipush (v := 304) hx hb dX2_threeOrBarrier_220 (by decide) ?_
    exact W.iret (v := 304) hx hb hr (fun t ht hW => ⟨⟨_, (), rfl, ((show 304 = (fX2_threeOrBarrier x0) by unfold fX2_threeOrBarrier; rw [if_pos c_1]).trans hv), trivial⟩, hS.F ht⟩) hS.2.2 dX2_threeOrBarrier_223
  · refine my_table (tgt := 224) hx hb dX2_threeOrBarrier_1 (by decide) c_1 (by decide) ?_
    refine lv_bipush (v := 8) hx hb dX2_threeOrBarrier_224 (by decide) ?_
    exact W.iret (v := 8) hx hb hr (fun t ht hW => ⟨⟨_, (), rfl, ((show 8 = (fX2_threeOrBarrier x0) by unfold fX2_threeOrBarrier; rw [if_neg (show ¬ (swX2_threeOrBarrier_1 (x0) = 219) by rw [c_1]; decide), if_pos c_1]).trans hv), trivial⟩, hS.F ht⟩) hS.2.2 dX2_threeOrBarrier_226
  · refine my_table (tgt := 227) hx hb dX2_threeOrBarrier_1 (by decide) c_1 (by decide) ?_
    refine lv_iconst (v := (-1)) hx hb dX2_threeOrBarrier_227 (by decide) ?_
    exact W.iret (v := (-1)) hx hb hr (fun t ht hW => ⟨⟨_, (), rfl, ((show (-1) = (fX2_threeOrBarrier x0) by unfold fX2_threeOrBarrier; rw [if_neg (show ¬ (swX2_threeOrBarrier_1 (x0) = 219) by rw [c_1]; decide), if_neg (show ¬ (swX2_threeOrBarrier_1 (x0) = 223) by rw [c_1]; decide)]).trans hv), trivial⟩, hS.F ht⟩) hS.2.2 dX2_threeOrBarrier_228
def swX2_special_1 (x : Int32) : Int := swT 0 27 [127, 131, 127, 127, 162, 162, 162, 162, 135, 138, 142, 142, 162, 162, 162, 162, 146, 150, 146, 150, 162, 162, 162, 162, 154, 154, 158, 158] 162 x
theorem swX2_special_1_c (x : Int32) : swX2_special_1 x = 127 ∨ swX2_special_1 x = 131 ∨ swX2_special_1 x = 135 ∨ swX2_special_1 x = 138 ∨ swX2_special_1 x = 142 ∨ swX2_special_1 x = 146 ∨ swX2_special_1 x = 150 ∨ swX2_special_1 x = 154 ∨ swX2_special_1 x = 158 ∨ swX2_special_1 x = 162 := (show ∀ v ∈ ([162, 127, 131, 127, 127, 162, 162, 162, 162, 135, 138, 142, 142, 162, 162, 162, 162, 146, 150, 146, 150, 162, 162, 162, 162, 154, 154, 158, 158] : List Int), v = 127 ∨ v = 131 ∨ v = 135 ∨ v = 138 ∨ v = 142 ∨ v = 146 ∨ v = 150 ∨ v = 154 ∨ v = 158 ∨ v = 162 by decide) _ (swT_mem _ _ _ _ _)
def fX2_special (x0 : Int32) : Int32 := if swX2_special_1 (x0) = 127 then 288 else if swX2_special_1 (x0) = 131 then 4432 else if swX2_special_1 (x0) = 135 then 23 else if swX2_special_1 (x0) = 138 then 279 else if swX2_special_1 (x0) = 142 then 368 else if swX2_special_1 (x0) = 146 then 1280 else if swX2_special_1 (x0) = 150 then 3088 else if swX2_special_1 (x0) = 154 then 2099 else if swX2_special_1 (x0) = 158 then 2100 else (fX2_threeOrBarrier x0)
set_option maxHeartbeats 4000000 in
set_option maxRecDepth 100000 in
theorem kX2_special (l : Launch) (sz : Nat) (x0 : Int32) : Met l yX2_special wsX2_special ({ frames := 1, cells := 0, slots := 0, locals := 20 }) (pu_Pc [.int (x0)] sz) (ro_Qi (fX2_special x0) sz) 0 0 (ro sz) := by
  refine Met.ofW (cc := cX2_special) (maxL := 1) (ret := (some .int)) (by decide) rfl ?_
  intro p e s m args below meth c s₁ B0 hml hv
  obtain ⟨rfl, hsz⟩ := hv
  have hx := B0.exec
  have hb := B0.bytes
  have hr := B0.returns
  have hts := atoms_spec (ws := wsX2_special) B0.pre
  have hown : s.vm.findClass RX2 = some m.cls := findClass_of_methodNamed B0.named
  have hlocks := B0.notSynchronized
  subst hsz
  have hA : ∀ q : Nat, s.heap.size ≤ q → ro s.heap.size q := fun _ h => h
  have hS : va_S (ro s.heap.size) s.heap s.heap [] := va_S.rf
  have hl := lv_entry ([.int (x0)]) (n := 1) (Nat.le_of_ble_eq_true rfl)
  rw [lg_entry_eq]
  generalize (lg_sl ([.int (x0)]) ++ List.replicate (1 - (lg_sl ([.int (x0)])).length) Slot.unset).toArray = ls at hl ⊢
  have hl : lv_has ls 1 [(0, .int (x0))] := hl
  have hv : (fX2_special x0) = (fX2_special x0) := rfl
  refine lv_iload_n hx hb dX2_special_0 rfl (lv_at hl 0 rfl) ?_
  rcases swX2_special_1_c (x0) with c_1 | c_1 | c_1 | c_1 | c_1 | c_1 | c_1 | c_1 | c_1 | c_1
  · refine my_table (tgt := 128) hx hb dX2_special_1 (by decide) c_1 (by decide) ?_
    refine lv_sipush (v := 288) hx hb dX2_special_128 (by decide) ?_
    exact W.iret (v := 288) hx hb hr (fun t ht hW => ⟨⟨_, (), rfl, ((show 288 = (fX2_special x0) by unfold fX2_special; rw [if_pos c_1]).trans hv), trivial⟩, hS.F ht⟩) hS.2.2 dX2_special_131
  · refine my_table (tgt := 132) hx hb dX2_special_1 (by decide) c_1 (by decide) ?_
    refine lv_sipush (v := 4432) hx hb dX2_special_132 (by decide) ?_
    exact W.iret (v := 4432) hx hb hr (fun t ht hW => ⟨⟨_, (), rfl, ((show 4432 = (fX2_special x0) by unfold fX2_special; rw [if_neg (show ¬ (swX2_special_1 (x0) = 127) by rw [c_1]; decide), if_pos c_1]).trans hv), trivial⟩, hS.F ht⟩) hS.2.2 dX2_special_135
  · refine my_table (tgt := 136) hx hb dX2_special_1 (by decide) c_1 (by decide) ?_
    refine lv_bipush (v := 23) hx hb dX2_special_136 (by decide) ?_
    exact W.iret (v := 23) hx hb hr (fun t ht hW => ⟨⟨_, (), rfl, ((show 23 = (fX2_special x0) by unfold fX2_special; rw [if_neg (show ¬ (swX2_special_1 (x0) = 127) by rw [c_1]; decide), if_neg (show ¬ (swX2_special_1 (x0) = 131) by rw [c_1]; decide), if_pos c_1]).trans hv), trivial⟩, hS.F ht⟩) hS.2.2 dX2_special_138
  · refine my_table (tgt := 139) hx hb dX2_special_1 (by decide) c_1 (by decide) ?_
    refine lv_sipush (v := 279) hx hb dX2_special_139 (by decide) ?_
    exact W.iret (v := 279) hx hb hr (fun t ht hW => ⟨⟨_, (), rfl, ((show 279 = (fX2_special x0) by unfold fX2_special; rw [if_neg (show ¬ (swX2_special_1 (x0) = 127) by rw [c_1]; decide), if_neg (show ¬ (swX2_special_1 (x0) = 131) by rw [c_1]; decide), if_neg (show ¬ (swX2_special_1 (x0) = 135) by rw [c_1]; decide), if_pos c_1]).trans hv), trivial⟩, hS.F ht⟩) hS.2.2 dX2_special_142
  · refine my_table (tgt := 143) hx hb dX2_special_1 (by decide) c_1 (by decide) ?_
    refine lv_sipush (v := 368) hx hb dX2_special_143 (by decide) ?_
    exact W.iret (v := 368) hx hb hr (fun t ht hW => ⟨⟨_, (), rfl, ((show 368 = (fX2_special x0) by unfold fX2_special; rw [if_neg (show ¬ (swX2_special_1 (x0) = 127) by rw [c_1]; decide), if_neg (show ¬ (swX2_special_1 (x0) = 131) by rw [c_1]; decide), if_neg (show ¬ (swX2_special_1 (x0) = 135) by rw [c_1]; decide), if_neg (show ¬ (swX2_special_1 (x0) = 138) by rw [c_1]; decide), if_pos c_1]).trans hv), trivial⟩, hS.F ht⟩) hS.2.2 dX2_special_146
  · refine my_table (tgt := 147) hx hb dX2_special_1 (by decide) c_1 (by decide) ?_
    refine lv_sipush (v := 1280) hx hb dX2_special_147 (by decide) ?_
    exact W.iret (v := 1280) hx hb hr (fun t ht hW => ⟨⟨_, (), rfl, ((show 1280 = (fX2_special x0) by unfold fX2_special; rw [if_neg (show ¬ (swX2_special_1 (x0) = 127) by rw [c_1]; decide), if_neg (show ¬ (swX2_special_1 (x0) = 131) by rw [c_1]; decide), if_neg (show ¬ (swX2_special_1 (x0) = 135) by rw [c_1]; decide), if_neg (show ¬ (swX2_special_1 (x0) = 138) by rw [c_1]; decide), if_neg (show ¬ (swX2_special_1 (x0) = 142) by rw [c_1]; decide), if_pos c_1]).trans hv), trivial⟩, hS.F ht⟩) hS.2.2 dX2_special_150
  · refine my_table (tgt := 151) hx hb dX2_special_1 (by decide) c_1 (by decide) ?_
    refine lv_sipush (v := 3088) hx hb dX2_special_151 (by decide) ?_
    exact W.iret (v := 3088) hx hb hr (fun t ht hW => ⟨⟨_, (), rfl, ((show 3088 = (fX2_special x0) by unfold fX2_special; rw [if_neg (show ¬ (swX2_special_1 (x0) = 127) by rw [c_1]; decide), if_neg (show ¬ (swX2_special_1 (x0) = 131) by rw [c_1]; decide), if_neg (show ¬ (swX2_special_1 (x0) = 135) by rw [c_1]; decide), if_neg (show ¬ (swX2_special_1 (x0) = 138) by rw [c_1]; decide), if_neg (show ¬ (swX2_special_1 (x0) = 142) by rw [c_1]; decide), if_neg (show ¬ (swX2_special_1 (x0) = 146) by rw [c_1]; decide), if_pos c_1]).trans hv), trivial⟩, hS.F ht⟩) hS.2.2 dX2_special_154
  · refine my_table (tgt := 155) hx hb dX2_special_1 (by decide) c_1 (by decide) ?_
    refine lv_sipush (v := 2099) hx hb dX2_special_155 (by decide) ?_
    exact W.iret (v := 2099) hx hb hr (fun t ht hW => ⟨⟨_, (), rfl, ((show 2099 = (fX2_special x0) by unfold fX2_special; rw [if_neg (show ¬ (swX2_special_1 (x0) = 127) by rw [c_1]; decide), if_neg (show ¬ (swX2_special_1 (x0) = 131) by rw [c_1]; decide), if_neg (show ¬ (swX2_special_1 (x0) = 135) by rw [c_1]; decide), if_neg (show ¬ (swX2_special_1 (x0) = 138) by rw [c_1]; decide), if_neg (show ¬ (swX2_special_1 (x0) = 142) by rw [c_1]; decide), if_neg (show ¬ (swX2_special_1 (x0) = 146) by rw [c_1]; decide), if_neg (show ¬ (swX2_special_1 (x0) = 150) by rw [c_1]; decide), if_pos c_1]).trans hv), trivial⟩, hS.F ht⟩) hS.2.2 dX2_special_158
  · refine my_table (tgt := 159) hx hb dX2_special_1 (by decide) c_1 (by decide) ?_
    refine lv_sipush (v := 2100) hx hb dX2_special_159 (by decide) ?_
    exact W.iret (v := 2100) hx hb hr (fun t ht hW => ⟨⟨_, (), rfl, ((show 2100 = (fX2_special x0) by unfold fX2_special; rw [if_neg (show ¬ (swX2_special_1 (x0) = 127) by rw [c_1]; decide), if_neg (show ¬ (swX2_special_1 (x0) = 131) by rw [c_1]; decide), if_neg (show ¬ (swX2_special_1 (x0) = 135) by rw [c_1]; decide), if_neg (show ¬ (swX2_special_1 (x0) = 138) by rw [c_1]; decide), if_neg (show ¬ (swX2_special_1 (x0) = 142) by rw [c_1]; decide), if_neg (show ¬ (swX2_special_1 (x0) = 146) by rw [c_1]; decide), if_neg (show ¬ (swX2_special_1 (x0) = 150) by rw [c_1]; decide), if_neg (show ¬ (swX2_special_1 (x0) = 154) by rw [c_1]; decide), if_pos c_1]).trans hv), trivial⟩, hS.F ht⟩) hS.2.2 dX2_special_162
  · refine my_table (tgt := 163) hx hb dX2_special_1 (by decide) c_1 (by decide) ?_
    refine lv_iload_n hx hb dX2_special_163 rfl (lv_at hl 0 rfl) ?_
    refine ro_calli (va_runS (As := [.int (x0)]) (rest := []) ⟨hx, hb, hml, hown, hts⟩ (kX2_threeOrBarrier l s.heap.size x0) (va_cwS 1 hts gX2_special_X2_threeOrBarrier rfl rfl rfl (by decide +kernel) ⟨Nat.le_of_ble_eq_true rfl, Nat.le_of_ble_eq_true rfl⟩) pu_preS rfl rfl hl.1 rfl (lv_room (Nat.le_of_ble_eq_true rfl)) dX2_special_164 ⟨Nat.zero_le _, Nat.zero_le _⟩) hS hA (fun H locs kP hS => ?_)
    exact W.iret (v := (fX2_threeOrBarrier x0)) hx hb hr (fun t ht hW => ⟨⟨_, (), rfl, ((show (fX2_threeOrBarrier x0) = (fX2_special x0) by unfold fX2_special; rw [if_neg (show ¬ (swX2_special_1 (x0) = 127) by rw [c_1]; decide), if_neg (show ¬ (swX2_special_1 (x0) = 131) by rw [c_1]; decide), if_neg (show ¬ (swX2_special_1 (x0) = 135) by rw [c_1]; decide), if_neg (show ¬ (swX2_special_1 (x0) = 138) by rw [c_1]; decide), if_neg (show ¬ (swX2_special_1 (x0) = 142) by rw [c_1]; decide), if_neg (show ¬ (swX2_special_1 (x0) = 146) by rw [c_1]; decide), if_neg (show ¬ (swX2_special_1 (x0) = 150) by rw [c_1]; decide), if_neg (show ¬ (swX2_special_1 (x0) = 154) by rw [c_1]; decide), if_neg (show ¬ (swX2_special_1 (x0) = 158) by rw [c_1]; decide)]).trans hv), trivial⟩, hS.F ht⟩) hS.2.2 dX2_special_167
def swX2_special2_1 (x : Int32) : Int := Op.lookupswitch.offset [(0, 67), (1, 67), (2, 71), (4, 67), (5, 67), (32, 75), (33, 75)] 79 x.toInt
theorem swX2_special2_1_c (x : Int32) : swX2_special2_1 x = 67 ∨ swX2_special2_1 x = 71 ∨ swX2_special2_1 x = 75 ∨ swX2_special2_1 x = 79 := (show ∀ v ∈ ([79, 67, 67, 71, 67, 67, 75, 75] : List Int), v = 67 ∨ v = 71 ∨ v = 75 ∨ v = 79 by decide) _ (lk_mem _ _ _)
def fX2_special2 (x0 : Int32) : Int32 := if swX2_special2_1 (x0) = 67 then 3123 else if swX2_special2_1 (x0) = 71 then 2355 else if swX2_special2_1 (x0) = 75 then 272 else (-1)
set_option maxHeartbeats 4000000 in
set_option maxRecDepth 100000 in
theorem kX2_special2 (l : Launch) (sz : Nat) (x0 : Int32) : Met l yX2_special2 wsX2_special2 ({ frames := 0, cells := 0, slots := 0, locals := 0 }) (pu_Pc [.int (x0)] sz) (ro_Qi (fX2_special2 x0) sz) 0 0 (ro sz) := by
  refine Met.ofW (cc := cX2_special2) (maxL := 1) (ret := (some .int)) (by decide) rfl ?_
  intro p e s m args below meth c s₁ B0 hml hv
  obtain ⟨rfl, hsz⟩ := hv
  have hx := B0.exec
  have hb := B0.bytes
  have hr := B0.returns
  have hts := atoms_spec (ws := wsX2_special2) B0.pre
  have hown : s.vm.findClass RX2 = some m.cls := findClass_of_methodNamed B0.named
  have hlocks := B0.notSynchronized
  subst hsz
  have hA : ∀ q : Nat, s.heap.size ≤ q → ro s.heap.size q := fun _ h => h
  have hS : va_S (ro s.heap.size) s.heap s.heap [] := va_S.rf
  have hl := lv_entry ([.int (x0)]) (n := 1) (Nat.le_of_ble_eq_true rfl)
  rw [lg_entry_eq]
  generalize (lg_sl ([.int (x0)]) ++ List.replicate (1 - (lg_sl ([.int (x0)])).length) Slot.unset).toArray = ls at hl ⊢
  have hl : lv_has ls 1 [(0, .int (x0))] := hl
  have hv : (fX2_special2 x0) = (fX2_special2 x0) := rfl
  refine lv_iload_n hx hb dX2_special2_0 rfl (lv_at hl 0 rfl) ?_
  rcases swX2_special2_1_c (x0) with c_1 | c_1 | c_1 | c_1
  · refine lv_lookup (tgt := 68) hx hb dX2_special2_1 (by decide) c_1 (by decide) ?_
    refine lv_sipush (v := 3123) hx hb dX2_special2_68 (by decide) ?_
    exact W.iret (v := 3123) hx hb hr (fun t ht hW => ⟨⟨_, (), rfl, ((show 3123 = (fX2_special2 x0) by unfold fX2_special2; rw [if_pos c_1]).trans hv), trivial⟩, hS.F ht⟩) hS.2.2 dX2_special2_71
  · refine lv_lookup (tgt := 72) hx hb dX2_special2_1 (by decide) c_1 (by decide) ?_
    refine lv_sipush (v := 2355) hx hb dX2_special2_72 (by decide) ?_
    exact W.iret (v := 2355) hx hb hr (fun t ht hW => ⟨⟨_, (), rfl, ((show 2355 = (fX2_special2 x0) by unfold fX2_special2; rw [if_neg (show ¬ (swX2_special2_1 (x0) = 67) by rw [c_1]; decide), if_pos c_1]).trans hv), trivial⟩, hS.F ht⟩) hS.2.2 dX2_special2_75
  · refine lv_lookup (tgt := 76) hx hb dX2_special2_1 (by decide) c_1 (by decide) ?_
    refine lv_sipush (v := 272) hx hb dX2_special2_76 (by decide) ?_
    exact W.iret (v := 272) hx hb hr (fun t ht hW => ⟨⟨_, (), rfl, ((show 272 = (fX2_special2 x0) by unfold fX2_special2; rw [if_neg (show ¬ (swX2_special2_1 (x0) = 67) by rw [c_1]; decide), if_neg (show ¬ (swX2_special2_1 (x0) = 71) by rw [c_1]; decide), if_pos c_1]).trans hv), trivial⟩, hS.F ht⟩) hS.2.2 dX2_special2_79
  · refine lv_lookup (tgt := 80) hx hb dX2_special2_1 (by decide) c_1 (by decide) ?_
    refine lv_iconst (v := (-1)) hx hb dX2_special2_80 (by decide) ?_
    exact W.iret (v := (-1)) hx hb hr (fun t ht hW => ⟨⟨_, (), rfl, ((show (-1) = (fX2_special2 x0) by unfold fX2_special2; rw [if_neg (show ¬ (swX2_special2_1 (x0) = 67) by rw [c_1]; decide), if_neg (show ¬ (swX2_special2_1 (x0) = 71) by rw [c_1]; decide), if_neg (show ¬ (swX2_special2_1 (x0) = 75) by rw [c_1]; decide)]).trans hv), trivial⟩, hS.F ht⟩) hS.2.2 dX2_special2_81
def swX2_byRegisterField_1 (x : Int32) : Int := swT 0 17 [87, 87, 90, 90, 100, 100, 100, 100, 93, 93, 93, 93, 93, 100, 93, 100, 96, 96] 100 x
theorem swX2_byRegisterField_1_c (x : Int32) : swX2_byRegisterField_1 x = 87 ∨ swX2_byRegisterField_1 x = 90 ∨ swX2_byRegisterField_1 x = 93 ∨ swX2_byRegisterField_1 x = 96 ∨ swX2_byRegisterField_1 x = 100 := (show ∀ v ∈ ([100, 87, 87, 90, 90, 100, 100, 100, 100, 93, 93, 93, 93, 93, 100, 93, 100, 96, 96] : List Int), v = 87 ∨ v = 90 ∨ v = 93 ∨ v = 96 ∨ v = 100 by decide) _ (swT_mem _ _ _ _ _)
def fX2_byRegisterField (x0 : Int32) : Int32 := if swX2_byRegisterField_1 (x0) = 87 then 23 else if swX2_byRegisterField_1 (x0) = 90 then 8388631 else if swX2_byRegisterField_1 (x0) = 93 then 8 else if swX2_byRegisterField_1 (x0) = 96 then 535 else (-1)
set_option maxHeartbeats 4000000 in
set_option maxRecDepth 100000 in
theorem kX2_byRegisterField (l : Launch) (sz : Nat) (x0 : Int32) : Met l yX2_byRegisterField wsX2_byRegisterField ({ frames := 0, cells := 0, slots := 0, locals := 0 }) (pu_Pc [.int (x0)] sz) (ro_Qi (fX2_byRegisterField x0) sz) 0 0 (ro sz) := by
  refine Met.ofW (cc := cX2_byRegisterField) (maxL := 1) (ret := (some .int)) (by decide) rfl ?_
  intro p e s m args below meth c s₁ B0 hml hv
  obtain ⟨rfl, hsz⟩ := hv
  have hx := B0.exec
  have hb := B0.bytes
  have hr := B0.returns
  have hts := atoms_spec (ws := wsX2_byRegisterField) B0.pre
  have hown : s.vm.findClass RX2 = some m.cls := findClass_of_methodNamed B0.named
  have hlocks := B0.notSynchronized
  subst hsz
  have hA : ∀ q : Nat, s.heap.size ≤ q → ro s.heap.size q := fun _ h => h
  have hS : va_S (ro s.heap.size) s.heap s.heap [] := va_S.rf
  have hl := lv_entry ([.int (x0)]) (n := 1) (Nat.le_of_ble_eq_true rfl)
  rw [lg_entry_eq]
  generalize (lg_sl ([.int (x0)]) ++ List.replicate (1 - (lg_sl ([.int (x0)])).length) Slot.unset).toArray = ls at hl ⊢
  have hl : lv_has ls 1 [(0, .int (x0))] := hl
  have hv : (fX2_byRegisterField x0) = (fX2_byRegisterField x0) := rfl
  refine lv_iload_n hx hb dX2_byRegisterField_0 rfl (lv_at hl 0 rfl) ?_
  rcases swX2_byRegisterField_1_c (x0) with c_1 | c_1 | c_1 | c_1 | c_1
  · refine my_table (tgt := 88) hx hb dX2_byRegisterField_1 (by decide) c_1 (by decide) ?_
    refine lv_bipush (v := 23) hx hb dX2_byRegisterField_88 (by decide) ?_
    exact W.iret (v := 23) hx hb hr (fun t ht hW => ⟨⟨_, (), rfl, ((show 23 = (fX2_byRegisterField x0) by unfold fX2_byRegisterField; rw [if_pos c_1]).trans hv), trivial⟩, hS.F ht⟩) hS.2.2 dX2_byRegisterField_90
  · refine my_table (tgt := 91) hx hb dX2_byRegisterField_1 (by decide) c_1 (by decide) ?_
    refine lv_ldc (v := 8388631) hx hb hown (hts (.constant RX2 66 (8388631)) (by decide +kernel)) dX2_byRegisterField_91 ?_
    exact W.iret (v := 8388631) hx hb hr (fun t ht hW => ⟨⟨_, (), rfl, ((show 8388631 = (fX2_byRegisterField x0) by unfold fX2_byRegisterField; rw [if_neg (show ¬ (swX2_byRegisterField_1 (x0) = 87) by rw [c_1]; decide), if_pos c_1]).trans hv), trivial⟩, hS.F ht⟩) hS.2.2 dX2_byRegisterField_93
  · refine my_table (tgt := 94) hx hb dX2_byRegisterField_1 (by decide) c_1 (by decide) ?_
    refine lv_bipush (v := 8) hx hb dX2_byRegisterField_94 (by decide) ?_
    exact W.iret (v := 8) hx hb hr (fun t ht hW => ⟨⟨_, (), rfl, ((show 8 = (fX2_byRegisterField x0) by unfold fX2_byRegisterField; rw [if_neg (show ¬ (swX2_byRegisterField_1 (x0) = 87) by rw [c_1]; decide), if_neg (show ¬ (swX2_byRegisterField_1 (x0) = 90) by rw [c_1]; decide), if_pos c_1]).trans hv), trivial⟩, hS.F ht⟩) hS.2.2 dX2_byRegisterField_96
  · refine my_table (tgt := 97) hx hb dX2_byRegisterField_1 (by decide) c_1 (by decide) ?_
    refine lv_sipush (v := 535) hx hb dX2_byRegisterField_97 (by decide) ?_
    exact W.iret (v := 535) hx hb hr (fun t ht hW => ⟨⟨_, (), rfl, ((show 535 = (fX2_byRegisterField x0) by unfold fX2_byRegisterField; rw [if_neg (show ¬ (swX2_byRegisterField_1 (x0) = 87) by rw [c_1]; decide), if_neg (show ¬ (swX2_byRegisterField_1 (x0) = 90) by rw [c_1]; decide), if_neg (show ¬ (swX2_byRegisterField_1 (x0) = 93) by rw [c_1]; decide), if_pos c_1]).trans hv), trivial⟩, hS.F ht⟩) hS.2.2 dX2_byRegisterField_100
  · refine my_table (tgt := 101) hx hb dX2_byRegisterField_1 (by decide) c_1 (by decide) ?_
    refine lv_iconst (v := (-1)) hx hb dX2_byRegisterField_101 (by decide) ?_
    exact W.iret (v := (-1)) hx hb hr (fun t ht hW => ⟨⟨_, (), rfl, ((show (-1) = (fX2_byRegisterField x0) by unfold fX2_byRegisterField; rw [if_neg (show ¬ (swX2_byRegisterField_1 (x0) = 87) by rw [c_1]; decide), if_neg (show ¬ (swX2_byRegisterField_1 (x0) = 90) by rw [c_1]; decide), if_neg (show ¬ (swX2_byRegisterField_1 (x0) = 93) by rw [c_1]; decide), if_neg (show ¬ (swX2_byRegisterField_1 (x0) = 96) by rw [c_1]; decide)]).trans hv), trivial⟩, hS.F ht⟩) hS.2.2 dX2_byRegisterField_102
def swX2_immediateOrBranch_1 (x : Int32) : Int := swT 2 23 [103, 106, 110, 110, 113, 113, 122, 125, 125, 125, 125, 125, 125, 129, 133, 133, 133, 133, 116, 116, 119, 119] 133 x
theorem swX2_immediateOrBranch_1_c (x : Int32) : swX2_immediateOrBranch_1 x = 103 ∨ swX2_immediateOrBranch_1 x = 106 ∨ swX2_immediateOrBranch_1 x = 110 ∨ swX2_immediateOrBranch_1 x = 113 ∨ swX2_immediateOrBranch_1 x = 116 ∨ swX2_immediateOrBranch_1 x = 119 ∨ swX2_immediateOrBranch_1 x = 122 ∨ swX2_immediateOrBranch_1 x = 125 ∨ swX2_immediateOrBranch_1 x = 129 ∨ swX2_immediateOrBranch_1 x = 133 := (show ∀ v ∈ ([133, 103, 106, 110, 110, 113, 113, 122, 125, 125, 125, 125, 125, 125, 129, 133, 133, 133, 133, 116, 116, 119, 119] : List Int), v = 103 ∨ v = 106 ∨ v = 110 ∨ v = 113 ∨ v = 116 ∨ v = 119 ∨ v = 122 ∨ v = 125 ∨ v = 129 ∨ v = 133 by decide) _ (swT_mem _ _ _ _ _)
def fX2_immediateOrBranch (x0 : Int32) : Int32 := if swX2_immediateOrBranch_1 (x0) = 103 then 7 else if swX2_immediateOrBranch_1 (x0) = 106 then 519 else if swX2_immediateOrBranch_1 (x0) = 110 then 55 else if swX2_immediateOrBranch_1 (x0) = 113 then 23 else if swX2_immediateOrBranch_1 (x0) = 116 then 8388663 else if swX2_immediateOrBranch_1 (x0) = 119 then 8388631 else if swX2_immediateOrBranch_1 (x0) = 122 then 8 else if swX2_immediateOrBranch_1 (x0) = 125 then 144 else if swX2_immediateOrBranch_1 (x0) = 129 then 128 else (-1)
set_option maxHeartbeats 4000000 in
set_option maxRecDepth 100000 in
theorem kX2_immediateOrBranch (l : Launch) (sz : Nat) (x0 : Int32) : Met l yX2_immediateOrBranch wsX2_immediateOrBranch ({ frames := 0, cells := 0, slots := 0, locals := 0 }) (pu_Pc [.int (x0)] sz) (ro_Qi (fX2_immediateOrBranch x0) sz) 0 0 (ro sz) := by
  refine Met.ofW (cc := cX2_immediateOrBranch) (maxL := 1) (ret := (some .int)) (by decide) rfl ?_
  intro p e s m args below meth c s₁ B0 hml hv
  obtain ⟨rfl, hsz⟩ := hv
  have hx := B0.exec
  have hb := B0.bytes
  have hr := B0.returns
  have hts := atoms_spec (ws := wsX2_immediateOrBranch) B0.pre
  have hown : s.vm.findClass RX2 = some m.cls := findClass_of_methodNamed B0.named
  have hlocks := B0.notSynchronized
  subst hsz
  have hA : ∀ q : Nat, s.heap.size ≤ q → ro s.heap.size q := fun _ h => h
  have hS : va_S (ro s.heap.size) s.heap s.heap [] := va_S.rf
  have hl := lv_entry ([.int (x0)]) (n := 1) (Nat.le_of_ble_eq_true rfl)
  rw [lg_entry_eq]
  generalize (lg_sl ([.int (x0)]) ++ List.replicate (1 - (lg_sl ([.int (x0)])).length) Slot.unset).toArray = ls at hl ⊢
  have hl : lv_has ls 1 [(0, .int (x0))] := hl
  have hv : (fX2_immediateOrBranch x0) = (fX2_immediateOrBranch x0) := rfl
  refine lv_iload_n hx hb dX2_immediateOrBranch_0 rfl (lv_at hl 0 rfl) ?_
  rcases swX2_immediateOrBranch_1_c (x0) with c_1 | c_1 | c_1 | c_1 | c_1 | c_1 | c_1 | c_1 | c_1 | c_1
  · refine my_table (tgt := 104) hx hb dX2_immediateOrBranch_1 (by decide) c_1 (by decide) ?_
    refine lv_bipush (v := 7) hx hb dX2_immediateOrBranch_104 (by decide) ?_
    exact W.iret (v := 7) hx hb hr (fun t ht hW => ⟨⟨_, (), rfl, ((show 7 = (fX2_immediateOrBranch x0) by unfold fX2_immediateOrBranch; rw [if_pos c_1]).trans hv), trivial⟩, hS.F ht⟩) hS.2.2 dX2_immediateOrBranch_106
  · refine my_table (tgt := 107) hx hb dX2_immediateOrBranch_1 (by decide) c_1 (by decide) ?_
    refine lv_sipush (v := 519) hx hb dX2_immediateOrBranch_107 (by decide) ?_
    exact W.iret (v := 519) hx hb hr (fun t ht hW => ⟨⟨_, (), rfl, ((show 519 = (fX2_immediateOrBranch x0) by unfold fX2_immediateOrBranch; rw [if_neg (show ¬ (swX2_immediateOrBranch_1 (x0) = 103) by rw [c_1]; decide), if_pos c_1]).trans hv), trivial⟩, hS.F ht⟩) hS.2.2 dX2_immediateOrBranch_110
  · refine my_table (tgt := 111) hx hb dX2_immediateOrBranch_1 (by decide) c_1 (by decide) ?_
    refine lv_bipush (v := 55) hx hb dX2_immediateOrBranch_111 (by decide) ?_
    exact W.iret (v := 55) hx hb hr (fun t ht hW => ⟨⟨_, (), rfl, ((show 55 = (fX2_immediateOrBranch x0) by unfold fX2_immediateOrBranch; rw [if_neg (show ¬ (swX2_immediateOrBranch_1 (x0) = 103) by rw [c_1]; decide), if_neg (show ¬ (swX2_immediateOrBranch_1 (x0) = 106) by rw [c_1]; decide), if_pos c_1]).trans hv), trivial⟩, hS.F ht⟩) hS.2.2 dX2_immediateOrBranch_113
  · refine my_table (tgt := 114) hx hb dX2_immediateOrBranch_1 (by decide) c_1 (by decide) ?_
    refine lv_bipush (v := 23) hx hb dX2_immediateOrBranch_114 (by decide) ?_
    exact W.iret (v := 23) hx hb hr (fun t ht hW => ⟨⟨_, (), rfl, ((show 23 = (fX2_immediateOrBranch x0) by unfold fX2_immediateOrBranch; rw [if_neg (show ¬ (swX2_immediateOrBranch_1 (x0) = 103) by rw [c_1]; decide), if_neg (show ¬ (swX2_immediateOrBranch_1 (x0) = 106) by rw [c_1]; decide), if_neg (show ¬ (swX2_immediateOrBranch_1 (x0) = 110) by rw [c_1]; decide), if_pos c_1]).trans hv), trivial⟩, hS.F ht⟩) hS.2.2 dX2_immediateOrBranch_116
  · refine my_table (tgt := 117) hx hb dX2_immediateOrBranch_1 (by decide) c_1 (by decide) ?_
    refine lv_ldc (v := 8388663) hx hb hown (hts (.constant RX2 67 (8388663)) (by decide +kernel)) dX2_immediateOrBranch_117 ?_
    exact W.iret (v := 8388663) hx hb hr (fun t ht hW => ⟨⟨_, (), rfl, ((show 8388663 = (fX2_immediateOrBranch x0) by unfold fX2_immediateOrBranch; rw [if_neg (show ¬ (swX2_immediateOrBranch_1 (x0) = 103) by rw [c_1]; decide), if_neg (show ¬ (swX2_immediateOrBranch_1 (x0) = 106) by rw [c_1]; decide), if_neg (show ¬ (swX2_immediateOrBranch_1 (x0) = 110) by rw [c_1]; decide), if_neg (show ¬ (swX2_immediateOrBranch_1 (x0) = 113) by rw [c_1]; decide), if_pos c_1]).trans hv), trivial⟩, hS.F ht⟩) hS.2.2 dX2_immediateOrBranch_119
  · refine my_table (tgt := 120) hx hb dX2_immediateOrBranch_1 (by decide) c_1 (by decide) ?_
    refine lv_ldc (v := 8388631) hx hb hown (hts (.constant RX2 66 (8388631)) (by decide +kernel)) dX2_immediateOrBranch_120 ?_
    exact W.iret (v := 8388631) hx hb hr (fun t ht hW => ⟨⟨_, (), rfl, ((show 8388631 = (fX2_immediateOrBranch x0) by unfold fX2_immediateOrBranch; rw [if_neg (show ¬ (swX2_immediateOrBranch_1 (x0) = 103) by rw [c_1]; decide), if_neg (show ¬ (swX2_immediateOrBranch_1 (x0) = 106) by rw [c_1]; decide), if_neg (show ¬ (swX2_immediateOrBranch_1 (x0) = 110) by rw [c_1]; decide), if_neg (show ¬ (swX2_immediateOrBranch_1 (x0) = 113) by rw [c_1]; decide), if_neg (show ¬ (swX2_immediateOrBranch_1 (x0) = 116) by rw [c_1]; decide), if_pos c_1]).trans hv), trivial⟩, hS.F ht⟩) hS.2.2 dX2_immediateOrBranch_122
  · refine my_table (tgt := 123) hx hb dX2_immediateOrBranch_1 (by decide) c_1 (by decide) ?_
    refine lv_bipush (v := 8) hx hb dX2_immediateOrBranch_123 (by decide) ?_
    exact W.iret (v := 8) hx hb hr (fun t ht hW => ⟨⟨_, (), rfl, ((show 8 = (fX2_immediateOrBranch x0) by unfold fX2_immediateOrBranch; rw [if_neg (show ¬ (swX2_immediateOrBranch_1 (x0) = 103) by rw [c_1]; decide), if_neg (show ¬ (swX2_immediateOrBranch_1 (x0) = 106) by rw [c_1]; decide), if_neg (show ¬ (swX2_immediateOrBranch_1 (x0) = 110) by rw [c_1]; decide), if_neg (show ¬ (swX2_immediateOrBranch_1 (x0) = 113) by rw [c_1]; decide), if_neg (show ¬ (swX2_immediateOrBranch_1 (x0) = 116) by rw [c_1]; decide), if_neg (show ¬ (swX2_immediateOrBranch_1 (x0) = 119) by rw [c_1]; decide), if_pos c_1]).trans hv), trivial⟩, hS.F ht⟩) hS.2.2 dX2_immediateOrBranch_125
  · refine my_table (tgt := 126) hx hb dX2_immediateOrBranch_1 (by decide) c_1 (by decide) ?_
    refine lv_sipush (v := 144) hx hb dX2_immediateOrBranch_126 (by decide) ?_
    exact W.iret (v := 144) hx hb hr (fun t ht hW => ⟨⟨_, (), rfl, ((show 144 = (fX2_immediateOrBranch x0) by unfold fX2_immediateOrBranch; rw [if_neg (show ¬ (swX2_immediateOrBranch_1 (x0) = 103) by rw [c_1]; decide), if_neg (show ¬ (swX2_immediateOrBranch_1 (x0) = 106) by rw [c_1]; decide), if_neg (show ¬ (swX2_immediateOrBranch_1 (x0) = 110) by rw [c_1]; decide), if_neg (show ¬ (swX2_immediateOrBranch_1 (x0) = 113) by rw [c_1]; decide), if_neg (show ¬ (swX2_immediateOrBranch_1 (x0) = 116) by rw [c_1]; decide), if_neg (show ¬ (swX2_immediateOrBranch_1 (x0) = 119) by rw [c_1]; decide), if_neg (show ¬ (swX2_immediateOrBranch_1 (x0) = 122) by rw [c_1]; decide), if_pos c_1]).trans hv), trivial⟩, hS.F ht⟩) hS.2.2 dX2_immediateOrBranch_129
  · refine my_table (tgt := 130) hx hb dX2_immediateOrBranch_1 (by decide) c_1 (by decide) ?_
    refine lv_sipush (v := 128) hx hb dX2_immediateOrBranch_130 (by decide) ?_
    exact W.iret (v := 128) hx hb hr (fun t ht hW => ⟨⟨_, (), rfl, ((show 128 = (fX2_immediateOrBranch x0) by unfold fX2_immediateOrBranch; rw [if_neg (show ¬ (swX2_immediateOrBranch_1 (x0) = 103) by rw [c_1]; decide), if_neg (show ¬ (swX2_immediateOrBranch_1 (x0) = 106) by rw [c_1]; decide), if_neg (show ¬ (swX2_immediateOrBranch_1 (x0) = 110) by rw [c_1]; decide), if_neg (show ¬ (swX2_immediateOrBranch_1 (x0) = 113) by rw [c_1]; decide), if_neg (show ¬ (swX2_immediateOrBranch_1 (x0) = 116) by rw [c_1]; decide), if_neg (show ¬ (swX2_immediateOrBranch_1 (x0) = 119) by rw [c_1]; decide), if_neg (show ¬ (swX2_immediateOrBranch_1 (x0) = 122) by rw [c_1]; decide), if_neg (show ¬ (swX2_immediateOrBranch_1 (x0) = 125) by rw [c_1]; decide), if_pos c_1]).trans hv), trivial⟩, hS.F ht⟩) hS.2.2 dX2_immediateOrBranch_133
  · refine my_table (tgt := 134) hx hb dX2_immediateOrBranch_1 (by decide) c_1 (by decide) ?_
    refine lv_iconst (v := (-1)) hx hb dX2_immediateOrBranch_134 (by decide) ?_
    exact W.iret (v := (-1)) hx hb hr (fun t ht hW => ⟨⟨_, (), rfl, ((show (-1) = (fX2_immediateOrBranch x0) by unfold fX2_immediateOrBranch; rw [if_neg (show ¬ (swX2_immediateOrBranch_1 (x0) = 103) by rw [c_1]; decide), if_neg (show ¬ (swX2_immediateOrBranch_1 (x0) = 106) by rw [c_1]; decide), if_neg (show ¬ (swX2_immediateOrBranch_1 (x0) = 110) by rw [c_1]; decide), if_neg (show ¬ (swX2_immediateOrBranch_1 (x0) = 113) by rw [c_1]; decide), if_neg (show ¬ (swX2_immediateOrBranch_1 (x0) = 116) by rw [c_1]; decide), if_neg (show ¬ (swX2_immediateOrBranch_1 (x0) = 119) by rw [c_1]; decide), if_neg (show ¬ (swX2_immediateOrBranch_1 (x0) = 122) by rw [c_1]; decide), if_neg (show ¬ (swX2_immediateOrBranch_1 (x0) = 125) by rw [c_1]; decide), if_neg (show ¬ (swX2_immediateOrBranch_1 (x0) = 129) by rw [c_1]; decide)]).trans hv), trivial⟩, hS.F ht⟩) hS.2.2 dX2_immediateOrBranch_135
def swX2_memory_1 (x : Int32) : Int := swT 32 61 [135, 135, 139, 135, 135, 135, 139, 164, 143, 143, 143, 143, 164, 164, 143, 164, 146, 149, 164, 152, 164, 155, 164, 164, 146, 158, 164, 164, 164, 161] 164 x
theorem swX2_memory_1_c (x : Int32) : swX2_memory_1 x = 135 ∨ swX2_memory_1 x = 139 ∨ swX2_memory_1 x = 143 ∨ swX2_memory_1 x = 146 ∨ swX2_memory_1 x = 149 ∨ swX2_memory_1 x = 152 ∨ swX2_memory_1 x = 155 ∨ swX2_memory_1 x = 158 ∨ swX2_memory_1 x = 161 ∨ swX2_memory_1 x = 164 := (show ∀ v ∈ ([164, 135, 135, 139, 135, 135, 135, 139, 164, 143, 143, 143, 143, 164, 164, 143, 164, 146, 149, 164, 152, 164, 155, 164, 164, 146, 158, 164, 164, 164, 161] : List Int), v = 135 ∨ v = 139 ∨ v = 143 ∨ v = 146 ∨ v = 149 ∨ v = 152 ∨ v = 155 ∨ v = 158 ∨ v = 161 ∨ v = 164 by decide) _ (swT_mem _ _ _ _ _)
def fX2_memory (x0 : Int32) : Int32 := if swX2_memory_1 (x0) = 135 then 145 else if swX2_memory_1 (x0) = 139 then 177 else if swX2_memory_1 (x0) = 143 then 50 else if swX2_memory_1 (x0) = 146 then 8 else if swX2_memory_1 (x0) = 149 then 262161 else if swX2_memory_1 (x0) = 152 then 16 else if swX2_memory_1 (x0) = 155 then 2359313 else if swX2_memory_1 (x0) = 158 then 32786 else if swX2_memory_1 (x0) = 161 then 2129938 else (-1)
set_option maxHeartbeats 4000000 in
set_option maxRecDepth 100000 in
theorem kX2_memory (l : Launch) (sz : Nat) (x0 : Int32) : Met l yX2_memory wsX2_memory ({ frames := 0, cells := 0, slots := 0, locals := 0 }) (pu_Pc [.int (x0)] sz) (ro_Qi (fX2_memory x0) sz) 0 0 (ro sz) := by
  refine Met.ofW (cc := cX2_memory) (maxL := 1) (ret := (some .int)) (by decide) rfl ?_
  intro p e s m args below meth c s₁ B0 hml hv
  obtain ⟨rfl, hsz⟩ := hv
  have hx := B0.exec
  have hb := B0.bytes
  have hr := B0.returns
  have hts := atoms_spec (ws := wsX2_memory) B0.pre
  have hown : s.vm.findClass RX2 = some m.cls := findClass_of_methodNamed B0.named
  have hlocks := B0.notSynchronized
  subst hsz
  have hA : ∀ q : Nat, s.heap.size ≤ q → ro s.heap.size q := fun _ h => h
  have hS : va_S (ro s.heap.size) s.heap s.heap [] := va_S.rf
  have hl := lv_entry ([.int (x0)]) (n := 1) (Nat.le_of_ble_eq_true rfl)
  rw [lg_entry_eq]
  generalize (lg_sl ([.int (x0)]) ++ List.replicate (1 - (lg_sl ([.int (x0)])).length) Slot.unset).toArray = ls at hl ⊢
  have hl : lv_has ls 1 [(0, .int (x0))] := hl
  have hv : (fX2_memory x0) = (fX2_memory x0) := rfl
  refine lv_iload_n hx hb dX2_memory_0 rfl (lv_at hl 0 rfl) ?_
  rcases swX2_memory_1_c (x0) with c_1 | c_1 | c_1 | c_1 | c_1 | c_1 | c_1 | c_1 | c_1 | c_1
  · refine my_table (tgt := 136) hx hb dX2_memory_1 (by decide) c_1 (by decide) ?_
    refine lv_sipush (v := 145) hx hb dX2_memory_136 (by decide) ?_
    exact W.iret (v := 145) hx hb hr (fun t ht hW => ⟨⟨_, (), rfl, ((show 145 = (fX2_memory x0) by unfold fX2_memory; rw [if_pos c_1]).trans hv), trivial⟩, hS.F ht⟩) hS.2.2 dX2_memory_139
  · refine my_table (tgt := 140) hx hb dX2_memory_1 (by decide) c_1 (by decide) ?_
    refine lv_sipush (v := 177) hx hb dX2_memory_140 (by decide) ?_
    exact W.iret (v := 177) hx hb hr (fun t ht hW => ⟨⟨_, (), rfl, ((show 177 = (fX2_memory x0) by unfold fX2_memory; rw [if_neg (show ¬ (swX2_memory_1 (x0) = 135) by rw [c_1]; decide), if_pos c_1]).trans hv), trivial⟩, hS.F ht⟩) hS.2.2 dX2_memory_143
  · refine my_table (tgt := 144) hx hb dX2_memory_1 (by decide) c_1 (by decide) ?_
    refine lv_bipush (v := 50) hx hb dX2_memory_144 (by decide) ?_
    exact W.iret (v := 50) hx hb hr (fun t ht hW => ⟨⟨_, (), rfl, ((show 50 = (fX2_memory x0) by unfold fX2_memory; rw [if_neg (show ¬ (swX2_memory_1 (x0) = 135) by rw [c_1]; decide), if_neg (show ¬ (swX2_memory_1 (x0) = 139) by rw [c_1]; decide), if_pos c_1]).trans hv), trivial⟩, hS.F ht⟩) hS.2.2 dX2_memory_146
  · refine my_table (tgt := 147) hx hb dX2_memory_1 (by decide) c_1 (by decide) ?_
    refine lv_bipush (v := 8) hx hb dX2_memory_147 (by decide) ?_
    exact W.iret (v := 8) hx hb hr (fun t ht hW => ⟨⟨_, (), rfl, ((show 8 = (fX2_memory x0) by unfold fX2_memory; rw [if_neg (show ¬ (swX2_memory_1 (x0) = 135) by rw [c_1]; decide), if_neg (show ¬ (swX2_memory_1 (x0) = 139) by rw [c_1]; decide), if_neg (show ¬ (swX2_memory_1 (x0) = 143) by rw [c_1]; decide), if_pos c_1]).trans hv), trivial⟩, hS.F ht⟩) hS.2.2 dX2_memory_149
  · refine my_table (tgt := 150) hx hb dX2_memory_1 (by decide) c_1 (by decide) ?_
    refine lv_ldc (v := 262161) hx hb hown (hts (.constant RX2 68 (262161)) (by decide +kernel)) dX2_memory_150 ?_
    exact W.iret (v := 262161) hx hb hr (fun t ht hW => ⟨⟨_, (), rfl, ((show 262161 = (fX2_memory x0) by unfold fX2_memory; rw [if_neg (show ¬ (swX2_memory_1 (x0) = 135) by rw [c_1]; decide), if_neg (show ¬ (swX2_memory_1 (x0) = 139) by rw [c_1]; decide), if_neg (show ¬ (swX2_memory_1 (x0) = 143) by rw [c_1]; decide), if_neg (show ¬ (swX2_memory_1 (x0) = 146) by rw [c_1]; decide), if_pos c_1]).trans hv), trivial⟩, hS.F ht⟩) hS.2.2 dX2_memory_152
  · refine my_table (tgt := 153) hx hb dX2_memory_1 (by decide) c_1 (by decide) ?_
    refine lv_bipush (v := 16) hx hb dX2_memory_153 (by decide) ?_
    exact W.iret (v := 16) hx hb hr (fun t ht hW => ⟨⟨_, (), rfl, ((show 16 = (fX2_memory x0) by unfold fX2_memory; rw [if_neg (show ¬ (swX2_memory_1 (x0) = 135) by rw [c_1]; decide), if_neg (show ¬ (swX2_memory_1 (x0) = 139) by rw [c_1]; decide), if_neg (show ¬ (swX2_memory_1 (x0) = 143) by rw [c_1]; decide), if_neg (show ¬ (swX2_memory_1 (x0) = 146) by rw [c_1]; decide), if_neg (show ¬ (swX2_memory_1 (x0) = 149) by rw [c_1]; decide), if_pos c_1]).trans hv), trivial⟩, hS.F ht⟩) hS.2.2 dX2_memory_155
  · refine my_table (tgt := 156) hx hb dX2_memory_1 (by decide) c_1 (by decide) ?_
    refine lv_ldc (v := 2359313) hx hb hown (hts (.constant RX2 69 (2359313)) (by decide +kernel)) dX2_memory_156 ?_
    exact W.iret (v := 2359313) hx hb hr (fun t ht hW => ⟨⟨_, (), rfl, ((show 2359313 = (fX2_memory x0) by unfold fX2_memory; rw [if_neg (show ¬ (swX2_memory_1 (x0) = 135) by rw [c_1]; decide), if_neg (show ¬ (swX2_memory_1 (x0) = 139) by rw [c_1]; decide), if_neg (show ¬ (swX2_memory_1 (x0) = 143) by rw [c_1]; decide), if_neg (show ¬ (swX2_memory_1 (x0) = 146) by rw [c_1]; decide), if_neg (show ¬ (swX2_memory_1 (x0) = 149) by rw [c_1]; decide), if_neg (show ¬ (swX2_memory_1 (x0) = 152) by rw [c_1]; decide), if_pos c_1]).trans hv), trivial⟩, hS.F ht⟩) hS.2.2 dX2_memory_158
  · refine my_table (tgt := 159) hx hb dX2_memory_1 (by decide) c_1 (by decide) ?_
    refine lv_ldc (v := 32786) hx hb hown (hts (.constant RX2 70 (32786)) (by decide +kernel)) dX2_memory_159 ?_
    exact W.iret (v := 32786) hx hb hr (fun t ht hW => ⟨⟨_, (), rfl, ((show 32786 = (fX2_memory x0) by unfold fX2_memory; rw [if_neg (show ¬ (swX2_memory_1 (x0) = 135) by rw [c_1]; decide), if_neg (show ¬ (swX2_memory_1 (x0) = 139) by rw [c_1]; decide), if_neg (show ¬ (swX2_memory_1 (x0) = 143) by rw [c_1]; decide), if_neg (show ¬ (swX2_memory_1 (x0) = 146) by rw [c_1]; decide), if_neg (show ¬ (swX2_memory_1 (x0) = 149) by rw [c_1]; decide), if_neg (show ¬ (swX2_memory_1 (x0) = 152) by rw [c_1]; decide), if_neg (show ¬ (swX2_memory_1 (x0) = 155) by rw [c_1]; decide), if_pos c_1]).trans hv), trivial⟩, hS.F ht⟩) hS.2.2 dX2_memory_161
  · refine my_table (tgt := 162) hx hb dX2_memory_1 (by decide) c_1 (by decide) ?_
    refine lv_ldc (v := 2129938) hx hb hown (hts (.constant RX2 71 (2129938)) (by decide +kernel)) dX2_memory_162 ?_
    exact W.iret (v := 2129938) hx hb hr (fun t ht hW => ⟨⟨_, (), rfl, ((show 2129938 = (fX2_memory x0) by unfold fX2_memory; rw [if_neg (show ¬ (swX2_memory_1 (x0) = 135) by rw [c_1]; decide), if_neg (show ¬ (swX2_memory_1 (x0) = 139) by rw [c_1]; decide), if_neg (show ¬ (swX2_memory_1 (x0) = 143) by rw [c_1]; decide), if_neg (show ¬ (swX2_memory_1 (x0) = 146) by rw [c_1]; decide), if_neg (show ¬ (swX2_memory_1 (x0) = 149) by rw [c_1]; decide), if_neg (show ¬ (swX2_memory_1 (x0) = 152) by rw [c_1]; decide), if_neg (show ¬ (swX2_memory_1 (x0) = 155) by rw [c_1]; decide), if_neg (show ¬ (swX2_memory_1 (x0) = 158) by rw [c_1]; decide), if_pos c_1]).trans hv), trivial⟩, hS.F ht⟩) hS.2.2 dX2_memory_164
  · refine my_table (tgt := 165) hx hb dX2_memory_1 (by decide) c_1 (by decide) ?_
    refine lv_iconst (v := (-1)) hx hb dX2_memory_165 (by decide) ?_
    exact W.iret (v := (-1)) hx hb hr (fun t ht hW => ⟨⟨_, (), rfl, ((show (-1) = (fX2_memory x0) by unfold fX2_memory; rw [if_neg (show ¬ (swX2_memory_1 (x0) = 135) by rw [c_1]; decide), if_neg (show ¬ (swX2_memory_1 (x0) = 139) by rw [c_1]; decide), if_neg (show ¬ (swX2_memory_1 (x0) = 143) by rw [c_1]; decide), if_neg (show ¬ (swX2_memory_1 (x0) = 146) by rw [c_1]; decide), if_neg (show ¬ (swX2_memory_1 (x0) = 149) by rw [c_1]; decide), if_neg (show ¬ (swX2_memory_1 (x0) = 152) by rw [c_1]; decide), if_neg (show ¬ (swX2_memory_1 (x0) = 155) by rw [c_1]; decide), if_neg (show ¬ (swX2_memory_1 (x0) = 158) by rw [c_1]; decide), if_neg (show ¬ (swX2_memory_1 (x0) = 161) by rw [c_1]; decide)]).trans hv), trivial⟩, hS.F ht⟩) hS.2.2 dX2_memory_166
def swX2_ofWhole_1 (x : Int32) : Int := Op.lookupswitch.offset [(32, 27), (33, 30)] 33 x.toInt
theorem swX2_ofWhole_1_c (x : Int32) : swX2_ofWhole_1 x = 27 ∨ swX2_ofWhole_1 x = 30 ∨ swX2_ofWhole_1 x = 33 := (show ∀ v ∈ ([33, 27, 30] : List Int), v = 27 ∨ v = 30 ∨ v = 33 by decide) _ (lk_mem _ _ _)
def fX2_ofWhole (x0 : Int32) : Int32 := if swX2_ofWhole_1 (x0) = 27 then 540677 else if swX2_ofWhole_1 (x0) = 30 then 4734981 else (-1)
set_option maxHeartbeats 4000000 in
set_option maxRecDepth 100000 in
theorem kX2_ofWhole (l : Launch) (sz : Nat) (x0 : Int32) : Met l yX2_ofWhole wsX2_ofWhole ({ frames := 0, cells := 0, slots := 0, locals := 0 }) (pu_Pc [.int (x0)] sz) (ro_Qi (fX2_ofWhole x0) sz) 0 0 (ro sz) := by
  refine Met.ofW (cc := cX2_ofWhole) (maxL := 1) (ret := (some .int)) (by decide) rfl ?_
  intro p e s m args below meth c s₁ B0 hml hv
  obtain ⟨rfl, hsz⟩ := hv
  have hx := B0.exec
  have hb := B0.bytes
  have hr := B0.returns
  have hts := atoms_spec (ws := wsX2_ofWhole) B0.pre
  have hown : s.vm.findClass RX2 = some m.cls := findClass_of_methodNamed B0.named
  have hlocks := B0.notSynchronized
  subst hsz
  have hA : ∀ q : Nat, s.heap.size ≤ q → ro s.heap.size q := fun _ h => h
  have hS : va_S (ro s.heap.size) s.heap s.heap [] := va_S.rf
  have hl := lv_entry ([.int (x0)]) (n := 1) (Nat.le_of_ble_eq_true rfl)
  rw [lg_entry_eq]
  generalize (lg_sl ([.int (x0)]) ++ List.replicate (1 - (lg_sl ([.int (x0)])).length) Slot.unset).toArray = ls at hl ⊢
  have hl : lv_has ls 1 [(0, .int (x0))] := hl
  have hv : (fX2_ofWhole x0) = (fX2_ofWhole x0) := rfl
  refine lv_iload_n hx hb dX2_ofWhole_0 rfl (lv_at hl 0 rfl) ?_
  rcases swX2_ofWhole_1_c (x0) with c_1 | c_1 | c_1
  · refine lv_lookup (tgt := 28) hx hb dX2_ofWhole_1 (by decide) c_1 (by decide) ?_
    refine lv_ldc (v := 540677) hx hb hown (hts (.constant RX2 88 (540677)) (by decide +kernel)) dX2_ofWhole_28 ?_
    exact W.iret (v := 540677) hx hb hr (fun t ht hW => ⟨⟨_, (), rfl, ((show 540677 = (fX2_ofWhole x0) by unfold fX2_ofWhole; rw [if_pos c_1]).trans hv), trivial⟩, hS.F ht⟩) hS.2.2 dX2_ofWhole_30
  · refine lv_lookup (tgt := 31) hx hb dX2_ofWhole_1 (by decide) c_1 (by decide) ?_
    refine lv_ldc (v := 4734981) hx hb hown (hts (.constant RX2 77 (4734981)) (by decide +kernel)) dX2_ofWhole_31 ?_
    exact W.iret (v := 4734981) hx hb hr (fun t ht hW => ⟨⟨_, (), rfl, ((show 4734981 = (fX2_ofWhole x0) by unfold fX2_ofWhole; rw [if_neg (show ¬ (swX2_ofWhole_1 (x0) = 27) by rw [c_1]; decide), if_pos c_1]).trans hv), trivial⟩, hS.F ht⟩) hS.2.2 dX2_ofWhole_33
  · refine lv_lookup (tgt := 34) hx hb dX2_ofWhole_1 (by decide) c_1 (by decide) ?_
    refine lv_iconst (v := (-1)) hx hb dX2_ofWhole_34 (by decide) ?_
    exact W.iret (v := (-1)) hx hb hr (fun t ht hW => ⟨⟨_, (), rfl, ((show (-1) = (fX2_ofWhole x0) by unfold fX2_ofWhole; rw [if_neg (show ¬ (swX2_ofWhole_1 (x0) = 27) by rw [c_1]; decide), if_neg (show ¬ (swX2_ofWhole_1 (x0) = 30) by rw [c_1]; decide)]).trans hv), trivial⟩, hS.F ht⟩) hS.2.2 dX2_ofWhole_35
def swX2_fraction_1 (x : Int32) : Int := swT 0 36 [163, 163, 163, 166, 169, 172, 172, 172, 181, 181, 181, 181, 172, 172, 172, 172, 181, 175, 178, 178, 181, 181, 181, 181, 181, 181, 181, 181, 181, 181, 181, 181, 181, 181, 181, 181, 172] 181 x
theorem swX2_fraction_1_c (x : Int32) : swX2_fraction_1 x = 163 ∨ swX2_fraction_1 x = 166 ∨ swX2_fraction_1 x = 169 ∨ swX2_fraction_1 x = 172 ∨ swX2_fraction_1 x = 175 ∨ swX2_fraction_1 x = 178 ∨ swX2_fraction_1 x = 181 := (show ∀ v ∈ ([181, 163, 163, 163, 166, 169, 172, 172, 172, 181, 181, 181, 181, 172, 172, 172, 172, 181, 175, 178, 178, 181, 181, 181, 181, 181, 181, 181, 181, 181, 181, 181, 181, 181, 181, 181, 181, 172] : List Int), v = 163 ∨ v = 166 ∨ v = 169 ∨ v = 172 ∨ v = 175 ∨ v = 178 ∨ v = 181 by decide) _ (swT_mem _ _ _ _ _)
def fX2_fraction (x0 : Int32) : Int32 := if swX2_fraction_1 (x0) = 163 then 573445 else if swX2_fraction_1 (x0) = 166 then 573446 else if swX2_fraction_1 (x0) = 169 then 540678 else if swX2_fraction_1 (x0) = 172 then 540677 else if swX2_fraction_1 (x0) = 175 then 610309 else if swX2_fraction_1 (x0) = 178 then 606245 else if x0 < 48 then (-1) else 61445
set_option maxHeartbeats 4000000 in
set_option maxRecDepth 100000 in
theorem kX2_fraction (l : Launch) (sz : Nat) (x0 : Int32) : Met l yX2_fraction wsX2_fraction ({ frames := 0, cells := 0, slots := 0, locals := 0 }) (pu_Pc [.int (x0)] sz) (ro_Qi (fX2_fraction x0) sz) 0 0 (ro sz) := by
  refine Met.ofW (cc := cX2_fraction) (maxL := 1) (ret := (some .int)) (by decide) rfl ?_
  intro p e s m args below meth c s₁ B0 hml hv
  obtain ⟨rfl, hsz⟩ := hv
  have hx := B0.exec
  have hb := B0.bytes
  have hr := B0.returns
  have hts := atoms_spec (ws := wsX2_fraction) B0.pre
  have hown : s.vm.findClass RX2 = some m.cls := findClass_of_methodNamed B0.named
  have hlocks := B0.notSynchronized
  subst hsz
  have hA : ∀ q : Nat, s.heap.size ≤ q → ro s.heap.size q := fun _ h => h
  have hS : va_S (ro s.heap.size) s.heap s.heap [] := va_S.rf
  have hl := lv_entry ([.int (x0)]) (n := 1) (Nat.le_of_ble_eq_true rfl)
  rw [lg_entry_eq]
  generalize (lg_sl ([.int (x0)]) ++ List.replicate (1 - (lg_sl ([.int (x0)])).length) Slot.unset).toArray = ls at hl ⊢
  have hl : lv_has ls 1 [(0, .int (x0))] := hl
  have hv : (fX2_fraction x0) = (fX2_fraction x0) := rfl
  refine lv_iload_n hx hb dX2_fraction_0 rfl (lv_at hl 0 rfl) ?_
  rcases swX2_fraction_1_c (x0) with c_1 | c_1 | c_1 | c_1 | c_1 | c_1 | c_1
  · refine my_table (tgt := 164) hx hb dX2_fraction_1 (by decide) c_1 (by decide) ?_
    refine lv_ldc (v := 573445) hx hb hown (hts (.constant RX2 95 (573445)) (by decide +kernel)) dX2_fraction_164 ?_
    exact W.iret (v := 573445) hx hb hr (fun t ht hW => ⟨⟨_, (), rfl, ((show 573445 = (fX2_fraction x0) by unfold fX2_fraction; rw [if_pos c_1]).trans hv), trivial⟩, hS.F ht⟩) hS.2.2 dX2_fraction_166
  · refine my_table (tgt := 167) hx hb dX2_fraction_1 (by decide) c_1 (by decide) ?_
    refine lv_ldc (v := 573446) hx hb hown (hts (.constant RX2 96 (573446)) (by decide +kernel)) dX2_fraction_167 ?_
    exact W.iret (v := 573446) hx hb hr (fun t ht hW => ⟨⟨_, (), rfl, ((show 573446 = (fX2_fraction x0) by unfold fX2_fraction; rw [if_neg (show ¬ (swX2_fraction_1 (x0) = 163) by rw [c_1]; decide), if_pos c_1]).trans hv), trivial⟩, hS.F ht⟩) hS.2.2 dX2_fraction_169
  · refine my_table (tgt := 170) hx hb dX2_fraction_1 (by decide) c_1 (by decide) ?_
    refine lv_ldc (v := 540678) hx hb hown (hts (.constant RX2 97 (540678)) (by decide +kernel)) dX2_fraction_170 ?_
    exact W.iret (v := 540678) hx hb hr (fun t ht hW => ⟨⟨_, (), rfl, ((show 540678 = (fX2_fraction x0) by unfold fX2_fraction; rw [if_neg (show ¬ (swX2_fraction_1 (x0) = 163) by rw [c_1]; decide), if_neg (show ¬ (swX2_fraction_1 (x0) = 166) by rw [c_1]; decide), if_pos c_1]).trans hv), trivial⟩, hS.F ht⟩) hS.2.2 dX2_fraction_172
  · refine my_table (tgt := 173) hx hb dX2_fraction_1 (by decide) c_1 (by decide) ?_
    refine lv_ldc (v := 540677) hx hb hown (hts (.constant RX2 88 (540677)) (by decide +kernel)) dX2_fraction_173 ?_
    exact W.iret (v := 540677) hx hb hr (fun t ht hW => ⟨⟨_, (), rfl, ((show 540677 = (fX2_fraction x0) by unfold fX2_fraction; rw [if_neg (show ¬ (swX2_fraction_1 (x0) = 163) by rw [c_1]; decide), if_neg (show ¬ (swX2_fraction_1 (x0) = 166) by rw [c_1]; decide), if_neg (show ¬ (swX2_fraction_1 (x0) = 169) by rw [c_1]; decide), if_pos c_1]).trans hv), trivial⟩, hS.F ht⟩) hS.2.2 dX2_fraction_175
  · refine my_table (tgt := 176) hx hb dX2_fraction_1 (by decide) c_1 (by decide) ?_
    refine lv_ldc (v := 610309) hx hb hown (hts (.constant RX2 98 (610309)) (by decide +kernel)) dX2_fraction_176 ?_
    exact W.iret (v := 610309) hx hb hr (fun t ht hW => ⟨⟨_, (), rfl, ((show 610309 = (fX2_fraction x0) by unfold fX2_fraction; rw [if_neg (show ¬ (swX2_fraction_1 (x0) = 163) by rw [c_1]; decide), if_neg (show ¬ (swX2_fraction_1 (x0) = 166) by rw [c_1]; decide), if_neg (show ¬ (swX2_fraction_1 (x0) = 169) by rw [c_1]; decide), if_neg (show ¬ (swX2_fraction_1 (x0) = 172) by rw [c_1]; decide), if_pos c_1]).trans hv), trivial⟩, hS.F ht⟩) hS.2.2 dX2_fraction_178
  · refine my_table (tgt := 179) hx hb dX2_fraction_1 (by decide) c_1 (by decide) ?_
    refine lv_ldc (v := 606245) hx hb hown (hts (.constant RX2 99 (606245)) (by decide +kernel)) dX2_fraction_179 ?_
    exact W.iret (v := 606245) hx hb hr (fun t ht hW => ⟨⟨_, (), rfl, ((show 606245 = (fX2_fraction x0) by unfold fX2_fraction; rw [if_neg (show ¬ (swX2_fraction_1 (x0) = 163) by rw [c_1]; decide), if_neg (show ¬ (swX2_fraction_1 (x0) = 166) by rw [c_1]; decide), if_neg (show ¬ (swX2_fraction_1 (x0) = 169) by rw [c_1]; decide), if_neg (show ¬ (swX2_fraction_1 (x0) = 172) by rw [c_1]; decide), if_neg (show ¬ (swX2_fraction_1 (x0) = 175) by rw [c_1]; decide), if_pos c_1]).trans hv), trivial⟩, hS.F ht⟩) hS.2.2 dX2_fraction_181
  · refine my_table (tgt := 182) hx hb dX2_fraction_1 (by decide) c_1 (by decide) ?_
    refine lv_iload_n hx hb dX2_fraction_182 rfl (lv_at hl 0 rfl) ?_
    refine lv_bipush (v := 48) hx hb dX2_fraction_183 (by decide) ?_
    refine lv_icmp_lt (tgt := 193) hx hb dX2_fraction_185 (by decide) (fun c_2 => ?_) (fun c_2 => ?_)
    · refine lv_iconst (v := (-1)) hx hb dX2_fraction_193 (by decide) ?_
      exact W.iret (v := (-1)) hx hb hr (fun t ht hW => ⟨⟨_, (), rfl, ((show (-1) = (fX2_fraction x0) by unfold fX2_fraction; rw [if_neg (show ¬ (swX2_fraction_1 (x0) = 163) by rw [c_1]; decide), if_neg (show ¬ (swX2_fraction_1 (x0) = 166) by rw [c_1]; decide), if_neg (show ¬ (swX2_fraction_1 (x0) = 169) by rw [c_1]; decide), if_neg (show ¬ (swX2_fraction_1 (x0) = 172) by rw [c_1]; decide), if_neg (show ¬ (swX2_fraction_1 (x0) = 175) by rw [c_1]; decide), if_neg (show ¬ (swX2_fraction_1 (x0) = 178) by rw [c_1]; decide), if_pos c_2]).trans hv), trivial⟩, hS.F ht⟩) hS.2.2 dX2_fraction_194
    · refine lv_ldc (v := 61445) hx hb hown (hts (.constant RX2 100 (61445)) (by decide +kernel)) dX2_fraction_188 ?_
      refine lv_goto (tgt := 194) hx hb dX2_fraction_190 (by decide) ?_
      exact W.iret (v := 61445) hx hb hr (fun t ht hW => ⟨⟨_, (), rfl, ((show 61445 = (fX2_fraction x0) by unfold fX2_fraction; rw [if_neg (show ¬ (swX2_fraction_1 (x0) = 163) by rw [c_1]; decide), if_neg (show ¬ (swX2_fraction_1 (x0) = 166) by rw [c_1]; decide), if_neg (show ¬ (swX2_fraction_1 (x0) = 169) by rw [c_1]; decide), if_neg (show ¬ (swX2_fraction_1 (x0) = 172) by rw [c_1]; decide), if_neg (show ¬ (swX2_fraction_1 (x0) = 175) by rw [c_1]; decide), if_neg (show ¬ (swX2_fraction_1 (x0) = 178) by rw [c_1]; decide), if_neg c_2]).trans hv), trivial⟩, hS.F ht⟩) hS.2.2 dX2_fraction_194
def fX2_answersWhole (x0 : Int32) : Int32 := if x0 < 12 then if x0 = 36 then 1 else 0 else if x0 ≤ 15 then 1 else if x0 = 36 then 1 else 0
set_option maxHeartbeats 4000000 in
set_option maxRecDepth 100000 in
theorem kX2_answersWhole (l : Launch) (sz : Nat) (x0 : Int32) : Met l yX2_answersWhole wsX2_answersWhole ({ frames := 0, cells := 0, slots := 0, locals := 0 }) (pu_Pc [.int (x0)] sz) (ro_Qi (fX2_answersWhole x0) sz) 0 0 (ro sz) := by
  refine Met.ofW (cc := cX2_answersWhole) (maxL := 1) (ret := (some .boolean)) (by decide) rfl ?_
  intro p e s m args below meth c s₁ B0 hml hv
  obtain ⟨rfl, hsz⟩ := hv
  have hx := B0.exec
  have hb := B0.bytes
  have hr := B0.returns
  have hts := atoms_spec (ws := wsX2_answersWhole) B0.pre
  have hown : s.vm.findClass RX2 = some m.cls := findClass_of_methodNamed B0.named
  have hlocks := B0.notSynchronized
  subst hsz
  have hA : ∀ q : Nat, s.heap.size ≤ q → ro s.heap.size q := fun _ h => h
  have hS : va_S (ro s.heap.size) s.heap s.heap [] := va_S.rf
  have hl := lv_entry ([.int (x0)]) (n := 1) (Nat.le_of_ble_eq_true rfl)
  rw [lg_entry_eq]
  generalize (lg_sl ([.int (x0)]) ++ List.replicate (1 - (lg_sl ([.int (x0)])).length) Slot.unset).toArray = ls at hl ⊢
  have hl : lv_has ls 1 [(0, .int (x0))] := hl
  have hv : (fX2_answersWhole x0) = (fX2_answersWhole x0) := rfl
  refine lv_iload_n hx hb dX2_answersWhole_0 rfl (lv_at hl 0 rfl) ?_
  refine lv_bipush (v := 12) hx hb dX2_answersWhole_1 (by decide) ?_
  refine lv_icmp_lt (tgt := 12) hx hb dX2_answersWhole_3 (by decide) (fun c_1 => ?_) (fun c_1 => ?_)
  · refine lv_iload_n hx hb dX2_answersWhole_12 rfl (lv_at hl 0 rfl) ?_
    refine lv_bipush (v := 36) hx hb dX2_answersWhole_13 (by decide) ?_
    refine lv_icmp_ne (tgt := 22) hx hb dX2_answersWhole_15 (by decide) (fun c_2 => ?_) (fun c_2 => ?_)
    · refine lv_iconst (v := 0) hx hb dX2_answersWhole_22 (by decide) ?_
      exact W.zret (v := 0) hx hb hr (by decide) (fun t ht hW => ⟨⟨_, (), rfl, ((show 0 = (fX2_answersWhole x0) by unfold fX2_answersWhole; rw [if_pos c_1, if_neg c_2]).trans hv), trivial⟩, hS.F ht⟩) hS.2.2 dX2_answersWhole_23
    · refine lv_iconst (v := 1) hx hb dX2_answersWhole_18 (by decide) ?_
      refine lv_goto (tgt := 23) hx hb dX2_answersWhole_19 (by decide) ?_
      exact W.zret (v := 1) hx hb hr (by decide) (fun t ht hW => ⟨⟨_, (), rfl, ((show 1 = (fX2_answersWhole x0) by unfold fX2_answersWhole; rw [if_pos c_1, if_pos c_2]).trans hv), trivial⟩, hS.F ht⟩) hS.2.2 dX2_answersWhole_23
  · refine lv_iload_n hx hb dX2_answersWhole_6 rfl (lv_at hl 0 rfl) ?_
    refine lv_bipush (v := 15) hx hb dX2_answersWhole_7 (by decide) ?_
    refine lv_icmp_le (tgt := 18) hx hb dX2_answersWhole_9 (by decide) (fun c_3 => ?_) (fun c_3 => ?_)
    · refine lv_iconst (v := 1) hx hb dX2_answersWhole_18 (by decide) ?_
      refine lv_goto (tgt := 23) hx hb dX2_answersWhole_19 (by decide) ?_
      exact W.zret (v := 1) hx hb hr (by decide) (fun t ht hW => ⟨⟨_, (), rfl, ((show 1 = (fX2_answersWhole x0) by unfold fX2_answersWhole; rw [if_neg c_1, if_pos c_3]).trans hv), trivial⟩, hS.F ht⟩) hS.2.2 dX2_answersWhole_23
    · refine lv_iload_n hx hb dX2_answersWhole_12 rfl (lv_at hl 0 rfl) ?_
      refine lv_bipush (v := 36) hx hb dX2_answersWhole_13 (by decide) ?_
      refine lv_icmp_ne (tgt := 22) hx hb dX2_answersWhole_15 (by decide) (fun c_4 => ?_) (fun c_4 => ?_)
      · refine lv_iconst (v := 0) hx hb dX2_answersWhole_22 (by decide) ?_
        exact W.zret (v := 0) hx hb hr (by decide) (fun t ht hW => ⟨⟨_, (), rfl, ((show 0 = (fX2_answersWhole x0) by unfold fX2_answersWhole; rw [if_neg c_1, if_neg c_3, if_neg c_4]).trans hv), trivial⟩, hS.F ht⟩) hS.2.2 dX2_answersWhole_23
      · refine lv_iconst (v := 1) hx hb dX2_answersWhole_18 (by decide) ?_
        refine lv_goto (tgt := 23) hx hb dX2_answersWhole_19 (by decide) ?_
        exact W.zret (v := 1) hx hb hr (by decide) (fun t ht hW => ⟨⟨_, (), rfl, ((show 1 = (fX2_answersWhole x0) by unfold fX2_answersWhole; rw [if_neg c_1, if_neg c_3, if_pos c_4]).trans hv), trivial⟩, hS.F ht⟩) hS.2.2 dX2_answersWhole_23
def fX2_doubled (x0 : Int32) : Int32 := if (fX2_fraction x0) = (-1) then (-1) else if (fX4_has (fX2_fraction x0) 16384) = 0 then if (fX4_has (fX2_fraction x0) 32768) = 0 then if (fX4_has (fX2_fraction x0) 524288) = 0 then ((fX2_fraction x0) ||| 0) else if (fX2_answersWhole x0) = 0 then ((fX2_fraction x0) ||| (0 ||| 4194304)) else ((fX2_fraction x0) ||| 0) else if (fX4_has (fX2_fraction x0) 524288) = 0 then ((fX2_fraction x0) ||| (0 ||| 2097152)) else if (fX2_answersWhole x0) = 0 then ((fX2_fraction x0) ||| ((0 ||| 2097152) ||| 4194304)) else ((fX2_fraction x0) ||| (0 ||| 2097152)) else if (fX4_has (fX2_fraction x0) 32768) = 0 then if (fX4_has (fX2_fraction x0) 524288) = 0 then ((fX2_fraction x0) ||| 1048576) else if (fX2_answersWhole x0) = 0 then ((fX2_fraction x0) ||| (1048576 ||| 4194304)) else ((fX2_fraction x0) ||| 1048576) else if (fX4_has (fX2_fraction x0) 524288) = 0 then ((fX2_fraction x0) ||| (1048576 ||| 2097152)) else if (fX2_answersWhole x0) = 0 then ((fX2_fraction x0) ||| ((1048576 ||| 2097152) ||| 4194304)) else ((fX2_fraction x0) ||| (1048576 ||| 2097152))
set_option maxHeartbeats 4000000 in
set_option maxRecDepth 100000 in
theorem kX2_doubled (l : Launch) (sz : Nat) (x0 : Int32) : Met l yX2_doubled wsX2_doubled ({ frames := 1, cells := 0, slots := 0, locals := 21 }) (pu_Pc [.int (x0)] sz) (ro_Qi (fX2_doubled x0) sz) 0 0 (ro sz) := by
  refine Met.ofW (cc := cX2_doubled) (maxL := 3) (ret := (some .int)) (by decide) rfl ?_
  intro p e s m args below meth c s₁ B0 hml hv
  obtain ⟨rfl, hsz⟩ := hv
  have hx := B0.exec
  have hb := B0.bytes
  have hr := B0.returns
  have hts := atoms_spec (ws := wsX2_doubled) B0.pre
  have hown : s.vm.findClass RX2 = some m.cls := findClass_of_methodNamed B0.named
  have hlocks := B0.notSynchronized
  subst hsz
  have hA : ∀ q : Nat, s.heap.size ≤ q → ro s.heap.size q := fun _ h => h
  have hS : va_S (ro s.heap.size) s.heap s.heap [] := va_S.rf
  have hl := lv_entry ([.int (x0)]) (n := 3) (Nat.le_of_ble_eq_true rfl)
  rw [lg_entry_eq]
  generalize (lg_sl ([.int (x0)]) ++ List.replicate (3 - (lg_sl ([.int (x0)])).length) Slot.unset).toArray = ls at hl ⊢
  have hl : lv_has ls 3 [(0, .int (x0))] := hl
  have hv : (fX2_doubled x0) = (fX2_doubled x0) := rfl
  refine lv_iload_n hx hb dX2_doubled_0 rfl (lv_at hl 0 rfl) ?_
  refine ro_calli (va_runS (As := [.int (x0)]) (rest := []) ⟨hx, hb, hml, hown, hts⟩ (kX2_fraction l s.heap.size x0) (va_cwS 1 hts gX2_doubled_X2_fraction rfl rfl rfl (by decide +kernel) ⟨Nat.le_of_ble_eq_true rfl, Nat.le_of_ble_eq_true rfl⟩) pu_preS rfl rfl hl.1 rfl (lv_room (Nat.le_of_ble_eq_true rfl)) dX2_doubled_1 ⟨Nat.zero_le _, Nat.zero_le _⟩) hS hA (fun H locs kP hS => ?_)
  refine lv_istore_n (lv' := [(1, .int ((fX2_fraction x0))), (0, .int (x0))]) hx hb dX2_doubled_4 rfl hl (by decide) rfl (fun ls hl => ?_)
  refine lv_iload_n hx hb dX2_doubled_5 rfl (lv_at hl 0 rfl) ?_
  refine lv_iconst (v := (-1)) hx hb dX2_doubled_6 (by decide) ?_
  refine lv_icmp_ne (tgt := 12) hx hb dX2_doubled_7 (by decide) (fun c_1 => ?_) (fun c_1 => ?_)
  · refine lv_iload_n hx hb dX2_doubled_12 rfl (lv_at hl 0 rfl) ?_
    refine lv_sipush (v := 16384) hx hb dX2_doubled_13 (by decide) ?_
    refine ro_calli (va_runS (As := [.int ((fX2_fraction x0)), .int (16384)]) (rest := []) ⟨hx, hb, hml, hown, hts⟩ (kX4_has l H.size (fX2_fraction x0) 16384) (va_cwS 2 hts gX2_doubled_X4_has rfl rfl rfl (by decide +kernel) ⟨Nat.le_of_ble_eq_true rfl, Nat.le_of_ble_eq_true rfl⟩) pu_preS rfl rfl hl.1 rfl (lv_room (Nat.le_of_ble_eq_true rfl)) dX2_doubled_16 ⟨Nat.zero_le _, Nat.zero_le _⟩) hS hA (fun H locs kP hS => ?_)
    refine lv_if_eq (tgt := 27) hx hb dX2_doubled_19 (by decide) (fun c_2 => ?_) (fun c_2 => ?_)
    · refine lv_iconst (v := 0) hx hb dX2_doubled_27 (by decide) ?_
      refine lv_istore_n (lv' := [(2, .int (0)), (1, .int ((fX2_fraction x0))), (0, .int (x0))]) hx hb dX2_doubled_28 rfl hl (by decide) rfl (fun ls hl => ?_)
      refine lv_iload_n hx hb dX2_doubled_29 rfl (lv_at hl 1 rfl) ?_
      refine lv_ldc (v := 32768) hx hb hown (hts (.constant RX2 89 (32768)) (by decide +kernel)) dX2_doubled_30 ?_
      refine ro_calli (va_runS (As := [.int ((fX2_fraction x0)), .int (32768)]) (rest := []) ⟨hx, hb, hml, hown, hts⟩ (kX4_has l H.size (fX2_fraction x0) 32768) (va_cwS 2 hts gX2_doubled_X4_has rfl rfl rfl (by decide +kernel) ⟨Nat.le_of_ble_eq_true rfl, Nat.le_of_ble_eq_true rfl⟩) pu_preS rfl rfl hl.1 rfl (lv_room (Nat.le_of_ble_eq_true rfl)) dX2_doubled_32 ⟨Nat.zero_le _, Nat.zero_le _⟩) hS hA (fun H locs kP hS => ?_)
      refine lv_if_eq (tgt := 43) hx hb dX2_doubled_35 (by decide) (fun c_3 => ?_) (fun c_3 => ?_)
      · refine lv_iload_n hx hb dX2_doubled_43 rfl (lv_at hl 1 rfl) ?_
        refine lv_ldc (v := 524288) hx hb hown (hts (.constant RX2 90 (524288)) (by decide +kernel)) dX2_doubled_44 ?_
        refine ro_calli (va_runS (As := [.int ((fX2_fraction x0)), .int (524288)]) (rest := []) ⟨hx, hb, hml, hown, hts⟩ (kX4_has l H.size (fX2_fraction x0) 524288) (va_cwS 2 hts gX2_doubled_X4_has rfl rfl rfl (by decide +kernel) ⟨Nat.le_of_ble_eq_true rfl, Nat.le_of_ble_eq_true rfl⟩) pu_preS rfl rfl hl.1 rfl (lv_room (Nat.le_of_ble_eq_true rfl)) dX2_doubled_46 ⟨Nat.zero_le _, Nat.zero_le _⟩) hS hA (fun H locs kP hS => ?_)
        refine lv_if_eq (tgt := 64) hx hb dX2_doubled_49 (by decide) (fun c_4 => ?_) (fun c_4 => ?_)
        · refine lv_iload_n hx hb dX2_doubled_64 rfl (lv_at hl 1 rfl) ?_
          refine lv_iload_n hx hb dX2_doubled_65 rfl (lv_at hl 0 rfl) ?_
          refine lv_ior hx hb dX2_doubled_66 ?_
          exact W.iret (v := ((fX2_fraction x0) ||| 0)) hx hb hr (fun t ht hW => ⟨⟨_, (), rfl, ((show ((fX2_fraction x0) ||| 0) = (fX2_doubled x0) by unfold fX2_doubled; rw [if_neg c_1, if_pos c_2, if_pos c_3, if_pos c_4]).trans hv), trivial⟩, hS.F ht⟩) hS.2.2 dX2_doubled_67
        · refine lv_iload_n hx hb dX2_doubled_52 rfl (lv_at hl 2 rfl) ?_
          refine ro_calli (va_runS (As := [.int (x0)]) (rest := []) ⟨hx, hb, hml, hown, hts⟩ (kX2_answersWhole l H.size x0) (va_cwS 1 hts gX2_doubled_X2_answersWhole rfl rfl rfl (by decide +kernel) ⟨Nat.le_of_ble_eq_true rfl, Nat.le_of_ble_eq_true rfl⟩) pu_preS rfl rfl hl.1 rfl (lv_room (Nat.le_of_ble_eq_true rfl)) dX2_doubled_53 ⟨Nat.zero_le _, Nat.zero_le _⟩) hS hA (fun H locs kP hS => ?_)
          refine lv_if_ne (tgt := 64) hx hb dX2_doubled_56 (by decide) (fun c_5 => ?_) (fun c_5 => ?_)
          · refine lv_iload_n hx hb dX2_doubled_64 rfl (lv_at hl 1 rfl) ?_
            refine lv_iload_n hx hb dX2_doubled_65 rfl (lv_at hl 0 rfl) ?_
            refine lv_ior hx hb dX2_doubled_66 ?_
            exact W.iret (v := ((fX2_fraction x0) ||| 0)) hx hb hr (fun t ht hW => ⟨⟨_, (), rfl, ((show ((fX2_fraction x0) ||| 0) = (fX2_doubled x0) by unfold fX2_doubled; rw [if_neg c_1, if_pos c_2, if_pos c_3, if_neg c_4, if_neg c_5]).trans hv), trivial⟩, hS.F ht⟩) hS.2.2 dX2_doubled_67
          · refine lv_iload_n hx hb dX2_doubled_59 rfl (lv_at hl 0 rfl) ?_
            refine lv_ldc (v := 4194304) hx hb hown (hts (.constant RX2 32 (4194304)) (by decide +kernel)) dX2_doubled_60 ?_
            refine lv_ior hx hb dX2_doubled_62 ?_
            refine lv_istore_n (lv' := [(2, .int ((0 ||| 4194304))), (1, .int ((fX2_fraction x0))), (0, .int (x0))]) hx hb dX2_doubled_63 rfl hl (by decide) rfl (fun ls hl => ?_)
            refine lv_iload_n hx hb dX2_doubled_64 rfl (lv_at hl 1 rfl) ?_
            refine lv_iload_n hx hb dX2_doubled_65 rfl (lv_at hl 0 rfl) ?_
            refine lv_ior hx hb dX2_doubled_66 ?_
            exact W.iret (v := ((fX2_fraction x0) ||| (0 ||| 4194304))) hx hb hr (fun t ht hW => ⟨⟨_, (), rfl, ((show ((fX2_fraction x0) ||| (0 ||| 4194304)) = (fX2_doubled x0) by unfold fX2_doubled; rw [if_neg c_1, if_pos c_2, if_pos c_3, if_neg c_4, if_pos c_5]).trans hv), trivial⟩, hS.F ht⟩) hS.2.2 dX2_doubled_67
      · refine lv_iload_n hx hb dX2_doubled_38 rfl (lv_at hl 0 rfl) ?_
        refine lv_ldc (v := 2097152) hx hb hown (hts (.constant RX2 28 (2097152)) (by decide +kernel)) dX2_doubled_39 ?_
        refine lv_ior hx hb dX2_doubled_41 ?_
        refine lv_istore_n (lv' := [(2, .int ((0 ||| 2097152))), (1, .int ((fX2_fraction x0))), (0, .int (x0))]) hx hb dX2_doubled_42 rfl hl (by decide) rfl (fun ls hl => ?_)
        refine lv_iload_n hx hb dX2_doubled_43 rfl (lv_at hl 1 rfl) ?_
        refine lv_ldc (v := 524288) hx hb hown (hts (.constant RX2 90 (524288)) (by decide +kernel)) dX2_doubled_44 ?_
        refine ro_calli (va_runS (As := [.int ((fX2_fraction x0)), .int (524288)]) (rest := []) ⟨hx, hb, hml, hown, hts⟩ (kX4_has l H.size (fX2_fraction x0) 524288) (va_cwS 2 hts gX2_doubled_X4_has rfl rfl rfl (by decide +kernel) ⟨Nat.le_of_ble_eq_true rfl, Nat.le_of_ble_eq_true rfl⟩) pu_preS rfl rfl hl.1 rfl (lv_room (Nat.le_of_ble_eq_true rfl)) dX2_doubled_46 ⟨Nat.zero_le _, Nat.zero_le _⟩) hS hA (fun H locs kP hS => ?_)
        refine lv_if_eq (tgt := 64) hx hb dX2_doubled_49 (by decide) (fun c_6 => ?_) (fun c_6 => ?_)
        · refine lv_iload_n hx hb dX2_doubled_64 rfl (lv_at hl 1 rfl) ?_
          refine lv_iload_n hx hb dX2_doubled_65 rfl (lv_at hl 0 rfl) ?_
          refine lv_ior hx hb dX2_doubled_66 ?_
          exact W.iret (v := ((fX2_fraction x0) ||| (0 ||| 2097152))) hx hb hr (fun t ht hW => ⟨⟨_, (), rfl, ((show ((fX2_fraction x0) ||| (0 ||| 2097152)) = (fX2_doubled x0) by unfold fX2_doubled; rw [if_neg c_1, if_pos c_2, if_neg c_3, if_pos c_6]).trans hv), trivial⟩, hS.F ht⟩) hS.2.2 dX2_doubled_67
        · refine lv_iload_n hx hb dX2_doubled_52 rfl (lv_at hl 2 rfl) ?_
          refine ro_calli (va_runS (As := [.int (x0)]) (rest := []) ⟨hx, hb, hml, hown, hts⟩ (kX2_answersWhole l H.size x0) (va_cwS 1 hts gX2_doubled_X2_answersWhole rfl rfl rfl (by decide +kernel) ⟨Nat.le_of_ble_eq_true rfl, Nat.le_of_ble_eq_true rfl⟩) pu_preS rfl rfl hl.1 rfl (lv_room (Nat.le_of_ble_eq_true rfl)) dX2_doubled_53 ⟨Nat.zero_le _, Nat.zero_le _⟩) hS hA (fun H locs kP hS => ?_)
          refine lv_if_ne (tgt := 64) hx hb dX2_doubled_56 (by decide) (fun c_7 => ?_) (fun c_7 => ?_)
          · refine lv_iload_n hx hb dX2_doubled_64 rfl (lv_at hl 1 rfl) ?_
            refine lv_iload_n hx hb dX2_doubled_65 rfl (lv_at hl 0 rfl) ?_
            refine lv_ior hx hb dX2_doubled_66 ?_
            exact W.iret (v := ((fX2_fraction x0) ||| (0 ||| 2097152))) hx hb hr (fun t ht hW => ⟨⟨_, (), rfl, ((show ((fX2_fraction x0) ||| (0 ||| 2097152)) = (fX2_doubled x0) by unfold fX2_doubled; rw [if_neg c_1, if_pos c_2, if_neg c_3, if_neg c_6, if_neg c_7]).trans hv), trivial⟩, hS.F ht⟩) hS.2.2 dX2_doubled_67
          · refine lv_iload_n hx hb dX2_doubled_59 rfl (lv_at hl 0 rfl) ?_
            refine lv_ldc (v := 4194304) hx hb hown (hts (.constant RX2 32 (4194304)) (by decide +kernel)) dX2_doubled_60 ?_
            refine lv_ior hx hb dX2_doubled_62 ?_
            refine lv_istore_n (lv' := [(2, .int (((0 ||| 2097152) ||| 4194304))), (1, .int ((fX2_fraction x0))), (0, .int (x0))]) hx hb dX2_doubled_63 rfl hl (by decide) rfl (fun ls hl => ?_)
            refine lv_iload_n hx hb dX2_doubled_64 rfl (lv_at hl 1 rfl) ?_
            refine lv_iload_n hx hb dX2_doubled_65 rfl (lv_at hl 0 rfl) ?_
            refine lv_ior hx hb dX2_doubled_66 ?_
            exact W.iret (v := ((fX2_fraction x0) ||| ((0 ||| 2097152) ||| 4194304))) hx hb hr (fun t ht hW => ⟨⟨_, (), rfl, ((show ((fX2_fraction x0) ||| ((0 ||| 2097152) ||| 4194304)) = (fX2_doubled x0) by unfold fX2_doubled; rw [if_neg c_1, if_pos c_2, if_neg c_3, if_neg c_6, if_pos c_7]).trans hv), trivial⟩, hS.F ht⟩) hS.2.2 dX2_doubled_67
    · refine lv_ldc (v := 1048576) hx hb hown (hts (.constant RX2 19 (1048576)) (by decide +kernel)) dX2_doubled_22 ?_
      refine lv_goto (tgt := 28) hx hb dX2_doubled_24 (by decide) ?_
      refine lv_istore_n (lv' := [(2, .int (1048576)), (1, .int ((fX2_fraction x0))), (0, .int (x0))]) hx hb dX2_doubled_28 rfl hl (by decide) rfl (fun ls hl => ?_)
      refine lv_iload_n hx hb dX2_doubled_29 rfl (lv_at hl 1 rfl) ?_
      refine lv_ldc (v := 32768) hx hb hown (hts (.constant RX2 89 (32768)) (by decide +kernel)) dX2_doubled_30 ?_
      refine ro_calli (va_runS (As := [.int ((fX2_fraction x0)), .int (32768)]) (rest := []) ⟨hx, hb, hml, hown, hts⟩ (kX4_has l H.size (fX2_fraction x0) 32768) (va_cwS 2 hts gX2_doubled_X4_has rfl rfl rfl (by decide +kernel) ⟨Nat.le_of_ble_eq_true rfl, Nat.le_of_ble_eq_true rfl⟩) pu_preS rfl rfl hl.1 rfl (lv_room (Nat.le_of_ble_eq_true rfl)) dX2_doubled_32 ⟨Nat.zero_le _, Nat.zero_le _⟩) hS hA (fun H locs kP hS => ?_)
      refine lv_if_eq (tgt := 43) hx hb dX2_doubled_35 (by decide) (fun c_8 => ?_) (fun c_8 => ?_)
      · refine lv_iload_n hx hb dX2_doubled_43 rfl (lv_at hl 1 rfl) ?_
        refine lv_ldc (v := 524288) hx hb hown (hts (.constant RX2 90 (524288)) (by decide +kernel)) dX2_doubled_44 ?_
        refine ro_calli (va_runS (As := [.int ((fX2_fraction x0)), .int (524288)]) (rest := []) ⟨hx, hb, hml, hown, hts⟩ (kX4_has l H.size (fX2_fraction x0) 524288) (va_cwS 2 hts gX2_doubled_X4_has rfl rfl rfl (by decide +kernel) ⟨Nat.le_of_ble_eq_true rfl, Nat.le_of_ble_eq_true rfl⟩) pu_preS rfl rfl hl.1 rfl (lv_room (Nat.le_of_ble_eq_true rfl)) dX2_doubled_46 ⟨Nat.zero_le _, Nat.zero_le _⟩) hS hA (fun H locs kP hS => ?_)
        refine lv_if_eq (tgt := 64) hx hb dX2_doubled_49 (by decide) (fun c_9 => ?_) (fun c_9 => ?_)
        · refine lv_iload_n hx hb dX2_doubled_64 rfl (lv_at hl 1 rfl) ?_
          refine lv_iload_n hx hb dX2_doubled_65 rfl (lv_at hl 0 rfl) ?_
          refine lv_ior hx hb dX2_doubled_66 ?_
          exact W.iret (v := ((fX2_fraction x0) ||| 1048576)) hx hb hr (fun t ht hW => ⟨⟨_, (), rfl, ((show ((fX2_fraction x0) ||| 1048576) = (fX2_doubled x0) by unfold fX2_doubled; rw [if_neg c_1, if_neg c_2, if_pos c_8, if_pos c_9]).trans hv), trivial⟩, hS.F ht⟩) hS.2.2 dX2_doubled_67
        · refine lv_iload_n hx hb dX2_doubled_52 rfl (lv_at hl 2 rfl) ?_
          refine ro_calli (va_runS (As := [.int (x0)]) (rest := []) ⟨hx, hb, hml, hown, hts⟩ (kX2_answersWhole l H.size x0) (va_cwS 1 hts gX2_doubled_X2_answersWhole rfl rfl rfl (by decide +kernel) ⟨Nat.le_of_ble_eq_true rfl, Nat.le_of_ble_eq_true rfl⟩) pu_preS rfl rfl hl.1 rfl (lv_room (Nat.le_of_ble_eq_true rfl)) dX2_doubled_53 ⟨Nat.zero_le _, Nat.zero_le _⟩) hS hA (fun H locs kP hS => ?_)
          refine lv_if_ne (tgt := 64) hx hb dX2_doubled_56 (by decide) (fun c_10 => ?_) (fun c_10 => ?_)
          · refine lv_iload_n hx hb dX2_doubled_64 rfl (lv_at hl 1 rfl) ?_
            refine lv_iload_n hx hb dX2_doubled_65 rfl (lv_at hl 0 rfl) ?_
            refine lv_ior hx hb dX2_doubled_66 ?_
            exact W.iret (v := ((fX2_fraction x0) ||| 1048576)) hx hb hr (fun t ht hW => ⟨⟨_, (), rfl, ((show ((fX2_fraction x0) ||| 1048576) = (fX2_doubled x0) by unfold fX2_doubled; rw [if_neg c_1, if_neg c_2, if_pos c_8, if_neg c_9, if_neg c_10]).trans hv), trivial⟩, hS.F ht⟩) hS.2.2 dX2_doubled_67
          · refine lv_iload_n hx hb dX2_doubled_59 rfl (lv_at hl 0 rfl) ?_
            refine lv_ldc (v := 4194304) hx hb hown (hts (.constant RX2 32 (4194304)) (by decide +kernel)) dX2_doubled_60 ?_
            refine lv_ior hx hb dX2_doubled_62 ?_
            refine lv_istore_n (lv' := [(2, .int ((1048576 ||| 4194304))), (1, .int ((fX2_fraction x0))), (0, .int (x0))]) hx hb dX2_doubled_63 rfl hl (by decide) rfl (fun ls hl => ?_)
            refine lv_iload_n hx hb dX2_doubled_64 rfl (lv_at hl 1 rfl) ?_
            refine lv_iload_n hx hb dX2_doubled_65 rfl (lv_at hl 0 rfl) ?_
            refine lv_ior hx hb dX2_doubled_66 ?_
            exact W.iret (v := ((fX2_fraction x0) ||| (1048576 ||| 4194304))) hx hb hr (fun t ht hW => ⟨⟨_, (), rfl, ((show ((fX2_fraction x0) ||| (1048576 ||| 4194304)) = (fX2_doubled x0) by unfold fX2_doubled; rw [if_neg c_1, if_neg c_2, if_pos c_8, if_neg c_9, if_pos c_10]).trans hv), trivial⟩, hS.F ht⟩) hS.2.2 dX2_doubled_67
      · refine lv_iload_n hx hb dX2_doubled_38 rfl (lv_at hl 0 rfl) ?_
        refine lv_ldc (v := 2097152) hx hb hown (hts (.constant RX2 28 (2097152)) (by decide +kernel)) dX2_doubled_39 ?_
        refine lv_ior hx hb dX2_doubled_41 ?_
        refine lv_istore_n (lv' := [(2, .int ((1048576 ||| 2097152))), (1, .int ((fX2_fraction x0))), (0, .int (x0))]) hx hb dX2_doubled_42 rfl hl (by decide) rfl (fun ls hl => ?_)
        refine lv_iload_n hx hb dX2_doubled_43 rfl (lv_at hl 1 rfl) ?_
        refine lv_ldc (v := 524288) hx hb hown (hts (.constant RX2 90 (524288)) (by decide +kernel)) dX2_doubled_44 ?_
        refine ro_calli (va_runS (As := [.int ((fX2_fraction x0)), .int (524288)]) (rest := []) ⟨hx, hb, hml, hown, hts⟩ (kX4_has l H.size (fX2_fraction x0) 524288) (va_cwS 2 hts gX2_doubled_X4_has rfl rfl rfl (by decide +kernel) ⟨Nat.le_of_ble_eq_true rfl, Nat.le_of_ble_eq_true rfl⟩) pu_preS rfl rfl hl.1 rfl (lv_room (Nat.le_of_ble_eq_true rfl)) dX2_doubled_46 ⟨Nat.zero_le _, Nat.zero_le _⟩) hS hA (fun H locs kP hS => ?_)
        refine lv_if_eq (tgt := 64) hx hb dX2_doubled_49 (by decide) (fun c_11 => ?_) (fun c_11 => ?_)
        · refine lv_iload_n hx hb dX2_doubled_64 rfl (lv_at hl 1 rfl) ?_
          refine lv_iload_n hx hb dX2_doubled_65 rfl (lv_at hl 0 rfl) ?_
          refine lv_ior hx hb dX2_doubled_66 ?_
          exact W.iret (v := ((fX2_fraction x0) ||| (1048576 ||| 2097152))) hx hb hr (fun t ht hW => ⟨⟨_, (), rfl, ((show ((fX2_fraction x0) ||| (1048576 ||| 2097152)) = (fX2_doubled x0) by unfold fX2_doubled; rw [if_neg c_1, if_neg c_2, if_neg c_8, if_pos c_11]).trans hv), trivial⟩, hS.F ht⟩) hS.2.2 dX2_doubled_67
        · refine lv_iload_n hx hb dX2_doubled_52 rfl (lv_at hl 2 rfl) ?_
          refine ro_calli (va_runS (As := [.int (x0)]) (rest := []) ⟨hx, hb, hml, hown, hts⟩ (kX2_answersWhole l H.size x0) (va_cwS 1 hts gX2_doubled_X2_answersWhole rfl rfl rfl (by decide +kernel) ⟨Nat.le_of_ble_eq_true rfl, Nat.le_of_ble_eq_true rfl⟩) pu_preS rfl rfl hl.1 rfl (lv_room (Nat.le_of_ble_eq_true rfl)) dX2_doubled_53 ⟨Nat.zero_le _, Nat.zero_le _⟩) hS hA (fun H locs kP hS => ?_)
          refine lv_if_ne (tgt := 64) hx hb dX2_doubled_56 (by decide) (fun c_12 => ?_) (fun c_12 => ?_)
          · refine lv_iload_n hx hb dX2_doubled_64 rfl (lv_at hl 1 rfl) ?_
            refine lv_iload_n hx hb dX2_doubled_65 rfl (lv_at hl 0 rfl) ?_
            refine lv_ior hx hb dX2_doubled_66 ?_
            exact W.iret (v := ((fX2_fraction x0) ||| (1048576 ||| 2097152))) hx hb hr (fun t ht hW => ⟨⟨_, (), rfl, ((show ((fX2_fraction x0) ||| (1048576 ||| 2097152)) = (fX2_doubled x0) by unfold fX2_doubled; rw [if_neg c_1, if_neg c_2, if_neg c_8, if_neg c_11, if_neg c_12]).trans hv), trivial⟩, hS.F ht⟩) hS.2.2 dX2_doubled_67
          · refine lv_iload_n hx hb dX2_doubled_59 rfl (lv_at hl 0 rfl) ?_
            refine lv_ldc (v := 4194304) hx hb hown (hts (.constant RX2 32 (4194304)) (by decide +kernel)) dX2_doubled_60 ?_
            refine lv_ior hx hb dX2_doubled_62 ?_
            refine lv_istore_n (lv' := [(2, .int (((1048576 ||| 2097152) ||| 4194304))), (1, .int ((fX2_fraction x0))), (0, .int (x0))]) hx hb dX2_doubled_63 rfl hl (by decide) rfl (fun ls hl => ?_)
            refine lv_iload_n hx hb dX2_doubled_64 rfl (lv_at hl 1 rfl) ?_
            refine lv_iload_n hx hb dX2_doubled_65 rfl (lv_at hl 0 rfl) ?_
            refine lv_ior hx hb dX2_doubled_66 ?_
            exact W.iret (v := ((fX2_fraction x0) ||| ((1048576 ||| 2097152) ||| 4194304))) hx hb hr (fun t ht hW => ⟨⟨_, (), rfl, ((show ((fX2_fraction x0) ||| ((1048576 ||| 2097152) ||| 4194304)) = (fX2_doubled x0) by unfold fX2_doubled; rw [if_neg c_1, if_neg c_2, if_neg c_8, if_neg c_11, if_pos c_12]).trans hv), trivial⟩, hS.F ht⟩) hS.2.2 dX2_doubled_67
  · refine lv_iconst (v := (-1)) hx hb dX2_doubled_10 (by decide) ?_
    exact W.iret (v := (-1)) hx hb hr (fun t ht hW => ⟨⟨_, (), rfl, ((show (-1) = (fX2_doubled x0) by unfold fX2_doubled; rw [if_pos c_1]).trans hv), trivial⟩, hS.F ht⟩) hS.2.2 dX2_doubled_11
def swX2_coprocessor_9 (x : Int32) : Int := Op.lookupswitch.offset [(0, 59), (4, 63), (8, 66), (16, 84), (17, 100), (20, 116)] 121 x.toInt
theorem swX2_coprocessor_9_c (x : Int32) : swX2_coprocessor_9 x = 59 ∨ swX2_coprocessor_9 x = 63 ∨ swX2_coprocessor_9 x = 66 ∨ swX2_coprocessor_9 x = 84 ∨ swX2_coprocessor_9 x = 100 ∨ swX2_coprocessor_9 x = 116 ∨ swX2_coprocessor_9 x = 121 := (show ∀ v ∈ ([121, 59, 63, 66, 84, 100, 116] : List Int), v = 59 ∨ v = 63 ∨ v = 66 ∨ v = 84 ∨ v = 100 ∨ v = 116 ∨ v = 121 by decide) _ (lk_mem _ _ _)
def fX2_coprocessor (x0 : Int32) : Int32 := if swX2_coprocessor_9 ((fX3_s x0)) = 59 then 16512 else if swX2_coprocessor_9 ((fX3_s x0)) = 63 then 131104 else if swX2_coprocessor_9 ((fX3_s x0)) = 66 then if ((fX3_t x0) &&& 2) = 0 then 4103 else 8392711 else if swX2_coprocessor_9 ((fX3_s x0)) = 84 then if (fX3_function x0) = 33 then 4734981 else (fX2_fraction (fX3_function x0)) else if swX2_coprocessor_9 ((fX3_s x0)) = 100 then if (fX3_function x0) = 32 then 1589253 else (fX2_doubled (fX3_function x0)) else if swX2_coprocessor_9 ((fX3_s x0)) = 116 then (fX2_ofWhole (fX3_function x0)) else (-1)
set_option maxHeartbeats 4000000 in
set_option maxRecDepth 100000 in
theorem kX2_coprocessor (l : Launch) (sz : Nat) (x0 : Int32) : Met l yX2_coprocessor wsX2_coprocessor ({ frames := 2, cells := 0, slots := 0, locals := 43 }) (pu_Pc [.int (x0)] sz) (ro_Qi (fX2_coprocessor x0) sz) 0 0 (ro sz) := by
  refine Met.ofW (cc := cX2_coprocessor) (maxL := 2) (ret := (some .int)) (by decide) rfl ?_
  intro p e s m args below meth c s₁ B0 hml hv
  obtain ⟨rfl, hsz⟩ := hv
  have hx := B0.exec
  have hb := B0.bytes
  have hr := B0.returns
  have hts := atoms_spec (ws := wsX2_coprocessor) B0.pre
  have hown : s.vm.findClass RX2 = some m.cls := findClass_of_methodNamed B0.named
  have hlocks := B0.notSynchronized
  subst hsz
  have hA : ∀ q : Nat, s.heap.size ≤ q → ro s.heap.size q := fun _ h => h
  have hS : va_S (ro s.heap.size) s.heap s.heap [] := va_S.rf
  have hl := lv_entry ([.int (x0)]) (n := 2) (Nat.le_of_ble_eq_true rfl)
  rw [lg_entry_eq]
  generalize (lg_sl ([.int (x0)]) ++ List.replicate (2 - (lg_sl ([.int (x0)])).length) Slot.unset).toArray = ls at hl ⊢
  have hl : lv_has ls 2 [(0, .int (x0))] := hl
  have hv : (fX2_coprocessor x0) = (fX2_coprocessor x0) := rfl
  refine lv_iload_n hx hb dX2_coprocessor_0 rfl (lv_at hl 0 rfl) ?_
  refine ro_calli (va_runS (As := [.int (x0)]) (rest := []) ⟨hx, hb, hml, hown, hts⟩ (kX3_function l s.heap.size x0) (va_cwS 1 hts gX2_coprocessor_X3_function rfl rfl rfl (by decide +kernel) ⟨Nat.le_of_ble_eq_true rfl, Nat.le_of_ble_eq_true rfl⟩) pu_preS rfl rfl hl.1 rfl (lv_room (Nat.le_of_ble_eq_true rfl)) dX2_coprocessor_1 ⟨Nat.zero_le _, Nat.zero_le _⟩) hS hA (fun H locs kP hS => ?_)
  refine lv_istore_n (lv' := [(1, .int ((fX3_function x0))), (0, .int (x0))]) hx hb dX2_coprocessor_4 rfl hl (by decide) rfl (fun ls hl => ?_)
  refine lv_iload_n hx hb dX2_coprocessor_5 rfl (lv_at hl 1 rfl) ?_
  refine ro_calli (va_runS (As := [.int (x0)]) (rest := []) ⟨hx, hb, hml, hown, hts⟩ (kX3_s l H.size x0) (va_cwS 1 hts gX2_coprocessor_X3_s rfl rfl rfl (by decide +kernel) ⟨Nat.le_of_ble_eq_true rfl, Nat.le_of_ble_eq_true rfl⟩) pu_preS rfl rfl hl.1 rfl (lv_room (Nat.le_of_ble_eq_true rfl)) dX2_coprocessor_6 ⟨Nat.zero_le _, Nat.zero_le _⟩) hS hA (fun H locs kP hS => ?_)
  rcases swX2_coprocessor_9_c ((fX3_s x0)) with c_1 | c_1 | c_1 | c_1 | c_1 | c_1 | c_1
  · refine lv_lookup (tgt := 68) hx hb dX2_coprocessor_9 (by decide) c_1 (by decide) ?_
    refine lv_sipush (v := 16512) hx hb dX2_coprocessor_68 (by decide) ?_
    exact W.iret (v := 16512) hx hb hr (fun t ht hW => ⟨⟨_, (), rfl, ((show 16512 = (fX2_coprocessor x0) by unfold fX2_coprocessor; rw [if_pos c_1]).trans hv), trivial⟩, hS.F ht⟩) hS.2.2 dX2_coprocessor_71
  · refine lv_lookup (tgt := 72) hx hb dX2_coprocessor_9 (by decide) c_1 (by decide) ?_
    refine lv_ldc (v := 131104) hx hb hown (hts (.constant RX2 75 (131104)) (by decide +kernel)) dX2_coprocessor_72 ?_
    exact W.iret (v := 131104) hx hb hr (fun t ht hW => ⟨⟨_, (), rfl, ((show 131104 = (fX2_coprocessor x0) by unfold fX2_coprocessor; rw [if_neg (show ¬ (swX2_coprocessor_9 ((fX3_s x0)) = 59) by rw [c_1]; decide), if_pos c_1]).trans hv), trivial⟩, hS.F ht⟩) hS.2.2 dX2_coprocessor_74
  · refine lv_lookup (tgt := 75) hx hb dX2_coprocessor_9 (by decide) c_1 (by decide) ?_
    refine lv_iload_n hx hb dX2_coprocessor_75 rfl (lv_at hl 1 rfl) ?_
    refine ro_calli (va_runS (As := [.int (x0)]) (rest := []) ⟨hx, hb, hml, hown, hts⟩ (kX3_t l H.size x0) (va_cwS 1 hts gX2_coprocessor_X3_t rfl rfl rfl (by decide +kernel) ⟨Nat.le_of_ble_eq_true rfl, Nat.le_of_ble_eq_true rfl⟩) pu_preS rfl rfl hl.1 rfl (lv_room (Nat.le_of_ble_eq_true rfl)) dX2_coprocessor_76 ⟨Nat.zero_le _, Nat.zero_le _⟩) hS hA (fun H locs kP hS => ?_)
    refine lv_iconst (v := 2) hx hb dX2_coprocessor_79 (by decide) ?_
    refine lv_iand hx hb dX2_coprocessor_80 ?_
    refine lv_if_ne (tgt := 90) hx hb dX2_coprocessor_81 (by decide) (fun c_2 => ?_) (fun c_2 => ?_)
    · refine lv_ldc (v := 8392711) hx hb hown (hts (.constant RX2 76 (8392711)) (by decide +kernel)) dX2_coprocessor_90 ?_
      exact W.iret (v := 8392711) hx hb hr (fun t ht hW => ⟨⟨_, (), rfl, ((show 8392711 = (fX2_coprocessor x0) by unfold fX2_coprocessor; rw [if_neg (show ¬ (swX2_coprocessor_9 ((fX3_s x0)) = 59) by rw [c_1]; decide), if_neg (show ¬ (swX2_coprocessor_9 ((fX3_s x0)) = 63) by rw [c_1]; decide), if_pos c_1, if_neg c_2]).trans hv), trivial⟩, hS.F ht⟩) hS.2.2 dX2_coprocessor_92
    · refine lv_sipush (v := 4103) hx hb dX2_coprocessor_84 (by decide) ?_
      refine lv_goto (tgt := 92) hx hb dX2_coprocessor_87 (by decide) ?_
      exact W.iret (v := 4103) hx hb hr (fun t ht hW => ⟨⟨_, (), rfl, ((show 4103 = (fX2_coprocessor x0) by unfold fX2_coprocessor; rw [if_neg (show ¬ (swX2_coprocessor_9 ((fX3_s x0)) = 59) by rw [c_1]; decide), if_neg (show ¬ (swX2_coprocessor_9 ((fX3_s x0)) = 63) by rw [c_1]; decide), if_pos c_1, if_pos c_2]).trans hv), trivial⟩, hS.F ht⟩) hS.2.2 dX2_coprocessor_92
  · refine lv_lookup (tgt := 93) hx hb dX2_coprocessor_9 (by decide) c_1 (by decide) ?_
    refine lv_iload_n hx hb dX2_coprocessor_93 rfl (lv_at hl 0 rfl) ?_
    refine lv_bipush (v := 33) hx hb dX2_coprocessor_94 (by decide) ?_
    refine lv_icmp_ne (tgt := 104) hx hb dX2_coprocessor_96 (by decide) (fun c_3 => ?_) (fun c_3 => ?_)
    · refine lv_iload_n hx hb dX2_coprocessor_104 rfl (lv_at hl 0 rfl) ?_
      refine ro_calli (va_runS (As := [.int ((fX3_function x0))]) (rest := []) ⟨hx, hb, hml, hown, hts⟩ (kX2_fraction l H.size (fX3_function x0)) (va_cwS 1 hts gX2_coprocessor_X2_fraction rfl rfl rfl (by decide +kernel) ⟨Nat.le_of_ble_eq_true rfl, Nat.le_of_ble_eq_true rfl⟩) pu_preS rfl rfl hl.1 rfl (lv_room (Nat.le_of_ble_eq_true rfl)) dX2_coprocessor_105 ⟨Nat.zero_le _, Nat.zero_le _⟩) hS hA (fun H locs kP hS => ?_)
      exact W.iret (v := (fX2_fraction (fX3_function x0))) hx hb hr (fun t ht hW => ⟨⟨_, (), rfl, ((show (fX2_fraction (fX3_function x0)) = (fX2_coprocessor x0) by unfold fX2_coprocessor; rw [if_neg (show ¬ (swX2_coprocessor_9 ((fX3_s x0)) = 59) by rw [c_1]; decide), if_neg (show ¬ (swX2_coprocessor_9 ((fX3_s x0)) = 63) by rw [c_1]; decide), if_neg (show ¬ (swX2_coprocessor_9 ((fX3_s x0)) = 66) by rw [c_1]; decide), if_pos c_1, if_neg c_3]).trans hv), trivial⟩, hS.F ht⟩) hS.2.2 dX2_coprocessor_108
    · refine lv_ldc (v := 4734981) hx hb hown (hts (.constant RX2 77 (4734981)) (by decide +kernel)) dX2_coprocessor_99 ?_
      refine lv_goto (tgt := 108) hx hb dX2_coprocessor_101 (by decide) ?_
      exact W.iret (v := 4734981) hx hb hr (fun t ht hW => ⟨⟨_, (), rfl, ((show 4734981 = (fX2_coprocessor x0) by unfold fX2_coprocessor; rw [if_neg (show ¬ (swX2_coprocessor_9 ((fX3_s x0)) = 59) by rw [c_1]; decide), if_neg (show ¬ (swX2_coprocessor_9 ((fX3_s x0)) = 63) by rw [c_1]; decide), if_neg (show ¬ (swX2_coprocessor_9 ((fX3_s x0)) = 66) by rw [c_1]; decide), if_pos c_1, if_pos c_3]).trans hv), trivial⟩, hS.F ht⟩) hS.2.2 dX2_coprocessor_108
  · refine lv_lookup (tgt := 109) hx hb dX2_coprocessor_9 (by decide) c_1 (by decide) ?_
    refine lv_iload_n hx hb dX2_coprocessor_109 rfl (lv_at hl 0 rfl) ?_
    refine lv_bipush (v := 32) hx hb dX2_coprocessor_110 (by decide) ?_
    refine lv_icmp_ne (tgt := 120) hx hb dX2_coprocessor_112 (by decide) (fun c_4 => ?_) (fun c_4 => ?_)
    · refine lv_iload_n hx hb dX2_coprocessor_120 rfl (lv_at hl 0 rfl) ?_
      refine ro_calli (va_runS (As := [.int ((fX3_function x0))]) (rest := []) ⟨hx, hb, hml, hown, hts⟩ (kX2_doubled l H.size (fX3_function x0)) (va_cwS 1 hts gX2_coprocessor_X2_doubled rfl rfl rfl (by decide +kernel) ⟨Nat.le_of_ble_eq_true rfl, Nat.le_of_ble_eq_true rfl⟩) pu_preS rfl rfl hl.1 rfl (lv_room (Nat.le_of_ble_eq_true rfl)) dX2_coprocessor_121 ⟨Nat.zero_le _, Nat.zero_le _⟩) hS hA (fun H locs kP hS => ?_)
      exact W.iret (v := (fX2_doubled (fX3_function x0))) hx hb hr (fun t ht hW => ⟨⟨_, (), rfl, ((show (fX2_doubled (fX3_function x0)) = (fX2_coprocessor x0) by unfold fX2_coprocessor; rw [if_neg (show ¬ (swX2_coprocessor_9 ((fX3_s x0)) = 59) by rw [c_1]; decide), if_neg (show ¬ (swX2_coprocessor_9 ((fX3_s x0)) = 63) by rw [c_1]; decide), if_neg (show ¬ (swX2_coprocessor_9 ((fX3_s x0)) = 66) by rw [c_1]; decide), if_neg (show ¬ (swX2_coprocessor_9 ((fX3_s x0)) = 84) by rw [c_1]; decide), if_pos c_1, if_neg c_4]).trans hv), trivial⟩, hS.F ht⟩) hS.2.2 dX2_coprocessor_124
    · refine lv_ldc (v := 1589253) hx hb hown (hts (.constant RX2 81 (1589253)) (by decide +kernel)) dX2_coprocessor_115 ?_
      refine lv_goto (tgt := 124) hx hb dX2_coprocessor_117 (by decide) ?_
      exact W.iret (v := 1589253) hx hb hr (fun t ht hW => ⟨⟨_, (), rfl, ((show 1589253 = (fX2_coprocessor x0) by unfold fX2_coprocessor; rw [if_neg (show ¬ (swX2_coprocessor_9 ((fX3_s x0)) = 59) by rw [c_1]; decide), if_neg (show ¬ (swX2_coprocessor_9 ((fX3_s x0)) = 63) by rw [c_1]; decide), if_neg (show ¬ (swX2_coprocessor_9 ((fX3_s x0)) = 66) by rw [c_1]; decide), if_neg (show ¬ (swX2_coprocessor_9 ((fX3_s x0)) = 84) by rw [c_1]; decide), if_pos c_1, if_pos c_4]).trans hv), trivial⟩, hS.F ht⟩) hS.2.2 dX2_coprocessor_124
  · refine lv_lookup (tgt := 125) hx hb dX2_coprocessor_9 (by decide) c_1 (by decide) ?_
    refine lv_iload_n hx hb dX2_coprocessor_125 rfl (lv_at hl 0 rfl) ?_
    refine ro_calli (va_runS (As := [.int ((fX3_function x0))]) (rest := []) ⟨hx, hb, hml, hown, hts⟩ (kX2_ofWhole l H.size (fX3_function x0)) (va_cwS 1 hts gX2_coprocessor_X2_ofWhole rfl rfl rfl (by decide +kernel) ⟨Nat.le_of_ble_eq_true rfl, Nat.le_of_ble_eq_true rfl⟩) pu_preS rfl rfl hl.1 rfl (lv_room (Nat.le_of_ble_eq_true rfl)) dX2_coprocessor_126 ⟨Nat.zero_le _, Nat.zero_le _⟩) hS hA (fun H locs kP hS => ?_)
    exact W.iret (v := (fX2_ofWhole (fX3_function x0))) hx hb hr (fun t ht hW => ⟨⟨_, (), rfl, ((show (fX2_ofWhole (fX3_function x0)) = (fX2_coprocessor x0) by unfold fX2_coprocessor; rw [if_neg (show ¬ (swX2_coprocessor_9 ((fX3_s x0)) = 59) by rw [c_1]; decide), if_neg (show ¬ (swX2_coprocessor_9 ((fX3_s x0)) = 63) by rw [c_1]; decide), if_neg (show ¬ (swX2_coprocessor_9 ((fX3_s x0)) = 66) by rw [c_1]; decide), if_neg (show ¬ (swX2_coprocessor_9 ((fX3_s x0)) = 84) by rw [c_1]; decide), if_neg (show ¬ (swX2_coprocessor_9 ((fX3_s x0)) = 100) by rw [c_1]; decide), if_pos c_1]).trans hv), trivial⟩, hS.F ht⟩) hS.2.2 dX2_coprocessor_129
  · refine lv_lookup (tgt := 130) hx hb dX2_coprocessor_9 (by decide) c_1 (by decide) ?_
    refine lv_iconst (v := (-1)) hx hb dX2_coprocessor_130 (by decide) ?_
    exact W.iret (v := (-1)) hx hb hr (fun t ht hW => ⟨⟨_, (), rfl, ((show (-1) = (fX2_coprocessor x0) by unfold fX2_coprocessor; rw [if_neg (show ¬ (swX2_coprocessor_9 ((fX3_s x0)) = 59) by rw [c_1]; decide), if_neg (show ¬ (swX2_coprocessor_9 ((fX3_s x0)) = 63) by rw [c_1]; decide), if_neg (show ¬ (swX2_coprocessor_9 ((fX3_s x0)) = 66) by rw [c_1]; decide), if_neg (show ¬ (swX2_coprocessor_9 ((fX3_s x0)) = 84) by rw [c_1]; decide), if_neg (show ¬ (swX2_coprocessor_9 ((fX3_s x0)) = 100) by rw [c_1]; decide), if_neg (show ¬ (swX2_coprocessor_9 ((fX3_s x0)) = 116) by rw [c_1]; decide)]).trans hv), trivial⟩, hS.F ht⟩) hS.2.2 dX2_coprocessor_131
def swX2_formByOperation_6 (x : Int32) : Int := Op.lookupswitch.offset [(0, 42), (1, 50), (17, 58), (28, 63)] 71 x.toInt
theorem swX2_formByOperation_6_c (x : Int32) : swX2_formByOperation_6 x = 42 ∨ swX2_formByOperation_6 x = 50 ∨ swX2_formByOperation_6 x = 58 ∨ swX2_formByOperation_6 x = 63 ∨ swX2_formByOperation_6 x = 71 := (show ∀ v ∈ ([71, 42, 50, 58, 63] : List Int), v = 42 ∨ v = 50 ∨ v = 58 ∨ v = 63 ∨ v = 71 by decide) _ (lk_mem _ _ _)
def fX2_formByOperation (x0 : Int32) : Int32 := if swX2_formByOperation_6 ((fX3_operation x0)) = 42 then (fX2_special (fX3_function x0)) else if swX2_formByOperation_6 ((fX3_operation x0)) = 50 then (fX2_byRegisterField (fX3_t x0)) else if swX2_formByOperation_6 ((fX3_operation x0)) = 58 then (fX2_coprocessor x0) else if swX2_formByOperation_6 ((fX3_operation x0)) = 63 then (fX2_special2 (fX3_function x0)) else if 32 ≤ (fX3_operation x0) then (fX2_memory (fX3_operation x0)) else (fX2_immediateOrBranch (fX3_operation x0))
set_option maxHeartbeats 4000000 in
set_option maxRecDepth 100000 in
theorem kX2_formByOperation (l : Launch) (sz : Nat) (x0 : Int32) : Met l yX2_formByOperation wsX2_formByOperation ({ frames := 3, cells := 0, slots := 0, locals := 64 }) (pu_Pc [.int (x0)] sz) (ro_Qi (fX2_formByOperation x0) sz) 0 0 (ro sz) := by
  refine Met.ofW (cc := cX2_formByOperation) (maxL := 2) (ret := (some .int)) (by decide) rfl ?_
  intro p e s m args below meth c s₁ B0 hml hv
  obtain ⟨rfl, hsz⟩ := hv
  have hx := B0.exec
  have hb := B0.bytes
  have hr := B0.returns
  have hts := atoms_spec (ws := wsX2_formByOperation) B0.pre
  have hown : s.vm.findClass RX2 = some m.cls := findClass_of_methodNamed B0.named
  have hlocks := B0.notSynchronized
  subst hsz
  have hA : ∀ q : Nat, s.heap.size ≤ q → ro s.heap.size q := fun _ h => h
  have hS : va_S (ro s.heap.size) s.heap s.heap [] := va_S.rf
  have hl := lv_entry ([.int (x0)]) (n := 2) (Nat.le_of_ble_eq_true rfl)
  rw [lg_entry_eq]
  generalize (lg_sl ([.int (x0)]) ++ List.replicate (2 - (lg_sl ([.int (x0)])).length) Slot.unset).toArray = ls at hl ⊢
  have hl : lv_has ls 2 [(0, .int (x0))] := hl
  have hv : (fX2_formByOperation x0) = (fX2_formByOperation x0) := rfl
  refine lv_iload_n hx hb dX2_formByOperation_0 rfl (lv_at hl 0 rfl) ?_
  refine ro_calli (va_runS (As := [.int (x0)]) (rest := []) ⟨hx, hb, hml, hown, hts⟩ (kX3_operation l s.heap.size x0) (va_cwS 1 hts gX2_formByOperation_X3_operation rfl rfl rfl (by decide +kernel) ⟨Nat.le_of_ble_eq_true rfl, Nat.le_of_ble_eq_true rfl⟩) pu_preS rfl rfl hl.1 rfl (lv_room (Nat.le_of_ble_eq_true rfl)) dX2_formByOperation_1 ⟨Nat.zero_le _, Nat.zero_le _⟩) hS hA (fun H locs kP hS => ?_)
  refine lv_istore_n (lv' := [(1, .int ((fX3_operation x0))), (0, .int (x0))]) hx hb dX2_formByOperation_4 rfl hl (by decide) rfl (fun ls hl => ?_)
  refine lv_iload_n hx hb dX2_formByOperation_5 rfl (lv_at hl 0 rfl) ?_
  rcases swX2_formByOperation_6_c ((fX3_operation x0)) with c_1 | c_1 | c_1 | c_1 | c_1
  · refine lv_lookup (tgt := 48) hx hb dX2_formByOperation_6 (by decide) c_1 (by decide) ?_
    refine lv_iload_n hx hb dX2_formByOperation_48 rfl (lv_at hl 1 rfl) ?_
    refine ro_calli (va_runS (As := [.int (x0)]) (rest := []) ⟨hx, hb, hml, hown, hts⟩ (kX3_function l H.size x0) (va_cwS 1 hts gX2_formByOperation_X3_function rfl rfl rfl (by decide +kernel) ⟨Nat.le_of_ble_eq_true rfl, Nat.le_of_ble_eq_true rfl⟩) pu_preS rfl rfl hl.1 rfl (lv_room (Nat.le_of_ble_eq_true rfl)) dX2_formByOperation_49 ⟨Nat.zero_le _, Nat.zero_le _⟩) hS hA (fun H locs kP hS => ?_)
    refine ro_calli (va_runS (As := [.int ((fX3_function x0))]) (rest := []) ⟨hx, hb, hml, hown, hts⟩ (kX2_special l H.size (fX3_function x0)) (va_cwS 1 hts gX2_formByOperation_X2_special rfl rfl rfl (by decide +kernel) ⟨Nat.le_of_ble_eq_true rfl, Nat.le_of_ble_eq_true rfl⟩) pu_preS rfl rfl hl.1 rfl (lv_room (Nat.le_of_ble_eq_true rfl)) dX2_formByOperation_52 ⟨Nat.zero_le _, Nat.zero_le _⟩) hS hA (fun H locs kP hS => ?_)
    exact W.iret (v := (fX2_special (fX3_function x0))) hx hb hr (fun t ht hW => ⟨⟨_, (), rfl, ((show (fX2_special (fX3_function x0)) = (fX2_formByOperation x0) by unfold fX2_formByOperation; rw [if_pos c_1]).trans hv), trivial⟩, hS.F ht⟩) hS.2.2 dX2_formByOperation_55
  · refine lv_lookup (tgt := 56) hx hb dX2_formByOperation_6 (by decide) c_1 (by decide) ?_
    refine lv_iload_n hx hb dX2_formByOperation_56 rfl (lv_at hl 1 rfl) ?_
    refine ro_calli (va_runS (As := [.int (x0)]) (rest := []) ⟨hx, hb, hml, hown, hts⟩ (kX3_t l H.size x0) (va_cwS 1 hts gX2_formByOperation_X3_t rfl rfl rfl (by decide +kernel) ⟨Nat.le_of_ble_eq_true rfl, Nat.le_of_ble_eq_true rfl⟩) pu_preS rfl rfl hl.1 rfl (lv_room (Nat.le_of_ble_eq_true rfl)) dX2_formByOperation_57 ⟨Nat.zero_le _, Nat.zero_le _⟩) hS hA (fun H locs kP hS => ?_)
    refine ro_calli (va_runS (As := [.int ((fX3_t x0))]) (rest := []) ⟨hx, hb, hml, hown, hts⟩ (kX2_byRegisterField l H.size (fX3_t x0)) (va_cwS 1 hts gX2_formByOperation_X2_byRegisterField rfl rfl rfl (by decide +kernel) ⟨Nat.le_of_ble_eq_true rfl, Nat.le_of_ble_eq_true rfl⟩) pu_preS rfl rfl hl.1 rfl (lv_room (Nat.le_of_ble_eq_true rfl)) dX2_formByOperation_60 ⟨Nat.zero_le _, Nat.zero_le _⟩) hS hA (fun H locs kP hS => ?_)
    exact W.iret (v := (fX2_byRegisterField (fX3_t x0))) hx hb hr (fun t ht hW => ⟨⟨_, (), rfl, ((show (fX2_byRegisterField (fX3_t x0)) = (fX2_formByOperation x0) by unfold fX2_formByOperation; rw [if_neg (show ¬ (swX2_formByOperation_6 ((fX3_operation x0)) = 42) by rw [c_1]; decide), if_pos c_1]).trans hv), trivial⟩, hS.F ht⟩) hS.2.2 dX2_formByOperation_63
  · refine lv_lookup (tgt := 64) hx hb dX2_formByOperation_6 (by decide) c_1 (by decide) ?_
    refine lv_iload_n hx hb dX2_formByOperation_64 rfl (lv_at hl 1 rfl) ?_
    refine ro_calli (va_runS (As := [.int (x0)]) (rest := []) ⟨hx, hb, hml, hown, hts⟩ (kX2_coprocessor l H.size x0) (va_cwS 1 hts gX2_formByOperation_X2_coprocessor rfl rfl rfl (by decide +kernel) ⟨Nat.le_of_ble_eq_true rfl, Nat.le_of_ble_eq_true rfl⟩) pu_preS rfl rfl hl.1 rfl (lv_room (Nat.le_of_ble_eq_true rfl)) dX2_formByOperation_65 ⟨Nat.zero_le _, Nat.zero_le _⟩) hS hA (fun H locs kP hS => ?_)
    exact W.iret (v := (fX2_coprocessor x0)) hx hb hr (fun t ht hW => ⟨⟨_, (), rfl, ((show (fX2_coprocessor x0) = (fX2_formByOperation x0) by unfold fX2_formByOperation; rw [if_neg (show ¬ (swX2_formByOperation_6 ((fX3_operation x0)) = 42) by rw [c_1]; decide), if_neg (show ¬ (swX2_formByOperation_6 ((fX3_operation x0)) = 50) by rw [c_1]; decide), if_pos c_1]).trans hv), trivial⟩, hS.F ht⟩) hS.2.2 dX2_formByOperation_68
  · refine lv_lookup (tgt := 69) hx hb dX2_formByOperation_6 (by decide) c_1 (by decide) ?_
    refine lv_iload_n hx hb dX2_formByOperation_69 rfl (lv_at hl 1 rfl) ?_
    refine ro_calli (va_runS (As := [.int (x0)]) (rest := []) ⟨hx, hb, hml, hown, hts⟩ (kX3_function l H.size x0) (va_cwS 1 hts gX2_formByOperation_X3_function rfl rfl rfl (by decide +kernel) ⟨Nat.le_of_ble_eq_true rfl, Nat.le_of_ble_eq_true rfl⟩) pu_preS rfl rfl hl.1 rfl (lv_room (Nat.le_of_ble_eq_true rfl)) dX2_formByOperation_70 ⟨Nat.zero_le _, Nat.zero_le _⟩) hS hA (fun H locs kP hS => ?_)
    refine ro_calli (va_runS (As := [.int ((fX3_function x0))]) (rest := []) ⟨hx, hb, hml, hown, hts⟩ (kX2_special2 l H.size (fX3_function x0)) (va_cwS 1 hts gX2_formByOperation_X2_special2 rfl rfl rfl (by decide +kernel) ⟨Nat.le_of_ble_eq_true rfl, Nat.le_of_ble_eq_true rfl⟩) pu_preS rfl rfl hl.1 rfl (lv_room (Nat.le_of_ble_eq_true rfl)) dX2_formByOperation_73 ⟨Nat.zero_le _, Nat.zero_le _⟩) hS hA (fun H locs kP hS => ?_)
    exact W.iret (v := (fX2_special2 (fX3_function x0))) hx hb hr (fun t ht hW => ⟨⟨_, (), rfl, ((show (fX2_special2 (fX3_function x0)) = (fX2_formByOperation x0) by unfold fX2_formByOperation; rw [if_neg (show ¬ (swX2_formByOperation_6 ((fX3_operation x0)) = 42) by rw [c_1]; decide), if_neg (show ¬ (swX2_formByOperation_6 ((fX3_operation x0)) = 50) by rw [c_1]; decide), if_neg (show ¬ (swX2_formByOperation_6 ((fX3_operation x0)) = 58) by rw [c_1]; decide), if_pos c_1]).trans hv), trivial⟩, hS.F ht⟩) hS.2.2 dX2_formByOperation_76
  · refine lv_lookup (tgt := 77) hx hb dX2_formByOperation_6 (by decide) c_1 (by decide) ?_
    refine lv_iload_n hx hb dX2_formByOperation_77 rfl (lv_at hl 0 rfl) ?_
    refine lv_bipush (v := 32) hx hb dX2_formByOperation_78 (by decide) ?_
    refine lv_icmp_ge (tgt := 90) hx hb dX2_formByOperation_80 (by decide) (fun c_2 => ?_) (fun c_2 => ?_)
    · refine lv_iload_n hx hb dX2_formByOperation_90 rfl (lv_at hl 0 rfl) ?_
      refine ro_calli (va_runS (As := [.int ((fX3_operation x0))]) (rest := []) ⟨hx, hb, hml, hown, hts⟩ (kX2_memory l H.size (fX3_operation x0)) (va_cwS 1 hts gX2_formByOperation_X2_memory rfl rfl rfl (by decide +kernel) ⟨Nat.le_of_ble_eq_true rfl, Nat.le_of_ble_eq_true rfl⟩) pu_preS rfl rfl hl.1 rfl (lv_room (Nat.le_of_ble_eq_true rfl)) dX2_formByOperation_91 ⟨Nat.zero_le _, Nat.zero_le _⟩) hS hA (fun H locs kP hS => ?_)
      exact W.iret (v := (fX2_memory (fX3_operation x0))) hx hb hr (fun t ht hW => ⟨⟨_, (), rfl, ((show (fX2_memory (fX3_operation x0)) = (fX2_formByOperation x0) by unfold fX2_formByOperation; rw [if_neg (show ¬ (swX2_formByOperation_6 ((fX3_operation x0)) = 42) by rw [c_1]; decide), if_neg (show ¬ (swX2_formByOperation_6 ((fX3_operation x0)) = 50) by rw [c_1]; decide), if_neg (show ¬ (swX2_formByOperation_6 ((fX3_operation x0)) = 58) by rw [c_1]; decide), if_neg (show ¬ (swX2_formByOperation_6 ((fX3_operation x0)) = 63) by rw [c_1]; decide), if_pos c_2]).trans hv), trivial⟩, hS.F ht⟩) hS.2.2 dX2_formByOperation_94
    · refine lv_iload_n hx hb dX2_formByOperation_83 rfl (lv_at hl 0 rfl) ?_
      refine ro_calli (va_runS (As := [.int ((fX3_operation x0))]) (rest := []) ⟨hx, hb, hml, hown, hts⟩ (kX2_immediateOrBranch l H.size (fX3_operation x0)) (va_cwS 1 hts gX2_formByOperation_X2_immediateOrBranch rfl rfl rfl (by decide +kernel) ⟨Nat.le_of_ble_eq_true rfl, Nat.le_of_ble_eq_true rfl⟩) pu_preS rfl rfl hl.1 rfl (lv_room (Nat.le_of_ble_eq_true rfl)) dX2_formByOperation_84 ⟨Nat.zero_le _, Nat.zero_le _⟩) hS hA (fun H locs kP hS => ?_)
      refine lv_goto (tgt := 94) hx hb dX2_formByOperation_87 (by decide) ?_
      exact W.iret (v := (fX2_immediateOrBranch (fX3_operation x0))) hx hb hr (fun t ht hW => ⟨⟨_, (), rfl, ((show (fX2_immediateOrBranch (fX3_operation x0)) = (fX2_formByOperation x0) by unfold fX2_formByOperation; rw [if_neg (show ¬ (swX2_formByOperation_6 ((fX3_operation x0)) = 42) by rw [c_1]; decide), if_neg (show ¬ (swX2_formByOperation_6 ((fX3_operation x0)) = 50) by rw [c_1]; decide), if_neg (show ¬ (swX2_formByOperation_6 ((fX3_operation x0)) = 58) by rw [c_1]; decide), if_neg (show ¬ (swX2_formByOperation_6 ((fX3_operation x0)) = 63) by rw [c_1]; decide), if_neg c_2]).trans hv), trivial⟩, hS.F ht⟩) hS.2.2 dX2_formByOperation_94
def fX2_hasOddDouble_50 (w : Int32) (f : Int32) (v : Int32) : Int32 := if (v &&& 1) = 0 then 0 else 1
def fX2_hasOddDouble_34 (w : Int32) (f : Int32) (v : Int32) : Int32 := if (fX4_has f 4194304) = 0 then (fX2_hasOddDouble_50 w f v) else (fX2_hasOddDouble_50 w f (v ||| (fX3_fractionD w)))
def fX2_hasOddDouble_18 (w : Int32) (f : Int32) (v : Int32) : Int32 := if (fX4_has f 2097152) = 0 then (fX2_hasOddDouble_34 w f v) else (fX2_hasOddDouble_34 w f (v ||| (fX3_fractionT w)))
def fX2_hasOddDouble (w : Int32) (f : Int32) : Int32 := if (fX4_has f 1048576) = 0 then (fX2_hasOddDouble_18 w f 0) else (fX2_hasOddDouble_18 w f (0 ||| (fX3_fractionS w)))
set_option maxHeartbeats 4000000 in
set_option maxRecDepth 100000 in
theorem kX2_hasOddDouble (l : Launch) (sz : Nat) (w : Int32) (f : Int32) : Met l yX2_hasOddDouble wsX2_hasOddDouble ({ frames := 2, cells := 0, slots := 0, locals := 40 }) (pu_Pc [.int (w), .int (f)] sz) (ro_Qi (fX2_hasOddDouble w f) sz) 0 0 (ro sz) := by
  refine Met.ofW (cc := cX2_hasOddDouble) (maxL := 3) (ret := (some .boolean)) (by decide) rfl ?_
  intro p e s m args below meth c s₁ B0 hml hv
  obtain ⟨rfl, hsz⟩ := hv
  have hx := B0.exec
  have hb := B0.bytes
  have hr := B0.returns
  have hts := atoms_spec (ws := wsX2_hasOddDouble) B0.pre
  have hown : s.vm.findClass RX2 = some m.cls := findClass_of_methodNamed B0.named
  have hlocks := B0.notSynchronized
  subst hsz
  have hA : ∀ q : Nat, s.heap.size ≤ q → ro s.heap.size q := fun _ h => h
  have hS : va_S (ro s.heap.size) s.heap s.heap [] := va_S.rf
  have hl := lv_entry ([.int (w), .int (f)]) (n := 3) (Nat.le_of_ble_eq_true rfl)
  rw [lg_entry_eq]
  generalize (lg_sl ([.int (w), .int (f)]) ++ List.replicate (3 - (lg_sl ([.int (w), .int (f)])).length) Slot.unset).toArray = ls at hl ⊢
  have hl : lv_has ls 3 [(0, .int (w)), (1, .int (f))] := hl
  have hv : (fX2_hasOddDouble w f) = (fX2_hasOddDouble w f) := rfl
  have J50 : ∀ (v : Int32) (H : Heap) (locs : List Loc) (ls : Array Slot), va_S (ro s.heap.size) s.heap H locs → lv_has ls 3 [(2, .int (v)), (0, .int (w)), (1, .int (f))] → (fX2_hasOddDouble_50 w f v) = (fX2_hasOddDouble w f) → W p l e (headSpec wsX2_hasOddDouble ({ frames := 2, cells := 0, slots := 0, locals := 40 })).room s m ([.int (w), .int (f)] : List Value).toArray below meth c H locs 0 0 (MQ below (ro_Qi (fX2_hasOddDouble w f) s.heap.size) ([.int (w), .int (f)] : List Value).toArray s 0 0 ((ro s.heap.size))) (F0 m 50 ls []) := by
    intro v H locs ls hS hl hv
    refine lv_iload_n hx hb dX2_hasOddDouble_50 rfl (lv_at hl 0 rfl) ?_
    refine lv_iconst (v := 1) hx hb dX2_hasOddDouble_51 (by decide) ?_
    refine lv_iand hx hb dX2_hasOddDouble_52 ?_
    refine lv_if_eq (tgt := 60) hx hb dX2_hasOddDouble_53 (by decide) (fun c_1 => ?_) (fun c_1 => ?_)
    · refine lv_iconst (v := 0) hx hb dX2_hasOddDouble_60 (by decide) ?_
      exact W.zret (v := 0) hx hb hr (by decide) (fun t ht hW => ⟨⟨_, (), rfl, ((show 0 = (fX2_hasOddDouble_50 w f v) by unfold fX2_hasOddDouble_50; rw [if_pos c_1]).trans hv), trivial⟩, hS.F ht⟩) hS.2.2 dX2_hasOddDouble_61
    · refine lv_iconst (v := 1) hx hb dX2_hasOddDouble_56 (by decide) ?_
      refine lv_goto (tgt := 61) hx hb dX2_hasOddDouble_57 (by decide) ?_
      exact W.zret (v := 1) hx hb hr (by decide) (fun t ht hW => ⟨⟨_, (), rfl, ((show 1 = (fX2_hasOddDouble_50 w f v) by unfold fX2_hasOddDouble_50; rw [if_neg c_1]).trans hv), trivial⟩, hS.F ht⟩) hS.2.2 dX2_hasOddDouble_61
  have J34 : ∀ (v : Int32) (H : Heap) (locs : List Loc) (ls : Array Slot), va_S (ro s.heap.size) s.heap H locs → lv_has ls 3 [(2, .int (v)), (0, .int (w)), (1, .int (f))] → (fX2_hasOddDouble_34 w f v) = (fX2_hasOddDouble w f) → W p l e (headSpec wsX2_hasOddDouble ({ frames := 2, cells := 0, slots := 0, locals := 40 })).room s m ([.int (w), .int (f)] : List Value).toArray below meth c H locs 0 0 (MQ below (ro_Qi (fX2_hasOddDouble w f) s.heap.size) ([.int (w), .int (f)] : List Value).toArray s 0 0 ((ro s.heap.size))) (F0 m 34 ls []) := by
    intro v H locs ls hS hl hv
    refine lv_iload_n hx hb dX2_hasOddDouble_34 rfl (lv_at hl 2 rfl) ?_
    refine lv_ldc (v := 4194304) hx hb hown (hts (.constant RX2 32 (4194304)) (by decide +kernel)) dX2_hasOddDouble_35 ?_
    refine ro_calli (va_runS (As := [.int (f), .int (4194304)]) (rest := []) ⟨hx, hb, hml, hown, hts⟩ (kX4_has l H.size f 4194304) (va_cwS 2 hts gX2_hasOddDouble_X4_has rfl rfl rfl (by decide +kernel) ⟨Nat.le_of_ble_eq_true rfl, Nat.le_of_ble_eq_true rfl⟩) pu_preS rfl rfl hl.1 rfl (lv_room (Nat.le_of_ble_eq_true rfl)) dX2_hasOddDouble_37 ⟨Nat.zero_le _, Nat.zero_le _⟩) hS hA (fun H locs kP hS => ?_)
    refine lv_if_eq (tgt := 50) hx hb dX2_hasOddDouble_40 (by decide) (fun c_2 => ?_) (fun c_2 => ?_)
    · exact J50 v H _ ls hS (lv_sub hl [0, 1, 2] rfl) ((show (fX2_hasOddDouble_50 w f v) = (fX2_hasOddDouble_34 w f v) by unfold fX2_hasOddDouble_34; rw [if_pos c_2]).trans hv)
    · refine lv_iload_n hx hb dX2_hasOddDouble_43 rfl (lv_at hl 0 rfl) ?_
      refine lv_iload_n hx hb dX2_hasOddDouble_44 rfl (lv_at hl 1 rfl) ?_
      refine ro_calli (va_runS (As := [.int (w)]) (rest := [.int (v)]) ⟨hx, hb, hml, hown, hts⟩ (kX3_fractionD l H.size w) (va_cwS 1 hts gX2_hasOddDouble_X3_fractionD rfl rfl rfl (by decide +kernel) ⟨Nat.le_of_ble_eq_true rfl, Nat.le_of_ble_eq_true rfl⟩) pu_preS rfl rfl hl.1 rfl (lv_room (Nat.le_of_ble_eq_true rfl)) dX2_hasOddDouble_45 ⟨Nat.zero_le _, Nat.zero_le _⟩) hS hA (fun H locs kP hS => ?_)
      refine lv_ior hx hb dX2_hasOddDouble_48 ?_
      refine lv_istore_n (lv' := [(2, .int ((v ||| (fX3_fractionD w)))), (0, .int (w)), (1, .int (f))]) hx hb dX2_hasOddDouble_49 rfl hl (by decide) rfl (fun ls hl => ?_)
      exact J50 (v ||| (fX3_fractionD w)) H _ ls hS (lv_sub hl [0, 1, 2] rfl) ((show (fX2_hasOddDouble_50 w f (v ||| (fX3_fractionD w))) = (fX2_hasOddDouble_34 w f v) by unfold fX2_hasOddDouble_34; rw [if_neg c_2]).trans hv)
  have J18 : ∀ (v : Int32) (H : Heap) (locs : List Loc) (ls : Array Slot), va_S (ro s.heap.size) s.heap H locs → lv_has ls 3 [(2, .int (v)), (0, .int (w)), (1, .int (f))] → (fX2_hasOddDouble_18 w f v) = (fX2_hasOddDouble w f) → W p l e (headSpec wsX2_hasOddDouble ({ frames := 2, cells := 0, slots := 0, locals := 40 })).room s m ([.int (w), .int (f)] : List Value).toArray below meth c H locs 0 0 (MQ below (ro_Qi (fX2_hasOddDouble w f) s.heap.size) ([.int (w), .int (f)] : List Value).toArray s 0 0 ((ro s.heap.size))) (F0 m 18 ls []) := by
    intro v H locs ls hS hl hv
    refine lv_iload_n hx hb dX2_hasOddDouble_18 rfl (lv_at hl 2 rfl) ?_
    refine lv_ldc (v := 2097152) hx hb hown (hts (.constant RX2 28 (2097152)) (by decide +kernel)) dX2_hasOddDouble_19 ?_
    refine ro_calli (va_runS (As := [.int (f), .int (2097152)]) (rest := []) ⟨hx, hb, hml, hown, hts⟩ (kX4_has l H.size f 2097152) (va_cwS 2 hts gX2_hasOddDouble_X4_has rfl rfl rfl (by decide +kernel) ⟨Nat.le_of_ble_eq_true rfl, Nat.le_of_ble_eq_true rfl⟩) pu_preS rfl rfl hl.1 rfl (lv_room (Nat.le_of_ble_eq_true rfl)) dX2_hasOddDouble_21 ⟨Nat.zero_le _, Nat.zero_le _⟩) hS hA (fun H locs kP hS => ?_)
    refine lv_if_eq (tgt := 34) hx hb dX2_hasOddDouble_24 (by decide) (fun c_3 => ?_) (fun c_3 => ?_)
    · exact J34 v H _ ls hS (lv_sub hl [0, 1, 2] rfl) ((show (fX2_hasOddDouble_34 w f v) = (fX2_hasOddDouble_18 w f v) by unfold fX2_hasOddDouble_18; rw [if_pos c_3]).trans hv)
    · refine lv_iload_n hx hb dX2_hasOddDouble_27 rfl (lv_at hl 0 rfl) ?_
      refine lv_iload_n hx hb dX2_hasOddDouble_28 rfl (lv_at hl 1 rfl) ?_
      refine ro_calli (va_runS (As := [.int (w)]) (rest := [.int (v)]) ⟨hx, hb, hml, hown, hts⟩ (kX3_fractionT l H.size w) (va_cwS 1 hts gX2_hasOddDouble_X3_fractionT rfl rfl rfl (by decide +kernel) ⟨Nat.le_of_ble_eq_true rfl, Nat.le_of_ble_eq_true rfl⟩) pu_preS rfl rfl hl.1 rfl (lv_room (Nat.le_of_ble_eq_true rfl)) dX2_hasOddDouble_29 ⟨Nat.zero_le _, Nat.zero_le _⟩) hS hA (fun H locs kP hS => ?_)
      refine lv_ior hx hb dX2_hasOddDouble_32 ?_
      refine lv_istore_n (lv' := [(2, .int ((v ||| (fX3_fractionT w)))), (0, .int (w)), (1, .int (f))]) hx hb dX2_hasOddDouble_33 rfl hl (by decide) rfl (fun ls hl => ?_)
      exact J34 (v ||| (fX3_fractionT w)) H _ ls hS (lv_sub hl [0, 1, 2] rfl) ((show (fX2_hasOddDouble_34 w f (v ||| (fX3_fractionT w))) = (fX2_hasOddDouble_18 w f v) by unfold fX2_hasOddDouble_18; rw [if_neg c_3]).trans hv)
  refine lv_iconst (v := 0) hx hb dX2_hasOddDouble_0 (by decide) ?_
  refine lv_istore_n (lv' := [(2, .int (0)), (0, .int (w)), (1, .int (f))]) hx hb dX2_hasOddDouble_1 rfl hl (by decide) rfl (fun ls hl => ?_)
  refine lv_iload_n hx hb dX2_hasOddDouble_2 rfl (lv_at hl 2 rfl) ?_
  refine lv_ldc (v := 1048576) hx hb hown (hts (.constant RX2 19 (1048576)) (by decide +kernel)) dX2_hasOddDouble_3 ?_
  refine ro_calli (va_runS (As := [.int (f), .int (1048576)]) (rest := []) ⟨hx, hb, hml, hown, hts⟩ (kX4_has l s.heap.size f 1048576) (va_cwS 2 hts gX2_hasOddDouble_X4_has rfl rfl rfl (by decide +kernel) ⟨Nat.le_of_ble_eq_true rfl, Nat.le_of_ble_eq_true rfl⟩) pu_preS rfl rfl hl.1 rfl (lv_room (Nat.le_of_ble_eq_true rfl)) dX2_hasOddDouble_5 ⟨Nat.zero_le _, Nat.zero_le _⟩) hS hA (fun H locs kP hS => ?_)
  refine lv_if_eq (tgt := 18) hx hb dX2_hasOddDouble_8 (by decide) (fun c_4 => ?_) (fun c_4 => ?_)
  · exact J18 0 H _ ls hS (lv_sub hl [0, 1, 2] rfl) ((show (fX2_hasOddDouble_18 w f 0) = (fX2_hasOddDouble w f) by unfold fX2_hasOddDouble; rw [if_pos c_4]).trans hv)
  · refine lv_iload_n hx hb dX2_hasOddDouble_11 rfl (lv_at hl 0 rfl) ?_
    refine lv_iload_n hx hb dX2_hasOddDouble_12 rfl (lv_at hl 1 rfl) ?_
    refine ro_calli (va_runS (As := [.int (w)]) (rest := [.int (0)]) ⟨hx, hb, hml, hown, hts⟩ (kX3_fractionS l H.size w) (va_cwS 1 hts gX2_hasOddDouble_X3_fractionS rfl rfl rfl (by decide +kernel) ⟨Nat.le_of_ble_eq_true rfl, Nat.le_of_ble_eq_true rfl⟩) pu_preS rfl rfl hl.1 rfl (lv_room (Nat.le_of_ble_eq_true rfl)) dX2_hasOddDouble_13 ⟨Nat.zero_le _, Nat.zero_le _⟩) hS hA (fun H locs kP hS => ?_)
    refine lv_ior hx hb dX2_hasOddDouble_16 ?_
    refine lv_istore_n (lv' := [(2, .int ((0 ||| (fX3_fractionS w)))), (0, .int (w)), (1, .int (f))]) hx hb dX2_hasOddDouble_17 rfl hl (by decide) rfl (fun ls hl => ?_)
    exact J18 (0 ||| (fX3_fractionS w)) H _ ls hS (lv_sub hl [0, 1, 2] rfl) ((show (fX2_hasOddDouble_18 w f (0 ||| (fX3_fractionS w))) = (fX2_hasOddDouble w f) by unfold fX2_hasOddDouble; rw [if_neg c_4]).trans hv)
def fX2_formOf (x0 : Int32) : Int32 := if (fX2_formByOperation x0) = (-1) then (-1) else if (fX2_hasOddDouble x0 (fX2_formByOperation x0)) = 0 then (fX2_formByOperation x0) else (-1)
set_option maxHeartbeats 4000000 in
set_option maxRecDepth 100000 in
theorem kX2_formOf (l : Launch) (sz : Nat) (x0 : Int32) : Met l yX2_formOf wsX2_formOf ({ frames := 4, cells := 0, slots := 0, locals := 85 }) (pu_Pc [.int (x0)] sz) (ro_Qi (fX2_formOf x0) sz) 0 0 (ro sz) := by
  refine Met.ofW (cc := cX2_formOf) (maxL := 2) (ret := (some .int)) (by decide) rfl ?_
  intro p e s m args below meth c s₁ B0 hml hv
  obtain ⟨rfl, hsz⟩ := hv
  have hx := B0.exec
  have hb := B0.bytes
  have hr := B0.returns
  have hts := atoms_spec (ws := wsX2_formOf) B0.pre
  have hown : s.vm.findClass RX2 = some m.cls := findClass_of_methodNamed B0.named
  have hlocks := B0.notSynchronized
  subst hsz
  have hA : ∀ q : Nat, s.heap.size ≤ q → ro s.heap.size q := fun _ h => h
  have hS : va_S (ro s.heap.size) s.heap s.heap [] := va_S.rf
  have hl := lv_entry ([.int (x0)]) (n := 2) (Nat.le_of_ble_eq_true rfl)
  rw [lg_entry_eq]
  generalize (lg_sl ([.int (x0)]) ++ List.replicate (2 - (lg_sl ([.int (x0)])).length) Slot.unset).toArray = ls at hl ⊢
  have hl : lv_has ls 2 [(0, .int (x0))] := hl
  have hv : (fX2_formOf x0) = (fX2_formOf x0) := rfl
  refine lv_iload_n hx hb dX2_formOf_0 rfl (lv_at hl 0 rfl) ?_
  refine ro_calli (va_runS (As := [.int (x0)]) (rest := []) ⟨hx, hb, hml, hown, hts⟩ (kX2_formByOperation l s.heap.size x0) (va_cwS 1 hts gX2_formOf_X2_formByOperation rfl rfl rfl (by decide +kernel) ⟨Nat.le_of_ble_eq_true rfl, Nat.le_of_ble_eq_true rfl⟩) pu_preS rfl rfl hl.1 rfl (lv_room (Nat.le_of_ble_eq_true rfl)) dX2_formOf_1 ⟨Nat.zero_le _, Nat.zero_le _⟩) hS hA (fun H locs kP hS => ?_)
  refine lv_istore_n (lv' := [(1, .int ((fX2_formByOperation x0))), (0, .int (x0))]) hx hb dX2_formOf_4 rfl hl (by decide) rfl (fun ls hl => ?_)
  refine lv_iload_n hx hb dX2_formOf_5 rfl (lv_at hl 0 rfl) ?_
  refine lv_iconst (v := (-1)) hx hb dX2_formOf_6 (by decide) ?_
  refine lv_icmp_eq (tgt := 18) hx hb dX2_formOf_7 (by decide) (fun c_1 => ?_) (fun c_1 => ?_)
  · refine lv_iconst (v := (-1)) hx hb dX2_formOf_18 (by decide) ?_
    exact W.iret (v := (-1)) hx hb hr (fun t ht hW => ⟨⟨_, (), rfl, ((show (-1) = (fX2_formOf x0) by unfold fX2_formOf; rw [if_pos c_1]).trans hv), trivial⟩, hS.F ht⟩) hS.2.2 dX2_formOf_19
  · refine lv_iload_n hx hb dX2_formOf_10 rfl (lv_at hl 1 rfl) ?_
    refine lv_iload_n hx hb dX2_formOf_11 rfl (lv_at hl 0 rfl) ?_
    refine ro_calli (va_runS (As := [.int (x0), .int ((fX2_formByOperation x0))]) (rest := []) ⟨hx, hb, hml, hown, hts⟩ (kX2_hasOddDouble l H.size x0 (fX2_formByOperation x0)) (va_cwS 2 hts gX2_formOf_X2_hasOddDouble rfl rfl rfl (by decide +kernel) ⟨Nat.le_of_ble_eq_true rfl, Nat.le_of_ble_eq_true rfl⟩) pu_preS rfl rfl hl.1 rfl (lv_room (Nat.le_of_ble_eq_true rfl)) dX2_formOf_12 ⟨Nat.zero_le _, Nat.zero_le _⟩) hS hA (fun H locs kP hS => ?_)
    refine lv_if_eq (tgt := 20) hx hb dX2_formOf_15 (by decide) (fun c_2 => ?_) (fun c_2 => ?_)
    · refine lv_iload_n hx hb dX2_formOf_20 rfl (lv_at hl 0 rfl) ?_
      exact W.iret (v := (fX2_formByOperation x0)) hx hb hr (fun t ht hW => ⟨⟨_, (), rfl, ((show (fX2_formByOperation x0) = (fX2_formOf x0) by unfold fX2_formOf; rw [if_neg c_1, if_pos c_2]).trans hv), trivial⟩, hS.F ht⟩) hS.2.2 dX2_formOf_21
    · refine lv_iconst (v := (-1)) hx hb dX2_formOf_18 (by decide) ?_
      exact W.iret (v := (-1)) hx hb hr (fun t ht hW => ⟨⟨_, (), rfl, ((show (-1) = (fX2_formOf x0) by unfold fX2_formOf; rw [if_neg c_1, if_neg c_2]).trans hv), trivial⟩, hS.F ht⟩) hS.2.2 dX2_formOf_19
