def fX9_special_356 (x1 : Int32) (z0 : Int32) (tg : Sc) : Sc := (tg.1, z0, 0, 2, ((rgs tg.1 21) ||| (rgs tg.1 16)), 0, tg.2.2.2.2.2.2)
def fX9_special_313 (x1 : Int32) (tg : Sc) : Sc := (tg.1, 0, 2, 2, (rgs tg.1 21), 0, tg.2.2.2.2.2.2)
def fX9_special_282 (x1 : Int32) (tg : Sc) : Sc := (tg.1, 0, 2, 0, 0, (rgs tg.1 11), tg.2.2.2.2.2.2)
def fX9_special_270 (x1 : Int32) (tg : Sc) : Sc := if x1 = 16 then (fX9_special_282 x1 tg) else if x1 = 18 then (fX9_special_282 x1 tg) else if x1 = 17 then (fX9_special_313 x1 tg) else if x1 = 19 then (fX9_special_313 x1 tg) else if x1 < 24 then tg else if 28 ≤ x1 then tg else if 26 ≤ x1 then (fX9_special_356 x1 4 tg) else (fX9_special_356 x1 3 tg)
def fX9_special_259 (x1 : Int32) (tg : Sc) : Sc := (tg.1, 8, tg.2.2.1, tg.2.2.2.1, 0, 0, tg.2.2.2.2.2.2)
def fX9_special_185 (x1 : Int32) (tg : Sc) : Sc := (tg.1, 0, tg.2.2.1, tg.2.2.2.1, (((rgs tg.1 21) ||| (rgs tg.1 16)) ||| (rgs tg.1 11)), (rgs tg.1 11), tg.2.2.2.2.2.2)
def fX9_special_109 (x1 : Int32) (tg : Sc) : Sc := (tg.1, 0, tg.2.2.1, tg.2.2.2.1, ((rgs tg.1 21) ||| (rgs tg.1 16)), (rgs tg.1 11), tg.2.2.2.2.2.2)
def fX9_special_97 (x1 : Int32) (tg : Sc) : Sc := if x1 = 42 then (fX9_special_109 x1 tg) else if x1 = 43 then (fX9_special_109 x1 tg) else if x1 = 8 then (tg.1, 7, tg.2.2.1, tg.2.2.2.1, (rgs tg.1 21), 0, tg.2.2.2.2.2.2) else if x1 = 9 then (tg.1, 7, tg.2.2.1, tg.2.2.2.1, (rgs tg.1 21), (rgs tg.1 11), tg.2.2.2.2.2.2) else if x1 = 10 then (fX9_special_185 x1 tg) else if x1 = 11 then (fX9_special_185 x1 tg) else if x1 = 12 then (fX9_special_259 x1 tg) else if x1 = 13 then (fX9_special_259 x1 tg) else if x1 = 15 then (fX9_special_259 x1 tg) else if x1 = 32 then (fX9_special_259 x1 tg) else if x1 = 34 then (fX9_special_259 x1 tg) else if x1 < 48 then (fX9_special_270 x1 tg) else if 55 ≤ x1 then (fX9_special_270 x1 tg) else if x1 = 53 then (fX9_special_270 x1 tg) else (fX9_special_259 x1 tg)
def fX9_special_14 (x1 : Int32) (tg : Sc) : Sc := (tg.1, 0, tg.2.2.1, tg.2.2.2.1, (rgs tg.1 16), (rgs tg.1 11), tg.2.2.2.2.2.2)
def fX9_special (x1 : Int32) (sg : Sc) : Sc := if x1 = 0 then (fX9_special_14 x1 sg) else if x1 = 2 then (fX9_special_14 x1 sg) else if x1 = 3 then (fX9_special_14 x1 sg) else if x1 = 1 then (sg.1, 0, 1, 0, ((rgs sg.1 21) ||| (rgs sg.1 11)), (rgs sg.1 11), sg.2.2.2.2.2.2) else if x1 = 4 then (fX9_special_109 x1 sg) else if x1 = 6 then (fX9_special_109 x1 sg) else if x1 = 7 then (fX9_special_109 x1 sg) else if x1 = 33 then (fX9_special_109 x1 sg) else if x1 < 35 then (fX9_special_97 x1 sg) else if x1 < 40 then (fX9_special_109 x1 sg) else (fX9_special_97 x1 sg)
set_option maxHeartbeats 4000000 in
set_option maxRecDepth 100000 in
theorem kX9_special (l : Launch) (dC : Nat → ClassId) (dI : Nat → Nat → Nat) (m0 : Nat) (g : Nat → Value) (sz : Nat) (x1 : Int32) (sg : Sc) : Met l yX9_special wsX9_special ({ frames := 2, cells := 0, slots := 0, locals := 41 }) (md_Pc (dC, dI) (wM1 m0 g sg) [] [.ref m0, .int (x1)] sz) (md_Qv (dC, dI) (wM1 m0 g (fX9_special x1 sg)) (va_A (wM1 m0 g sg) sz)) 0 0 (va_A (wM1 m0 g sg) sz) := by
  refine Met.ofW (cc := cX9_special) (maxL := 2) (ret := none) (by decide) rfl ?_
  intro p e s m args below meth c s₁ B0 hml hv
  obtain ⟨rfl, hsz, hP, hK, hD0⟩ := hv
  have hx := B0.exec
  have hb := B0.bytes
  have hr := B0.returns
  have hts := atoms_spec (ws := wsX9_special) B0.pre
  have hown : s.vm.findClass RX9 = some m.cls := findClass_of_methodNamed B0.named
  have hlocks := B0.notSynchronized
  have hinX9 : ∀ w ∈ wsX90, w ∈ wsX9_special := fun w h => List.mem_cons_of_mem _ (List.mem_append_right _ (h))
  subst hsz
  have hD := hD0.self (sz := s.heap.size)
  generalize hAe : va_A (wM1 m0 g sg) s.heap.size = A at hD ⊢
  have hA : ∀ q : Nat, s.heap.size ≤ q → A q := fun q h => by rw [← hAe]; exact Or.inr h
  have hS : va_S A s.heap s.heap [] := va_S.rf
  have hl := lv_entry ([.ref m0, .int (x1)]) (n := 2) (Nat.le_of_ble_eq_true rfl)
  rw [lg_entry_eq]
  generalize (lg_sl ([.ref m0, .int (x1)]) ++ List.replicate (2 - (lg_sl ([.ref m0, .int (x1)])).length) Slot.unset).toArray = ls at hl ⊢
  have hl : lv_has ls 2 [(0, .ref m0), (1, .int (x1))] := hl
  have hv : (fX9_special x1 sg) = (fX9_special x1 sg) := rfl
  have J356 : ∀ (z0 : Int32) (tg : Sc) (H : Heap) (locs : List Loc) (ls : Array Slot), va_P (dC, dI) vwCl (wM1 m0 g tg) H → va_D A (wM1 m0 g tg) → va_S A s.heap H locs → lv_has ls 2 [(0, .ref m0), (1, .int (x1))] → (fX9_special_356 x1 z0 tg) = (fX9_special x1 sg) → W p l e (headSpec wsX9_special ({ frames := 2, cells := 0, slots := 0, locals := 41 })).room s m ([.ref m0, .int (x1)] : List Value).toArray below meth c H locs 0 0 (MQ below (md_Qv (dC, dI) (wM1 m0 g (fX9_special x1 sg)) (A)) ([.ref m0, .int (x1)] : List Value).toArray s 0 0 (A)) (F0 m 356 ls [.int (z0), .ref m0]) := by
    intro z0 tg H locs ls hP hD hS hl hv
    refine lv_aload_n hx hb dX9_special_356 rfl (lv_at hl 0 rfl) ?_
    refine ro_calll (va_runV (As := []) (rest := [.int (z0), .ref m0]) ⟨hx, hb, hml, hown, hts⟩ (kX9_s l dC dI m0 g H.size  tg) (cwV 0 hts gX9_special_X9_s rfl rfl rfl (by decide +kernel) ⟨Nat.le_of_ble_eq_true rfl, Nat.le_of_ble_eq_true rfl⟩) (ro_preV 0 4 (q := (RX9, TX9, 26)) rfl rfl hP hK) rfl rfl hl.1 rfl (lv_room (Nat.le_of_ble_eq_true rfl)) dX9_special_357 ⟨Nat.zero_le _, Nat.zero_le _⟩) hS hA (fun H locs kP hS => ?_)
    have hP := kP _ _ _ hP
    refine lv_aload_n hx hb dX9_special_360 rfl (lv_at hl 0 rfl) ?_
    refine ro_calll (va_runV (As := []) (rest := [.long ((rgs tg.1 21)), .int (z0), .ref m0]) ⟨hx, hb, hml, hown, hts⟩ (kX9_t l dC dI m0 g H.size  tg) (cwV 0 hts gX9_special_X9_t rfl rfl rfl (by decide +kernel) ⟨Nat.le_of_ble_eq_true rfl, Nat.le_of_ble_eq_true rfl⟩) (ro_preV 0 4 (q := (RX9, TX9, 26)) rfl rfl hP hK) rfl rfl hl.1 rfl (lv_room (Nat.le_of_ble_eq_true rfl)) dX9_special_361 ⟨Nat.zero_le _, Nat.zero_le _⟩) hS hA (fun H locs kP hS => ?_)
    have hP := kP _ _ _ hP
    refine lv_lor hx hb dX9_special_364 ?_
    refine lv_lconst (v := 0) hx hb dX9_special_365 (by decide) ?_
    refine md_callv (wr := []) (va_runV (As := [.int (z0), .long (((rgs tg.1 21) ||| (rgs tg.1 16))), .long (0)]) (rest := []) ⟨hx, hb, hml, hown, hts⟩ (kX9_is l dC dI m0 g H.size z0 ((rgs tg.1 21) ||| (rgs tg.1 16)) 0 tg) (cwV 3 hts gX9_special_X9_is rfl rfl rfl (by decide +kernel) ⟨Nat.le_of_ble_eq_true rfl, Nat.le_of_ble_eq_true rfl⟩) (md_preV 0 4 (q := (RX9, TX9, 26)) rfl rfl hP hK hD) rfl rfl hl.1 rfl (lv_room (Nat.le_of_ble_eq_true rfl)) dX9_special_366 ⟨Nat.zero_le _, Nat.zero_le _⟩) hS hA hP hD [0] [] rfl rfl (by decide) (by decide) (fun H locs hP hD hS => ?_)
    have hP : va_P (dC, dI) vwCl (wM1 m0 g (tg.1, z0, tg.2.2.1, tg.2.2.2.1, ((rgs tg.1 21) ||| (rgs tg.1 16)), 0, tg.2.2.2.2.2.2)) H := hP
    have hD : va_D A (wM1 m0 g (tg.1, z0, tg.2.2.1, tg.2.2.2.1, ((rgs tg.1 21) ||| (rgs tg.1 16)), 0, tg.2.2.2.2.2.2)) := hD
    refine lv_aload_n hx hb dX9_special_369 rfl (lv_at hl 0 rfl) ?_
    refine lv_iconst (v := 0) hx hb dX9_special_370 (by decide) ?_
    refine lv_iconst (v := 2) hx hb dX9_special_371 (by decide) ?_
    refine md_callv (wr := []) (va_runV (As := [.int (0), .int (2)]) (rest := []) ⟨hx, hb, hml, hown, hts⟩ (kX9_also l dC dI m0 g H.size 0 2 (tg.1, z0, tg.2.2.1, tg.2.2.2.1, ((rgs tg.1 21) ||| (rgs tg.1 16)), 0, tg.2.2.2.2.2.2)) (cwV 2 hts gX9_special_X9_also rfl rfl rfl (by decide +kernel) ⟨Nat.le_of_ble_eq_true rfl, Nat.le_of_ble_eq_true rfl⟩) (md_preV 0 4 (q := (RX9, TX9, 26)) rfl rfl hP hK hD) rfl rfl hl.1 rfl (lv_room (Nat.le_of_ble_eq_true rfl)) dX9_special_372 ⟨Nat.zero_le _, Nat.zero_le _⟩) hS hA hP hD [0] [] rfl rfl (by decide) (by decide) (fun H locs hP hD hS => ?_)
    have hP : va_P (dC, dI) vwCl (wM1 m0 g (tg.1, z0, 0, 2, ((rgs tg.1 21) ||| (rgs tg.1 16)), 0, tg.2.2.2.2.2.2)) H := hP
    have hD : va_D A (wM1 m0 g (tg.1, z0, 0, 2, ((rgs tg.1 21) ||| (rgs tg.1 16)), 0, tg.2.2.2.2.2.2)) := hD
    have e9 : (tg.1, z0, 0, 2, ((rgs tg.1 21) ||| (rgs tg.1 16)), 0, tg.2.2.2.2.2.2) = (fX9_special x1 sg) := ((show (tg.1, z0, 0, 2, ((rgs tg.1 21) ||| (rgs tg.1 16)), 0, tg.2.2.2.2.2.2) = (fX9_special_356 x1 z0 tg) by unfold fX9_special_356; rfl).trans hv)
    have hP : va_P (dC, dI) vwCl (wM1 m0 g (fX9_special x1 sg)) H := by rw [← e9]; exact hP
    have hD : va_D A (wM1 m0 g (fX9_special x1 sg)) := by rw [← e9]; exact hD
    exact W.vret hx hb hr (fun t ht hW => ⟨⟨(), rfl, trivial, by rw [ht]; exact hP, hD⟩, hS.F ht⟩) hS.2.2 dX9_special_375
  have J313 : ∀ (tg : Sc) (H : Heap) (locs : List Loc) (ls : Array Slot), va_P (dC, dI) vwCl (wM1 m0 g tg) H → va_D A (wM1 m0 g tg) → va_S A s.heap H locs → lv_has ls 2 [(0, .ref m0), (1, .int (x1))] → (fX9_special_313 x1 tg) = (fX9_special x1 sg) → W p l e (headSpec wsX9_special ({ frames := 2, cells := 0, slots := 0, locals := 41 })).room s m ([.ref m0, .int (x1)] : List Value).toArray below meth c H locs 0 0 (MQ below (md_Qv (dC, dI) (wM1 m0 g (fX9_special x1 sg)) (A)) ([.ref m0, .int (x1)] : List Value).toArray s 0 0 (A)) (F0 m 313 ls []) := by
    intro tg H locs ls hP hD hS hl hv
    refine lv_aload_n hx hb dX9_special_313 rfl (lv_at hl 0 rfl) ?_
    refine lv_iconst (v := 0) hx hb dX9_special_314 (by decide) ?_
    refine lv_aload_n hx hb dX9_special_315 rfl (lv_at hl 0 rfl) ?_
    refine ro_calll (va_runV (As := []) (rest := [.int (0), .ref m0]) ⟨hx, hb, hml, hown, hts⟩ (kX9_s l dC dI m0 g H.size  tg) (cwV 0 hts gX9_special_X9_s rfl rfl rfl (by decide +kernel) ⟨Nat.le_of_ble_eq_true rfl, Nat.le_of_ble_eq_true rfl⟩) (ro_preV 0 4 (q := (RX9, TX9, 26)) rfl rfl hP hK) rfl rfl hl.1 rfl (lv_room (Nat.le_of_ble_eq_true rfl)) dX9_special_316 ⟨Nat.zero_le _, Nat.zero_le _⟩) hS hA (fun H locs kP hS => ?_)
    have hP := kP _ _ _ hP
    refine lv_lconst (v := 0) hx hb dX9_special_319 (by decide) ?_
    refine md_callv (wr := []) (va_runV (As := [.int (0), .long ((rgs tg.1 21)), .long (0)]) (rest := []) ⟨hx, hb, hml, hown, hts⟩ (kX9_is l dC dI m0 g H.size 0 (rgs tg.1 21) 0 tg) (cwV 3 hts gX9_special_X9_is rfl rfl rfl (by decide +kernel) ⟨Nat.le_of_ble_eq_true rfl, Nat.le_of_ble_eq_true rfl⟩) (md_preV 0 4 (q := (RX9, TX9, 26)) rfl rfl hP hK hD) rfl rfl hl.1 rfl (lv_room (Nat.le_of_ble_eq_true rfl)) dX9_special_320 ⟨Nat.zero_le _, Nat.zero_le _⟩) hS hA hP hD [0] [] rfl rfl (by decide) (by decide) (fun H locs hP hD hS => ?_)
    have hP : va_P (dC, dI) vwCl (wM1 m0 g (tg.1, 0, tg.2.2.1, tg.2.2.2.1, (rgs tg.1 21), 0, tg.2.2.2.2.2.2)) H := hP
    have hD : va_D A (wM1 m0 g (tg.1, 0, tg.2.2.1, tg.2.2.2.1, (rgs tg.1 21), 0, tg.2.2.2.2.2.2)) := hD
    refine lv_aload_n hx hb dX9_special_323 rfl (lv_at hl 0 rfl) ?_
    refine lv_iconst (v := 2) hx hb dX9_special_324 (by decide) ?_
    refine lv_iconst (v := 2) hx hb dX9_special_325 (by decide) ?_
    refine md_callv (wr := []) (va_runV (As := [.int (2), .int (2)]) (rest := []) ⟨hx, hb, hml, hown, hts⟩ (kX9_also l dC dI m0 g H.size 2 2 (tg.1, 0, tg.2.2.1, tg.2.2.2.1, (rgs tg.1 21), 0, tg.2.2.2.2.2.2)) (cwV 2 hts gX9_special_X9_also rfl rfl rfl (by decide +kernel) ⟨Nat.le_of_ble_eq_true rfl, Nat.le_of_ble_eq_true rfl⟩) (md_preV 0 4 (q := (RX9, TX9, 26)) rfl rfl hP hK hD) rfl rfl hl.1 rfl (lv_room (Nat.le_of_ble_eq_true rfl)) dX9_special_326 ⟨Nat.zero_le _, Nat.zero_le _⟩) hS hA hP hD [0] [] rfl rfl (by decide) (by decide) (fun H locs hP hD hS => ?_)
    have hP : va_P (dC, dI) vwCl (wM1 m0 g (tg.1, 0, 2, 2, (rgs tg.1 21), 0, tg.2.2.2.2.2.2)) H := hP
    have hD : va_D A (wM1 m0 g (tg.1, 0, 2, 2, (rgs tg.1 21), 0, tg.2.2.2.2.2.2)) := hD
    refine lv_goto (tgt := 375) hx hb dX9_special_329 (by decide) ?_
    have e9 : (tg.1, 0, 2, 2, (rgs tg.1 21), 0, tg.2.2.2.2.2.2) = (fX9_special x1 sg) := ((show (tg.1, 0, 2, 2, (rgs tg.1 21), 0, tg.2.2.2.2.2.2) = (fX9_special_313 x1 tg) by unfold fX9_special_313; rfl).trans hv)
    have hP : va_P (dC, dI) vwCl (wM1 m0 g (fX9_special x1 sg)) H := by rw [← e9]; exact hP
    have hD : va_D A (wM1 m0 g (fX9_special x1 sg)) := by rw [← e9]; exact hD
    exact W.vret hx hb hr (fun t ht hW => ⟨⟨(), rfl, trivial, by rw [ht]; exact hP, hD⟩, hS.F ht⟩) hS.2.2 dX9_special_375
  have J282 : ∀ (tg : Sc) (H : Heap) (locs : List Loc) (ls : Array Slot), va_P (dC, dI) vwCl (wM1 m0 g tg) H → va_D A (wM1 m0 g tg) → va_S A s.heap H locs → lv_has ls 2 [(0, .ref m0), (1, .int (x1))] → (fX9_special_282 x1 tg) = (fX9_special x1 sg) → W p l e (headSpec wsX9_special ({ frames := 2, cells := 0, slots := 0, locals := 41 })).room s m ([.ref m0, .int (x1)] : List Value).toArray below meth c H locs 0 0 (MQ below (md_Qv (dC, dI) (wM1 m0 g (fX9_special x1 sg)) (A)) ([.ref m0, .int (x1)] : List Value).toArray s 0 0 (A)) (F0 m 282 ls []) := by
    intro tg H locs ls hP hD hS hl hv
    refine lv_aload_n hx hb dX9_special_282 rfl (lv_at hl 0 rfl) ?_
    refine lv_iconst (v := 0) hx hb dX9_special_283 (by decide) ?_
    refine lv_lconst (v := 0) hx hb dX9_special_284 (by decide) ?_
    refine lv_aload_n hx hb dX9_special_285 rfl (lv_at hl 0 rfl) ?_
    refine ro_calll (va_runV (As := []) (rest := [.long (0), .int (0), .ref m0]) ⟨hx, hb, hml, hown, hts⟩ (kX9_d l dC dI m0 g H.size  tg) (cwV 0 hts gX9_special_X9_d rfl rfl rfl (by decide +kernel) ⟨Nat.le_of_ble_eq_true rfl, Nat.le_of_ble_eq_true rfl⟩) (ro_preV 0 4 (q := (RX9, TX9, 26)) rfl rfl hP hK) rfl rfl hl.1 rfl (lv_room (Nat.le_of_ble_eq_true rfl)) dX9_special_286 ⟨Nat.zero_le _, Nat.zero_le _⟩) hS hA (fun H locs kP hS => ?_)
    have hP := kP _ _ _ hP
    refine md_callv (wr := []) (va_runV (As := [.int (0), .long (0), .long ((rgs tg.1 11))]) (rest := []) ⟨hx, hb, hml, hown, hts⟩ (kX9_is l dC dI m0 g H.size 0 0 (rgs tg.1 11) tg) (cwV 3 hts gX9_special_X9_is rfl rfl rfl (by decide +kernel) ⟨Nat.le_of_ble_eq_true rfl, Nat.le_of_ble_eq_true rfl⟩) (md_preV 0 4 (q := (RX9, TX9, 26)) rfl rfl hP hK hD) rfl rfl hl.1 rfl (lv_room (Nat.le_of_ble_eq_true rfl)) dX9_special_289 ⟨Nat.zero_le _, Nat.zero_le _⟩) hS hA hP hD [0] [] rfl rfl (by decide) (by decide) (fun H locs hP hD hS => ?_)
    have hP : va_P (dC, dI) vwCl (wM1 m0 g (tg.1, 0, tg.2.2.1, tg.2.2.2.1, 0, (rgs tg.1 11), tg.2.2.2.2.2.2)) H := hP
    have hD : va_D A (wM1 m0 g (tg.1, 0, tg.2.2.1, tg.2.2.2.1, 0, (rgs tg.1 11), tg.2.2.2.2.2.2)) := hD
    refine lv_aload_n hx hb dX9_special_292 rfl (lv_at hl 0 rfl) ?_
    refine lv_iconst (v := 2) hx hb dX9_special_293 (by decide) ?_
    refine lv_iconst (v := 0) hx hb dX9_special_294 (by decide) ?_
    refine md_callv (wr := []) (va_runV (As := [.int (2), .int (0)]) (rest := []) ⟨hx, hb, hml, hown, hts⟩ (kX9_also l dC dI m0 g H.size 2 0 (tg.1, 0, tg.2.2.1, tg.2.2.2.1, 0, (rgs tg.1 11), tg.2.2.2.2.2.2)) (cwV 2 hts gX9_special_X9_also rfl rfl rfl (by decide +kernel) ⟨Nat.le_of_ble_eq_true rfl, Nat.le_of_ble_eq_true rfl⟩) (md_preV 0 4 (q := (RX9, TX9, 26)) rfl rfl hP hK hD) rfl rfl hl.1 rfl (lv_room (Nat.le_of_ble_eq_true rfl)) dX9_special_295 ⟨Nat.zero_le _, Nat.zero_le _⟩) hS hA hP hD [0] [] rfl rfl (by decide) (by decide) (fun H locs hP hD hS => ?_)
    have hP : va_P (dC, dI) vwCl (wM1 m0 g (tg.1, 0, 2, 0, 0, (rgs tg.1 11), tg.2.2.2.2.2.2)) H := hP
    have hD : va_D A (wM1 m0 g (tg.1, 0, 2, 0, 0, (rgs tg.1 11), tg.2.2.2.2.2.2)) := hD
    refine lv_goto (tgt := 375) hx hb dX9_special_298 (by decide) ?_
    have e9 : (tg.1, 0, 2, 0, 0, (rgs tg.1 11), tg.2.2.2.2.2.2) = (fX9_special x1 sg) := ((show (tg.1, 0, 2, 0, 0, (rgs tg.1 11), tg.2.2.2.2.2.2) = (fX9_special_282 x1 tg) by unfold fX9_special_282; rfl).trans hv)
    have hP : va_P (dC, dI) vwCl (wM1 m0 g (fX9_special x1 sg)) H := by rw [← e9]; exact hP
    have hD : va_D A (wM1 m0 g (fX9_special x1 sg)) := by rw [← e9]; exact hD
    exact W.vret hx hb hr (fun t ht hW => ⟨⟨(), rfl, trivial, by rw [ht]; exact hP, hD⟩, hS.F ht⟩) hS.2.2 dX9_special_375
  have J270 : ∀ (tg : Sc) (H : Heap) (locs : List Loc) (ls : Array Slot), va_P (dC, dI) vwCl (wM1 m0 g tg) H → va_D A (wM1 m0 g tg) → va_S A s.heap H locs → lv_has ls 2 [(0, .ref m0), (1, .int (x1))] → (fX9_special_270 x1 tg) = (fX9_special x1 sg) → W p l e (headSpec wsX9_special ({ frames := 2, cells := 0, slots := 0, locals := 41 })).room s m ([.ref m0, .int (x1)] : List Value).toArray below meth c H locs 0 0 (MQ below (md_Qv (dC, dI) (wM1 m0 g (fX9_special x1 sg)) (A)) ([.ref m0, .int (x1)] : List Value).toArray s 0 0 (A)) (F0 m 270 ls []) := by
    intro tg H locs ls hP hD hS hl hv
    refine lv_iload_n hx hb dX9_special_270 rfl (lv_at hl 1 rfl) ?_
    refine lv_bipush (v := 16) hx hb dX9_special_271 (by decide) ?_
    refine lv_icmp_eq (tgt := 282) hx hb dX9_special_273 (by decide) (fun c_1 => ?_) (fun c_1 => ?_)
    · exact J282 tg H _ ls hP hD hS (lv_sub hl [0, 1] rfl) ((show (fX9_special_282 x1 tg) = (fX9_special_270 x1 tg) by unfold fX9_special_270; rw [if_pos c_1]).trans hv)
    · refine lv_iload_n hx hb dX9_special_276 rfl (lv_at hl 1 rfl) ?_
      refine lv_bipush (v := 18) hx hb dX9_special_277 (by decide) ?_
      refine lv_icmp_ne (tgt := 301) hx hb dX9_special_279 (by decide) (fun c_2 => ?_) (fun c_2 => ?_)
      · refine lv_iload_n hx hb dX9_special_301 rfl (lv_at hl 1 rfl) ?_
        refine lv_bipush (v := 17) hx hb dX9_special_302 (by decide) ?_
        refine lv_icmp_eq (tgt := 313) hx hb dX9_special_304 (by decide) (fun c_3 => ?_) (fun c_3 => ?_)
        · exact J313 tg H _ ls hP hD hS (lv_sub hl [0, 1] rfl) ((show (fX9_special_313 x1 tg) = (fX9_special_270 x1 tg) by unfold fX9_special_270; rw [if_neg c_1, if_neg c_2, if_pos c_3]).trans hv)
        · refine lv_iload_n hx hb dX9_special_307 rfl (lv_at hl 1 rfl) ?_
          refine lv_bipush (v := 19) hx hb dX9_special_308 (by decide) ?_
          refine lv_icmp_ne (tgt := 332) hx hb dX9_special_310 (by decide) (fun c_4 => ?_) (fun c_4 => ?_)
          · refine lv_iload_n hx hb dX9_special_332 rfl (lv_at hl 1 rfl) ?_
            refine lv_bipush (v := 24) hx hb dX9_special_333 (by decide) ?_
            refine lv_icmp_lt (tgt := 375) hx hb dX9_special_335 (by decide) (fun c_5 => ?_) (fun c_5 => ?_)
            · have e9 : tg = (fX9_special x1 sg) := ((show tg = (fX9_special_270 x1 tg) by unfold fX9_special_270; rw [if_neg c_1, if_neg c_2, if_neg c_3, if_neg c_4, if_pos c_5]).trans hv)
              have hP : va_P (dC, dI) vwCl (wM1 m0 g (fX9_special x1 sg)) H := by rw [← e9]; exact hP
              have hD : va_D A (wM1 m0 g (fX9_special x1 sg)) := by rw [← e9]; exact hD
              exact W.vret hx hb hr (fun t ht hW => ⟨⟨(), rfl, trivial, by rw [ht]; exact hP, hD⟩, hS.F ht⟩) hS.2.2 dX9_special_375
            · refine lv_iload_n hx hb dX9_special_338 rfl (lv_at hl 1 rfl) ?_
              refine lv_bipush (v := 28) hx hb dX9_special_339 (by decide) ?_
              refine lv_icmp_ge (tgt := 375) hx hb dX9_special_341 (by decide) (fun c_6 => ?_) (fun c_6 => ?_)
              · have e9 : tg = (fX9_special x1 sg) := ((show tg = (fX9_special_270 x1 tg) by unfold fX9_special_270; rw [if_neg c_1, if_neg c_2, if_neg c_3, if_neg c_4, if_neg c_5, if_pos c_6]).trans hv)
                have hP : va_P (dC, dI) vwCl (wM1 m0 g (fX9_special x1 sg)) H := by rw [← e9]; exact hP
                have hD : va_D A (wM1 m0 g (fX9_special x1 sg)) := by rw [← e9]; exact hD
                exact W.vret hx hb hr (fun t ht hW => ⟨⟨(), rfl, trivial, by rw [ht]; exact hP, hD⟩, hS.F ht⟩) hS.2.2 dX9_special_375
              · refine lv_aload_n hx hb dX9_special_344 rfl (lv_at hl 0 rfl) ?_
                refine lv_iload_n hx hb dX9_special_345 rfl (lv_at hl 1 rfl) ?_
                refine lv_bipush (v := 26) hx hb dX9_special_346 (by decide) ?_
                refine lv_icmp_ge (tgt := 355) hx hb dX9_special_348 (by decide) (fun c_7 => ?_) (fun c_7 => ?_)
                · refine lv_iconst (v := 4) hx hb dX9_special_355 (by decide) ?_
                  exact J356 4 tg H _ ls hP hD hS (lv_sub hl [0, 1] rfl) ((show (fX9_special_356 x1 4 tg) = (fX9_special_270 x1 tg) by unfold fX9_special_270; rw [if_neg c_1, if_neg c_2, if_neg c_3, if_neg c_4, if_neg c_5, if_neg c_6, if_pos c_7]).trans hv)
                · refine lv_iconst (v := 3) hx hb dX9_special_351 (by decide) ?_
                  refine lv_goto (tgt := 356) hx hb dX9_special_352 (by decide) ?_
                  exact J356 3 tg H _ ls hP hD hS (lv_sub hl [0, 1] rfl) ((show (fX9_special_356 x1 3 tg) = (fX9_special_270 x1 tg) by unfold fX9_special_270; rw [if_neg c_1, if_neg c_2, if_neg c_3, if_neg c_4, if_neg c_5, if_neg c_6, if_neg c_7]).trans hv)
          · exact J313 tg H _ ls hP hD hS (lv_sub hl [0, 1] rfl) ((show (fX9_special_313 x1 tg) = (fX9_special_270 x1 tg) by unfold fX9_special_270; rw [if_neg c_1, if_neg c_2, if_neg c_3, if_pos c_4]).trans hv)
      · exact J282 tg H _ ls hP hD hS (lv_sub hl [0, 1] rfl) ((show (fX9_special_282 x1 tg) = (fX9_special_270 x1 tg) by unfold fX9_special_270; rw [if_neg c_1, if_pos c_2]).trans hv)
  have J259 : ∀ (tg : Sc) (H : Heap) (locs : List Loc) (ls : Array Slot), va_P (dC, dI) vwCl (wM1 m0 g tg) H → va_D A (wM1 m0 g tg) → va_S A s.heap H locs → lv_has ls 2 [(0, .ref m0), (1, .int (x1))] → (fX9_special_259 x1 tg) = (fX9_special x1 sg) → W p l e (headSpec wsX9_special ({ frames := 2, cells := 0, slots := 0, locals := 41 })).room s m ([.ref m0, .int (x1)] : List Value).toArray below meth c H locs 0 0 (MQ below (md_Qv (dC, dI) (wM1 m0 g (fX9_special x1 sg)) (A)) ([.ref m0, .int (x1)] : List Value).toArray s 0 0 (A)) (F0 m 259 ls []) := by
    intro tg H locs ls hP hD hS hl hv
    refine lv_aload_n hx hb dX9_special_259 rfl (lv_at hl 0 rfl) ?_
    refine lv_bipush (v := 8) hx hb dX9_special_260 (by decide) ?_
    refine lv_lconst (v := 0) hx hb dX9_special_262 (by decide) ?_
    refine lv_lconst (v := 0) hx hb dX9_special_263 (by decide) ?_
    refine md_callv (wr := []) (va_runV (As := [.int (8), .long (0), .long (0)]) (rest := []) ⟨hx, hb, hml, hown, hts⟩ (kX9_is l dC dI m0 g H.size 8 0 0 tg) (cwV 3 hts gX9_special_X9_is rfl rfl rfl (by decide +kernel) ⟨Nat.le_of_ble_eq_true rfl, Nat.le_of_ble_eq_true rfl⟩) (md_preV 0 4 (q := (RX9, TX9, 26)) rfl rfl hP hK hD) rfl rfl hl.1 rfl (lv_room (Nat.le_of_ble_eq_true rfl)) dX9_special_264 ⟨Nat.zero_le _, Nat.zero_le _⟩) hS hA hP hD [0] [] rfl rfl (by decide) (by decide) (fun H locs hP hD hS => ?_)
    have hP : va_P (dC, dI) vwCl (wM1 m0 g (tg.1, 8, tg.2.2.1, tg.2.2.2.1, 0, 0, tg.2.2.2.2.2.2)) H := hP
    have hD : va_D A (wM1 m0 g (tg.1, 8, tg.2.2.1, tg.2.2.2.1, 0, 0, tg.2.2.2.2.2.2)) := hD
    refine lv_goto (tgt := 375) hx hb dX9_special_267 (by decide) ?_
    have e9 : (tg.1, 8, tg.2.2.1, tg.2.2.2.1, 0, 0, tg.2.2.2.2.2.2) = (fX9_special x1 sg) := ((show (tg.1, 8, tg.2.2.1, tg.2.2.2.1, 0, 0, tg.2.2.2.2.2.2) = (fX9_special_259 x1 tg) by unfold fX9_special_259; rfl).trans hv)
    have hP : va_P (dC, dI) vwCl (wM1 m0 g (fX9_special x1 sg)) H := by rw [← e9]; exact hP
    have hD : va_D A (wM1 m0 g (fX9_special x1 sg)) := by rw [← e9]; exact hD
    exact W.vret hx hb hr (fun t ht hW => ⟨⟨(), rfl, trivial, by rw [ht]; exact hP, hD⟩, hS.F ht⟩) hS.2.2 dX9_special_375
  have J185 : ∀ (tg : Sc) (H : Heap) (locs : List Loc) (ls : Array Slot), va_P (dC, dI) vwCl (wM1 m0 g tg) H → va_D A (wM1 m0 g tg) → va_S A s.heap H locs → lv_has ls 2 [(0, .ref m0), (1, .int (x1))] → (fX9_special_185 x1 tg) = (fX9_special x1 sg) → W p l e (headSpec wsX9_special ({ frames := 2, cells := 0, slots := 0, locals := 41 })).room s m ([.ref m0, .int (x1)] : List Value).toArray below meth c H locs 0 0 (MQ below (md_Qv (dC, dI) (wM1 m0 g (fX9_special x1 sg)) (A)) ([.ref m0, .int (x1)] : List Value).toArray s 0 0 (A)) (F0 m 185 ls []) := by
    intro tg H locs ls hP hD hS hl hv
    refine lv_aload_n hx hb dX9_special_185 rfl (lv_at hl 0 rfl) ?_
    refine lv_iconst (v := 0) hx hb dX9_special_186 (by decide) ?_
    refine lv_aload_n hx hb dX9_special_187 rfl (lv_at hl 0 rfl) ?_
    refine ro_calll (va_runV (As := []) (rest := [.int (0), .ref m0]) ⟨hx, hb, hml, hown, hts⟩ (kX9_s l dC dI m0 g H.size  tg) (cwV 0 hts gX9_special_X9_s rfl rfl rfl (by decide +kernel) ⟨Nat.le_of_ble_eq_true rfl, Nat.le_of_ble_eq_true rfl⟩) (ro_preV 0 4 (q := (RX9, TX9, 26)) rfl rfl hP hK) rfl rfl hl.1 rfl (lv_room (Nat.le_of_ble_eq_true rfl)) dX9_special_188 ⟨Nat.zero_le _, Nat.zero_le _⟩) hS hA (fun H locs kP hS => ?_)
    have hP := kP _ _ _ hP
    refine lv_aload_n hx hb dX9_special_191 rfl (lv_at hl 0 rfl) ?_
    refine ro_calll (va_runV (As := []) (rest := [.long ((rgs tg.1 21)), .int (0), .ref m0]) ⟨hx, hb, hml, hown, hts⟩ (kX9_t l dC dI m0 g H.size  tg) (cwV 0 hts gX9_special_X9_t rfl rfl rfl (by decide +kernel) ⟨Nat.le_of_ble_eq_true rfl, Nat.le_of_ble_eq_true rfl⟩) (ro_preV 0 4 (q := (RX9, TX9, 26)) rfl rfl hP hK) rfl rfl hl.1 rfl (lv_room (Nat.le_of_ble_eq_true rfl)) dX9_special_192 ⟨Nat.zero_le _, Nat.zero_le _⟩) hS hA (fun H locs kP hS => ?_)
    have hP := kP _ _ _ hP
    refine lv_lor hx hb dX9_special_195 ?_
    refine lv_aload_n hx hb dX9_special_196 rfl (lv_at hl 0 rfl) ?_
    refine ro_calll (va_runV (As := []) (rest := [.long (((rgs tg.1 21) ||| (rgs tg.1 16))), .int (0), .ref m0]) ⟨hx, hb, hml, hown, hts⟩ (kX9_d l dC dI m0 g H.size  tg) (cwV 0 hts gX9_special_X9_d rfl rfl rfl (by decide +kernel) ⟨Nat.le_of_ble_eq_true rfl, Nat.le_of_ble_eq_true rfl⟩) (ro_preV 0 4 (q := (RX9, TX9, 26)) rfl rfl hP hK) rfl rfl hl.1 rfl (lv_room (Nat.le_of_ble_eq_true rfl)) dX9_special_197 ⟨Nat.zero_le _, Nat.zero_le _⟩) hS hA (fun H locs kP hS => ?_)
    have hP := kP _ _ _ hP
    refine lv_lor hx hb dX9_special_200 ?_
    refine lv_aload_n hx hb dX9_special_201 rfl (lv_at hl 0 rfl) ?_
    refine ro_calll (va_runV (As := []) (rest := [.long ((((rgs tg.1 21) ||| (rgs tg.1 16)) ||| (rgs tg.1 11))), .int (0), .ref m0]) ⟨hx, hb, hml, hown, hts⟩ (kX9_d l dC dI m0 g H.size  tg) (cwV 0 hts gX9_special_X9_d rfl rfl rfl (by decide +kernel) ⟨Nat.le_of_ble_eq_true rfl, Nat.le_of_ble_eq_true rfl⟩) (ro_preV 0 4 (q := (RX9, TX9, 26)) rfl rfl hP hK) rfl rfl hl.1 rfl (lv_room (Nat.le_of_ble_eq_true rfl)) dX9_special_202 ⟨Nat.zero_le _, Nat.zero_le _⟩) hS hA (fun H locs kP hS => ?_)
    have hP := kP _ _ _ hP
    refine md_callv (wr := []) (va_runV (As := [.int (0), .long ((((rgs tg.1 21) ||| (rgs tg.1 16)) ||| (rgs tg.1 11))), .long ((rgs tg.1 11))]) (rest := []) ⟨hx, hb, hml, hown, hts⟩ (kX9_is l dC dI m0 g H.size 0 (((rgs tg.1 21) ||| (rgs tg.1 16)) ||| (rgs tg.1 11)) (rgs tg.1 11) tg) (cwV 3 hts gX9_special_X9_is rfl rfl rfl (by decide +kernel) ⟨Nat.le_of_ble_eq_true rfl, Nat.le_of_ble_eq_true rfl⟩) (md_preV 0 4 (q := (RX9, TX9, 26)) rfl rfl hP hK hD) rfl rfl hl.1 rfl (lv_room (Nat.le_of_ble_eq_true rfl)) dX9_special_205 ⟨Nat.zero_le _, Nat.zero_le _⟩) hS hA hP hD [0] [] rfl rfl (by decide) (by decide) (fun H locs hP hD hS => ?_)
    have hP : va_P (dC, dI) vwCl (wM1 m0 g (tg.1, 0, tg.2.2.1, tg.2.2.2.1, (((rgs tg.1 21) ||| (rgs tg.1 16)) ||| (rgs tg.1 11)), (rgs tg.1 11), tg.2.2.2.2.2.2)) H := hP
    have hD : va_D A (wM1 m0 g (tg.1, 0, tg.2.2.1, tg.2.2.2.1, (((rgs tg.1 21) ||| (rgs tg.1 16)) ||| (rgs tg.1 11)), (rgs tg.1 11), tg.2.2.2.2.2.2)) := hD
    refine lv_goto (tgt := 375) hx hb dX9_special_208 (by decide) ?_
    have e9 : (tg.1, 0, tg.2.2.1, tg.2.2.2.1, (((rgs tg.1 21) ||| (rgs tg.1 16)) ||| (rgs tg.1 11)), (rgs tg.1 11), tg.2.2.2.2.2.2) = (fX9_special x1 sg) := ((show (tg.1, 0, tg.2.2.1, tg.2.2.2.1, (((rgs tg.1 21) ||| (rgs tg.1 16)) ||| (rgs tg.1 11)), (rgs tg.1 11), tg.2.2.2.2.2.2) = (fX9_special_185 x1 tg) by unfold fX9_special_185; rfl).trans hv)
    have hP : va_P (dC, dI) vwCl (wM1 m0 g (fX9_special x1 sg)) H := by rw [← e9]; exact hP
    have hD : va_D A (wM1 m0 g (fX9_special x1 sg)) := by rw [← e9]; exact hD
    exact W.vret hx hb hr (fun t ht hW => ⟨⟨(), rfl, trivial, by rw [ht]; exact hP, hD⟩, hS.F ht⟩) hS.2.2 dX9_special_375
  have J109 : ∀ (tg : Sc) (H : Heap) (locs : List Loc) (ls : Array Slot), va_P (dC, dI) vwCl (wM1 m0 g tg) H → va_D A (wM1 m0 g tg) → va_S A s.heap H locs → lv_has ls 2 [(0, .ref m0), (1, .int (x1))] → (fX9_special_109 x1 tg) = (fX9_special x1 sg) → W p l e (headSpec wsX9_special ({ frames := 2, cells := 0, slots := 0, locals := 41 })).room s m ([.ref m0, .int (x1)] : List Value).toArray below meth c H locs 0 0 (MQ below (md_Qv (dC, dI) (wM1 m0 g (fX9_special x1 sg)) (A)) ([.ref m0, .int (x1)] : List Value).toArray s 0 0 (A)) (F0 m 109 ls []) := by
    intro tg H locs ls hP hD hS hl hv
    refine lv_aload_n hx hb dX9_special_109 rfl (lv_at hl 0 rfl) ?_
    refine lv_iconst (v := 0) hx hb dX9_special_110 (by decide) ?_
    refine lv_aload_n hx hb dX9_special_111 rfl (lv_at hl 0 rfl) ?_
    refine ro_calll (va_runV (As := []) (rest := [.int (0), .ref m0]) ⟨hx, hb, hml, hown, hts⟩ (kX9_s l dC dI m0 g H.size  tg) (cwV 0 hts gX9_special_X9_s rfl rfl rfl (by decide +kernel) ⟨Nat.le_of_ble_eq_true rfl, Nat.le_of_ble_eq_true rfl⟩) (ro_preV 0 4 (q := (RX9, TX9, 26)) rfl rfl hP hK) rfl rfl hl.1 rfl (lv_room (Nat.le_of_ble_eq_true rfl)) dX9_special_112 ⟨Nat.zero_le _, Nat.zero_le _⟩) hS hA (fun H locs kP hS => ?_)
    have hP := kP _ _ _ hP
    refine lv_aload_n hx hb dX9_special_115 rfl (lv_at hl 0 rfl) ?_
    refine ro_calll (va_runV (As := []) (rest := [.long ((rgs tg.1 21)), .int (0), .ref m0]) ⟨hx, hb, hml, hown, hts⟩ (kX9_t l dC dI m0 g H.size  tg) (cwV 0 hts gX9_special_X9_t rfl rfl rfl (by decide +kernel) ⟨Nat.le_of_ble_eq_true rfl, Nat.le_of_ble_eq_true rfl⟩) (ro_preV 0 4 (q := (RX9, TX9, 26)) rfl rfl hP hK) rfl rfl hl.1 rfl (lv_room (Nat.le_of_ble_eq_true rfl)) dX9_special_116 ⟨Nat.zero_le _, Nat.zero_le _⟩) hS hA (fun H locs kP hS => ?_)
    have hP := kP _ _ _ hP
    refine lv_lor hx hb dX9_special_119 ?_
    refine lv_aload_n hx hb dX9_special_120 rfl (lv_at hl 0 rfl) ?_
    refine ro_calll (va_runV (As := []) (rest := [.long (((rgs tg.1 21) ||| (rgs tg.1 16))), .int (0), .ref m0]) ⟨hx, hb, hml, hown, hts⟩ (kX9_d l dC dI m0 g H.size  tg) (cwV 0 hts gX9_special_X9_d rfl rfl rfl (by decide +kernel) ⟨Nat.le_of_ble_eq_true rfl, Nat.le_of_ble_eq_true rfl⟩) (ro_preV 0 4 (q := (RX9, TX9, 26)) rfl rfl hP hK) rfl rfl hl.1 rfl (lv_room (Nat.le_of_ble_eq_true rfl)) dX9_special_121 ⟨Nat.zero_le _, Nat.zero_le _⟩) hS hA (fun H locs kP hS => ?_)
    have hP := kP _ _ _ hP
    refine md_callv (wr := []) (va_runV (As := [.int (0), .long (((rgs tg.1 21) ||| (rgs tg.1 16))), .long ((rgs tg.1 11))]) (rest := []) ⟨hx, hb, hml, hown, hts⟩ (kX9_is l dC dI m0 g H.size 0 ((rgs tg.1 21) ||| (rgs tg.1 16)) (rgs tg.1 11) tg) (cwV 3 hts gX9_special_X9_is rfl rfl rfl (by decide +kernel) ⟨Nat.le_of_ble_eq_true rfl, Nat.le_of_ble_eq_true rfl⟩) (md_preV 0 4 (q := (RX9, TX9, 26)) rfl rfl hP hK hD) rfl rfl hl.1 rfl (lv_room (Nat.le_of_ble_eq_true rfl)) dX9_special_124 ⟨Nat.zero_le _, Nat.zero_le _⟩) hS hA hP hD [0] [] rfl rfl (by decide) (by decide) (fun H locs hP hD hS => ?_)
    have hP : va_P (dC, dI) vwCl (wM1 m0 g (tg.1, 0, tg.2.2.1, tg.2.2.2.1, ((rgs tg.1 21) ||| (rgs tg.1 16)), (rgs tg.1 11), tg.2.2.2.2.2.2)) H := hP
    have hD : va_D A (wM1 m0 g (tg.1, 0, tg.2.2.1, tg.2.2.2.1, ((rgs tg.1 21) ||| (rgs tg.1 16)), (rgs tg.1 11), tg.2.2.2.2.2.2)) := hD
    refine lv_goto (tgt := 375) hx hb dX9_special_127 (by decide) ?_
    have e9 : (tg.1, 0, tg.2.2.1, tg.2.2.2.1, ((rgs tg.1 21) ||| (rgs tg.1 16)), (rgs tg.1 11), tg.2.2.2.2.2.2) = (fX9_special x1 sg) := ((show (tg.1, 0, tg.2.2.1, tg.2.2.2.1, ((rgs tg.1 21) ||| (rgs tg.1 16)), (rgs tg.1 11), tg.2.2.2.2.2.2) = (fX9_special_109 x1 tg) by unfold fX9_special_109; rfl).trans hv)
    have hP : va_P (dC, dI) vwCl (wM1 m0 g (fX9_special x1 sg)) H := by rw [← e9]; exact hP
    have hD : va_D A (wM1 m0 g (fX9_special x1 sg)) := by rw [← e9]; exact hD
    exact W.vret hx hb hr (fun t ht hW => ⟨⟨(), rfl, trivial, by rw [ht]; exact hP, hD⟩, hS.F ht⟩) hS.2.2 dX9_special_375
  have J97 : ∀ (tg : Sc) (H : Heap) (locs : List Loc) (ls : Array Slot), va_P (dC, dI) vwCl (wM1 m0 g tg) H → va_D A (wM1 m0 g tg) → va_S A s.heap H locs → lv_has ls 2 [(0, .ref m0), (1, .int (x1))] → (fX9_special_97 x1 tg) = (fX9_special x1 sg) → W p l e (headSpec wsX9_special ({ frames := 2, cells := 0, slots := 0, locals := 41 })).room s m ([.ref m0, .int (x1)] : List Value).toArray below meth c H locs 0 0 (MQ below (md_Qv (dC, dI) (wM1 m0 g (fX9_special x1 sg)) (A)) ([.ref m0, .int (x1)] : List Value).toArray s 0 0 (A)) (F0 m 97 ls []) := by
    intro tg H locs ls hP hD hS hl hv
    refine lv_iload_n hx hb dX9_special_97 rfl (lv_at hl 1 rfl) ?_
    refine lv_bipush (v := 42) hx hb dX9_special_98 (by decide) ?_
    refine lv_icmp_eq (tgt := 109) hx hb dX9_special_100 (by decide) (fun c_8 => ?_) (fun c_8 => ?_)
    · exact J109 tg H _ ls hP hD hS (lv_sub hl [0, 1] rfl) ((show (fX9_special_109 x1 tg) = (fX9_special_97 x1 tg) by unfold fX9_special_97; rw [if_pos c_8]).trans hv)
    · refine lv_iload_n hx hb dX9_special_103 rfl (lv_at hl 1 rfl) ?_
      refine lv_bipush (v := 43) hx hb dX9_special_104 (by decide) ?_
      refine lv_icmp_ne (tgt := 130) hx hb dX9_special_106 (by decide) (fun c_9 => ?_) (fun c_9 => ?_)
      · refine lv_iload_n hx hb dX9_special_130 rfl (lv_at hl 1 rfl) ?_
        refine lv_bipush (v := 8) hx hb dX9_special_131 (by decide) ?_
        refine lv_icmp_ne (tgt := 150) hx hb dX9_special_133 (by decide) (fun c_10 => ?_) (fun c_10 => ?_)
        · refine lv_iload_n hx hb dX9_special_150 rfl (lv_at hl 1 rfl) ?_
          refine lv_bipush (v := 9) hx hb dX9_special_151 (by decide) ?_
          refine lv_icmp_ne (tgt := 173) hx hb dX9_special_153 (by decide) (fun c_11 => ?_) (fun c_11 => ?_)
          · refine lv_iload_n hx hb dX9_special_173 rfl (lv_at hl 1 rfl) ?_
            refine lv_bipush (v := 10) hx hb dX9_special_174 (by decide) ?_
            refine lv_icmp_eq (tgt := 185) hx hb dX9_special_176 (by decide) (fun c_12 => ?_) (fun c_12 => ?_)
            · exact J185 tg H _ ls hP hD hS (lv_sub hl [0, 1] rfl) ((show (fX9_special_185 x1 tg) = (fX9_special_97 x1 tg) by unfold fX9_special_97; rw [if_neg c_8, if_neg c_9, if_neg c_10, if_neg c_11, if_pos c_12]).trans hv)
            · refine lv_iload_n hx hb dX9_special_179 rfl (lv_at hl 1 rfl) ?_
              refine lv_bipush (v := 11) hx hb dX9_special_180 (by decide) ?_
              refine lv_icmp_ne (tgt := 211) hx hb dX9_special_182 (by decide) (fun c_13 => ?_) (fun c_13 => ?_)
              · refine lv_iload_n hx hb dX9_special_211 rfl (lv_at hl 1 rfl) ?_
                refine lv_bipush (v := 12) hx hb dX9_special_212 (by decide) ?_
                refine lv_icmp_eq (tgt := 259) hx hb dX9_special_214 (by decide) (fun c_14 => ?_) (fun c_14 => ?_)
                · exact J259 tg H _ ls hP hD hS (lv_sub hl [0, 1] rfl) ((show (fX9_special_259 x1 tg) = (fX9_special_97 x1 tg) by unfold fX9_special_97; rw [if_neg c_8, if_neg c_9, if_neg c_10, if_neg c_11, if_neg c_12, if_neg c_13, if_pos c_14]).trans hv)
                · refine lv_iload_n hx hb dX9_special_217 rfl (lv_at hl 1 rfl) ?_
                  refine lv_bipush (v := 13) hx hb dX9_special_218 (by decide) ?_
                  refine lv_icmp_eq (tgt := 259) hx hb dX9_special_220 (by decide) (fun c_15 => ?_) (fun c_15 => ?_)
                  · exact J259 tg H _ ls hP hD hS (lv_sub hl [0, 1] rfl) ((show (fX9_special_259 x1 tg) = (fX9_special_97 x1 tg) by unfold fX9_special_97; rw [if_neg c_8, if_neg c_9, if_neg c_10, if_neg c_11, if_neg c_12, if_neg c_13, if_neg c_14, if_pos c_15]).trans hv)
                  · refine lv_iload_n hx hb dX9_special_223 rfl (lv_at hl 1 rfl) ?_
                    refine lv_bipush (v := 15) hx hb dX9_special_224 (by decide) ?_
                    refine lv_icmp_eq (tgt := 259) hx hb dX9_special_226 (by decide) (fun c_16 => ?_) (fun c_16 => ?_)
                    · exact J259 tg H _ ls hP hD hS (lv_sub hl [0, 1] rfl) ((show (fX9_special_259 x1 tg) = (fX9_special_97 x1 tg) by unfold fX9_special_97; rw [if_neg c_8, if_neg c_9, if_neg c_10, if_neg c_11, if_neg c_12, if_neg c_13, if_neg c_14, if_neg c_15, if_pos c_16]).trans hv)
                    · refine lv_iload_n hx hb dX9_special_229 rfl (lv_at hl 1 rfl) ?_
                      refine lv_bipush (v := 32) hx hb dX9_special_230 (by decide) ?_
                      refine lv_icmp_eq (tgt := 259) hx hb dX9_special_232 (by decide) (fun c_17 => ?_) (fun c_17 => ?_)
                      · exact J259 tg H _ ls hP hD hS (lv_sub hl [0, 1] rfl) ((show (fX9_special_259 x1 tg) = (fX9_special_97 x1 tg) by unfold fX9_special_97; rw [if_neg c_8, if_neg c_9, if_neg c_10, if_neg c_11, if_neg c_12, if_neg c_13, if_neg c_14, if_neg c_15, if_neg c_16, if_pos c_17]).trans hv)
                      · refine lv_iload_n hx hb dX9_special_235 rfl (lv_at hl 1 rfl) ?_
                        refine lv_bipush (v := 34) hx hb dX9_special_236 (by decide) ?_
                        refine lv_icmp_eq (tgt := 259) hx hb dX9_special_238 (by decide) (fun c_18 => ?_) (fun c_18 => ?_)
                        · exact J259 tg H _ ls hP hD hS (lv_sub hl [0, 1] rfl) ((show (fX9_special_259 x1 tg) = (fX9_special_97 x1 tg) by unfold fX9_special_97; rw [if_neg c_8, if_neg c_9, if_neg c_10, if_neg c_11, if_neg c_12, if_neg c_13, if_neg c_14, if_neg c_15, if_neg c_16, if_neg c_17, if_pos c_18]).trans hv)
                        · refine lv_iload_n hx hb dX9_special_241 rfl (lv_at hl 1 rfl) ?_
                          refine lv_bipush (v := 48) hx hb dX9_special_242 (by decide) ?_
                          refine lv_icmp_lt (tgt := 270) hx hb dX9_special_244 (by decide) (fun c_19 => ?_) (fun c_19 => ?_)
                          · exact J270 tg H _ ls hP hD hS (lv_sub hl [0, 1] rfl) ((show (fX9_special_270 x1 tg) = (fX9_special_97 x1 tg) by unfold fX9_special_97; rw [if_neg c_8, if_neg c_9, if_neg c_10, if_neg c_11, if_neg c_12, if_neg c_13, if_neg c_14, if_neg c_15, if_neg c_16, if_neg c_17, if_neg c_18, if_pos c_19]).trans hv)
                          · refine lv_iload_n hx hb dX9_special_247 rfl (lv_at hl 1 rfl) ?_
                            refine lv_bipush (v := 55) hx hb dX9_special_248 (by decide) ?_
                            refine lv_icmp_ge (tgt := 270) hx hb dX9_special_250 (by decide) (fun c_20 => ?_) (fun c_20 => ?_)
                            · exact J270 tg H _ ls hP hD hS (lv_sub hl [0, 1] rfl) ((show (fX9_special_270 x1 tg) = (fX9_special_97 x1 tg) by unfold fX9_special_97; rw [if_neg c_8, if_neg c_9, if_neg c_10, if_neg c_11, if_neg c_12, if_neg c_13, if_neg c_14, if_neg c_15, if_neg c_16, if_neg c_17, if_neg c_18, if_neg c_19, if_pos c_20]).trans hv)
                            · refine lv_iload_n hx hb dX9_special_253 rfl (lv_at hl 1 rfl) ?_
                              refine lv_bipush (v := 53) hx hb dX9_special_254 (by decide) ?_
                              refine lv_icmp_eq (tgt := 270) hx hb dX9_special_256 (by decide) (fun c_21 => ?_) (fun c_21 => ?_)
                              · exact J270 tg H _ ls hP hD hS (lv_sub hl [0, 1] rfl) ((show (fX9_special_270 x1 tg) = (fX9_special_97 x1 tg) by unfold fX9_special_97; rw [if_neg c_8, if_neg c_9, if_neg c_10, if_neg c_11, if_neg c_12, if_neg c_13, if_neg c_14, if_neg c_15, if_neg c_16, if_neg c_17, if_neg c_18, if_neg c_19, if_neg c_20, if_pos c_21]).trans hv)
                              · exact J259 tg H _ ls hP hD hS (lv_sub hl [0, 1] rfl) ((show (fX9_special_259 x1 tg) = (fX9_special_97 x1 tg) by unfold fX9_special_97; rw [if_neg c_8, if_neg c_9, if_neg c_10, if_neg c_11, if_neg c_12, if_neg c_13, if_neg c_14, if_neg c_15, if_neg c_16, if_neg c_17, if_neg c_18, if_neg c_19, if_neg c_20, if_neg c_21]).trans hv)
              · exact J185 tg H _ ls hP hD hS (lv_sub hl [0, 1] rfl) ((show (fX9_special_185 x1 tg) = (fX9_special_97 x1 tg) by unfold fX9_special_97; rw [if_neg c_8, if_neg c_9, if_neg c_10, if_neg c_11, if_neg c_12, if_pos c_13]).trans hv)
          · refine lv_aload_n hx hb dX9_special_156 rfl (lv_at hl 0 rfl) ?_
            refine lv_bipush (v := 7) hx hb dX9_special_157 (by decide) ?_
            refine lv_aload_n hx hb dX9_special_159 rfl (lv_at hl 0 rfl) ?_
            refine ro_calll (va_runV (As := []) (rest := [.int (7), .ref m0]) ⟨hx, hb, hml, hown, hts⟩ (kX9_s l dC dI m0 g H.size  tg) (cwV 0 hts gX9_special_X9_s rfl rfl rfl (by decide +kernel) ⟨Nat.le_of_ble_eq_true rfl, Nat.le_of_ble_eq_true rfl⟩) (ro_preV 0 4 (q := (RX9, TX9, 26)) rfl rfl hP hK) rfl rfl hl.1 rfl (lv_room (Nat.le_of_ble_eq_true rfl)) dX9_special_160 ⟨Nat.zero_le _, Nat.zero_le _⟩) hS hA (fun H locs kP hS => ?_)
            have hP := kP _ _ _ hP
            refine lv_aload_n hx hb dX9_special_163 rfl (lv_at hl 0 rfl) ?_
            refine ro_calll (va_runV (As := []) (rest := [.long ((rgs tg.1 21)), .int (7), .ref m0]) ⟨hx, hb, hml, hown, hts⟩ (kX9_d l dC dI m0 g H.size  tg) (cwV 0 hts gX9_special_X9_d rfl rfl rfl (by decide +kernel) ⟨Nat.le_of_ble_eq_true rfl, Nat.le_of_ble_eq_true rfl⟩) (ro_preV 0 4 (q := (RX9, TX9, 26)) rfl rfl hP hK) rfl rfl hl.1 rfl (lv_room (Nat.le_of_ble_eq_true rfl)) dX9_special_164 ⟨Nat.zero_le _, Nat.zero_le _⟩) hS hA (fun H locs kP hS => ?_)
            have hP := kP _ _ _ hP
            refine md_callv (wr := []) (va_runV (As := [.int (7), .long ((rgs tg.1 21)), .long ((rgs tg.1 11))]) (rest := []) ⟨hx, hb, hml, hown, hts⟩ (kX9_is l dC dI m0 g H.size 7 (rgs tg.1 21) (rgs tg.1 11) tg) (cwV 3 hts gX9_special_X9_is rfl rfl rfl (by decide +kernel) ⟨Nat.le_of_ble_eq_true rfl, Nat.le_of_ble_eq_true rfl⟩) (md_preV 0 4 (q := (RX9, TX9, 26)) rfl rfl hP hK hD) rfl rfl hl.1 rfl (lv_room (Nat.le_of_ble_eq_true rfl)) dX9_special_167 ⟨Nat.zero_le _, Nat.zero_le _⟩) hS hA hP hD [0] [] rfl rfl (by decide) (by decide) (fun H locs hP hD hS => ?_)
            have hP : va_P (dC, dI) vwCl (wM1 m0 g (tg.1, 7, tg.2.2.1, tg.2.2.2.1, (rgs tg.1 21), (rgs tg.1 11), tg.2.2.2.2.2.2)) H := hP
            have hD : va_D A (wM1 m0 g (tg.1, 7, tg.2.2.1, tg.2.2.2.1, (rgs tg.1 21), (rgs tg.1 11), tg.2.2.2.2.2.2)) := hD
            refine lv_goto (tgt := 375) hx hb dX9_special_170 (by decide) ?_
            have e9 : (tg.1, 7, tg.2.2.1, tg.2.2.2.1, (rgs tg.1 21), (rgs tg.1 11), tg.2.2.2.2.2.2) = (fX9_special x1 sg) := ((show (tg.1, 7, tg.2.2.1, tg.2.2.2.1, (rgs tg.1 21), (rgs tg.1 11), tg.2.2.2.2.2.2) = (fX9_special_97 x1 tg) by unfold fX9_special_97; rw [if_neg c_8, if_neg c_9, if_neg c_10, if_pos c_11]).trans hv)
            have hP : va_P (dC, dI) vwCl (wM1 m0 g (fX9_special x1 sg)) H := by rw [← e9]; exact hP
            have hD : va_D A (wM1 m0 g (fX9_special x1 sg)) := by rw [← e9]; exact hD
            exact W.vret hx hb hr (fun t ht hW => ⟨⟨(), rfl, trivial, by rw [ht]; exact hP, hD⟩, hS.F ht⟩) hS.2.2 dX9_special_375
        · refine lv_aload_n hx hb dX9_special_136 rfl (lv_at hl 0 rfl) ?_
          refine lv_bipush (v := 7) hx hb dX9_special_137 (by decide) ?_
          refine lv_aload_n hx hb dX9_special_139 rfl (lv_at hl 0 rfl) ?_
          refine ro_calll (va_runV (As := []) (rest := [.int (7), .ref m0]) ⟨hx, hb, hml, hown, hts⟩ (kX9_s l dC dI m0 g H.size  tg) (cwV 0 hts gX9_special_X9_s rfl rfl rfl (by decide +kernel) ⟨Nat.le_of_ble_eq_true rfl, Nat.le_of_ble_eq_true rfl⟩) (ro_preV 0 4 (q := (RX9, TX9, 26)) rfl rfl hP hK) rfl rfl hl.1 rfl (lv_room (Nat.le_of_ble_eq_true rfl)) dX9_special_140 ⟨Nat.zero_le _, Nat.zero_le _⟩) hS hA (fun H locs kP hS => ?_)
          have hP := kP _ _ _ hP
          refine lv_lconst (v := 0) hx hb dX9_special_143 (by decide) ?_
          refine md_callv (wr := []) (va_runV (As := [.int (7), .long ((rgs tg.1 21)), .long (0)]) (rest := []) ⟨hx, hb, hml, hown, hts⟩ (kX9_is l dC dI m0 g H.size 7 (rgs tg.1 21) 0 tg) (cwV 3 hts gX9_special_X9_is rfl rfl rfl (by decide +kernel) ⟨Nat.le_of_ble_eq_true rfl, Nat.le_of_ble_eq_true rfl⟩) (md_preV 0 4 (q := (RX9, TX9, 26)) rfl rfl hP hK hD) rfl rfl hl.1 rfl (lv_room (Nat.le_of_ble_eq_true rfl)) dX9_special_144 ⟨Nat.zero_le _, Nat.zero_le _⟩) hS hA hP hD [0] [] rfl rfl (by decide) (by decide) (fun H locs hP hD hS => ?_)
          have hP : va_P (dC, dI) vwCl (wM1 m0 g (tg.1, 7, tg.2.2.1, tg.2.2.2.1, (rgs tg.1 21), 0, tg.2.2.2.2.2.2)) H := hP
          have hD : va_D A (wM1 m0 g (tg.1, 7, tg.2.2.1, tg.2.2.2.1, (rgs tg.1 21), 0, tg.2.2.2.2.2.2)) := hD
          refine lv_goto (tgt := 375) hx hb dX9_special_147 (by decide) ?_
          have e9 : (tg.1, 7, tg.2.2.1, tg.2.2.2.1, (rgs tg.1 21), 0, tg.2.2.2.2.2.2) = (fX9_special x1 sg) := ((show (tg.1, 7, tg.2.2.1, tg.2.2.2.1, (rgs tg.1 21), 0, tg.2.2.2.2.2.2) = (fX9_special_97 x1 tg) by unfold fX9_special_97; rw [if_neg c_8, if_neg c_9, if_pos c_10]).trans hv)
          have hP : va_P (dC, dI) vwCl (wM1 m0 g (fX9_special x1 sg)) H := by rw [← e9]; exact hP
          have hD : va_D A (wM1 m0 g (fX9_special x1 sg)) := by rw [← e9]; exact hD
          exact W.vret hx hb hr (fun t ht hW => ⟨⟨(), rfl, trivial, by rw [ht]; exact hP, hD⟩, hS.F ht⟩) hS.2.2 dX9_special_375
      · exact J109 tg H _ ls hP hD hS (lv_sub hl [0, 1] rfl) ((show (fX9_special_109 x1 tg) = (fX9_special_97 x1 tg) by unfold fX9_special_97; rw [if_neg c_8, if_pos c_9]).trans hv)
  have J14 : ∀ (tg : Sc) (H : Heap) (locs : List Loc) (ls : Array Slot), va_P (dC, dI) vwCl (wM1 m0 g tg) H → va_D A (wM1 m0 g tg) → va_S A s.heap H locs → lv_has ls 2 [(0, .ref m0), (1, .int (x1))] → (fX9_special_14 x1 tg) = (fX9_special x1 sg) → W p l e (headSpec wsX9_special ({ frames := 2, cells := 0, slots := 0, locals := 41 })).room s m ([.ref m0, .int (x1)] : List Value).toArray below meth c H locs 0 0 (MQ below (md_Qv (dC, dI) (wM1 m0 g (fX9_special x1 sg)) (A)) ([.ref m0, .int (x1)] : List Value).toArray s 0 0 (A)) (F0 m 14 ls []) := by
    intro tg H locs ls hP hD hS hl hv
    refine lv_aload_n hx hb dX9_special_14 rfl (lv_at hl 0 rfl) ?_
    refine lv_iconst (v := 0) hx hb dX9_special_15 (by decide) ?_
    refine lv_aload_n hx hb dX9_special_16 rfl (lv_at hl 0 rfl) ?_
    refine ro_calll (va_runV (As := []) (rest := [.int (0), .ref m0]) ⟨hx, hb, hml, hown, hts⟩ (kX9_t l dC dI m0 g H.size  tg) (cwV 0 hts gX9_special_X9_t rfl rfl rfl (by decide +kernel) ⟨Nat.le_of_ble_eq_true rfl, Nat.le_of_ble_eq_true rfl⟩) (ro_preV 0 4 (q := (RX9, TX9, 26)) rfl rfl hP hK) rfl rfl hl.1 rfl (lv_room (Nat.le_of_ble_eq_true rfl)) dX9_special_17 ⟨Nat.zero_le _, Nat.zero_le _⟩) hS hA (fun H locs kP hS => ?_)
    have hP := kP _ _ _ hP
    refine lv_aload_n hx hb dX9_special_20 rfl (lv_at hl 0 rfl) ?_
    refine ro_calll (va_runV (As := []) (rest := [.long ((rgs tg.1 16)), .int (0), .ref m0]) ⟨hx, hb, hml, hown, hts⟩ (kX9_d l dC dI m0 g H.size  tg) (cwV 0 hts gX9_special_X9_d rfl rfl rfl (by decide +kernel) ⟨Nat.le_of_ble_eq_true rfl, Nat.le_of_ble_eq_true rfl⟩) (ro_preV 0 4 (q := (RX9, TX9, 26)) rfl rfl hP hK) rfl rfl hl.1 rfl (lv_room (Nat.le_of_ble_eq_true rfl)) dX9_special_21 ⟨Nat.zero_le _, Nat.zero_le _⟩) hS hA (fun H locs kP hS => ?_)
    have hP := kP _ _ _ hP
    refine md_callv (wr := []) (va_runV (As := [.int (0), .long ((rgs tg.1 16)), .long ((rgs tg.1 11))]) (rest := []) ⟨hx, hb, hml, hown, hts⟩ (kX9_is l dC dI m0 g H.size 0 (rgs tg.1 16) (rgs tg.1 11) tg) (cwV 3 hts gX9_special_X9_is rfl rfl rfl (by decide +kernel) ⟨Nat.le_of_ble_eq_true rfl, Nat.le_of_ble_eq_true rfl⟩) (md_preV 0 4 (q := (RX9, TX9, 26)) rfl rfl hP hK hD) rfl rfl hl.1 rfl (lv_room (Nat.le_of_ble_eq_true rfl)) dX9_special_24 ⟨Nat.zero_le _, Nat.zero_le _⟩) hS hA hP hD [0] [] rfl rfl (by decide) (by decide) (fun H locs hP hD hS => ?_)
    have hP : va_P (dC, dI) vwCl (wM1 m0 g (tg.1, 0, tg.2.2.1, tg.2.2.2.1, (rgs tg.1 16), (rgs tg.1 11), tg.2.2.2.2.2.2)) H := hP
    have hD : va_D A (wM1 m0 g (tg.1, 0, tg.2.2.1, tg.2.2.2.1, (rgs tg.1 16), (rgs tg.1 11), tg.2.2.2.2.2.2)) := hD
    refine lv_goto (tgt := 375) hx hb dX9_special_27 (by decide) ?_
    have e9 : (tg.1, 0, tg.2.2.1, tg.2.2.2.1, (rgs tg.1 16), (rgs tg.1 11), tg.2.2.2.2.2.2) = (fX9_special x1 sg) := ((show (tg.1, 0, tg.2.2.1, tg.2.2.2.1, (rgs tg.1 16), (rgs tg.1 11), tg.2.2.2.2.2.2) = (fX9_special_14 x1 tg) by unfold fX9_special_14; rfl).trans hv)
    have hP : va_P (dC, dI) vwCl (wM1 m0 g (fX9_special x1 sg)) H := by rw [← e9]; exact hP
    have hD : va_D A (wM1 m0 g (fX9_special x1 sg)) := by rw [← e9]; exact hD
    exact W.vret hx hb hr (fun t ht hW => ⟨⟨(), rfl, trivial, by rw [ht]; exact hP, hD⟩, hS.F ht⟩) hS.2.2 dX9_special_375
  refine lv_iload_n hx hb dX9_special_0 rfl (lv_at hl 1 rfl) ?_
  refine lv_if_eq (tgt := 14) hx hb dX9_special_1 (by decide) (fun c_22 => ?_) (fun c_22 => ?_)
  · exact J14 sg s.heap _ ls hP hD hS (lv_sub hl [0, 1] rfl) ((show (fX9_special_14 x1 sg) = (fX9_special x1 sg) by unfold fX9_special; rw [if_pos c_22]).trans hv)
  · refine lv_iload_n hx hb dX9_special_4 rfl (lv_at hl 1 rfl) ?_
    refine lv_iconst (v := 2) hx hb dX9_special_5 (by decide) ?_
    refine lv_icmp_eq (tgt := 14) hx hb dX9_special_6 (by decide) (fun c_23 => ?_) (fun c_23 => ?_)
    · exact J14 sg s.heap _ ls hP hD hS (lv_sub hl [0, 1] rfl) ((show (fX9_special_14 x1 sg) = (fX9_special x1 sg) by unfold fX9_special; rw [if_neg c_22, if_pos c_23]).trans hv)
    · refine lv_iload_n hx hb dX9_special_9 rfl (lv_at hl 1 rfl) ?_
      refine lv_iconst (v := 3) hx hb dX9_special_10 (by decide) ?_
      refine lv_icmp_ne (tgt := 30) hx hb dX9_special_11 (by decide) (fun c_24 => ?_) (fun c_24 => ?_)
      · refine lv_iload_n hx hb dX9_special_30 rfl (lv_at hl 1 rfl) ?_
        refine lv_iconst (v := 1) hx hb dX9_special_31 (by decide) ?_
        refine lv_icmp_ne (tgt := 62) hx hb dX9_special_32 (by decide) (fun c_25 => ?_) (fun c_25 => ?_)
        · refine lv_iload_n hx hb dX9_special_62 rfl (lv_at hl 1 rfl) ?_
          refine lv_iconst (v := 4) hx hb dX9_special_63 (by decide) ?_
          refine lv_icmp_eq (tgt := 109) hx hb dX9_special_64 (by decide) (fun c_26 => ?_) (fun c_26 => ?_)
          · exact J109 sg s.heap _ ls hP hD hS (lv_sub hl [0, 1] rfl) ((show (fX9_special_109 x1 sg) = (fX9_special x1 sg) by unfold fX9_special; rw [if_neg c_22, if_neg c_23, if_neg c_24, if_neg c_25, if_pos c_26]).trans hv)
          · refine lv_iload_n hx hb dX9_special_67 rfl (lv_at hl 1 rfl) ?_
            refine lv_bipush (v := 6) hx hb dX9_special_68 (by decide) ?_
            refine lv_icmp_eq (tgt := 109) hx hb dX9_special_70 (by decide) (fun c_27 => ?_) (fun c_27 => ?_)
            · exact J109 sg s.heap _ ls hP hD hS (lv_sub hl [0, 1] rfl) ((show (fX9_special_109 x1 sg) = (fX9_special x1 sg) by unfold fX9_special; rw [if_neg c_22, if_neg c_23, if_neg c_24, if_neg c_25, if_neg c_26, if_pos c_27]).trans hv)
            · refine lv_iload_n hx hb dX9_special_73 rfl (lv_at hl 1 rfl) ?_
              refine lv_bipush (v := 7) hx hb dX9_special_74 (by decide) ?_
              refine lv_icmp_eq (tgt := 109) hx hb dX9_special_76 (by decide) (fun c_28 => ?_) (fun c_28 => ?_)
              · exact J109 sg s.heap _ ls hP hD hS (lv_sub hl [0, 1] rfl) ((show (fX9_special_109 x1 sg) = (fX9_special x1 sg) by unfold fX9_special; rw [if_neg c_22, if_neg c_23, if_neg c_24, if_neg c_25, if_neg c_26, if_neg c_27, if_pos c_28]).trans hv)
              · refine lv_iload_n hx hb dX9_special_79 rfl (lv_at hl 1 rfl) ?_
                refine lv_bipush (v := 33) hx hb dX9_special_80 (by decide) ?_
                refine lv_icmp_eq (tgt := 109) hx hb dX9_special_82 (by decide) (fun c_29 => ?_) (fun c_29 => ?_)
                · exact J109 sg s.heap _ ls hP hD hS (lv_sub hl [0, 1] rfl) ((show (fX9_special_109 x1 sg) = (fX9_special x1 sg) by unfold fX9_special; rw [if_neg c_22, if_neg c_23, if_neg c_24, if_neg c_25, if_neg c_26, if_neg c_27, if_neg c_28, if_pos c_29]).trans hv)
                · refine lv_iload_n hx hb dX9_special_85 rfl (lv_at hl 1 rfl) ?_
                  refine lv_bipush (v := 35) hx hb dX9_special_86 (by decide) ?_
                  refine lv_icmp_lt (tgt := 97) hx hb dX9_special_88 (by decide) (fun c_30 => ?_) (fun c_30 => ?_)
                  · exact J97 sg s.heap _ ls hP hD hS (lv_sub hl [0, 1] rfl) ((show (fX9_special_97 x1 sg) = (fX9_special x1 sg) by unfold fX9_special; rw [if_neg c_22, if_neg c_23, if_neg c_24, if_neg c_25, if_neg c_26, if_neg c_27, if_neg c_28, if_neg c_29, if_pos c_30]).trans hv)
                  · refine lv_iload_n hx hb dX9_special_91 rfl (lv_at hl 1 rfl) ?_
                    refine lv_bipush (v := 40) hx hb dX9_special_92 (by decide) ?_
                    refine lv_icmp_lt (tgt := 109) hx hb dX9_special_94 (by decide) (fun c_31 => ?_) (fun c_31 => ?_)
                    · exact J109 sg s.heap _ ls hP hD hS (lv_sub hl [0, 1] rfl) ((show (fX9_special_109 x1 sg) = (fX9_special x1 sg) by unfold fX9_special; rw [if_neg c_22, if_neg c_23, if_neg c_24, if_neg c_25, if_neg c_26, if_neg c_27, if_neg c_28, if_neg c_29, if_neg c_30, if_pos c_31]).trans hv)
                    · exact J97 sg s.heap _ ls hP hD hS (lv_sub hl [0, 1] rfl) ((show (fX9_special_97 x1 sg) = (fX9_special x1 sg) by unfold fX9_special; rw [if_neg c_22, if_neg c_23, if_neg c_24, if_neg c_25, if_neg c_26, if_neg c_27, if_neg c_28, if_neg c_29, if_neg c_30, if_neg c_31]).trans hv)
        · refine lv_aload_n hx hb dX9_special_35 rfl (lv_at hl 0 rfl) ?_
          refine lv_iconst (v := 0) hx hb dX9_special_36 (by decide) ?_
          refine lv_aload_n hx hb dX9_special_37 rfl (lv_at hl 0 rfl) ?_
          refine ro_calll (va_runV (As := []) (rest := [.int (0), .ref m0]) ⟨hx, hb, hml, hown, hts⟩ (kX9_s l dC dI m0 g s.heap.size  sg) (cwV 0 hts gX9_special_X9_s rfl rfl rfl (by decide +kernel) ⟨Nat.le_of_ble_eq_true rfl, Nat.le_of_ble_eq_true rfl⟩) (ro_preV 0 4 (q := (RX9, TX9, 26)) rfl rfl hP hK) rfl rfl hl.1 rfl (lv_room (Nat.le_of_ble_eq_true rfl)) dX9_special_38 ⟨Nat.zero_le _, Nat.zero_le _⟩) hS hA (fun H locs kP hS => ?_)
          have hP := kP _ _ _ hP
          refine lv_aload_n hx hb dX9_special_41 rfl (lv_at hl 0 rfl) ?_
          refine ro_calll (va_runV (As := []) (rest := [.long ((rgs sg.1 21)), .int (0), .ref m0]) ⟨hx, hb, hml, hown, hts⟩ (kX9_d l dC dI m0 g H.size  sg) (cwV 0 hts gX9_special_X9_d rfl rfl rfl (by decide +kernel) ⟨Nat.le_of_ble_eq_true rfl, Nat.le_of_ble_eq_true rfl⟩) (ro_preV 0 4 (q := (RX9, TX9, 26)) rfl rfl hP hK) rfl rfl hl.1 rfl (lv_room (Nat.le_of_ble_eq_true rfl)) dX9_special_42 ⟨Nat.zero_le _, Nat.zero_le _⟩) hS hA (fun H locs kP hS => ?_)
          have hP := kP _ _ _ hP
          refine lv_lor hx hb dX9_special_45 ?_
          refine lv_aload_n hx hb dX9_special_46 rfl (lv_at hl 0 rfl) ?_
          refine ro_calll (va_runV (As := []) (rest := [.long (((rgs sg.1 21) ||| (rgs sg.1 11))), .int (0), .ref m0]) ⟨hx, hb, hml, hown, hts⟩ (kX9_d l dC dI m0 g H.size  sg) (cwV 0 hts gX9_special_X9_d rfl rfl rfl (by decide +kernel) ⟨Nat.le_of_ble_eq_true rfl, Nat.le_of_ble_eq_true rfl⟩) (ro_preV 0 4 (q := (RX9, TX9, 26)) rfl rfl hP hK) rfl rfl hl.1 rfl (lv_room (Nat.le_of_ble_eq_true rfl)) dX9_special_47 ⟨Nat.zero_le _, Nat.zero_le _⟩) hS hA (fun H locs kP hS => ?_)
          have hP := kP _ _ _ hP
          refine md_callv (wr := []) (va_runV (As := [.int (0), .long (((rgs sg.1 21) ||| (rgs sg.1 11))), .long ((rgs sg.1 11))]) (rest := []) ⟨hx, hb, hml, hown, hts⟩ (kX9_is l dC dI m0 g H.size 0 ((rgs sg.1 21) ||| (rgs sg.1 11)) (rgs sg.1 11) sg) (cwV 3 hts gX9_special_X9_is rfl rfl rfl (by decide +kernel) ⟨Nat.le_of_ble_eq_true rfl, Nat.le_of_ble_eq_true rfl⟩) (md_preV 0 4 (q := (RX9, TX9, 26)) rfl rfl hP hK hD) rfl rfl hl.1 rfl (lv_room (Nat.le_of_ble_eq_true rfl)) dX9_special_50 ⟨Nat.zero_le _, Nat.zero_le _⟩) hS hA hP hD [0] [] rfl rfl (by decide) (by decide) (fun H locs hP hD hS => ?_)
          have hP : va_P (dC, dI) vwCl (wM1 m0 g (sg.1, 0, sg.2.2.1, sg.2.2.2.1, ((rgs sg.1 21) ||| (rgs sg.1 11)), (rgs sg.1 11), sg.2.2.2.2.2.2)) H := hP
          have hD : va_D A (wM1 m0 g (sg.1, 0, sg.2.2.1, sg.2.2.2.1, ((rgs sg.1 21) ||| (rgs sg.1 11)), (rgs sg.1 11), sg.2.2.2.2.2.2)) := hD
          refine lv_aload_n hx hb dX9_special_53 rfl (lv_at hl 0 rfl) ?_
          refine lv_iconst (v := 1) hx hb dX9_special_54 (by decide) ?_
          refine lv_iconst (v := 0) hx hb dX9_special_55 (by decide) ?_
          refine md_callv (wr := []) (va_runV (As := [.int (1), .int (0)]) (rest := []) ⟨hx, hb, hml, hown, hts⟩ (kX9_also l dC dI m0 g H.size 1 0 (sg.1, 0, sg.2.2.1, sg.2.2.2.1, ((rgs sg.1 21) ||| (rgs sg.1 11)), (rgs sg.1 11), sg.2.2.2.2.2.2)) (cwV 2 hts gX9_special_X9_also rfl rfl rfl (by decide +kernel) ⟨Nat.le_of_ble_eq_true rfl, Nat.le_of_ble_eq_true rfl⟩) (md_preV 0 4 (q := (RX9, TX9, 26)) rfl rfl hP hK hD) rfl rfl hl.1 rfl (lv_room (Nat.le_of_ble_eq_true rfl)) dX9_special_56 ⟨Nat.zero_le _, Nat.zero_le _⟩) hS hA hP hD [0] [] rfl rfl (by decide) (by decide) (fun H locs hP hD hS => ?_)
          have hP : va_P (dC, dI) vwCl (wM1 m0 g (sg.1, 0, 1, 0, ((rgs sg.1 21) ||| (rgs sg.1 11)), (rgs sg.1 11), sg.2.2.2.2.2.2)) H := hP
          have hD : va_D A (wM1 m0 g (sg.1, 0, 1, 0, ((rgs sg.1 21) ||| (rgs sg.1 11)), (rgs sg.1 11), sg.2.2.2.2.2.2)) := hD
          refine lv_goto (tgt := 375) hx hb dX9_special_59 (by decide) ?_
          have e9 : (sg.1, 0, 1, 0, ((rgs sg.1 21) ||| (rgs sg.1 11)), (rgs sg.1 11), sg.2.2.2.2.2.2) = (fX9_special x1 sg) := ((show (sg.1, 0, 1, 0, ((rgs sg.1 21) ||| (rgs sg.1 11)), (rgs sg.1 11), sg.2.2.2.2.2.2) = (fX9_special x1 sg) by unfold fX9_special; rw [if_neg c_22, if_neg c_23, if_neg c_24, if_pos c_25]).trans hv)
          have hP : va_P (dC, dI) vwCl (wM1 m0 g (fX9_special x1 sg)) H := by rw [← e9]; exact hP
          have hD : va_D A (wM1 m0 g (fX9_special x1 sg)) := by rw [← e9]; exact hD
          exact W.vret hx hb hr (fun t ht hW => ⟨⟨(), rfl, trivial, by rw [ht]; exact hP, hD⟩, hS.F ht⟩) hS.2.2 dX9_special_375
      · exact J14 sg s.heap _ ls hP hD hS (lv_sub hl [0, 1] rfl) ((show (fX9_special_14 x1 sg) = (fX9_special x1 sg) by unfold fX9_special; rw [if_neg c_22, if_neg c_23, if_pos c_24]).trans hv)
def fX9_immediate_45 (x1 : Int32) (tg : Sc) : Sc := (tg.1, 7, tg.2.2.1, tg.2.2.2.1, (rgs tg.1 21), (fX9_register 31), tg.2.2.2.2.2.2)
def fX9_immediate (x1 : Int32) (sg : Sc) : Sc := if 4 ≤ x1 then if x1 = 16 then (fX9_immediate_45 x1 sg) else if x1 = 17 then (fX9_immediate_45 x1 sg) else if x1 < 8 then sg else if 15 ≤ x1 then sg else if x1 = 13 then sg else (sg.1, 8, sg.2.2.1, sg.2.2.2.1, 0, 0, sg.2.2.2.2.2.2) else if x1 ≤ 1 then (sg.1, 7, sg.2.2.1, sg.2.2.2.1, (rgs sg.1 21), 0, 0) else (sg.1, 7, sg.2.2.1, sg.2.2.2.1, (rgs sg.1 21), 0, 1)
set_option maxHeartbeats 4000000 in
set_option maxRecDepth 100000 in
theorem kX9_immediate (l : Launch) (dC : Nat → ClassId) (dI : Nat → Nat → Nat) (m0 : Nat) (g : Nat → Value) (sz : Nat) (x1 : Int32) (sg : Sc) : Met l yX9_immediate wsX9_immediate ({ frames := 2, cells := 0, slots := 0, locals := 41 }) (md_Pc (dC, dI) (wM1 m0 g sg) [] [.ref m0, .int (x1)] sz) (md_Qv (dC, dI) (wM1 m0 g (fX9_immediate x1 sg)) (va_A (wM1 m0 g sg) sz)) 0 0 (va_A (wM1 m0 g sg) sz) := by
  refine Met.ofW (cc := cX9_immediate) (maxL := 2) (ret := none) (by decide) rfl ?_
  intro p e s m args below meth c s₁ B0 hml hv
  obtain ⟨rfl, hsz, hP, hK, hD0⟩ := hv
  have hx := B0.exec
  have hb := B0.bytes
  have hr := B0.returns
  have hts := atoms_spec (ws := wsX9_immediate) B0.pre
  have hown : s.vm.findClass RX9 = some m.cls := findClass_of_methodNamed B0.named
  have hlocks := B0.notSynchronized
  have hinX9 : ∀ w ∈ wsX90, w ∈ wsX9_immediate := fun w h => List.mem_cons_of_mem _ (List.mem_append_right _ (h))
  subst hsz
  have hD := hD0.self (sz := s.heap.size)
  generalize hAe : va_A (wM1 m0 g sg) s.heap.size = A at hD ⊢
  have hA : ∀ q : Nat, s.heap.size ≤ q → A q := fun q h => by rw [← hAe]; exact Or.inr h
  have hS : va_S A s.heap s.heap [] := va_S.rf
  have hl := lv_entry ([.ref m0, .int (x1)]) (n := 2) (Nat.le_of_ble_eq_true rfl)
  rw [lg_entry_eq]
  generalize (lg_sl ([.ref m0, .int (x1)]) ++ List.replicate (2 - (lg_sl ([.ref m0, .int (x1)])).length) Slot.unset).toArray = ls at hl ⊢
  have hl : lv_has ls 2 [(0, .ref m0), (1, .int (x1))] := hl
  have hv : (fX9_immediate x1 sg) = (fX9_immediate x1 sg) := rfl
  have J45 : ∀ (tg : Sc) (H : Heap) (locs : List Loc) (ls : Array Slot), va_P (dC, dI) vwCl (wM1 m0 g tg) H → va_D A (wM1 m0 g tg) → va_S A s.heap H locs → lv_has ls 2 [(0, .ref m0), (1, .int (x1))] → (fX9_immediate_45 x1 tg) = (fX9_immediate x1 sg) → W p l e (headSpec wsX9_immediate ({ frames := 2, cells := 0, slots := 0, locals := 41 })).room s m ([.ref m0, .int (x1)] : List Value).toArray below meth c H locs 0 0 (MQ below (md_Qv (dC, dI) (wM1 m0 g (fX9_immediate x1 sg)) (A)) ([.ref m0, .int (x1)] : List Value).toArray s 0 0 (A)) (F0 m 45 ls []) := by
    intro tg H locs ls hP hD hS hl hv
    refine lv_aload_n hx hb dX9_immediate_45 rfl (lv_at hl 0 rfl) ?_
    refine lv_bipush (v := 7) hx hb dX9_immediate_46 (by decide) ?_
    refine lv_aload_n hx hb dX9_immediate_48 rfl (lv_at hl 0 rfl) ?_
    refine ro_calll (va_runV (As := []) (rest := [.int (7), .ref m0]) ⟨hx, hb, hml, hown, hts⟩ (kX9_s l dC dI m0 g H.size  tg) (cwV 0 hts gX9_immediate_X9_s rfl rfl rfl (by decide +kernel) ⟨Nat.le_of_ble_eq_true rfl, Nat.le_of_ble_eq_true rfl⟩) (ro_preV 0 4 (q := (RX9, TX9, 26)) rfl rfl hP hK) rfl rfl hl.1 rfl (lv_room (Nat.le_of_ble_eq_true rfl)) dX9_immediate_49 ⟨Nat.zero_le _, Nat.zero_le _⟩) hS hA (fun H locs kP hS => ?_)
    have hP := kP _ _ _ hP
    refine lv_bipush (v := 31) hx hb dX9_immediate_52 (by decide) ?_
    refine ro_calll (va_runS (As := [.int (31)]) (rest := [.long ((rgs tg.1 21)), .int (7), .ref m0]) ⟨hx, hb, hml, hown, hts⟩ (kX9_register l H.size 31) (va_cwS 1 hts gX9_immediate_X9_register rfl rfl rfl (by decide +kernel) ⟨Nat.le_of_ble_eq_true rfl, Nat.le_of_ble_eq_true rfl⟩) pu_preS rfl rfl hl.1 rfl (lv_room (Nat.le_of_ble_eq_true rfl)) dX9_immediate_54 ⟨Nat.zero_le _, Nat.zero_le _⟩) hS hA (fun H locs kP hS => ?_)
    have hP := kP _ _ _ hP
    refine md_callv (wr := []) (va_runV (As := [.int (7), .long ((rgs tg.1 21)), .long ((fX9_register 31))]) (rest := []) ⟨hx, hb, hml, hown, hts⟩ (kX9_is l dC dI m0 g H.size 7 (rgs tg.1 21) (fX9_register 31) tg) (cwV 3 hts gX9_immediate_X9_is rfl rfl rfl (by decide +kernel) ⟨Nat.le_of_ble_eq_true rfl, Nat.le_of_ble_eq_true rfl⟩) (md_preV 0 4 (q := (RX9, TX9, 26)) rfl rfl hP hK hD) rfl rfl hl.1 rfl (lv_room (Nat.le_of_ble_eq_true rfl)) dX9_immediate_57 ⟨Nat.zero_le _, Nat.zero_le _⟩) hS hA hP hD [0] [] rfl rfl (by decide) (by decide) (fun H locs hP hD hS => ?_)
    have hP : va_P (dC, dI) vwCl (wM1 m0 g (tg.1, 7, tg.2.2.1, tg.2.2.2.1, (rgs tg.1 21), (fX9_register 31), tg.2.2.2.2.2.2)) H := hP
    have hD : va_D A (wM1 m0 g (tg.1, 7, tg.2.2.1, tg.2.2.2.1, (rgs tg.1 21), (fX9_register 31), tg.2.2.2.2.2.2)) := hD
    refine lv_goto (tgt := 89) hx hb dX9_immediate_60 (by decide) ?_
    have e9 : (tg.1, 7, tg.2.2.1, tg.2.2.2.1, (rgs tg.1 21), (fX9_register 31), tg.2.2.2.2.2.2) = (fX9_immediate x1 sg) := ((show (tg.1, 7, tg.2.2.1, tg.2.2.2.1, (rgs tg.1 21), (fX9_register 31), tg.2.2.2.2.2.2) = (fX9_immediate_45 x1 tg) by unfold fX9_immediate_45; rfl).trans hv)
    have hP : va_P (dC, dI) vwCl (wM1 m0 g (fX9_immediate x1 sg)) H := by rw [← e9]; exact hP
    have hD : va_D A (wM1 m0 g (fX9_immediate x1 sg)) := by rw [← e9]; exact hD
    exact W.vret hx hb hr (fun t ht hW => ⟨⟨(), rfl, trivial, by rw [ht]; exact hP, hD⟩, hS.F ht⟩) hS.2.2 dX9_immediate_89
  refine lv_iload_n hx hb dX9_immediate_0 rfl (lv_at hl 1 rfl) ?_
  refine lv_iconst (v := 4) hx hb dX9_immediate_1 (by decide) ?_
  refine lv_icmp_ge (tgt := 33) hx hb dX9_immediate_2 (by decide) (fun c_1 => ?_) (fun c_1 => ?_)
  · refine lv_iload_n hx hb dX9_immediate_33 rfl (lv_at hl 1 rfl) ?_
    refine lv_bipush (v := 16) hx hb dX9_immediate_34 (by decide) ?_
    refine lv_icmp_eq (tgt := 45) hx hb dX9_immediate_36 (by decide) (fun c_2 => ?_) (fun c_2 => ?_)
    · exact J45 sg s.heap _ ls hP hD hS (lv_sub hl [0, 1] rfl) ((show (fX9_immediate_45 x1 sg) = (fX9_immediate x1 sg) by unfold fX9_immediate; rw [if_pos c_1, if_pos c_2]).trans hv)
    · refine lv_iload_n hx hb dX9_immediate_39 rfl (lv_at hl 1 rfl) ?_
      refine lv_bipush (v := 17) hx hb dX9_immediate_40 (by decide) ?_
      refine lv_icmp_ne (tgt := 63) hx hb dX9_immediate_42 (by decide) (fun c_3 => ?_) (fun c_3 => ?_)
      · refine lv_iload_n hx hb dX9_immediate_63 rfl (lv_at hl 1 rfl) ?_
        refine lv_bipush (v := 8) hx hb dX9_immediate_64 (by decide) ?_
        refine lv_icmp_lt (tgt := 89) hx hb dX9_immediate_66 (by decide) (fun c_4 => ?_) (fun c_4 => ?_)
        · have e9 : sg = (fX9_immediate x1 sg) := ((show sg = (fX9_immediate x1 sg) by unfold fX9_immediate; rw [if_pos c_1, if_neg c_2, if_neg c_3, if_pos c_4]).trans hv)
          have hP : va_P (dC, dI) vwCl (wM1 m0 g (fX9_immediate x1 sg)) s.heap := by rw [← e9]; exact hP
          have hD : va_D A (wM1 m0 g (fX9_immediate x1 sg)) := by rw [← e9]; exact hD
          exact W.vret hx hb hr (fun t ht hW => ⟨⟨(), rfl, trivial, by rw [ht]; exact hP, hD⟩, hS.F ht⟩) hS.2.2 dX9_immediate_89
        · refine lv_iload_n hx hb dX9_immediate_69 rfl (lv_at hl 1 rfl) ?_
          refine lv_bipush (v := 15) hx hb dX9_immediate_70 (by decide) ?_
          refine lv_icmp_ge (tgt := 89) hx hb dX9_immediate_72 (by decide) (fun c_5 => ?_) (fun c_5 => ?_)
          · have e9 : sg = (fX9_immediate x1 sg) := ((show sg = (fX9_immediate x1 sg) by unfold fX9_immediate; rw [if_pos c_1, if_neg c_2, if_neg c_3, if_neg c_4, if_pos c_5]).trans hv)
            have hP : va_P (dC, dI) vwCl (wM1 m0 g (fX9_immediate x1 sg)) s.heap := by rw [← e9]; exact hP
            have hD : va_D A (wM1 m0 g (fX9_immediate x1 sg)) := by rw [← e9]; exact hD
            exact W.vret hx hb hr (fun t ht hW => ⟨⟨(), rfl, trivial, by rw [ht]; exact hP, hD⟩, hS.F ht⟩) hS.2.2 dX9_immediate_89
          · refine lv_iload_n hx hb dX9_immediate_75 rfl (lv_at hl 1 rfl) ?_
            refine lv_bipush (v := 13) hx hb dX9_immediate_76 (by decide) ?_
            refine lv_icmp_eq (tgt := 89) hx hb dX9_immediate_78 (by decide) (fun c_6 => ?_) (fun c_6 => ?_)
            · have e9 : sg = (fX9_immediate x1 sg) := ((show sg = (fX9_immediate x1 sg) by unfold fX9_immediate; rw [if_pos c_1, if_neg c_2, if_neg c_3, if_neg c_4, if_neg c_5, if_pos c_6]).trans hv)
              have hP : va_P (dC, dI) vwCl (wM1 m0 g (fX9_immediate x1 sg)) s.heap := by rw [← e9]; exact hP
              have hD : va_D A (wM1 m0 g (fX9_immediate x1 sg)) := by rw [← e9]; exact hD
              exact W.vret hx hb hr (fun t ht hW => ⟨⟨(), rfl, trivial, by rw [ht]; exact hP, hD⟩, hS.F ht⟩) hS.2.2 dX9_immediate_89
            · refine lv_aload_n hx hb dX9_immediate_81 rfl (lv_at hl 0 rfl) ?_
              refine lv_bipush (v := 8) hx hb dX9_immediate_82 (by decide) ?_
              refine lv_lconst (v := 0) hx hb dX9_immediate_84 (by decide) ?_
              refine lv_lconst (v := 0) hx hb dX9_immediate_85 (by decide) ?_
              refine md_callv (wr := []) (va_runV (As := [.int (8), .long (0), .long (0)]) (rest := []) ⟨hx, hb, hml, hown, hts⟩ (kX9_is l dC dI m0 g s.heap.size 8 0 0 sg) (cwV 3 hts gX9_immediate_X9_is rfl rfl rfl (by decide +kernel) ⟨Nat.le_of_ble_eq_true rfl, Nat.le_of_ble_eq_true rfl⟩) (md_preV 0 4 (q := (RX9, TX9, 26)) rfl rfl hP hK hD) rfl rfl hl.1 rfl (lv_room (Nat.le_of_ble_eq_true rfl)) dX9_immediate_86 ⟨Nat.zero_le _, Nat.zero_le _⟩) hS hA hP hD [0] [] rfl rfl (by decide) (by decide) (fun H locs hP hD hS => ?_)
              have hP : va_P (dC, dI) vwCl (wM1 m0 g (sg.1, 8, sg.2.2.1, sg.2.2.2.1, 0, 0, sg.2.2.2.2.2.2)) H := hP
              have hD : va_D A (wM1 m0 g (sg.1, 8, sg.2.2.1, sg.2.2.2.1, 0, 0, sg.2.2.2.2.2.2)) := hD
              have e9 : (sg.1, 8, sg.2.2.1, sg.2.2.2.1, 0, 0, sg.2.2.2.2.2.2) = (fX9_immediate x1 sg) := ((show (sg.1, 8, sg.2.2.1, sg.2.2.2.1, 0, 0, sg.2.2.2.2.2.2) = (fX9_immediate x1 sg) by unfold fX9_immediate; rw [if_pos c_1, if_neg c_2, if_neg c_3, if_neg c_4, if_neg c_5, if_neg c_6]).trans hv)
              have hP : va_P (dC, dI) vwCl (wM1 m0 g (fX9_immediate x1 sg)) H := by rw [← e9]; exact hP
              have hD : va_D A (wM1 m0 g (fX9_immediate x1 sg)) := by rw [← e9]; exact hD
              exact W.vret hx hb hr (fun t ht hW => ⟨⟨(), rfl, trivial, by rw [ht]; exact hP, hD⟩, hS.F ht⟩) hS.2.2 dX9_immediate_89
      · exact J45 sg s.heap _ ls hP hD hS (lv_sub hl [0, 1] rfl) ((show (fX9_immediate_45 x1 sg) = (fX9_immediate x1 sg) by unfold fX9_immediate; rw [if_pos c_1, if_neg c_2, if_pos c_3]).trans hv)
  · refine lv_aload_n hx hb dX9_immediate_5 rfl (lv_at hl 0 rfl) ?_
    refine lv_bipush (v := 7) hx hb dX9_immediate_6 (by decide) ?_
    refine lv_aload_n hx hb dX9_immediate_8 rfl (lv_at hl 0 rfl) ?_
    refine ro_calll (va_runV (As := []) (rest := [.int (7), .ref m0]) ⟨hx, hb, hml, hown, hts⟩ (kX9_s l dC dI m0 g s.heap.size  sg) (cwV 0 hts gX9_immediate_X9_s rfl rfl rfl (by decide +kernel) ⟨Nat.le_of_ble_eq_true rfl, Nat.le_of_ble_eq_true rfl⟩) (ro_preV 0 4 (q := (RX9, TX9, 26)) rfl rfl hP hK) rfl rfl hl.1 rfl (lv_room (Nat.le_of_ble_eq_true rfl)) dX9_immediate_9 ⟨Nat.zero_le _, Nat.zero_le _⟩) hS hA (fun H locs kP hS => ?_)
    have hP := kP _ _ _ hP
    refine lv_lconst (v := 0) hx hb dX9_immediate_12 (by decide) ?_
    refine md_callv (wr := []) (va_runV (As := [.int (7), .long ((rgs sg.1 21)), .long (0)]) (rest := []) ⟨hx, hb, hml, hown, hts⟩ (kX9_is l dC dI m0 g H.size 7 (rgs sg.1 21) 0 sg) (cwV 3 hts gX9_immediate_X9_is rfl rfl rfl (by decide +kernel) ⟨Nat.le_of_ble_eq_true rfl, Nat.le_of_ble_eq_true rfl⟩) (md_preV 0 4 (q := (RX9, TX9, 26)) rfl rfl hP hK hD) rfl rfl hl.1 rfl (lv_room (Nat.le_of_ble_eq_true rfl)) dX9_immediate_13 ⟨Nat.zero_le _, Nat.zero_le _⟩) hS hA hP hD [0] [] rfl rfl (by decide) (by decide) (fun H locs hP hD hS => ?_)
    have hP : va_P (dC, dI) vwCl (wM1 m0 g (sg.1, 7, sg.2.2.1, sg.2.2.2.1, (rgs sg.1 21), 0, sg.2.2.2.2.2.2)) H := hP
    have hD : va_D A (wM1 m0 g (sg.1, 7, sg.2.2.1, sg.2.2.2.1, (rgs sg.1 21), 0, sg.2.2.2.2.2.2)) := hD
    refine lv_aload_n hx hb dX9_immediate_16 rfl (lv_at hl 0 rfl) ?_
    refine lv_iload_n hx hb dX9_immediate_17 rfl (lv_at hl 1 rfl) ?_
    refine lv_iconst (v := 1) hx hb dX9_immediate_18 (by decide) ?_
    refine lv_icmp_le (tgt := 26) hx hb dX9_immediate_19 (by decide) (fun c_7 => ?_) (fun c_7 => ?_)
    · refine lv_iconst (v := 0) hx hb dX9_immediate_26 (by decide) ?_
      refine va_put (D := (dC, dI)) (ci := 4) (v := .int (0)) (ty := .boolean) (C := RX9) (T := TX9) (N := 26) hx hb hts hinX9 tyX9 tyX9_ok nmX9 hown hK hP hD hS 0 rfl rfl 21 (by decide) (hts (.fieldLink RX9 87 "SlotFillerModel" "isLikely" "Z") (by decide +kernel)) (fun _ h9 => h9) rfl (by decide +kernel) (by decide) (by decide) (Nat.le_of_ble_eq_true rfl) dX9_immediate_27 (fun H locs hP hD hS => ?_)
      have hP : va_P (dC, dI) vwCl [(m0, .inr (4, [(g 0), (g 1), (g 2), (g 3), (g 4), (g 5), (g 6), (g 7), (g 8), (g 9), (g 10), (g 11), (g 12), (g 13), (g 14), .int (sg.1), .int (7), .int (sg.2.2.1), .int (sg.2.2.2.1), .long ((rgs sg.1 21)), .long (0), .int (0), (g 22), (g 23), (g 24), (g 25)]))] H := hP
      have hD : va_D A [(m0, .inr (4, [(g 0), (g 1), (g 2), (g 3), (g 4), (g 5), (g 6), (g 7), (g 8), (g 9), (g 10), (g 11), (g 12), (g 13), (g 14), .int (sg.1), .int (7), .int (sg.2.2.1), .int (sg.2.2.2.1), .long ((rgs sg.1 21)), .long (0), .int (0), (g 22), (g 23), (g 24), (g 25)]))] := hD
      refine lv_goto (tgt := 89) hx hb dX9_immediate_30 (by decide) ?_
      have e9 : (sg.1, 7, sg.2.2.1, sg.2.2.2.1, (rgs sg.1 21), 0, 0) = (fX9_immediate x1 sg) := ((show (sg.1, 7, sg.2.2.1, sg.2.2.2.1, (rgs sg.1 21), 0, 0) = (fX9_immediate x1 sg) by unfold fX9_immediate; rw [if_neg c_1, if_pos c_7]).trans hv)
      have hP : va_P (dC, dI) vwCl (wM1 m0 g (fX9_immediate x1 sg)) H := by rw [← e9]; exact hP
      have hD : va_D A (wM1 m0 g (fX9_immediate x1 sg)) := by rw [← e9]; exact hD
      exact W.vret hx hb hr (fun t ht hW => ⟨⟨(), rfl, trivial, by rw [ht]; exact hP, hD⟩, hS.F ht⟩) hS.2.2 dX9_immediate_89
    · refine lv_iconst (v := 1) hx hb dX9_immediate_22 (by decide) ?_
      refine lv_goto (tgt := 27) hx hb dX9_immediate_23 (by decide) ?_
      refine va_put (D := (dC, dI)) (ci := 4) (v := .int (1)) (ty := .boolean) (C := RX9) (T := TX9) (N := 26) hx hb hts hinX9 tyX9 tyX9_ok nmX9 hown hK hP hD hS 0 rfl rfl 21 (by decide) (hts (.fieldLink RX9 87 "SlotFillerModel" "isLikely" "Z") (by decide +kernel)) (fun _ h9 => h9) rfl (by decide +kernel) (by decide) (by decide) (Nat.le_of_ble_eq_true rfl) dX9_immediate_27 (fun H locs hP hD hS => ?_)
      have hP : va_P (dC, dI) vwCl [(m0, .inr (4, [(g 0), (g 1), (g 2), (g 3), (g 4), (g 5), (g 6), (g 7), (g 8), (g 9), (g 10), (g 11), (g 12), (g 13), (g 14), .int (sg.1), .int (7), .int (sg.2.2.1), .int (sg.2.2.2.1), .long ((rgs sg.1 21)), .long (0), .int (1), (g 22), (g 23), (g 24), (g 25)]))] H := hP
      have hD : va_D A [(m0, .inr (4, [(g 0), (g 1), (g 2), (g 3), (g 4), (g 5), (g 6), (g 7), (g 8), (g 9), (g 10), (g 11), (g 12), (g 13), (g 14), .int (sg.1), .int (7), .int (sg.2.2.1), .int (sg.2.2.2.1), .long ((rgs sg.1 21)), .long (0), .int (1), (g 22), (g 23), (g 24), (g 25)]))] := hD
      refine lv_goto (tgt := 89) hx hb dX9_immediate_30 (by decide) ?_
      have e9 : (sg.1, 7, sg.2.2.1, sg.2.2.2.1, (rgs sg.1 21), 0, 1) = (fX9_immediate x1 sg) := ((show (sg.1, 7, sg.2.2.1, sg.2.2.2.1, (rgs sg.1 21), 0, 1) = (fX9_immediate x1 sg) by unfold fX9_immediate; rw [if_neg c_1, if_neg c_7]).trans hv)
      have hP : va_P (dC, dI) vwCl (wM1 m0 g (fX9_immediate x1 sg)) H := by rw [← e9]; exact hP
      have hD : va_D A (wM1 m0 g (fX9_immediate x1 sg)) := by rw [← e9]; exact hD
      exact W.vret hx hb hr (fun t ht hW => ⟨⟨(), rfl, trivial, by rw [ht]; exact hP, hD⟩, hS.F ht⟩) hS.2.2 dX9_immediate_89
def fX9_branch_70 (x1 : Int32) (z0 : Int64) (tg : Sc) : Sc := (tg.1, 7, tg.2.2.1, tg.2.2.2.1, z0, 0, tg.2.2.2.2.2.2)
def fX9_branch_38 (x1 : Int32) (z0 : Int64) (tg : Sc) : Sc := (tg.1, 7, tg.2.2.1, tg.2.2.2.1, 0, z0, tg.2.2.2.2.2.2)
def fX9_branch (x1 : Int32) (sg : Sc) : Sc := if x1 ≤ 7 then if 4 ≤ x1 then if 2 ≤ (x1 &&& 3) then (fX9_branch_70 x1 (rgs sg.1 21) (sg.1, sg.2.1, sg.2.2.1, sg.2.2.2.1, sg.2.2.2.2.1, sg.2.2.2.2.2.1, 0)) else (fX9_branch_70 x1 ((rgs sg.1 21) ||| (rgs sg.1 16)) (sg.1, sg.2.1, sg.2.2.1, sg.2.2.2.1, sg.2.2.2.2.1, sg.2.2.2.2.2.1, 0)) else if x1 = 3 then (fX9_branch_38 x1 (fX9_register 31) (sg.1, sg.2.1, sg.2.2.1, sg.2.2.2.1, sg.2.2.2.2.1, sg.2.2.2.2.2.1, 0)) else (fX9_branch_38 x1 0 (sg.1, sg.2.1, sg.2.2.1, sg.2.2.2.1, sg.2.2.2.2.1, sg.2.2.2.2.2.1, 0)) else if 4 ≤ x1 then if 2 ≤ (x1 &&& 3) then (fX9_branch_70 x1 (rgs sg.1 21) (sg.1, sg.2.1, sg.2.2.1, sg.2.2.2.1, sg.2.2.2.2.1, sg.2.2.2.2.2.1, 1)) else (fX9_branch_70 x1 ((rgs sg.1 21) ||| (rgs sg.1 16)) (sg.1, sg.2.1, sg.2.2.1, sg.2.2.2.1, sg.2.2.2.2.1, sg.2.2.2.2.2.1, 1)) else if x1 = 3 then (fX9_branch_38 x1 (fX9_register 31) (sg.1, sg.2.1, sg.2.2.1, sg.2.2.2.1, sg.2.2.2.2.1, sg.2.2.2.2.2.1, 1)) else (fX9_branch_38 x1 0 (sg.1, sg.2.1, sg.2.2.1, sg.2.2.2.1, sg.2.2.2.2.1, sg.2.2.2.2.2.1, 1))
set_option maxHeartbeats 4000000 in
set_option maxRecDepth 100000 in
theorem kX9_branch (l : Launch) (dC : Nat → ClassId) (dI : Nat → Nat → Nat) (m0 : Nat) (g : Nat → Value) (sz : Nat) (x1 : Int32) (sg : Sc) : Met l yX9_branch wsX9_branch ({ frames := 2, cells := 0, slots := 0, locals := 41 }) (md_Pc (dC, dI) (wM1 m0 g sg) [] [.ref m0, .int (x1)] sz) (md_Qv (dC, dI) (wM1 m0 g (fX9_branch x1 sg)) (va_A (wM1 m0 g sg) sz)) 0 0 (va_A (wM1 m0 g sg) sz) := by
  refine Met.ofW (cc := cX9_branch) (maxL := 2) (ret := none) (by decide) rfl ?_
  intro p e s m args below meth c s₁ B0 hml hv
  obtain ⟨rfl, hsz, hP, hK, hD0⟩ := hv
  have hx := B0.exec
  have hb := B0.bytes
  have hr := B0.returns
  have hts := atoms_spec (ws := wsX9_branch) B0.pre
  have hown : s.vm.findClass RX9 = some m.cls := findClass_of_methodNamed B0.named
  have hlocks := B0.notSynchronized
  have hinX9 : ∀ w ∈ wsX90, w ∈ wsX9_branch := fun w h => List.mem_cons_of_mem _ (List.mem_append_right _ (h))
  subst hsz
  have hD := hD0.self (sz := s.heap.size)
  generalize hAe : va_A (wM1 m0 g sg) s.heap.size = A at hD ⊢
  have hA : ∀ q : Nat, s.heap.size ≤ q → A q := fun q h => by rw [← hAe]; exact Or.inr h
  have hS : va_S A s.heap s.heap [] := va_S.rf
  have hl := lv_entry ([.ref m0, .int (x1)]) (n := 2) (Nat.le_of_ble_eq_true rfl)
  rw [lg_entry_eq]
  generalize (lg_sl ([.ref m0, .int (x1)]) ++ List.replicate (2 - (lg_sl ([.ref m0, .int (x1)])).length) Slot.unset).toArray = ls at hl ⊢
  have hl : lv_has ls 2 [(0, .ref m0), (1, .int (x1))] := hl
  have hv : (fX9_branch x1 sg) = (fX9_branch x1 sg) := rfl
  have J70 : ∀ (z0 : Int64) (tg : Sc) (H : Heap) (locs : List Loc) (ls : Array Slot), va_P (dC, dI) vwCl (wM1 m0 g tg) H → va_D A (wM1 m0 g tg) → va_S A s.heap H locs → lv_has ls 2 [(0, .ref m0), (1, .int (x1))] → (fX9_branch_70 x1 z0 tg) = (fX9_branch x1 sg) → W p l e (headSpec wsX9_branch ({ frames := 2, cells := 0, slots := 0, locals := 41 })).room s m ([.ref m0, .int (x1)] : List Value).toArray below meth c H locs 0 0 (MQ below (md_Qv (dC, dI) (wM1 m0 g (fX9_branch x1 sg)) (A)) ([.ref m0, .int (x1)] : List Value).toArray s 0 0 (A)) (F0 m 70 ls [.long (z0), .int (7), .ref m0]) := by
    intro z0 tg H locs ls hP hD hS hl hv
    refine lv_lconst (v := 0) hx hb dX9_branch_70 (by decide) ?_
    refine md_callv (wr := []) (va_runV (As := [.int (7), .long (z0), .long (0)]) (rest := []) ⟨hx, hb, hml, hown, hts⟩ (kX9_is l dC dI m0 g H.size 7 z0 0 tg) (cwV 3 hts gX9_branch_X9_is rfl rfl rfl (by decide +kernel) ⟨Nat.le_of_ble_eq_true rfl, Nat.le_of_ble_eq_true rfl⟩) (md_preV 0 4 (q := (RX9, TX9, 26)) rfl rfl hP hK hD) rfl rfl hl.1 rfl (lv_room (Nat.le_of_ble_eq_true rfl)) dX9_branch_71 ⟨Nat.zero_le _, Nat.zero_le _⟩) hS hA hP hD [0] [] rfl rfl (by decide) (by decide) (fun H locs hP hD hS => ?_)
    have hP : va_P (dC, dI) vwCl (wM1 m0 g (tg.1, 7, tg.2.2.1, tg.2.2.2.1, z0, 0, tg.2.2.2.2.2.2)) H := hP
    have hD : va_D A (wM1 m0 g (tg.1, 7, tg.2.2.1, tg.2.2.2.1, z0, 0, tg.2.2.2.2.2.2)) := hD
    have e9 : (tg.1, 7, tg.2.2.1, tg.2.2.2.1, z0, 0, tg.2.2.2.2.2.2) = (fX9_branch x1 sg) := ((show (tg.1, 7, tg.2.2.1, tg.2.2.2.1, z0, 0, tg.2.2.2.2.2.2) = (fX9_branch_70 x1 z0 tg) by unfold fX9_branch_70; rfl).trans hv)
    have hP : va_P (dC, dI) vwCl (wM1 m0 g (fX9_branch x1 sg)) H := by rw [← e9]; exact hP
    have hD : va_D A (wM1 m0 g (fX9_branch x1 sg)) := by rw [← e9]; exact hD
    exact W.vret hx hb hr (fun t ht hW => ⟨⟨(), rfl, trivial, by rw [ht]; exact hP, hD⟩, hS.F ht⟩) hS.2.2 dX9_branch_74
  have J38 : ∀ (z0 : Int64) (tg : Sc) (H : Heap) (locs : List Loc) (ls : Array Slot), va_P (dC, dI) vwCl (wM1 m0 g tg) H → va_D A (wM1 m0 g tg) → va_S A s.heap H locs → lv_has ls 2 [(0, .ref m0), (1, .int (x1))] → (fX9_branch_38 x1 z0 tg) = (fX9_branch x1 sg) → W p l e (headSpec wsX9_branch ({ frames := 2, cells := 0, slots := 0, locals := 41 })).room s m ([.ref m0, .int (x1)] : List Value).toArray below meth c H locs 0 0 (MQ below (md_Qv (dC, dI) (wM1 m0 g (fX9_branch x1 sg)) (A)) ([.ref m0, .int (x1)] : List Value).toArray s 0 0 (A)) (F0 m 38 ls [.long (z0), .long (0), .int (7), .ref m0]) := by
    intro z0 tg H locs ls hP hD hS hl hv
    refine md_callv (wr := []) (va_runV (As := [.int (7), .long (0), .long (z0)]) (rest := []) ⟨hx, hb, hml, hown, hts⟩ (kX9_is l dC dI m0 g H.size 7 0 z0 tg) (cwV 3 hts gX9_branch_X9_is rfl rfl rfl (by decide +kernel) ⟨Nat.le_of_ble_eq_true rfl, Nat.le_of_ble_eq_true rfl⟩) (md_preV 0 4 (q := (RX9, TX9, 26)) rfl rfl hP hK hD) rfl rfl hl.1 rfl (lv_room (Nat.le_of_ble_eq_true rfl)) dX9_branch_38 ⟨Nat.zero_le _, Nat.zero_le _⟩) hS hA hP hD [0] [] rfl rfl (by decide) (by decide) (fun H locs hP hD hS => ?_)
    have hP : va_P (dC, dI) vwCl (wM1 m0 g (tg.1, 7, tg.2.2.1, tg.2.2.2.1, 0, z0, tg.2.2.2.2.2.2)) H := hP
    have hD : va_D A (wM1 m0 g (tg.1, 7, tg.2.2.1, tg.2.2.2.1, 0, z0, tg.2.2.2.2.2.2)) := hD
    refine lv_goto (tgt := 74) hx hb dX9_branch_41 (by decide) ?_
    have e9 : (tg.1, 7, tg.2.2.1, tg.2.2.2.1, 0, z0, tg.2.2.2.2.2.2) = (fX9_branch x1 sg) := ((show (tg.1, 7, tg.2.2.1, tg.2.2.2.1, 0, z0, tg.2.2.2.2.2.2) = (fX9_branch_38 x1 z0 tg) by unfold fX9_branch_38; rfl).trans hv)
    have hP : va_P (dC, dI) vwCl (wM1 m0 g (fX9_branch x1 sg)) H := by rw [← e9]; exact hP
    have hD : va_D A (wM1 m0 g (fX9_branch x1 sg)) := by rw [← e9]; exact hD
    exact W.vret hx hb hr (fun t ht hW => ⟨⟨(), rfl, trivial, by rw [ht]; exact hP, hD⟩, hS.F ht⟩) hS.2.2 dX9_branch_74
  refine lv_aload_n hx hb dX9_branch_0 rfl (lv_at hl 0 rfl) ?_
  refine lv_iload_n hx hb dX9_branch_1 rfl (lv_at hl 1 rfl) ?_
  refine lv_bipush (v := 7) hx hb dX9_branch_2 (by decide) ?_
  refine lv_icmp_le (tgt := 11) hx hb dX9_branch_4 (by decide) (fun c_1 => ?_) (fun c_1 => ?_)
  · refine lv_iconst (v := 0) hx hb dX9_branch_11 (by decide) ?_
    refine va_put (D := (dC, dI)) (ci := 4) (v := .int (0)) (ty := .boolean) (C := RX9) (T := TX9) (N := 26) hx hb hts hinX9 tyX9 tyX9_ok nmX9 hown hK hP hD hS 0 rfl rfl 21 (by decide) (hts (.fieldLink RX9 87 "SlotFillerModel" "isLikely" "Z") (by decide +kernel)) (fun _ h9 => h9) rfl (by decide +kernel) (by decide) (by decide) (Nat.le_of_ble_eq_true rfl) dX9_branch_12 (fun H locs hP hD hS => ?_)
    have hP : va_P (dC, dI) vwCl [(m0, .inr (4, [(g 0), (g 1), (g 2), (g 3), (g 4), (g 5), (g 6), (g 7), (g 8), (g 9), (g 10), (g 11), (g 12), (g 13), (g 14), .int (sg.1), .int (sg.2.1), .int (sg.2.2.1), .int (sg.2.2.2.1), .long (sg.2.2.2.2.1), .long (sg.2.2.2.2.2.1), .int (0), (g 22), (g 23), (g 24), (g 25)]))] H := hP
    have hD : va_D A [(m0, .inr (4, [(g 0), (g 1), (g 2), (g 3), (g 4), (g 5), (g 6), (g 7), (g 8), (g 9), (g 10), (g 11), (g 12), (g 13), (g 14), .int (sg.1), .int (sg.2.1), .int (sg.2.2.1), .int (sg.2.2.2.1), .long (sg.2.2.2.2.1), .long (sg.2.2.2.2.2.1), .int (0), (g 22), (g 23), (g 24), (g 25)]))] := hD
    refine lv_iload_n hx hb dX9_branch_15 rfl (lv_at hl 1 rfl) ?_
    refine lv_iconst (v := 4) hx hb dX9_branch_16 (by decide) ?_
    refine lv_icmp_ge (tgt := 44) hx hb dX9_branch_17 (by decide) (fun c_2 => ?_) (fun c_2 => ?_)
    · refine lv_aload_n hx hb dX9_branch_44 rfl (lv_at hl 0 rfl) ?_
      refine lv_bipush (v := 7) hx hb dX9_branch_45 (by decide) ?_
      refine lv_iload_n hx hb dX9_branch_47 rfl (lv_at hl 1 rfl) ?_
      refine lv_iconst (v := 3) hx hb dX9_branch_48 (by decide) ?_
      refine lv_iand hx hb dX9_branch_49 ?_
      refine lv_iconst (v := 2) hx hb dX9_branch_50 (by decide) ?_
      refine lv_icmp_ge (tgt := 66) hx hb dX9_branch_51 (by decide) (fun c_3 => ?_) (fun c_3 => ?_)
      · refine lv_aload_n hx hb dX9_branch_66 rfl (lv_at hl 0 rfl) ?_
        refine ro_calll (va_runV (As := []) (rest := [.int (7), .ref m0]) ⟨hx, hb, hml, hown, hts⟩ (kX9_s l dC dI m0 g H.size  (sg.1, sg.2.1, sg.2.2.1, sg.2.2.2.1, sg.2.2.2.2.1, sg.2.2.2.2.2.1, 0)) (cwV 0 hts gX9_branch_X9_s rfl rfl rfl (by decide +kernel) ⟨Nat.le_of_ble_eq_true rfl, Nat.le_of_ble_eq_true rfl⟩) (ro_preV 0 4 (q := (RX9, TX9, 26)) rfl rfl hP hK) rfl rfl hl.1 rfl (lv_room (Nat.le_of_ble_eq_true rfl)) dX9_branch_67 ⟨Nat.zero_le _, Nat.zero_le _⟩) hS hA (fun H locs kP hS => ?_)
        have hP := kP _ _ _ hP
        exact J70 (rgs sg.1 21) (sg.1, sg.2.1, sg.2.2.1, sg.2.2.2.1, sg.2.2.2.2.1, sg.2.2.2.2.2.1, 0) H _ ls hP hD hS (lv_sub hl [0, 1] rfl) ((show (fX9_branch_70 x1 (rgs sg.1 21) (sg.1, sg.2.1, sg.2.2.1, sg.2.2.2.1, sg.2.2.2.2.1, sg.2.2.2.2.2.1, 0)) = (fX9_branch x1 sg) by unfold fX9_branch; rw [if_pos c_1, if_pos c_2, if_pos c_3]).trans hv)
      · refine lv_aload_n hx hb dX9_branch_54 rfl (lv_at hl 0 rfl) ?_
        refine ro_calll (va_runV (As := []) (rest := [.int (7), .ref m0]) ⟨hx, hb, hml, hown, hts⟩ (kX9_s l dC dI m0 g H.size  (sg.1, sg.2.1, sg.2.2.1, sg.2.2.2.1, sg.2.2.2.2.1, sg.2.2.2.2.2.1, 0)) (cwV 0 hts gX9_branch_X9_s rfl rfl rfl (by decide +kernel) ⟨Nat.le_of_ble_eq_true rfl, Nat.le_of_ble_eq_true rfl⟩) (ro_preV 0 4 (q := (RX9, TX9, 26)) rfl rfl hP hK) rfl rfl hl.1 rfl (lv_room (Nat.le_of_ble_eq_true rfl)) dX9_branch_55 ⟨Nat.zero_le _, Nat.zero_le _⟩) hS hA (fun H locs kP hS => ?_)
        have hP := kP _ _ _ hP
        refine lv_aload_n hx hb dX9_branch_58 rfl (lv_at hl 0 rfl) ?_
        refine ro_calll (va_runV (As := []) (rest := [.long ((rgs sg.1 21)), .int (7), .ref m0]) ⟨hx, hb, hml, hown, hts⟩ (kX9_t l dC dI m0 g H.size  (sg.1, sg.2.1, sg.2.2.1, sg.2.2.2.1, sg.2.2.2.2.1, sg.2.2.2.2.2.1, 0)) (cwV 0 hts gX9_branch_X9_t rfl rfl rfl (by decide +kernel) ⟨Nat.le_of_ble_eq_true rfl, Nat.le_of_ble_eq_true rfl⟩) (ro_preV 0 4 (q := (RX9, TX9, 26)) rfl rfl hP hK) rfl rfl hl.1 rfl (lv_room (Nat.le_of_ble_eq_true rfl)) dX9_branch_59 ⟨Nat.zero_le _, Nat.zero_le _⟩) hS hA (fun H locs kP hS => ?_)
        have hP := kP _ _ _ hP
        refine lv_lor hx hb dX9_branch_62 ?_
        refine lv_goto (tgt := 70) hx hb dX9_branch_63 (by decide) ?_
        exact J70 ((rgs sg.1 21) ||| (rgs sg.1 16)) (sg.1, sg.2.1, sg.2.2.1, sg.2.2.2.1, sg.2.2.2.2.1, sg.2.2.2.2.2.1, 0) H _ ls hP hD hS (lv_sub hl [0, 1] rfl) ((show (fX9_branch_70 x1 ((rgs sg.1 21) ||| (rgs sg.1 16)) (sg.1, sg.2.1, sg.2.2.1, sg.2.2.2.1, sg.2.2.2.2.1, sg.2.2.2.2.2.1, 0)) = (fX9_branch x1 sg) by unfold fX9_branch; rw [if_pos c_1, if_pos c_2, if_neg c_3]).trans hv)
    · refine lv_aload_n hx hb dX9_branch_20 rfl (lv_at hl 0 rfl) ?_
      refine lv_bipush (v := 7) hx hb dX9_branch_21 (by decide) ?_
      refine lv_lconst (v := 0) hx hb dX9_branch_23 (by decide) ?_
      refine lv_iload_n hx hb dX9_branch_24 rfl (lv_at hl 1 rfl) ?_
      refine lv_iconst (v := 3) hx hb dX9_branch_25 (by decide) ?_
      refine lv_icmp_ne (tgt := 37) hx hb dX9_branch_26 (by decide) (fun c_4 => ?_) (fun c_4 => ?_)
      · refine lv_lconst (v := 0) hx hb dX9_branch_37 (by decide) ?_
        exact J38 0 (sg.1, sg.2.1, sg.2.2.1, sg.2.2.2.1, sg.2.2.2.2.1, sg.2.2.2.2.2.1, 0) H _ ls hP hD hS (lv_sub hl [0, 1] rfl) ((show (fX9_branch_38 x1 0 (sg.1, sg.2.1, sg.2.2.1, sg.2.2.2.1, sg.2.2.2.2.1, sg.2.2.2.2.2.1, 0)) = (fX9_branch x1 sg) by unfold fX9_branch; rw [if_pos c_1, if_neg c_2, if_neg c_4]).trans hv)
      · refine lv_bipush (v := 31) hx hb dX9_branch_29 (by decide) ?_
        refine ro_calll (va_runS (As := [.int (31)]) (rest := [.long (0), .int (7), .ref m0]) ⟨hx, hb, hml, hown, hts⟩ (kX9_register l H.size 31) (va_cwS 1 hts gX9_branch_X9_register rfl rfl rfl (by decide +kernel) ⟨Nat.le_of_ble_eq_true rfl, Nat.le_of_ble_eq_true rfl⟩) pu_preS rfl rfl hl.1 rfl (lv_room (Nat.le_of_ble_eq_true rfl)) dX9_branch_31 ⟨Nat.zero_le _, Nat.zero_le _⟩) hS hA (fun H locs kP hS => ?_)
        have hP := kP _ _ _ hP
        refine lv_goto (tgt := 38) hx hb dX9_branch_34 (by decide) ?_
        exact J38 (fX9_register 31) (sg.1, sg.2.1, sg.2.2.1, sg.2.2.2.1, sg.2.2.2.2.1, sg.2.2.2.2.2.1, 0) H _ ls hP hD hS (lv_sub hl [0, 1] rfl) ((show (fX9_branch_38 x1 (fX9_register 31) (sg.1, sg.2.1, sg.2.2.1, sg.2.2.2.1, sg.2.2.2.2.1, sg.2.2.2.2.2.1, 0)) = (fX9_branch x1 sg) by unfold fX9_branch; rw [if_pos c_1, if_neg c_2, if_pos c_4]).trans hv)
  · refine lv_iconst (v := 1) hx hb dX9_branch_7 (by decide) ?_
    refine lv_goto (tgt := 12) hx hb dX9_branch_8 (by decide) ?_
    refine va_put (D := (dC, dI)) (ci := 4) (v := .int (1)) (ty := .boolean) (C := RX9) (T := TX9) (N := 26) hx hb hts hinX9 tyX9 tyX9_ok nmX9 hown hK hP hD hS 0 rfl rfl 21 (by decide) (hts (.fieldLink RX9 87 "SlotFillerModel" "isLikely" "Z") (by decide +kernel)) (fun _ h9 => h9) rfl (by decide +kernel) (by decide) (by decide) (Nat.le_of_ble_eq_true rfl) dX9_branch_12 (fun H locs hP hD hS => ?_)
    have hP : va_P (dC, dI) vwCl [(m0, .inr (4, [(g 0), (g 1), (g 2), (g 3), (g 4), (g 5), (g 6), (g 7), (g 8), (g 9), (g 10), (g 11), (g 12), (g 13), (g 14), .int (sg.1), .int (sg.2.1), .int (sg.2.2.1), .int (sg.2.2.2.1), .long (sg.2.2.2.2.1), .long (sg.2.2.2.2.2.1), .int (1), (g 22), (g 23), (g 24), (g 25)]))] H := hP
    have hD : va_D A [(m0, .inr (4, [(g 0), (g 1), (g 2), (g 3), (g 4), (g 5), (g 6), (g 7), (g 8), (g 9), (g 10), (g 11), (g 12), (g 13), (g 14), .int (sg.1), .int (sg.2.1), .int (sg.2.2.1), .int (sg.2.2.2.1), .long (sg.2.2.2.2.1), .long (sg.2.2.2.2.2.1), .int (1), (g 22), (g 23), (g 24), (g 25)]))] := hD
    refine lv_iload_n hx hb dX9_branch_15 rfl (lv_at hl 1 rfl) ?_
    refine lv_iconst (v := 4) hx hb dX9_branch_16 (by decide) ?_
    refine lv_icmp_ge (tgt := 44) hx hb dX9_branch_17 (by decide) (fun c_5 => ?_) (fun c_5 => ?_)
    · refine lv_aload_n hx hb dX9_branch_44 rfl (lv_at hl 0 rfl) ?_
      refine lv_bipush (v := 7) hx hb dX9_branch_45 (by decide) ?_
      refine lv_iload_n hx hb dX9_branch_47 rfl (lv_at hl 1 rfl) ?_
      refine lv_iconst (v := 3) hx hb dX9_branch_48 (by decide) ?_
      refine lv_iand hx hb dX9_branch_49 ?_
      refine lv_iconst (v := 2) hx hb dX9_branch_50 (by decide) ?_
      refine lv_icmp_ge (tgt := 66) hx hb dX9_branch_51 (by decide) (fun c_6 => ?_) (fun c_6 => ?_)
      · refine lv_aload_n hx hb dX9_branch_66 rfl (lv_at hl 0 rfl) ?_
        refine ro_calll (va_runV (As := []) (rest := [.int (7), .ref m0]) ⟨hx, hb, hml, hown, hts⟩ (kX9_s l dC dI m0 g H.size  (sg.1, sg.2.1, sg.2.2.1, sg.2.2.2.1, sg.2.2.2.2.1, sg.2.2.2.2.2.1, 1)) (cwV 0 hts gX9_branch_X9_s rfl rfl rfl (by decide +kernel) ⟨Nat.le_of_ble_eq_true rfl, Nat.le_of_ble_eq_true rfl⟩) (ro_preV 0 4 (q := (RX9, TX9, 26)) rfl rfl hP hK) rfl rfl hl.1 rfl (lv_room (Nat.le_of_ble_eq_true rfl)) dX9_branch_67 ⟨Nat.zero_le _, Nat.zero_le _⟩) hS hA (fun H locs kP hS => ?_)
        have hP := kP _ _ _ hP
        exact J70 (rgs sg.1 21) (sg.1, sg.2.1, sg.2.2.1, sg.2.2.2.1, sg.2.2.2.2.1, sg.2.2.2.2.2.1, 1) H _ ls hP hD hS (lv_sub hl [0, 1] rfl) ((show (fX9_branch_70 x1 (rgs sg.1 21) (sg.1, sg.2.1, sg.2.2.1, sg.2.2.2.1, sg.2.2.2.2.1, sg.2.2.2.2.2.1, 1)) = (fX9_branch x1 sg) by unfold fX9_branch; rw [if_neg c_1, if_pos c_5, if_pos c_6]).trans hv)
      · refine lv_aload_n hx hb dX9_branch_54 rfl (lv_at hl 0 rfl) ?_
        refine ro_calll (va_runV (As := []) (rest := [.int (7), .ref m0]) ⟨hx, hb, hml, hown, hts⟩ (kX9_s l dC dI m0 g H.size  (sg.1, sg.2.1, sg.2.2.1, sg.2.2.2.1, sg.2.2.2.2.1, sg.2.2.2.2.2.1, 1)) (cwV 0 hts gX9_branch_X9_s rfl rfl rfl (by decide +kernel) ⟨Nat.le_of_ble_eq_true rfl, Nat.le_of_ble_eq_true rfl⟩) (ro_preV 0 4 (q := (RX9, TX9, 26)) rfl rfl hP hK) rfl rfl hl.1 rfl (lv_room (Nat.le_of_ble_eq_true rfl)) dX9_branch_55 ⟨Nat.zero_le _, Nat.zero_le _⟩) hS hA (fun H locs kP hS => ?_)
        have hP := kP _ _ _ hP
        refine lv_aload_n hx hb dX9_branch_58 rfl (lv_at hl 0 rfl) ?_
        refine ro_calll (va_runV (As := []) (rest := [.long ((rgs sg.1 21)), .int (7), .ref m0]) ⟨hx, hb, hml, hown, hts⟩ (kX9_t l dC dI m0 g H.size  (sg.1, sg.2.1, sg.2.2.1, sg.2.2.2.1, sg.2.2.2.2.1, sg.2.2.2.2.2.1, 1)) (cwV 0 hts gX9_branch_X9_t rfl rfl rfl (by decide +kernel) ⟨Nat.le_of_ble_eq_true rfl, Nat.le_of_ble_eq_true rfl⟩) (ro_preV 0 4 (q := (RX9, TX9, 26)) rfl rfl hP hK) rfl rfl hl.1 rfl (lv_room (Nat.le_of_ble_eq_true rfl)) dX9_branch_59 ⟨Nat.zero_le _, Nat.zero_le _⟩) hS hA (fun H locs kP hS => ?_)
        have hP := kP _ _ _ hP
        refine lv_lor hx hb dX9_branch_62 ?_
        refine lv_goto (tgt := 70) hx hb dX9_branch_63 (by decide) ?_
        exact J70 ((rgs sg.1 21) ||| (rgs sg.1 16)) (sg.1, sg.2.1, sg.2.2.1, sg.2.2.2.1, sg.2.2.2.2.1, sg.2.2.2.2.2.1, 1) H _ ls hP hD hS (lv_sub hl [0, 1] rfl) ((show (fX9_branch_70 x1 ((rgs sg.1 21) ||| (rgs sg.1 16)) (sg.1, sg.2.1, sg.2.2.1, sg.2.2.2.1, sg.2.2.2.2.1, sg.2.2.2.2.2.1, 1)) = (fX9_branch x1 sg) by unfold fX9_branch; rw [if_neg c_1, if_pos c_5, if_neg c_6]).trans hv)
    · refine lv_aload_n hx hb dX9_branch_20 rfl (lv_at hl 0 rfl) ?_
      refine lv_bipush (v := 7) hx hb dX9_branch_21 (by decide) ?_
      refine lv_lconst (v := 0) hx hb dX9_branch_23 (by decide) ?_
      refine lv_iload_n hx hb dX9_branch_24 rfl (lv_at hl 1 rfl) ?_
      refine lv_iconst (v := 3) hx hb dX9_branch_25 (by decide) ?_
      refine lv_icmp_ne (tgt := 37) hx hb dX9_branch_26 (by decide) (fun c_7 => ?_) (fun c_7 => ?_)
      · refine lv_lconst (v := 0) hx hb dX9_branch_37 (by decide) ?_
        exact J38 0 (sg.1, sg.2.1, sg.2.2.1, sg.2.2.2.1, sg.2.2.2.2.1, sg.2.2.2.2.2.1, 1) H _ ls hP hD hS (lv_sub hl [0, 1] rfl) ((show (fX9_branch_38 x1 0 (sg.1, sg.2.1, sg.2.2.1, sg.2.2.2.1, sg.2.2.2.2.1, sg.2.2.2.2.2.1, 1)) = (fX9_branch x1 sg) by unfold fX9_branch; rw [if_neg c_1, if_neg c_5, if_neg c_7]).trans hv)
      · refine lv_bipush (v := 31) hx hb dX9_branch_29 (by decide) ?_
        refine ro_calll (va_runS (As := [.int (31)]) (rest := [.long (0), .int (7), .ref m0]) ⟨hx, hb, hml, hown, hts⟩ (kX9_register l H.size 31) (va_cwS 1 hts gX9_branch_X9_register rfl rfl rfl (by decide +kernel) ⟨Nat.le_of_ble_eq_true rfl, Nat.le_of_ble_eq_true rfl⟩) pu_preS rfl rfl hl.1 rfl (lv_room (Nat.le_of_ble_eq_true rfl)) dX9_branch_31 ⟨Nat.zero_le _, Nat.zero_le _⟩) hS hA (fun H locs kP hS => ?_)
        have hP := kP _ _ _ hP
        refine lv_goto (tgt := 38) hx hb dX9_branch_34 (by decide) ?_
        exact J38 (fX9_register 31) (sg.1, sg.2.1, sg.2.2.1, sg.2.2.2.1, sg.2.2.2.2.1, sg.2.2.2.2.2.1, 1) H _ ls hP hD hS (lv_sub hl [0, 1] rfl) ((show (fX9_branch_38 x1 (fX9_register 31) (sg.1, sg.2.1, sg.2.2.1, sg.2.2.2.1, sg.2.2.2.2.1, sg.2.2.2.2.2.1, 1)) = (fX9_branch x1 sg) by unfold fX9_branch; rw [if_neg c_1, if_neg c_5, if_pos c_7]).trans hv)
def fX9_number_33 (x1 : Int32) (z0 : Int64) (tg : Sc) : Sc := (tg.1, 0, tg.2.2.1, tg.2.2.2.1, z0, (rgs tg.1 16), tg.2.2.2.2.2.2)
def fX9_number (x1 : Int32) (sg : Sc) : Sc := if x1 = 8 then (sg.1, 8, sg.2.2.1, sg.2.2.2.1, 0, 0, sg.2.2.2.2.2.2) else if x1 = 15 then (fX9_number_33 x1 0 sg) else (fX9_number_33 x1 (rgs sg.1 21) sg)
set_option maxHeartbeats 4000000 in
set_option maxRecDepth 100000 in
theorem kX9_number (l : Launch) (dC : Nat → ClassId) (dI : Nat → Nat → Nat) (m0 : Nat) (g : Nat → Value) (sz : Nat) (x1 : Int32) (sg : Sc) : Met l yX9_number wsX9_number ({ frames := 2, cells := 0, slots := 0, locals := 41 }) (md_Pc (dC, dI) (wM1 m0 g sg) [] [.ref m0, .int (x1)] sz) (md_Qv (dC, dI) (wM1 m0 g (fX9_number x1 sg)) (va_A (wM1 m0 g sg) sz)) 0 0 (va_A (wM1 m0 g sg) sz) := by
  refine Met.ofW (cc := cX9_number) (maxL := 2) (ret := none) (by decide) rfl ?_
  intro p e s m args below meth c s₁ B0 hml hv
  obtain ⟨rfl, hsz, hP, hK, hD0⟩ := hv
  have hx := B0.exec
  have hb := B0.bytes
  have hr := B0.returns
  have hts := atoms_spec (ws := wsX9_number) B0.pre
  have hown : s.vm.findClass RX9 = some m.cls := findClass_of_methodNamed B0.named
  have hlocks := B0.notSynchronized
  have hinX9 : ∀ w ∈ wsX90, w ∈ wsX9_number := fun w h => List.mem_cons_of_mem _ (List.mem_append_right _ (h))
  subst hsz
  have hD := hD0.self (sz := s.heap.size)
  generalize hAe : va_A (wM1 m0 g sg) s.heap.size = A at hD ⊢
  have hA : ∀ q : Nat, s.heap.size ≤ q → A q := fun q h => by rw [← hAe]; exact Or.inr h
  have hS : va_S A s.heap s.heap [] := va_S.rf
  have hl := lv_entry ([.ref m0, .int (x1)]) (n := 2) (Nat.le_of_ble_eq_true rfl)
  rw [lg_entry_eq]
  generalize (lg_sl ([.ref m0, .int (x1)]) ++ List.replicate (2 - (lg_sl ([.ref m0, .int (x1)])).length) Slot.unset).toArray = ls at hl ⊢
  have hl : lv_has ls 2 [(0, .ref m0), (1, .int (x1))] := hl
  have hv : (fX9_number x1 sg) = (fX9_number x1 sg) := rfl
  have J33 : ∀ (z0 : Int64) (tg : Sc) (H : Heap) (locs : List Loc) (ls : Array Slot), va_P (dC, dI) vwCl (wM1 m0 g tg) H → va_D A (wM1 m0 g tg) → va_S A s.heap H locs → lv_has ls 2 [(0, .ref m0), (1, .int (x1))] → (fX9_number_33 x1 z0 tg) = (fX9_number x1 sg) → W p l e (headSpec wsX9_number ({ frames := 2, cells := 0, slots := 0, locals := 41 })).room s m ([.ref m0, .int (x1)] : List Value).toArray below meth c H locs 0 0 (MQ below (md_Qv (dC, dI) (wM1 m0 g (fX9_number x1 sg)) (A)) ([.ref m0, .int (x1)] : List Value).toArray s 0 0 (A)) (F0 m 33 ls [.long (z0), .int (0), .ref m0]) := by
    intro z0 tg H locs ls hP hD hS hl hv
    refine lv_aload_n hx hb dX9_number_33 rfl (lv_at hl 0 rfl) ?_
    refine ro_calll (va_runV (As := []) (rest := [.long (z0), .int (0), .ref m0]) ⟨hx, hb, hml, hown, hts⟩ (kX9_t l dC dI m0 g H.size  tg) (cwV 0 hts gX9_number_X9_t rfl rfl rfl (by decide +kernel) ⟨Nat.le_of_ble_eq_true rfl, Nat.le_of_ble_eq_true rfl⟩) (ro_preV 0 4 (q := (RX9, TX9, 26)) rfl rfl hP hK) rfl rfl hl.1 rfl (lv_room (Nat.le_of_ble_eq_true rfl)) dX9_number_34 ⟨Nat.zero_le _, Nat.zero_le _⟩) hS hA (fun H locs kP hS => ?_)
    have hP := kP _ _ _ hP
    refine md_callv (wr := []) (va_runV (As := [.int (0), .long (z0), .long ((rgs tg.1 16))]) (rest := []) ⟨hx, hb, hml, hown, hts⟩ (kX9_is l dC dI m0 g H.size 0 z0 (rgs tg.1 16) tg) (cwV 3 hts gX9_number_X9_is rfl rfl rfl (by decide +kernel) ⟨Nat.le_of_ble_eq_true rfl, Nat.le_of_ble_eq_true rfl⟩) (md_preV 0 4 (q := (RX9, TX9, 26)) rfl rfl hP hK hD) rfl rfl hl.1 rfl (lv_room (Nat.le_of_ble_eq_true rfl)) dX9_number_37 ⟨Nat.zero_le _, Nat.zero_le _⟩) hS hA hP hD [0] [] rfl rfl (by decide) (by decide) (fun H locs hP hD hS => ?_)
    have hP : va_P (dC, dI) vwCl (wM1 m0 g (tg.1, 0, tg.2.2.1, tg.2.2.2.1, z0, (rgs tg.1 16), tg.2.2.2.2.2.2)) H := hP
    have hD : va_D A (wM1 m0 g (tg.1, 0, tg.2.2.1, tg.2.2.2.1, z0, (rgs tg.1 16), tg.2.2.2.2.2.2)) := hD
    have e9 : (tg.1, 0, tg.2.2.1, tg.2.2.2.1, z0, (rgs tg.1 16), tg.2.2.2.2.2.2) = (fX9_number x1 sg) := ((show (tg.1, 0, tg.2.2.1, tg.2.2.2.1, z0, (rgs tg.1 16), tg.2.2.2.2.2.2) = (fX9_number_33 x1 z0 tg) by unfold fX9_number_33; rfl).trans hv)
    have hP : va_P (dC, dI) vwCl (wM1 m0 g (fX9_number x1 sg)) H := by rw [← e9]; exact hP
    have hD : va_D A (wM1 m0 g (fX9_number x1 sg)) := by rw [← e9]; exact hD
    exact W.vret hx hb hr (fun t ht hW => ⟨⟨(), rfl, trivial, by rw [ht]; exact hP, hD⟩, hS.F ht⟩) hS.2.2 dX9_number_40
  refine lv_iload_n hx hb dX9_number_0 rfl (lv_at hl 1 rfl) ?_
  refine lv_bipush (v := 8) hx hb dX9_number_1 (by decide) ?_
  refine lv_icmp_ne (tgt := 17) hx hb dX9_number_3 (by decide) (fun c_1 => ?_) (fun c_1 => ?_)
  · refine lv_aload_n hx hb dX9_number_17 rfl (lv_at hl 0 rfl) ?_
    refine lv_iconst (v := 0) hx hb dX9_number_18 (by decide) ?_
    refine lv_iload_n hx hb dX9_number_19 rfl (lv_at hl 1 rfl) ?_
    refine lv_bipush (v := 15) hx hb dX9_number_20 (by decide) ?_
    refine lv_icmp_ne (tgt := 29) hx hb dX9_number_22 (by decide) (fun c_2 => ?_) (fun c_2 => ?_)
    · refine lv_aload_n hx hb dX9_number_29 rfl (lv_at hl 0 rfl) ?_
      refine ro_calll (va_runV (As := []) (rest := [.int (0), .ref m0]) ⟨hx, hb, hml, hown, hts⟩ (kX9_s l dC dI m0 g s.heap.size  sg) (cwV 0 hts gX9_number_X9_s rfl rfl rfl (by decide +kernel) ⟨Nat.le_of_ble_eq_true rfl, Nat.le_of_ble_eq_true rfl⟩) (ro_preV 0 4 (q := (RX9, TX9, 26)) rfl rfl hP hK) rfl rfl hl.1 rfl (lv_room (Nat.le_of_ble_eq_true rfl)) dX9_number_30 ⟨Nat.zero_le _, Nat.zero_le _⟩) hS hA (fun H locs kP hS => ?_)
      have hP := kP _ _ _ hP
      exact J33 (rgs sg.1 21) sg H _ ls hP hD hS (lv_sub hl [0, 1] rfl) ((show (fX9_number_33 x1 (rgs sg.1 21) sg) = (fX9_number x1 sg) by unfold fX9_number; rw [if_neg c_1, if_neg c_2]).trans hv)
    · refine lv_lconst (v := 0) hx hb dX9_number_25 (by decide) ?_
      refine lv_goto (tgt := 33) hx hb dX9_number_26 (by decide) ?_
      exact J33 0 sg s.heap _ ls hP hD hS (lv_sub hl [0, 1] rfl) ((show (fX9_number_33 x1 0 sg) = (fX9_number x1 sg) by unfold fX9_number; rw [if_neg c_1, if_pos c_2]).trans hv)
  · refine lv_aload_n hx hb dX9_number_6 rfl (lv_at hl 0 rfl) ?_
    refine lv_bipush (v := 8) hx hb dX9_number_7 (by decide) ?_
    refine lv_lconst (v := 0) hx hb dX9_number_9 (by decide) ?_
    refine lv_lconst (v := 0) hx hb dX9_number_10 (by decide) ?_
    refine md_callv (wr := []) (va_runV (As := [.int (8), .long (0), .long (0)]) (rest := []) ⟨hx, hb, hml, hown, hts⟩ (kX9_is l dC dI m0 g s.heap.size 8 0 0 sg) (cwV 3 hts gX9_number_X9_is rfl rfl rfl (by decide +kernel) ⟨Nat.le_of_ble_eq_true rfl, Nat.le_of_ble_eq_true rfl⟩) (md_preV 0 4 (q := (RX9, TX9, 26)) rfl rfl hP hK hD) rfl rfl hl.1 rfl (lv_room (Nat.le_of_ble_eq_true rfl)) dX9_number_11 ⟨Nat.zero_le _, Nat.zero_le _⟩) hS hA hP hD [0] [] rfl rfl (by decide) (by decide) (fun H locs hP hD hS => ?_)
    have hP : va_P (dC, dI) vwCl (wM1 m0 g (sg.1, 8, sg.2.2.1, sg.2.2.2.1, 0, 0, sg.2.2.2.2.2.2)) H := hP
    have hD : va_D A (wM1 m0 g (sg.1, 8, sg.2.2.1, sg.2.2.2.1, 0, 0, sg.2.2.2.2.2.2)) := hD
    refine lv_goto (tgt := 40) hx hb dX9_number_14 (by decide) ?_
    have e9 : (sg.1, 8, sg.2.2.1, sg.2.2.2.1, 0, 0, sg.2.2.2.2.2.2) = (fX9_number x1 sg) := ((show (sg.1, 8, sg.2.2.1, sg.2.2.2.1, 0, 0, sg.2.2.2.2.2.2) = (fX9_number x1 sg) by unfold fX9_number; rw [if_pos c_1]).trans hv)
    have hP : va_P (dC, dI) vwCl (wM1 m0 g (fX9_number x1 sg)) H := by rw [← e9]; exact hP
    have hD : va_D A (wM1 m0 g (fX9_number x1 sg)) := by rw [← e9]; exact hD
    exact W.vret hx hb hr (fun t ht hW => ⟨⟨(), rfl, trivial, by rw [ht]; exact hP, hD⟩, hS.F ht⟩) hS.2.2 dX9_number_40
def fX9_second_43 (x1 : Int32) (tg : Sc) : Sc := (tg.1, 3, 2, 2, ((rgs tg.1 21) ||| (rgs tg.1 16)), 0, tg.2.2.2.2.2.2)
def fX9_second_12 (x1 : Int32) (tg : Sc) : Sc := (tg.1, 0, tg.2.2.1, tg.2.2.2.1, (rgs tg.1 21), (rgs tg.1 11), tg.2.2.2.2.2.2)
def fX9_second (x1 : Int32) (sg : Sc) : Sc := if x1 = 32 then (fX9_second_12 x1 sg) else if x1 = 33 then (fX9_second_12 x1 sg) else if x1 < 2 then (fX9_second_43 x1 sg) else if x1 = 4 then (fX9_second_43 x1 sg) else if x1 = 5 then (fX9_second_43 x1 sg) else if x1 = 2 then (sg.1, 3, 0, 2, ((rgs sg.1 21) ||| (rgs sg.1 16)), (rgs sg.1 11), sg.2.2.2.2.2.2) else sg
set_option maxHeartbeats 4000000 in
set_option maxRecDepth 100000 in
theorem kX9_second (l : Launch) (dC : Nat → ClassId) (dI : Nat → Nat → Nat) (m0 : Nat) (g : Nat → Value) (sz : Nat) (x1 : Int32) (sg : Sc) : Met l yX9_second wsX9_second ({ frames := 2, cells := 0, slots := 0, locals := 41 }) (md_Pc (dC, dI) (wM1 m0 g sg) [] [.ref m0, .int (x1)] sz) (md_Qv (dC, dI) (wM1 m0 g (fX9_second x1 sg)) (va_A (wM1 m0 g sg) sz)) 0 0 (va_A (wM1 m0 g sg) sz) := by
  refine Met.ofW (cc := cX9_second) (maxL := 2) (ret := none) (by decide) rfl ?_
  intro p e s m args below meth c s₁ B0 hml hv
  obtain ⟨rfl, hsz, hP, hK, hD0⟩ := hv
  have hx := B0.exec
  have hb := B0.bytes
  have hr := B0.returns
  have hts := atoms_spec (ws := wsX9_second) B0.pre
  have hown : s.vm.findClass RX9 = some m.cls := findClass_of_methodNamed B0.named
  have hlocks := B0.notSynchronized
  have hinX9 : ∀ w ∈ wsX90, w ∈ wsX9_second := fun w h => List.mem_cons_of_mem _ (List.mem_append_right _ (h))
  subst hsz
  have hD := hD0.self (sz := s.heap.size)
  generalize hAe : va_A (wM1 m0 g sg) s.heap.size = A at hD ⊢
  have hA : ∀ q : Nat, s.heap.size ≤ q → A q := fun q h => by rw [← hAe]; exact Or.inr h
  have hS : va_S A s.heap s.heap [] := va_S.rf
  have hl := lv_entry ([.ref m0, .int (x1)]) (n := 2) (Nat.le_of_ble_eq_true rfl)
  rw [lg_entry_eq]
  generalize (lg_sl ([.ref m0, .int (x1)]) ++ List.replicate (2 - (lg_sl ([.ref m0, .int (x1)])).length) Slot.unset).toArray = ls at hl ⊢
  have hl : lv_has ls 2 [(0, .ref m0), (1, .int (x1))] := hl
  have hv : (fX9_second x1 sg) = (fX9_second x1 sg) := rfl
  have J43 : ∀ (tg : Sc) (H : Heap) (locs : List Loc) (ls : Array Slot), va_P (dC, dI) vwCl (wM1 m0 g tg) H → va_D A (wM1 m0 g tg) → va_S A s.heap H locs → lv_has ls 2 [(0, .ref m0), (1, .int (x1))] → (fX9_second_43 x1 tg) = (fX9_second x1 sg) → W p l e (headSpec wsX9_second ({ frames := 2, cells := 0, slots := 0, locals := 41 })).room s m ([.ref m0, .int (x1)] : List Value).toArray below meth c H locs 0 0 (MQ below (md_Qv (dC, dI) (wM1 m0 g (fX9_second x1 sg)) (A)) ([.ref m0, .int (x1)] : List Value).toArray s 0 0 (A)) (F0 m 43 ls []) := by
    intro tg H locs ls hP hD hS hl hv
    refine lv_aload_n hx hb dX9_second_43 rfl (lv_at hl 0 rfl) ?_
    refine lv_iconst (v := 3) hx hb dX9_second_44 (by decide) ?_
    refine lv_aload_n hx hb dX9_second_45 rfl (lv_at hl 0 rfl) ?_
    refine ro_calll (va_runV (As := []) (rest := [.int (3), .ref m0]) ⟨hx, hb, hml, hown, hts⟩ (kX9_s l dC dI m0 g H.size  tg) (cwV 0 hts gX9_second_X9_s rfl rfl rfl (by decide +kernel) ⟨Nat.le_of_ble_eq_true rfl, Nat.le_of_ble_eq_true rfl⟩) (ro_preV 0 4 (q := (RX9, TX9, 26)) rfl rfl hP hK) rfl rfl hl.1 rfl (lv_room (Nat.le_of_ble_eq_true rfl)) dX9_second_46 ⟨Nat.zero_le _, Nat.zero_le _⟩) hS hA (fun H locs kP hS => ?_)
    have hP := kP _ _ _ hP
    refine lv_aload_n hx hb dX9_second_49 rfl (lv_at hl 0 rfl) ?_
    refine ro_calll (va_runV (As := []) (rest := [.long ((rgs tg.1 21)), .int (3), .ref m0]) ⟨hx, hb, hml, hown, hts⟩ (kX9_t l dC dI m0 g H.size  tg) (cwV 0 hts gX9_second_X9_t rfl rfl rfl (by decide +kernel) ⟨Nat.le_of_ble_eq_true rfl, Nat.le_of_ble_eq_true rfl⟩) (ro_preV 0 4 (q := (RX9, TX9, 26)) rfl rfl hP hK) rfl rfl hl.1 rfl (lv_room (Nat.le_of_ble_eq_true rfl)) dX9_second_50 ⟨Nat.zero_le _, Nat.zero_le _⟩) hS hA (fun H locs kP hS => ?_)
    have hP := kP _ _ _ hP
    refine lv_lor hx hb dX9_second_53 ?_
    refine lv_lconst (v := 0) hx hb dX9_second_54 (by decide) ?_
    refine md_callv (wr := []) (va_runV (As := [.int (3), .long (((rgs tg.1 21) ||| (rgs tg.1 16))), .long (0)]) (rest := []) ⟨hx, hb, hml, hown, hts⟩ (kX9_is l dC dI m0 g H.size 3 ((rgs tg.1 21) ||| (rgs tg.1 16)) 0 tg) (cwV 3 hts gX9_second_X9_is rfl rfl rfl (by decide +kernel) ⟨Nat.le_of_ble_eq_true rfl, Nat.le_of_ble_eq_true rfl⟩) (md_preV 0 4 (q := (RX9, TX9, 26)) rfl rfl hP hK hD) rfl rfl hl.1 rfl (lv_room (Nat.le_of_ble_eq_true rfl)) dX9_second_55 ⟨Nat.zero_le _, Nat.zero_le _⟩) hS hA hP hD [0] [] rfl rfl (by decide) (by decide) (fun H locs hP hD hS => ?_)
    have hP : va_P (dC, dI) vwCl (wM1 m0 g (tg.1, 3, tg.2.2.1, tg.2.2.2.1, ((rgs tg.1 21) ||| (rgs tg.1 16)), 0, tg.2.2.2.2.2.2)) H := hP
    have hD : va_D A (wM1 m0 g (tg.1, 3, tg.2.2.1, tg.2.2.2.1, ((rgs tg.1 21) ||| (rgs tg.1 16)), 0, tg.2.2.2.2.2.2)) := hD
    refine lv_aload_n hx hb dX9_second_58 rfl (lv_at hl 0 rfl) ?_
    refine lv_iconst (v := 2) hx hb dX9_second_59 (by decide) ?_
    refine lv_iconst (v := 2) hx hb dX9_second_60 (by decide) ?_
    refine md_callv (wr := []) (va_runV (As := [.int (2), .int (2)]) (rest := []) ⟨hx, hb, hml, hown, hts⟩ (kX9_also l dC dI m0 g H.size 2 2 (tg.1, 3, tg.2.2.1, tg.2.2.2.1, ((rgs tg.1 21) ||| (rgs tg.1 16)), 0, tg.2.2.2.2.2.2)) (cwV 2 hts gX9_second_X9_also rfl rfl rfl (by decide +kernel) ⟨Nat.le_of_ble_eq_true rfl, Nat.le_of_ble_eq_true rfl⟩) (md_preV 0 4 (q := (RX9, TX9, 26)) rfl rfl hP hK hD) rfl rfl hl.1 rfl (lv_room (Nat.le_of_ble_eq_true rfl)) dX9_second_61 ⟨Nat.zero_le _, Nat.zero_le _⟩) hS hA hP hD [0] [] rfl rfl (by decide) (by decide) (fun H locs hP hD hS => ?_)
    have hP : va_P (dC, dI) vwCl (wM1 m0 g (tg.1, 3, 2, 2, ((rgs tg.1 21) ||| (rgs tg.1 16)), 0, tg.2.2.2.2.2.2)) H := hP
    have hD : va_D A (wM1 m0 g (tg.1, 3, 2, 2, ((rgs tg.1 21) ||| (rgs tg.1 16)), 0, tg.2.2.2.2.2.2)) := hD
    refine lv_goto (tgt := 96) hx hb dX9_second_64 (by decide) ?_
    have e9 : (tg.1, 3, 2, 2, ((rgs tg.1 21) ||| (rgs tg.1 16)), 0, tg.2.2.2.2.2.2) = (fX9_second x1 sg) := ((show (tg.1, 3, 2, 2, ((rgs tg.1 21) ||| (rgs tg.1 16)), 0, tg.2.2.2.2.2.2) = (fX9_second_43 x1 tg) by unfold fX9_second_43; rfl).trans hv)
    have hP : va_P (dC, dI) vwCl (wM1 m0 g (fX9_second x1 sg)) H := by rw [← e9]; exact hP
    have hD : va_D A (wM1 m0 g (fX9_second x1 sg)) := by rw [← e9]; exact hD
    exact W.vret hx hb hr (fun t ht hW => ⟨⟨(), rfl, trivial, by rw [ht]; exact hP, hD⟩, hS.F ht⟩) hS.2.2 dX9_second_96
  have J12 : ∀ (tg : Sc) (H : Heap) (locs : List Loc) (ls : Array Slot), va_P (dC, dI) vwCl (wM1 m0 g tg) H → va_D A (wM1 m0 g tg) → va_S A s.heap H locs → lv_has ls 2 [(0, .ref m0), (1, .int (x1))] → (fX9_second_12 x1 tg) = (fX9_second x1 sg) → W p l e (headSpec wsX9_second ({ frames := 2, cells := 0, slots := 0, locals := 41 })).room s m ([.ref m0, .int (x1)] : List Value).toArray below meth c H locs 0 0 (MQ below (md_Qv (dC, dI) (wM1 m0 g (fX9_second x1 sg)) (A)) ([.ref m0, .int (x1)] : List Value).toArray s 0 0 (A)) (F0 m 12 ls []) := by
    intro tg H locs ls hP hD hS hl hv
    refine lv_aload_n hx hb dX9_second_12 rfl (lv_at hl 0 rfl) ?_
    refine lv_iconst (v := 0) hx hb dX9_second_13 (by decide) ?_
    refine lv_aload_n hx hb dX9_second_14 rfl (lv_at hl 0 rfl) ?_
    refine ro_calll (va_runV (As := []) (rest := [.int (0), .ref m0]) ⟨hx, hb, hml, hown, hts⟩ (kX9_s l dC dI m0 g H.size  tg) (cwV 0 hts gX9_second_X9_s rfl rfl rfl (by decide +kernel) ⟨Nat.le_of_ble_eq_true rfl, Nat.le_of_ble_eq_true rfl⟩) (ro_preV 0 4 (q := (RX9, TX9, 26)) rfl rfl hP hK) rfl rfl hl.1 rfl (lv_room (Nat.le_of_ble_eq_true rfl)) dX9_second_15 ⟨Nat.zero_le _, Nat.zero_le _⟩) hS hA (fun H locs kP hS => ?_)
    have hP := kP _ _ _ hP
    refine lv_aload_n hx hb dX9_second_18 rfl (lv_at hl 0 rfl) ?_
    refine ro_calll (va_runV (As := []) (rest := [.long ((rgs tg.1 21)), .int (0), .ref m0]) ⟨hx, hb, hml, hown, hts⟩ (kX9_d l dC dI m0 g H.size  tg) (cwV 0 hts gX9_second_X9_d rfl rfl rfl (by decide +kernel) ⟨Nat.le_of_ble_eq_true rfl, Nat.le_of_ble_eq_true rfl⟩) (ro_preV 0 4 (q := (RX9, TX9, 26)) rfl rfl hP hK) rfl rfl hl.1 rfl (lv_room (Nat.le_of_ble_eq_true rfl)) dX9_second_19 ⟨Nat.zero_le _, Nat.zero_le _⟩) hS hA (fun H locs kP hS => ?_)
    have hP := kP _ _ _ hP
    refine md_callv (wr := []) (va_runV (As := [.int (0), .long ((rgs tg.1 21)), .long ((rgs tg.1 11))]) (rest := []) ⟨hx, hb, hml, hown, hts⟩ (kX9_is l dC dI m0 g H.size 0 (rgs tg.1 21) (rgs tg.1 11) tg) (cwV 3 hts gX9_second_X9_is rfl rfl rfl (by decide +kernel) ⟨Nat.le_of_ble_eq_true rfl, Nat.le_of_ble_eq_true rfl⟩) (md_preV 0 4 (q := (RX9, TX9, 26)) rfl rfl hP hK hD) rfl rfl hl.1 rfl (lv_room (Nat.le_of_ble_eq_true rfl)) dX9_second_22 ⟨Nat.zero_le _, Nat.zero_le _⟩) hS hA hP hD [0] [] rfl rfl (by decide) (by decide) (fun H locs hP hD hS => ?_)
    have hP : va_P (dC, dI) vwCl (wM1 m0 g (tg.1, 0, tg.2.2.1, tg.2.2.2.1, (rgs tg.1 21), (rgs tg.1 11), tg.2.2.2.2.2.2)) H := hP
    have hD : va_D A (wM1 m0 g (tg.1, 0, tg.2.2.1, tg.2.2.2.1, (rgs tg.1 21), (rgs tg.1 11), tg.2.2.2.2.2.2)) := hD
    refine lv_goto (tgt := 96) hx hb dX9_second_25 (by decide) ?_
    have e9 : (tg.1, 0, tg.2.2.1, tg.2.2.2.1, (rgs tg.1 21), (rgs tg.1 11), tg.2.2.2.2.2.2) = (fX9_second x1 sg) := ((show (tg.1, 0, tg.2.2.1, tg.2.2.2.1, (rgs tg.1 21), (rgs tg.1 11), tg.2.2.2.2.2.2) = (fX9_second_12 x1 tg) by unfold fX9_second_12; rfl).trans hv)
    have hP : va_P (dC, dI) vwCl (wM1 m0 g (fX9_second x1 sg)) H := by rw [← e9]; exact hP
    have hD : va_D A (wM1 m0 g (fX9_second x1 sg)) := by rw [← e9]; exact hD
    exact W.vret hx hb hr (fun t ht hW => ⟨⟨(), rfl, trivial, by rw [ht]; exact hP, hD⟩, hS.F ht⟩) hS.2.2 dX9_second_96
  refine lv_iload_n hx hb dX9_second_0 rfl (lv_at hl 1 rfl) ?_
  refine lv_bipush (v := 32) hx hb dX9_second_1 (by decide) ?_
  refine lv_icmp_eq (tgt := 12) hx hb dX9_second_3 (by decide) (fun c_1 => ?_) (fun c_1 => ?_)
  · exact J12 sg s.heap _ ls hP hD hS (lv_sub hl [0, 1] rfl) ((show (fX9_second_12 x1 sg) = (fX9_second x1 sg) by unfold fX9_second; rw [if_pos c_1]).trans hv)
  · refine lv_iload_n hx hb dX9_second_6 rfl (lv_at hl 1 rfl) ?_
    refine lv_bipush (v := 33) hx hb dX9_second_7 (by decide) ?_
    refine lv_icmp_ne (tgt := 28) hx hb dX9_second_9 (by decide) (fun c_2 => ?_) (fun c_2 => ?_)
    · refine lv_iload_n hx hb dX9_second_28 rfl (lv_at hl 1 rfl) ?_
      refine lv_iconst (v := 2) hx hb dX9_second_29 (by decide) ?_
      refine lv_icmp_lt (tgt := 43) hx hb dX9_second_30 (by decide) (fun c_3 => ?_) (fun c_3 => ?_)
      · exact J43 sg s.heap _ ls hP hD hS (lv_sub hl [0, 1] rfl) ((show (fX9_second_43 x1 sg) = (fX9_second x1 sg) by unfold fX9_second; rw [if_neg c_1, if_neg c_2, if_pos c_3]).trans hv)
      · refine lv_iload_n hx hb dX9_second_33 rfl (lv_at hl 1 rfl) ?_
        refine lv_iconst (v := 4) hx hb dX9_second_34 (by decide) ?_
        refine lv_icmp_eq (tgt := 43) hx hb dX9_second_35 (by decide) (fun c_4 => ?_) (fun c_4 => ?_)
        · exact J43 sg s.heap _ ls hP hD hS (lv_sub hl [0, 1] rfl) ((show (fX9_second_43 x1 sg) = (fX9_second x1 sg) by unfold fX9_second; rw [if_neg c_1, if_neg c_2, if_neg c_3, if_pos c_4]).trans hv)
        · refine lv_iload_n hx hb dX9_second_38 rfl (lv_at hl 1 rfl) ?_
          refine lv_iconst (v := 5) hx hb dX9_second_39 (by decide) ?_
          refine lv_icmp_ne (tgt := 67) hx hb dX9_second_40 (by decide) (fun c_5 => ?_) (fun c_5 => ?_)
          · refine lv_iload_n hx hb dX9_second_67 rfl (lv_at hl 1 rfl) ?_
            refine lv_iconst (v := 2) hx hb dX9_second_68 (by decide) ?_
            refine lv_icmp_ne (tgt := 96) hx hb dX9_second_69 (by decide) (fun c_6 => ?_) (fun c_6 => ?_)
            · have e9 : sg = (fX9_second x1 sg) := ((show sg = (fX9_second x1 sg) by unfold fX9_second; rw [if_neg c_1, if_neg c_2, if_neg c_3, if_neg c_4, if_neg c_5, if_neg c_6]).trans hv)
              have hP : va_P (dC, dI) vwCl (wM1 m0 g (fX9_second x1 sg)) s.heap := by rw [← e9]; exact hP
              have hD : va_D A (wM1 m0 g (fX9_second x1 sg)) := by rw [← e9]; exact hD
              exact W.vret hx hb hr (fun t ht hW => ⟨⟨(), rfl, trivial, by rw [ht]; exact hP, hD⟩, hS.F ht⟩) hS.2.2 dX9_second_96
            · refine lv_aload_n hx hb dX9_second_72 rfl (lv_at hl 0 rfl) ?_
              refine lv_iconst (v := 3) hx hb dX9_second_73 (by decide) ?_
              refine lv_aload_n hx hb dX9_second_74 rfl (lv_at hl 0 rfl) ?_
              refine ro_calll (va_runV (As := []) (rest := [.int (3), .ref m0]) ⟨hx, hb, hml, hown, hts⟩ (kX9_s l dC dI m0 g s.heap.size  sg) (cwV 0 hts gX9_second_X9_s rfl rfl rfl (by decide +kernel) ⟨Nat.le_of_ble_eq_true rfl, Nat.le_of_ble_eq_true rfl⟩) (ro_preV 0 4 (q := (RX9, TX9, 26)) rfl rfl hP hK) rfl rfl hl.1 rfl (lv_room (Nat.le_of_ble_eq_true rfl)) dX9_second_75 ⟨Nat.zero_le _, Nat.zero_le _⟩) hS hA (fun H locs kP hS => ?_)
              have hP := kP _ _ _ hP
              refine lv_aload_n hx hb dX9_second_78 rfl (lv_at hl 0 rfl) ?_
              refine ro_calll (va_runV (As := []) (rest := [.long ((rgs sg.1 21)), .int (3), .ref m0]) ⟨hx, hb, hml, hown, hts⟩ (kX9_t l dC dI m0 g H.size  sg) (cwV 0 hts gX9_second_X9_t rfl rfl rfl (by decide +kernel) ⟨Nat.le_of_ble_eq_true rfl, Nat.le_of_ble_eq_true rfl⟩) (ro_preV 0 4 (q := (RX9, TX9, 26)) rfl rfl hP hK) rfl rfl hl.1 rfl (lv_room (Nat.le_of_ble_eq_true rfl)) dX9_second_79 ⟨Nat.zero_le _, Nat.zero_le _⟩) hS hA (fun H locs kP hS => ?_)
              have hP := kP _ _ _ hP
              refine lv_lor hx hb dX9_second_82 ?_
              refine lv_aload_n hx hb dX9_second_83 rfl (lv_at hl 0 rfl) ?_
              refine ro_calll (va_runV (As := []) (rest := [.long (((rgs sg.1 21) ||| (rgs sg.1 16))), .int (3), .ref m0]) ⟨hx, hb, hml, hown, hts⟩ (kX9_d l dC dI m0 g H.size  sg) (cwV 0 hts gX9_second_X9_d rfl rfl rfl (by decide +kernel) ⟨Nat.le_of_ble_eq_true rfl, Nat.le_of_ble_eq_true rfl⟩) (ro_preV 0 4 (q := (RX9, TX9, 26)) rfl rfl hP hK) rfl rfl hl.1 rfl (lv_room (Nat.le_of_ble_eq_true rfl)) dX9_second_84 ⟨Nat.zero_le _, Nat.zero_le _⟩) hS hA (fun H locs kP hS => ?_)
              have hP := kP _ _ _ hP
              refine md_callv (wr := []) (va_runV (As := [.int (3), .long (((rgs sg.1 21) ||| (rgs sg.1 16))), .long ((rgs sg.1 11))]) (rest := []) ⟨hx, hb, hml, hown, hts⟩ (kX9_is l dC dI m0 g H.size 3 ((rgs sg.1 21) ||| (rgs sg.1 16)) (rgs sg.1 11) sg) (cwV 3 hts gX9_second_X9_is rfl rfl rfl (by decide +kernel) ⟨Nat.le_of_ble_eq_true rfl, Nat.le_of_ble_eq_true rfl⟩) (md_preV 0 4 (q := (RX9, TX9, 26)) rfl rfl hP hK hD) rfl rfl hl.1 rfl (lv_room (Nat.le_of_ble_eq_true rfl)) dX9_second_87 ⟨Nat.zero_le _, Nat.zero_le _⟩) hS hA hP hD [0] [] rfl rfl (by decide) (by decide) (fun H locs hP hD hS => ?_)
              have hP : va_P (dC, dI) vwCl (wM1 m0 g (sg.1, 3, sg.2.2.1, sg.2.2.2.1, ((rgs sg.1 21) ||| (rgs sg.1 16)), (rgs sg.1 11), sg.2.2.2.2.2.2)) H := hP
              have hD : va_D A (wM1 m0 g (sg.1, 3, sg.2.2.1, sg.2.2.2.1, ((rgs sg.1 21) ||| (rgs sg.1 16)), (rgs sg.1 11), sg.2.2.2.2.2.2)) := hD
              refine lv_aload_n hx hb dX9_second_90 rfl (lv_at hl 0 rfl) ?_
              refine lv_iconst (v := 0) hx hb dX9_second_91 (by decide) ?_
              refine lv_iconst (v := 2) hx hb dX9_second_92 (by decide) ?_
              refine md_callv (wr := []) (va_runV (As := [.int (0), .int (2)]) (rest := []) ⟨hx, hb, hml, hown, hts⟩ (kX9_also l dC dI m0 g H.size 0 2 (sg.1, 3, sg.2.2.1, sg.2.2.2.1, ((rgs sg.1 21) ||| (rgs sg.1 16)), (rgs sg.1 11), sg.2.2.2.2.2.2)) (cwV 2 hts gX9_second_X9_also rfl rfl rfl (by decide +kernel) ⟨Nat.le_of_ble_eq_true rfl, Nat.le_of_ble_eq_true rfl⟩) (md_preV 0 4 (q := (RX9, TX9, 26)) rfl rfl hP hK hD) rfl rfl hl.1 rfl (lv_room (Nat.le_of_ble_eq_true rfl)) dX9_second_93 ⟨Nat.zero_le _, Nat.zero_le _⟩) hS hA hP hD [0] [] rfl rfl (by decide) (by decide) (fun H locs hP hD hS => ?_)
              have hP : va_P (dC, dI) vwCl (wM1 m0 g (sg.1, 3, 0, 2, ((rgs sg.1 21) ||| (rgs sg.1 16)), (rgs sg.1 11), sg.2.2.2.2.2.2)) H := hP
              have hD : va_D A (wM1 m0 g (sg.1, 3, 0, 2, ((rgs sg.1 21) ||| (rgs sg.1 16)), (rgs sg.1 11), sg.2.2.2.2.2.2)) := hD
              have e9 : (sg.1, 3, 0, 2, ((rgs sg.1 21) ||| (rgs sg.1 16)), (rgs sg.1 11), sg.2.2.2.2.2.2) = (fX9_second x1 sg) := ((show (sg.1, 3, 0, 2, ((rgs sg.1 21) ||| (rgs sg.1 16)), (rgs sg.1 11), sg.2.2.2.2.2.2) = (fX9_second x1 sg) by unfold fX9_second; rw [if_neg c_1, if_neg c_2, if_neg c_3, if_neg c_4, if_neg c_5, if_pos c_6]).trans hv)
              have hP : va_P (dC, dI) vwCl (wM1 m0 g (fX9_second x1 sg)) H := by rw [← e9]; exact hP
              have hD : va_D A (wM1 m0 g (fX9_second x1 sg)) := by rw [← e9]; exact hD
              exact W.vret hx hb hr (fun t ht hW => ⟨⟨(), rfl, trivial, by rw [ht]; exact hP, hD⟩, hS.F ht⟩) hS.2.2 dX9_second_96
          · exact J43 sg s.heap _ ls hP hD hS (lv_sub hl [0, 1] rfl) ((show (fX9_second_43 x1 sg) = (fX9_second x1 sg) by unfold fX9_second; rw [if_neg c_1, if_neg c_2, if_neg c_3, if_neg c_4, if_pos c_5]).trans hv)
    · exact J12 sg s.heap _ ls hP hD hS (lv_sub hl [0, 1] rfl) ((show (fX9_second_12 x1 sg) = (fX9_second x1 sg) by unfold fX9_second; rw [if_neg c_1, if_pos c_2]).trans hv)
def fX9_memory_225 (x1 : Int32) (v2 : Int32) (z0 : Int32) (z1 : Int32) (z3 : Int64) (tg : Sc) : Sc := (tg.1, (frS z1 z0 tg.2.1), tg.2.2.1, tg.2.2.2.1, (z3 ||| (frV z1 z0)), tg.2.2.2.2.2.1, tg.2.2.2.2.2.2)
def fX9_memory_197 (x1 : Int32) (v2 : Int32) (tg : Sc) : Sc := if x1 = 61 then (fX9_memory_225 x1 v2 1 v2 (rgs tg.1 21) (tg.1, 2, tg.2.2.1, tg.2.2.2.1, (rgs tg.1 21), 0, tg.2.2.2.2.2.2)) else (fX9_memory_225 x1 v2 0 v2 (rgs tg.1 21) (tg.1, 2, tg.2.2.1, tg.2.2.2.1, (rgs tg.1 21), 0, tg.2.2.2.2.2.2))
def fX9_memory_176 (x1 : Int32) (v2 : Int32) (z0 : Int32) (z1 : Int32) (tg : Sc) : Sc := (tg.1, (frS z1 z0 tg.2.1), tg.2.2.1, tg.2.2.2.1, tg.2.2.2.2.1, (frV z1 z0), tg.2.2.2.2.2.2)
def fX9_memory_152 (x1 : Int32) (v2 : Int32) (tg : Sc) : Sc := if x1 = 53 then (fX9_memory_176 x1 v2 1 v2 (tg.1, 1, tg.2.2.1, tg.2.2.2.1, (rgs tg.1 21), 0, tg.2.2.2.2.2.2)) else (fX9_memory_176 x1 v2 0 v2 (tg.1, 1, tg.2.2.1, tg.2.2.2.1, (rgs tg.1 21), 0, tg.2.2.2.2.2.2))
def fX9_memory_110 (x1 : Int32) (v2 : Int32) (tg : Sc) : Sc := (tg.1, 8, tg.2.2.1, tg.2.2.2.1, 0, 0, tg.2.2.2.2.2.2)
def fX9_memory_80 (x1 : Int32) (v2 : Int32) (tg : Sc) : Sc := (tg.1, 2, tg.2.2.1, tg.2.2.2.1, ((rgs tg.1 21) ||| (rgs tg.1 16)), 0, tg.2.2.2.2.2.2)
def fX9_memory_74 (x1 : Int32) (v2 : Int32) (tg : Sc) : Sc := if x1 = 46 then (fX9_memory_80 x1 v2 tg) else if x1 = 48 then (fX9_memory_110 x1 v2 tg) else if x1 = 56 then (fX9_memory_110 x1 v2 tg) else if x1 = 51 then (tg.1, 0, tg.2.2.1, tg.2.2.2.1, (rgs tg.1 21), 0, tg.2.2.2.2.2.2) else if x1 = 49 then (fX9_memory_152 x1 v2 tg) else if x1 = 53 then (fX9_memory_152 x1 v2 tg) else if x1 = 57 then (fX9_memory_197 x1 v2 tg) else if x1 = 61 then (fX9_memory_197 x1 v2 tg) else tg
def fX9_memory_19 (x1 : Int32) (v2 : Int32) (tg : Sc) : Sc := (tg.1, 1, tg.2.2.1, tg.2.2.2.1, ((rgs tg.1 21) ||| (rgs tg.1 16)), (rgs tg.1 16), tg.2.2.2.2.2.2)
def fX9_memory (x1 : Int32) (sg : Sc) : Sc := if x1 = 34 then (fX9_memory_19 x1 (fld sg.1 16) sg) else if x1 = 38 then (fX9_memory_19 x1 (fld sg.1 16) sg) else if 38 ≤ x1 then if 44 ≤ x1 then (fX9_memory_74 x1 (fld sg.1 16) sg) else if 39 < x1 then (fX9_memory_80 x1 (fld sg.1 16) sg) else (fX9_memory_74 x1 (fld sg.1 16) sg) else (sg.1, 1, sg.2.2.1, sg.2.2.2.1, (rgs sg.1 21), (rgs sg.1 16), sg.2.2.2.2.2.2)
set_option maxHeartbeats 4000000 in
set_option maxRecDepth 100000 in
theorem kX9_memory (l : Launch) (dC : Nat → ClassId) (dI : Nat → Nat → Nat) (m0 : Nat) (g : Nat → Value) (sz : Nat) (x1 : Int32) (sg : Sc) : Met l yX9_memory wsX9_memory ({ frames := 2, cells := 0, slots := 0, locals := 41 }) (md_Pc (dC, dI) (wM1 m0 g sg) [] [.ref m0, .int (x1)] sz) (md_Qv (dC, dI) (wM1 m0 g (fX9_memory x1 sg)) (va_A (wM1 m0 g sg) sz)) 0 0 (va_A (wM1 m0 g sg) sz) := by
  refine Met.ofW (cc := cX9_memory) (maxL := 3) (ret := none) (by decide) rfl ?_
  intro p e s m args below meth c s₁ B0 hml hv
  obtain ⟨rfl, hsz, hP, hK, hD0⟩ := hv
  have hx := B0.exec
  have hb := B0.bytes
  have hr := B0.returns
  have hts := atoms_spec (ws := wsX9_memory) B0.pre
  have hown : s.vm.findClass RX9 = some m.cls := findClass_of_methodNamed B0.named
  have hlocks := B0.notSynchronized
  have hinX9 : ∀ w ∈ wsX90, w ∈ wsX9_memory := fun w h => List.mem_cons_of_mem _ (List.mem_append_right _ (h))
  subst hsz
  have hD := hD0.self (sz := s.heap.size)
  generalize hAe : va_A (wM1 m0 g sg) s.heap.size = A at hD ⊢
  have hA : ∀ q : Nat, s.heap.size ≤ q → A q := fun q h => by rw [← hAe]; exact Or.inr h
  have hS : va_S A s.heap s.heap [] := va_S.rf
  have hl := lv_entry ([.ref m0, .int (x1)]) (n := 3) (Nat.le_of_ble_eq_true rfl)
  rw [lg_entry_eq]
  generalize (lg_sl ([.ref m0, .int (x1)]) ++ List.replicate (3 - (lg_sl ([.ref m0, .int (x1)])).length) Slot.unset).toArray = ls at hl ⊢
  have hl : lv_has ls 3 [(0, .ref m0), (1, .int (x1))] := hl
  have hv : (fX9_memory x1 sg) = (fX9_memory x1 sg) := rfl
  have J225 : ∀ (v2 : Int32) (z0 : Int32) (z1 : Int32) (z3 : Int64) (tg : Sc) (H : Heap) (locs : List Loc) (ls : Array Slot), va_P (dC, dI) vwCl (wM1 m0 g tg) H → va_D A (wM1 m0 g tg) → va_S A s.heap H locs → lv_has ls 3 [(2, .int (v2)), (0, .ref m0), (1, .int (x1))] → (fX9_memory_225 x1 v2 z0 z1 z3 tg) = (fX9_memory x1 sg) → W p l e (headSpec wsX9_memory ({ frames := 2, cells := 0, slots := 0, locals := 41 })).room s m ([.ref m0, .int (x1)] : List Value).toArray below meth c H locs 0 0 (MQ below (md_Qv (dC, dI) (wM1 m0 g (fX9_memory x1 sg)) (A)) ([.ref m0, .int (x1)] : List Value).toArray s 0 0 (A)) (F0 m 225 ls [.int (z0), .int (z1), .ref m0, .long (z3), .ref m0]) := by
    intro v2 z0 z1 z3 tg H locs ls hP hD hS hl hv
    refine md_calll (wr := []) (va_runV (As := [.int (z1), .int (z0)]) (rest := [.long (z3), .ref m0]) ⟨hx, hb, hml, hown, hts⟩ (kX9_fractionE l dC dI m0 g H.size z1 z0 tg) (cwV 2 hts gX9_memory_X9_fraction rfl rfl rfl (by decide +kernel) ⟨Nat.le_of_ble_eq_true rfl, Nat.le_of_ble_eq_true rfl⟩) (md_preV 0 4 (q := (RX9, TX9, 26)) rfl rfl hP hK hD) rfl rfl hl.1 rfl (lv_room (Nat.le_of_ble_eq_true rfl)) dX9_memory_225 ⟨Nat.zero_le _, Nat.zero_le _⟩) hS hA hP hD [0] [] rfl rfl (by decide) (by decide) (fun H locs hP hD hS => ?_)
    have hP : va_P (dC, dI) vwCl (wM1 m0 g (tg.1, (frS z1 z0 tg.2.1), tg.2.2.1, tg.2.2.2.1, tg.2.2.2.2.1, tg.2.2.2.2.2.1, tg.2.2.2.2.2.2)) H := hP
    have hD : va_D A (wM1 m0 g (tg.1, (frS z1 z0 tg.2.1), tg.2.2.1, tg.2.2.2.1, tg.2.2.2.2.1, tg.2.2.2.2.2.1, tg.2.2.2.2.2.2)) := hD
    refine lv_lor hx hb dX9_memory_228 ?_
    refine va_put (D := (dC, dI)) (ci := 4) (v := .long ((z3 ||| (frV z1 z0)))) (ty := .long) (C := RX9) (T := TX9) (N := 26) hx hb hts hinX9 tyX9 tyX9_ok nmX9 hown hK hP hD hS 0 rfl rfl 19 (by decide) (hts (.fieldLink RX9 72 "SlotFillerModel" "reads" "J") (by decide +kernel)) (fun _ h9 => h9) rfl (by decide +kernel) rfl rfl (Nat.le_of_ble_eq_true rfl) dX9_memory_229 (fun H locs hP hD hS => ?_)
    have hP : va_P (dC, dI) vwCl [(m0, .inr (4, [(g 0), (g 1), (g 2), (g 3), (g 4), (g 5), (g 6), (g 7), (g 8), (g 9), (g 10), (g 11), (g 12), (g 13), (g 14), .int (tg.1), .int ((frS z1 z0 tg.2.1)), .int (tg.2.2.1), .int (tg.2.2.2.1), .long ((z3 ||| (frV z1 z0))), .long (tg.2.2.2.2.2.1), .int (tg.2.2.2.2.2.2), (g 22), (g 23), (g 24), (g 25)]))] H := hP
    have hD : va_D A [(m0, .inr (4, [(g 0), (g 1), (g 2), (g 3), (g 4), (g 5), (g 6), (g 7), (g 8), (g 9), (g 10), (g 11), (g 12), (g 13), (g 14), .int (tg.1), .int ((frS z1 z0 tg.2.1)), .int (tg.2.2.1), .int (tg.2.2.2.1), .long ((z3 ||| (frV z1 z0))), .long (tg.2.2.2.2.2.1), .int (tg.2.2.2.2.2.2), (g 22), (g 23), (g 24), (g 25)]))] := hD
    have e9 : (tg.1, (frS z1 z0 tg.2.1), tg.2.2.1, tg.2.2.2.1, (z3 ||| (frV z1 z0)), tg.2.2.2.2.2.1, tg.2.2.2.2.2.2) = (fX9_memory x1 sg) := ((show (tg.1, (frS z1 z0 tg.2.1), tg.2.2.1, tg.2.2.2.1, (z3 ||| (frV z1 z0)), tg.2.2.2.2.2.1, tg.2.2.2.2.2.2) = (fX9_memory_225 x1 v2 z0 z1 z3 tg) by unfold fX9_memory_225; rfl).trans hv)
    have hP : va_P (dC, dI) vwCl (wM1 m0 g (fX9_memory x1 sg)) H := by rw [← e9]; exact hP
    have hD : va_D A (wM1 m0 g (fX9_memory x1 sg)) := by rw [← e9]; exact hD
    exact W.vret hx hb hr (fun t ht hW => ⟨⟨(), rfl, trivial, by rw [ht]; exact hP, hD⟩, hS.F ht⟩) hS.2.2 dX9_memory_232
  have J197 : ∀ (v2 : Int32) (tg : Sc) (H : Heap) (locs : List Loc) (ls : Array Slot), va_P (dC, dI) vwCl (wM1 m0 g tg) H → va_D A (wM1 m0 g tg) → va_S A s.heap H locs → lv_has ls 3 [(2, .int (v2)), (0, .ref m0), (1, .int (x1))] → (fX9_memory_197 x1 v2 tg) = (fX9_memory x1 sg) → W p l e (headSpec wsX9_memory ({ frames := 2, cells := 0, slots := 0, locals := 41 })).room s m ([.ref m0, .int (x1)] : List Value).toArray below meth c H locs 0 0 (MQ below (md_Qv (dC, dI) (wM1 m0 g (fX9_memory x1 sg)) (A)) ([.ref m0, .int (x1)] : List Value).toArray s 0 0 (A)) (F0 m 197 ls []) := by
    intro v2 tg H locs ls hP hD hS hl hv
    refine lv_aload_n hx hb dX9_memory_197 rfl (lv_at hl 1 rfl) ?_
    refine lv_iconst (v := 2) hx hb dX9_memory_198 (by decide) ?_
    refine lv_aload_n hx hb dX9_memory_199 rfl (lv_at hl 1 rfl) ?_
    refine ro_calll (va_runV (As := []) (rest := [.int (2), .ref m0]) ⟨hx, hb, hml, hown, hts⟩ (kX9_s l dC dI m0 g H.size  tg) (cwV 0 hts gX9_memory_X9_s rfl rfl rfl (by decide +kernel) ⟨Nat.le_of_ble_eq_true rfl, Nat.le_of_ble_eq_true rfl⟩) (ro_preV 0 4 (q := (RX9, TX9, 26)) rfl rfl hP hK) rfl rfl hl.1 rfl (lv_room (Nat.le_of_ble_eq_true rfl)) dX9_memory_200 ⟨Nat.zero_le _, Nat.zero_le _⟩) hS hA (fun H locs kP hS => ?_)
    have hP := kP _ _ _ hP
    refine lv_lconst (v := 0) hx hb dX9_memory_203 (by decide) ?_
    refine md_callv (wr := []) (va_runV (As := [.int (2), .long ((rgs tg.1 21)), .long (0)]) (rest := []) ⟨hx, hb, hml, hown, hts⟩ (kX9_is l dC dI m0 g H.size 2 (rgs tg.1 21) 0 tg) (cwV 3 hts gX9_memory_X9_is rfl rfl rfl (by decide +kernel) ⟨Nat.le_of_ble_eq_true rfl, Nat.le_of_ble_eq_true rfl⟩) (md_preV 0 4 (q := (RX9, TX9, 26)) rfl rfl hP hK hD) rfl rfl hl.1 rfl (lv_room (Nat.le_of_ble_eq_true rfl)) dX9_memory_204 ⟨Nat.zero_le _, Nat.zero_le _⟩) hS hA hP hD [0] [] rfl rfl (by decide) (by decide) (fun H locs hP hD hS => ?_)
    have hP : va_P (dC, dI) vwCl (wM1 m0 g (tg.1, 2, tg.2.2.1, tg.2.2.2.1, (rgs tg.1 21), 0, tg.2.2.2.2.2.2)) H := hP
    have hD : va_D A (wM1 m0 g (tg.1, 2, tg.2.2.1, tg.2.2.2.1, (rgs tg.1 21), 0, tg.2.2.2.2.2.2)) := hD
    refine lv_aload_n hx hb dX9_memory_207 rfl (lv_at hl 1 rfl) ?_
    refine lv_dup hx hb dX9_memory_208 rfl ?_
    refine va_get (D := (dC, dI)) (ci := 4) (v := .long ((rgs tg.1 21))) (C := RX9) (T := TX9) (N := 26) hx hb hts hinX9 hown hK hP 0 rfl rfl 19 (by decide) (hts (.fieldLink RX9 72 "SlotFillerModel" "reads" "J") (by decide +kernel)) (fun _ h9 => h9) rfl dX9_memory_209 ?_
    refine lv_aload_n hx hb dX9_memory_212 rfl (lv_at hl 1 rfl) ?_
    refine lv_iload_n hx hb dX9_memory_213 rfl (lv_at hl 0 rfl) ?_
    refine lv_iload_n hx hb dX9_memory_214 rfl (lv_at hl 2 rfl) ?_
    refine lv_bipush (v := 61) hx hb dX9_memory_215 (by decide) ?_
    refine lv_icmp_ne (tgt := 224) hx hb dX9_memory_217 (by decide) (fun c_1 => ?_) (fun c_1 => ?_)
    · refine lv_iconst (v := 0) hx hb dX9_memory_224 (by decide) ?_
      exact J225 v2 0 v2 (rgs tg.1 21) (tg.1, 2, tg.2.2.1, tg.2.2.2.1, (rgs tg.1 21), 0, tg.2.2.2.2.2.2) H _ ls hP hD hS (lv_sub hl [0, 1, 2] rfl) ((show (fX9_memory_225 x1 v2 0 v2 (rgs tg.1 21) (tg.1, 2, tg.2.2.1, tg.2.2.2.1, (rgs tg.1 21), 0, tg.2.2.2.2.2.2)) = (fX9_memory_197 x1 v2 tg) by unfold fX9_memory_197; rw [if_neg c_1]).trans hv)
    · refine lv_iconst (v := 1) hx hb dX9_memory_220 (by decide) ?_
      refine lv_goto (tgt := 225) hx hb dX9_memory_221 (by decide) ?_
      exact J225 v2 1 v2 (rgs tg.1 21) (tg.1, 2, tg.2.2.1, tg.2.2.2.1, (rgs tg.1 21), 0, tg.2.2.2.2.2.2) H _ ls hP hD hS (lv_sub hl [0, 1, 2] rfl) ((show (fX9_memory_225 x1 v2 1 v2 (rgs tg.1 21) (tg.1, 2, tg.2.2.1, tg.2.2.2.1, (rgs tg.1 21), 0, tg.2.2.2.2.2.2)) = (fX9_memory_197 x1 v2 tg) by unfold fX9_memory_197; rw [if_pos c_1]).trans hv)
  have J176 : ∀ (v2 : Int32) (z0 : Int32) (z1 : Int32) (tg : Sc) (H : Heap) (locs : List Loc) (ls : Array Slot), va_P (dC, dI) vwCl (wM1 m0 g tg) H → va_D A (wM1 m0 g tg) → va_S A s.heap H locs → lv_has ls 3 [(2, .int (v2)), (0, .ref m0), (1, .int (x1))] → (fX9_memory_176 x1 v2 z0 z1 tg) = (fX9_memory x1 sg) → W p l e (headSpec wsX9_memory ({ frames := 2, cells := 0, slots := 0, locals := 41 })).room s m ([.ref m0, .int (x1)] : List Value).toArray below meth c H locs 0 0 (MQ below (md_Qv (dC, dI) (wM1 m0 g (fX9_memory x1 sg)) (A)) ([.ref m0, .int (x1)] : List Value).toArray s 0 0 (A)) (F0 m 176 ls [.int (z0), .int (z1), .ref m0, .ref m0]) := by
    intro v2 z0 z1 tg H locs ls hP hD hS hl hv
    refine md_calll (wr := []) (va_runV (As := [.int (z1), .int (z0)]) (rest := [.ref m0]) ⟨hx, hb, hml, hown, hts⟩ (kX9_fractionE l dC dI m0 g H.size z1 z0 tg) (cwV 2 hts gX9_memory_X9_fraction rfl rfl rfl (by decide +kernel) ⟨Nat.le_of_ble_eq_true rfl, Nat.le_of_ble_eq_true rfl⟩) (md_preV 0 4 (q := (RX9, TX9, 26)) rfl rfl hP hK hD) rfl rfl hl.1 rfl (lv_room (Nat.le_of_ble_eq_true rfl)) dX9_memory_176 ⟨Nat.zero_le _, Nat.zero_le _⟩) hS hA hP hD [0] [] rfl rfl (by decide) (by decide) (fun H locs hP hD hS => ?_)
    have hP : va_P (dC, dI) vwCl (wM1 m0 g (tg.1, (frS z1 z0 tg.2.1), tg.2.2.1, tg.2.2.2.1, tg.2.2.2.2.1, tg.2.2.2.2.2.1, tg.2.2.2.2.2.2)) H := hP
    have hD : va_D A (wM1 m0 g (tg.1, (frS z1 z0 tg.2.1), tg.2.2.1, tg.2.2.2.1, tg.2.2.2.2.1, tg.2.2.2.2.2.1, tg.2.2.2.2.2.2)) := hD
    refine va_put (D := (dC, dI)) (ci := 4) (v := .long ((frV z1 z0))) (ty := .long) (C := RX9) (T := TX9) (N := 26) hx hb hts hinX9 tyX9 tyX9_ok nmX9 hown hK hP hD hS 0 rfl rfl 20 (by decide) (hts (.fieldLink RX9 76 "SlotFillerModel" "writes" "J") (by decide +kernel)) (fun _ h9 => h9) rfl (by decide +kernel) rfl rfl (Nat.le_of_ble_eq_true rfl) dX9_memory_179 (fun H locs hP hD hS => ?_)
    have hP : va_P (dC, dI) vwCl [(m0, .inr (4, [(g 0), (g 1), (g 2), (g 3), (g 4), (g 5), (g 6), (g 7), (g 8), (g 9), (g 10), (g 11), (g 12), (g 13), (g 14), .int (tg.1), .int ((frS z1 z0 tg.2.1)), .int (tg.2.2.1), .int (tg.2.2.2.1), .long (tg.2.2.2.2.1), .long ((frV z1 z0)), .int (tg.2.2.2.2.2.2), (g 22), (g 23), (g 24), (g 25)]))] H := hP
    have hD : va_D A [(m0, .inr (4, [(g 0), (g 1), (g 2), (g 3), (g 4), (g 5), (g 6), (g 7), (g 8), (g 9), (g 10), (g 11), (g 12), (g 13), (g 14), .int (tg.1), .int ((frS z1 z0 tg.2.1)), .int (tg.2.2.1), .int (tg.2.2.2.1), .long (tg.2.2.2.2.1), .long ((frV z1 z0)), .int (tg.2.2.2.2.2.2), (g 22), (g 23), (g 24), (g 25)]))] := hD
    refine lv_goto (tgt := 232) hx hb dX9_memory_182 (by decide) ?_
    have e9 : (tg.1, (frS z1 z0 tg.2.1), tg.2.2.1, tg.2.2.2.1, tg.2.2.2.2.1, (frV z1 z0), tg.2.2.2.2.2.2) = (fX9_memory x1 sg) := ((show (tg.1, (frS z1 z0 tg.2.1), tg.2.2.1, tg.2.2.2.1, tg.2.2.2.2.1, (frV z1 z0), tg.2.2.2.2.2.2) = (fX9_memory_176 x1 v2 z0 z1 tg) by unfold fX9_memory_176; rfl).trans hv)
    have hP : va_P (dC, dI) vwCl (wM1 m0 g (fX9_memory x1 sg)) H := by rw [← e9]; exact hP
    have hD : va_D A (wM1 m0 g (fX9_memory x1 sg)) := by rw [← e9]; exact hD
    exact W.vret hx hb hr (fun t ht hW => ⟨⟨(), rfl, trivial, by rw [ht]; exact hP, hD⟩, hS.F ht⟩) hS.2.2 dX9_memory_232
  have J152 : ∀ (v2 : Int32) (tg : Sc) (H : Heap) (locs : List Loc) (ls : Array Slot), va_P (dC, dI) vwCl (wM1 m0 g tg) H → va_D A (wM1 m0 g tg) → va_S A s.heap H locs → lv_has ls 3 [(2, .int (v2)), (0, .ref m0), (1, .int (x1))] → (fX9_memory_152 x1 v2 tg) = (fX9_memory x1 sg) → W p l e (headSpec wsX9_memory ({ frames := 2, cells := 0, slots := 0, locals := 41 })).room s m ([.ref m0, .int (x1)] : List Value).toArray below meth c H locs 0 0 (MQ below (md_Qv (dC, dI) (wM1 m0 g (fX9_memory x1 sg)) (A)) ([.ref m0, .int (x1)] : List Value).toArray s 0 0 (A)) (F0 m 152 ls []) := by
    intro v2 tg H locs ls hP hD hS hl hv
    refine lv_aload_n hx hb dX9_memory_152 rfl (lv_at hl 1 rfl) ?_
    refine lv_iconst (v := 1) hx hb dX9_memory_153 (by decide) ?_
    refine lv_aload_n hx hb dX9_memory_154 rfl (lv_at hl 1 rfl) ?_
    refine ro_calll (va_runV (As := []) (rest := [.int (1), .ref m0]) ⟨hx, hb, hml, hown, hts⟩ (kX9_s l dC dI m0 g H.size  tg) (cwV 0 hts gX9_memory_X9_s rfl rfl rfl (by decide +kernel) ⟨Nat.le_of_ble_eq_true rfl, Nat.le_of_ble_eq_true rfl⟩) (ro_preV 0 4 (q := (RX9, TX9, 26)) rfl rfl hP hK) rfl rfl hl.1 rfl (lv_room (Nat.le_of_ble_eq_true rfl)) dX9_memory_155 ⟨Nat.zero_le _, Nat.zero_le _⟩) hS hA (fun H locs kP hS => ?_)
    have hP := kP _ _ _ hP
    refine lv_lconst (v := 0) hx hb dX9_memory_158 (by decide) ?_
    refine md_callv (wr := []) (va_runV (As := [.int (1), .long ((rgs tg.1 21)), .long (0)]) (rest := []) ⟨hx, hb, hml, hown, hts⟩ (kX9_is l dC dI m0 g H.size 1 (rgs tg.1 21) 0 tg) (cwV 3 hts gX9_memory_X9_is rfl rfl rfl (by decide +kernel) ⟨Nat.le_of_ble_eq_true rfl, Nat.le_of_ble_eq_true rfl⟩) (md_preV 0 4 (q := (RX9, TX9, 26)) rfl rfl hP hK hD) rfl rfl hl.1 rfl (lv_room (Nat.le_of_ble_eq_true rfl)) dX9_memory_159 ⟨Nat.zero_le _, Nat.zero_le _⟩) hS hA hP hD [0] [] rfl rfl (by decide) (by decide) (fun H locs hP hD hS => ?_)
    have hP : va_P (dC, dI) vwCl (wM1 m0 g (tg.1, 1, tg.2.2.1, tg.2.2.2.1, (rgs tg.1 21), 0, tg.2.2.2.2.2.2)) H := hP
    have hD : va_D A (wM1 m0 g (tg.1, 1, tg.2.2.1, tg.2.2.2.1, (rgs tg.1 21), 0, tg.2.2.2.2.2.2)) := hD
    refine lv_aload_n hx hb dX9_memory_162 rfl (lv_at hl 1 rfl) ?_
    refine lv_aload_n hx hb dX9_memory_163 rfl (lv_at hl 1 rfl) ?_
    refine lv_iload_n hx hb dX9_memory_164 rfl (lv_at hl 0 rfl) ?_
    refine lv_iload_n hx hb dX9_memory_165 rfl (lv_at hl 2 rfl) ?_
    refine lv_bipush (v := 53) hx hb dX9_memory_166 (by decide) ?_
    refine lv_icmp_ne (tgt := 175) hx hb dX9_memory_168 (by decide) (fun c_2 => ?_) (fun c_2 => ?_)
    · refine lv_iconst (v := 0) hx hb dX9_memory_175 (by decide) ?_
      exact J176 v2 0 v2 (tg.1, 1, tg.2.2.1, tg.2.2.2.1, (rgs tg.1 21), 0, tg.2.2.2.2.2.2) H _ ls hP hD hS (lv_sub hl [0, 1, 2] rfl) ((show (fX9_memory_176 x1 v2 0 v2 (tg.1, 1, tg.2.2.1, tg.2.2.2.1, (rgs tg.1 21), 0, tg.2.2.2.2.2.2)) = (fX9_memory_152 x1 v2 tg) by unfold fX9_memory_152; rw [if_neg c_2]).trans hv)
    · refine lv_iconst (v := 1) hx hb dX9_memory_171 (by decide) ?_
      refine lv_goto (tgt := 176) hx hb dX9_memory_172 (by decide) ?_
      exact J176 v2 1 v2 (tg.1, 1, tg.2.2.1, tg.2.2.2.1, (rgs tg.1 21), 0, tg.2.2.2.2.2.2) H _ ls hP hD hS (lv_sub hl [0, 1, 2] rfl) ((show (fX9_memory_176 x1 v2 1 v2 (tg.1, 1, tg.2.2.1, tg.2.2.2.1, (rgs tg.1 21), 0, tg.2.2.2.2.2.2)) = (fX9_memory_152 x1 v2 tg) by unfold fX9_memory_152; rw [if_pos c_2]).trans hv)
  have J110 : ∀ (v2 : Int32) (tg : Sc) (H : Heap) (locs : List Loc) (ls : Array Slot), va_P (dC, dI) vwCl (wM1 m0 g tg) H → va_D A (wM1 m0 g tg) → va_S A s.heap H locs → lv_has ls 3 [(2, .int (v2)), (0, .ref m0), (1, .int (x1))] → (fX9_memory_110 x1 v2 tg) = (fX9_memory x1 sg) → W p l e (headSpec wsX9_memory ({ frames := 2, cells := 0, slots := 0, locals := 41 })).room s m ([.ref m0, .int (x1)] : List Value).toArray below meth c H locs 0 0 (MQ below (md_Qv (dC, dI) (wM1 m0 g (fX9_memory x1 sg)) (A)) ([.ref m0, .int (x1)] : List Value).toArray s 0 0 (A)) (F0 m 110 ls []) := by
    intro v2 tg H locs ls hP hD hS hl hv
    refine lv_aload_n hx hb dX9_memory_110 rfl (lv_at hl 1 rfl) ?_
    refine lv_bipush (v := 8) hx hb dX9_memory_111 (by decide) ?_
    refine lv_lconst (v := 0) hx hb dX9_memory_113 (by decide) ?_
    refine lv_lconst (v := 0) hx hb dX9_memory_114 (by decide) ?_
    refine md_callv (wr := []) (va_runV (As := [.int (8), .long (0), .long (0)]) (rest := []) ⟨hx, hb, hml, hown, hts⟩ (kX9_is l dC dI m0 g H.size 8 0 0 tg) (cwV 3 hts gX9_memory_X9_is rfl rfl rfl (by decide +kernel) ⟨Nat.le_of_ble_eq_true rfl, Nat.le_of_ble_eq_true rfl⟩) (md_preV 0 4 (q := (RX9, TX9, 26)) rfl rfl hP hK hD) rfl rfl hl.1 rfl (lv_room (Nat.le_of_ble_eq_true rfl)) dX9_memory_115 ⟨Nat.zero_le _, Nat.zero_le _⟩) hS hA hP hD [0] [] rfl rfl (by decide) (by decide) (fun H locs hP hD hS => ?_)
    have hP : va_P (dC, dI) vwCl (wM1 m0 g (tg.1, 8, tg.2.2.1, tg.2.2.2.1, 0, 0, tg.2.2.2.2.2.2)) H := hP
    have hD : va_D A (wM1 m0 g (tg.1, 8, tg.2.2.1, tg.2.2.2.1, 0, 0, tg.2.2.2.2.2.2)) := hD
    refine lv_goto (tgt := 232) hx hb dX9_memory_118 (by decide) ?_
    have e9 : (tg.1, 8, tg.2.2.1, tg.2.2.2.1, 0, 0, tg.2.2.2.2.2.2) = (fX9_memory x1 sg) := ((show (tg.1, 8, tg.2.2.1, tg.2.2.2.1, 0, 0, tg.2.2.2.2.2.2) = (fX9_memory_110 x1 v2 tg) by unfold fX9_memory_110; rfl).trans hv)
    have hP : va_P (dC, dI) vwCl (wM1 m0 g (fX9_memory x1 sg)) H := by rw [← e9]; exact hP
    have hD : va_D A (wM1 m0 g (fX9_memory x1 sg)) := by rw [← e9]; exact hD
    exact W.vret hx hb hr (fun t ht hW => ⟨⟨(), rfl, trivial, by rw [ht]; exact hP, hD⟩, hS.F ht⟩) hS.2.2 dX9_memory_232
  have J80 : ∀ (v2 : Int32) (tg : Sc) (H : Heap) (locs : List Loc) (ls : Array Slot), va_P (dC, dI) vwCl (wM1 m0 g tg) H → va_D A (wM1 m0 g tg) → va_S A s.heap H locs → lv_has ls 3 [(2, .int (v2)), (0, .ref m0), (1, .int (x1))] → (fX9_memory_80 x1 v2 tg) = (fX9_memory x1 sg) → W p l e (headSpec wsX9_memory ({ frames := 2, cells := 0, slots := 0, locals := 41 })).room s m ([.ref m0, .int (x1)] : List Value).toArray below meth c H locs 0 0 (MQ below (md_Qv (dC, dI) (wM1 m0 g (fX9_memory x1 sg)) (A)) ([.ref m0, .int (x1)] : List Value).toArray s 0 0 (A)) (F0 m 80 ls []) := by
    intro v2 tg H locs ls hP hD hS hl hv
    refine lv_aload_n hx hb dX9_memory_80 rfl (lv_at hl 1 rfl) ?_
    refine lv_iconst (v := 2) hx hb dX9_memory_81 (by decide) ?_
    refine lv_aload_n hx hb dX9_memory_82 rfl (lv_at hl 1 rfl) ?_
    refine ro_calll (va_runV (As := []) (rest := [.int (2), .ref m0]) ⟨hx, hb, hml, hown, hts⟩ (kX9_s l dC dI m0 g H.size  tg) (cwV 0 hts gX9_memory_X9_s rfl rfl rfl (by decide +kernel) ⟨Nat.le_of_ble_eq_true rfl, Nat.le_of_ble_eq_true rfl⟩) (ro_preV 0 4 (q := (RX9, TX9, 26)) rfl rfl hP hK) rfl rfl hl.1 rfl (lv_room (Nat.le_of_ble_eq_true rfl)) dX9_memory_83 ⟨Nat.zero_le _, Nat.zero_le _⟩) hS hA (fun H locs kP hS => ?_)
    have hP := kP _ _ _ hP
    refine lv_aload_n hx hb dX9_memory_86 rfl (lv_at hl 1 rfl) ?_
    refine ro_calll (va_runV (As := []) (rest := [.long ((rgs tg.1 21)), .int (2), .ref m0]) ⟨hx, hb, hml, hown, hts⟩ (kX9_t l dC dI m0 g H.size  tg) (cwV 0 hts gX9_memory_X9_t rfl rfl rfl (by decide +kernel) ⟨Nat.le_of_ble_eq_true rfl, Nat.le_of_ble_eq_true rfl⟩) (ro_preV 0 4 (q := (RX9, TX9, 26)) rfl rfl hP hK) rfl rfl hl.1 rfl (lv_room (Nat.le_of_ble_eq_true rfl)) dX9_memory_87 ⟨Nat.zero_le _, Nat.zero_le _⟩) hS hA (fun H locs kP hS => ?_)
    have hP := kP _ _ _ hP
    refine lv_lor hx hb dX9_memory_90 ?_
    refine lv_lconst (v := 0) hx hb dX9_memory_91 (by decide) ?_
    refine md_callv (wr := []) (va_runV (As := [.int (2), .long (((rgs tg.1 21) ||| (rgs tg.1 16))), .long (0)]) (rest := []) ⟨hx, hb, hml, hown, hts⟩ (kX9_is l dC dI m0 g H.size 2 ((rgs tg.1 21) ||| (rgs tg.1 16)) 0 tg) (cwV 3 hts gX9_memory_X9_is rfl rfl rfl (by decide +kernel) ⟨Nat.le_of_ble_eq_true rfl, Nat.le_of_ble_eq_true rfl⟩) (md_preV 0 4 (q := (RX9, TX9, 26)) rfl rfl hP hK hD) rfl rfl hl.1 rfl (lv_room (Nat.le_of_ble_eq_true rfl)) dX9_memory_92 ⟨Nat.zero_le _, Nat.zero_le _⟩) hS hA hP hD [0] [] rfl rfl (by decide) (by decide) (fun H locs hP hD hS => ?_)
    have hP : va_P (dC, dI) vwCl (wM1 m0 g (tg.1, 2, tg.2.2.1, tg.2.2.2.1, ((rgs tg.1 21) ||| (rgs tg.1 16)), 0, tg.2.2.2.2.2.2)) H := hP
    have hD : va_D A (wM1 m0 g (tg.1, 2, tg.2.2.1, tg.2.2.2.1, ((rgs tg.1 21) ||| (rgs tg.1 16)), 0, tg.2.2.2.2.2.2)) := hD
    refine lv_goto (tgt := 232) hx hb dX9_memory_95 (by decide) ?_
    have e9 : (tg.1, 2, tg.2.2.1, tg.2.2.2.1, ((rgs tg.1 21) ||| (rgs tg.1 16)), 0, tg.2.2.2.2.2.2) = (fX9_memory x1 sg) := ((show (tg.1, 2, tg.2.2.1, tg.2.2.2.1, ((rgs tg.1 21) ||| (rgs tg.1 16)), 0, tg.2.2.2.2.2.2) = (fX9_memory_80 x1 v2 tg) by unfold fX9_memory_80; rfl).trans hv)
    have hP : va_P (dC, dI) vwCl (wM1 m0 g (fX9_memory x1 sg)) H := by rw [← e9]; exact hP
    have hD : va_D A (wM1 m0 g (fX9_memory x1 sg)) := by rw [← e9]; exact hD
    exact W.vret hx hb hr (fun t ht hW => ⟨⟨(), rfl, trivial, by rw [ht]; exact hP, hD⟩, hS.F ht⟩) hS.2.2 dX9_memory_232
  have J74 : ∀ (v2 : Int32) (tg : Sc) (H : Heap) (locs : List Loc) (ls : Array Slot), va_P (dC, dI) vwCl (wM1 m0 g tg) H → va_D A (wM1 m0 g tg) → va_S A s.heap H locs → lv_has ls 3 [(2, .int (v2)), (0, .ref m0), (1, .int (x1))] → (fX9_memory_74 x1 v2 tg) = (fX9_memory x1 sg) → W p l e (headSpec wsX9_memory ({ frames := 2, cells := 0, slots := 0, locals := 41 })).room s m ([.ref m0, .int (x1)] : List Value).toArray below meth c H locs 0 0 (MQ below (md_Qv (dC, dI) (wM1 m0 g (fX9_memory x1 sg)) (A)) ([.ref m0, .int (x1)] : List Value).toArray s 0 0 (A)) (F0 m 74 ls []) := by
    intro v2 tg H locs ls hP hD hS hl hv
    refine lv_iload_n hx hb dX9_memory_74 rfl (lv_at hl 2 rfl) ?_
    refine lv_bipush (v := 46) hx hb dX9_memory_75 (by decide) ?_
    refine lv_icmp_ne (tgt := 98) hx hb dX9_memory_77 (by decide) (fun c_3 => ?_) (fun c_3 => ?_)
    · refine lv_iload_n hx hb dX9_memory_98 rfl (lv_at hl 2 rfl) ?_
      refine lv_bipush (v := 48) hx hb dX9_memory_99 (by decide) ?_
      refine lv_icmp_eq (tgt := 110) hx hb dX9_memory_101 (by decide) (fun c_4 => ?_) (fun c_4 => ?_)
      · exact J110 v2 tg H _ ls hP hD hS (lv_sub hl [0, 1, 2] rfl) ((show (fX9_memory_110 x1 v2 tg) = (fX9_memory_74 x1 v2 tg) by unfold fX9_memory_74; rw [if_neg c_3, if_pos c_4]).trans hv)
      · refine lv_iload_n hx hb dX9_memory_104 rfl (lv_at hl 2 rfl) ?_
        refine lv_bipush (v := 56) hx hb dX9_memory_105 (by decide) ?_
        refine lv_icmp_ne (tgt := 121) hx hb dX9_memory_107 (by decide) (fun c_5 => ?_) (fun c_5 => ?_)
        · refine lv_iload_n hx hb dX9_memory_121 rfl (lv_at hl 2 rfl) ?_
          refine lv_bipush (v := 51) hx hb dX9_memory_122 (by decide) ?_
          refine lv_icmp_ne (tgt := 140) hx hb dX9_memory_124 (by decide) (fun c_6 => ?_) (fun c_6 => ?_)
          · refine lv_iload_n hx hb dX9_memory_140 rfl (lv_at hl 2 rfl) ?_
            refine lv_bipush (v := 49) hx hb dX9_memory_141 (by decide) ?_
            refine lv_icmp_eq (tgt := 152) hx hb dX9_memory_143 (by decide) (fun c_7 => ?_) (fun c_7 => ?_)
            · exact J152 v2 tg H _ ls hP hD hS (lv_sub hl [0, 1, 2] rfl) ((show (fX9_memory_152 x1 v2 tg) = (fX9_memory_74 x1 v2 tg) by unfold fX9_memory_74; rw [if_neg c_3, if_neg c_4, if_neg c_5, if_neg c_6, if_pos c_7]).trans hv)
            · refine lv_iload_n hx hb dX9_memory_146 rfl (lv_at hl 2 rfl) ?_
              refine lv_bipush (v := 53) hx hb dX9_memory_147 (by decide) ?_
              refine lv_icmp_ne (tgt := 185) hx hb dX9_memory_149 (by decide) (fun c_8 => ?_) (fun c_8 => ?_)
              · refine lv_iload_n hx hb dX9_memory_185 rfl (lv_at hl 2 rfl) ?_
                refine lv_bipush (v := 57) hx hb dX9_memory_186 (by decide) ?_
                refine lv_icmp_eq (tgt := 197) hx hb dX9_memory_188 (by decide) (fun c_9 => ?_) (fun c_9 => ?_)
                · exact J197 v2 tg H _ ls hP hD hS (lv_sub hl [0, 1, 2] rfl) ((show (fX9_memory_197 x1 v2 tg) = (fX9_memory_74 x1 v2 tg) by unfold fX9_memory_74; rw [if_neg c_3, if_neg c_4, if_neg c_5, if_neg c_6, if_neg c_7, if_neg c_8, if_pos c_9]).trans hv)
                · refine lv_iload_n hx hb dX9_memory_191 rfl (lv_at hl 2 rfl) ?_
                  refine lv_bipush (v := 61) hx hb dX9_memory_192 (by decide) ?_
                  refine lv_icmp_ne (tgt := 232) hx hb dX9_memory_194 (by decide) (fun c_10 => ?_) (fun c_10 => ?_)
                  · have e9 : tg = (fX9_memory x1 sg) := ((show tg = (fX9_memory_74 x1 v2 tg) by unfold fX9_memory_74; rw [if_neg c_3, if_neg c_4, if_neg c_5, if_neg c_6, if_neg c_7, if_neg c_8, if_neg c_9, if_neg c_10]).trans hv)
                    have hP : va_P (dC, dI) vwCl (wM1 m0 g (fX9_memory x1 sg)) H := by rw [← e9]; exact hP
                    have hD : va_D A (wM1 m0 g (fX9_memory x1 sg)) := by rw [← e9]; exact hD
                    exact W.vret hx hb hr (fun t ht hW => ⟨⟨(), rfl, trivial, by rw [ht]; exact hP, hD⟩, hS.F ht⟩) hS.2.2 dX9_memory_232
                  · exact J197 v2 tg H _ ls hP hD hS (lv_sub hl [0, 1, 2] rfl) ((show (fX9_memory_197 x1 v2 tg) = (fX9_memory_74 x1 v2 tg) by unfold fX9_memory_74; rw [if_neg c_3, if_neg c_4, if_neg c_5, if_neg c_6, if_neg c_7, if_neg c_8, if_neg c_9, if_pos c_10]).trans hv)
              · exact J152 v2 tg H _ ls hP hD hS (lv_sub hl [0, 1, 2] rfl) ((show (fX9_memory_152 x1 v2 tg) = (fX9_memory_74 x1 v2 tg) by unfold fX9_memory_74; rw [if_neg c_3, if_neg c_4, if_neg c_5, if_neg c_6, if_neg c_7, if_pos c_8]).trans hv)
          · refine lv_aload_n hx hb dX9_memory_127 rfl (lv_at hl 1 rfl) ?_
            refine lv_iconst (v := 0) hx hb dX9_memory_128 (by decide) ?_
            refine lv_aload_n hx hb dX9_memory_129 rfl (lv_at hl 1 rfl) ?_
            refine ro_calll (va_runV (As := []) (rest := [.int (0), .ref m0]) ⟨hx, hb, hml, hown, hts⟩ (kX9_s l dC dI m0 g H.size  tg) (cwV 0 hts gX9_memory_X9_s rfl rfl rfl (by decide +kernel) ⟨Nat.le_of_ble_eq_true rfl, Nat.le_of_ble_eq_true rfl⟩) (ro_preV 0 4 (q := (RX9, TX9, 26)) rfl rfl hP hK) rfl rfl hl.1 rfl (lv_room (Nat.le_of_ble_eq_true rfl)) dX9_memory_130 ⟨Nat.zero_le _, Nat.zero_le _⟩) hS hA (fun H locs kP hS => ?_)
            have hP := kP _ _ _ hP
            refine lv_lconst (v := 0) hx hb dX9_memory_133 (by decide) ?_
            refine md_callv (wr := []) (va_runV (As := [.int (0), .long ((rgs tg.1 21)), .long (0)]) (rest := []) ⟨hx, hb, hml, hown, hts⟩ (kX9_is l dC dI m0 g H.size 0 (rgs tg.1 21) 0 tg) (cwV 3 hts gX9_memory_X9_is rfl rfl rfl (by decide +kernel) ⟨Nat.le_of_ble_eq_true rfl, Nat.le_of_ble_eq_true rfl⟩) (md_preV 0 4 (q := (RX9, TX9, 26)) rfl rfl hP hK hD) rfl rfl hl.1 rfl (lv_room (Nat.le_of_ble_eq_true rfl)) dX9_memory_134 ⟨Nat.zero_le _, Nat.zero_le _⟩) hS hA hP hD [0] [] rfl rfl (by decide) (by decide) (fun H locs hP hD hS => ?_)
            have hP : va_P (dC, dI) vwCl (wM1 m0 g (tg.1, 0, tg.2.2.1, tg.2.2.2.1, (rgs tg.1 21), 0, tg.2.2.2.2.2.2)) H := hP
            have hD : va_D A (wM1 m0 g (tg.1, 0, tg.2.2.1, tg.2.2.2.1, (rgs tg.1 21), 0, tg.2.2.2.2.2.2)) := hD
            refine lv_goto (tgt := 232) hx hb dX9_memory_137 (by decide) ?_
            have e9 : (tg.1, 0, tg.2.2.1, tg.2.2.2.1, (rgs tg.1 21), 0, tg.2.2.2.2.2.2) = (fX9_memory x1 sg) := ((show (tg.1, 0, tg.2.2.1, tg.2.2.2.1, (rgs tg.1 21), 0, tg.2.2.2.2.2.2) = (fX9_memory_74 x1 v2 tg) by unfold fX9_memory_74; rw [if_neg c_3, if_neg c_4, if_neg c_5, if_pos c_6]).trans hv)
            have hP : va_P (dC, dI) vwCl (wM1 m0 g (fX9_memory x1 sg)) H := by rw [← e9]; exact hP
            have hD : va_D A (wM1 m0 g (fX9_memory x1 sg)) := by rw [← e9]; exact hD
            exact W.vret hx hb hr (fun t ht hW => ⟨⟨(), rfl, trivial, by rw [ht]; exact hP, hD⟩, hS.F ht⟩) hS.2.2 dX9_memory_232
        · exact J110 v2 tg H _ ls hP hD hS (lv_sub hl [0, 1, 2] rfl) ((show (fX9_memory_110 x1 v2 tg) = (fX9_memory_74 x1 v2 tg) by unfold fX9_memory_74; rw [if_neg c_3, if_neg c_4, if_pos c_5]).trans hv)
    · exact J80 v2 tg H _ ls hP hD hS (lv_sub hl [0, 1, 2] rfl) ((show (fX9_memory_80 x1 v2 tg) = (fX9_memory_74 x1 v2 tg) by unfold fX9_memory_74; rw [if_pos c_3]).trans hv)
  have J19 : ∀ (v2 : Int32) (tg : Sc) (H : Heap) (locs : List Loc) (ls : Array Slot), va_P (dC, dI) vwCl (wM1 m0 g tg) H → va_D A (wM1 m0 g tg) → va_S A s.heap H locs → lv_has ls 3 [(2, .int (v2)), (0, .ref m0), (1, .int (x1))] → (fX9_memory_19 x1 v2 tg) = (fX9_memory x1 sg) → W p l e (headSpec wsX9_memory ({ frames := 2, cells := 0, slots := 0, locals := 41 })).room s m ([.ref m0, .int (x1)] : List Value).toArray below meth c H locs 0 0 (MQ below (md_Qv (dC, dI) (wM1 m0 g (fX9_memory x1 sg)) (A)) ([.ref m0, .int (x1)] : List Value).toArray s 0 0 (A)) (F0 m 19 ls []) := by
    intro v2 tg H locs ls hP hD hS hl hv
    refine lv_aload_n hx hb dX9_memory_19 rfl (lv_at hl 1 rfl) ?_
    refine lv_iconst (v := 1) hx hb dX9_memory_20 (by decide) ?_
    refine lv_aload_n hx hb dX9_memory_21 rfl (lv_at hl 1 rfl) ?_
    refine ro_calll (va_runV (As := []) (rest := [.int (1), .ref m0]) ⟨hx, hb, hml, hown, hts⟩ (kX9_s l dC dI m0 g H.size  tg) (cwV 0 hts gX9_memory_X9_s rfl rfl rfl (by decide +kernel) ⟨Nat.le_of_ble_eq_true rfl, Nat.le_of_ble_eq_true rfl⟩) (ro_preV 0 4 (q := (RX9, TX9, 26)) rfl rfl hP hK) rfl rfl hl.1 rfl (lv_room (Nat.le_of_ble_eq_true rfl)) dX9_memory_22 ⟨Nat.zero_le _, Nat.zero_le _⟩) hS hA (fun H locs kP hS => ?_)
    have hP := kP _ _ _ hP
    refine lv_aload_n hx hb dX9_memory_25 rfl (lv_at hl 1 rfl) ?_
    refine ro_calll (va_runV (As := []) (rest := [.long ((rgs tg.1 21)), .int (1), .ref m0]) ⟨hx, hb, hml, hown, hts⟩ (kX9_t l dC dI m0 g H.size  tg) (cwV 0 hts gX9_memory_X9_t rfl rfl rfl (by decide +kernel) ⟨Nat.le_of_ble_eq_true rfl, Nat.le_of_ble_eq_true rfl⟩) (ro_preV 0 4 (q := (RX9, TX9, 26)) rfl rfl hP hK) rfl rfl hl.1 rfl (lv_room (Nat.le_of_ble_eq_true rfl)) dX9_memory_26 ⟨Nat.zero_le _, Nat.zero_le _⟩) hS hA (fun H locs kP hS => ?_)
    have hP := kP _ _ _ hP
    refine lv_lor hx hb dX9_memory_29 ?_
    refine lv_aload_n hx hb dX9_memory_30 rfl (lv_at hl 1 rfl) ?_
    refine ro_calll (va_runV (As := []) (rest := [.long (((rgs tg.1 21) ||| (rgs tg.1 16))), .int (1), .ref m0]) ⟨hx, hb, hml, hown, hts⟩ (kX9_t l dC dI m0 g H.size  tg) (cwV 0 hts gX9_memory_X9_t rfl rfl rfl (by decide +kernel) ⟨Nat.le_of_ble_eq_true rfl, Nat.le_of_ble_eq_true rfl⟩) (ro_preV 0 4 (q := (RX9, TX9, 26)) rfl rfl hP hK) rfl rfl hl.1 rfl (lv_room (Nat.le_of_ble_eq_true rfl)) dX9_memory_31 ⟨Nat.zero_le _, Nat.zero_le _⟩) hS hA (fun H locs kP hS => ?_)
    have hP := kP _ _ _ hP
    refine md_callv (wr := []) (va_runV (As := [.int (1), .long (((rgs tg.1 21) ||| (rgs tg.1 16))), .long ((rgs tg.1 16))]) (rest := []) ⟨hx, hb, hml, hown, hts⟩ (kX9_is l dC dI m0 g H.size 1 ((rgs tg.1 21) ||| (rgs tg.1 16)) (rgs tg.1 16) tg) (cwV 3 hts gX9_memory_X9_is rfl rfl rfl (by decide +kernel) ⟨Nat.le_of_ble_eq_true rfl, Nat.le_of_ble_eq_true rfl⟩) (md_preV 0 4 (q := (RX9, TX9, 26)) rfl rfl hP hK hD) rfl rfl hl.1 rfl (lv_room (Nat.le_of_ble_eq_true rfl)) dX9_memory_34 ⟨Nat.zero_le _, Nat.zero_le _⟩) hS hA hP hD [0] [] rfl rfl (by decide) (by decide) (fun H locs hP hD hS => ?_)
    have hP : va_P (dC, dI) vwCl (wM1 m0 g (tg.1, 1, tg.2.2.1, tg.2.2.2.1, ((rgs tg.1 21) ||| (rgs tg.1 16)), (rgs tg.1 16), tg.2.2.2.2.2.2)) H := hP
    have hD : va_D A (wM1 m0 g (tg.1, 1, tg.2.2.1, tg.2.2.2.1, ((rgs tg.1 21) ||| (rgs tg.1 16)), (rgs tg.1 16), tg.2.2.2.2.2.2)) := hD
    refine lv_goto (tgt := 232) hx hb dX9_memory_37 (by decide) ?_
    have e9 : (tg.1, 1, tg.2.2.1, tg.2.2.2.1, ((rgs tg.1 21) ||| (rgs tg.1 16)), (rgs tg.1 16), tg.2.2.2.2.2.2) = (fX9_memory x1 sg) := ((show (tg.1, 1, tg.2.2.1, tg.2.2.2.1, ((rgs tg.1 21) ||| (rgs tg.1 16)), (rgs tg.1 16), tg.2.2.2.2.2.2) = (fX9_memory_19 x1 v2 tg) by unfold fX9_memory_19; rfl).trans hv)
    have hP : va_P (dC, dI) vwCl (wM1 m0 g (fX9_memory x1 sg)) H := by rw [← e9]; exact hP
    have hD : va_D A (wM1 m0 g (fX9_memory x1 sg)) := by rw [← e9]; exact hD
    exact W.vret hx hb hr (fun t ht hW => ⟨⟨(), rfl, trivial, by rw [ht]; exact hP, hD⟩, hS.F ht⟩) hS.2.2 dX9_memory_232
  refine lv_aload_n hx hb dX9_memory_0 rfl (lv_at hl 0 rfl) ?_
  refine lv_bipush (v := 16) hx hb dX9_memory_1 (by decide) ?_
  refine ro_calli (va_runV (As := [.int (16)]) (rest := []) ⟨hx, hb, hml, hown, hts⟩ (kX9_field l dC dI m0 g s.heap.size 16 sg) (cwV 1 hts gX9_memory_X9_field rfl rfl rfl (by decide +kernel) ⟨Nat.le_of_ble_eq_true rfl, Nat.le_of_ble_eq_true rfl⟩) (ro_preV 0 4 (q := (RX9, TX9, 26)) rfl rfl hP hK) rfl rfl hl.1 rfl (lv_room (Nat.le_of_ble_eq_true rfl)) dX9_memory_3 ⟨Nat.zero_le _, Nat.zero_le _⟩) hS hA (fun H locs kP hS => ?_)
  have hP := kP _ _ _ hP
  refine lv_istore_n (lv' := [(2, .int ((fld sg.1 16))), (0, .ref m0), (1, .int (x1))]) hx hb dX9_memory_6 rfl hl (by decide) rfl (fun ls hl => ?_)
  refine lv_iload_n hx hb dX9_memory_7 rfl (lv_at hl 2 rfl) ?_
  refine lv_bipush (v := 34) hx hb dX9_memory_8 (by decide) ?_
  refine lv_icmp_eq (tgt := 19) hx hb dX9_memory_10 (by decide) (fun c_11 => ?_) (fun c_11 => ?_)
  · exact J19 (fld sg.1 16) sg H _ ls hP hD hS (lv_sub hl [0, 1, 2] rfl) ((show (fX9_memory_19 x1 (fld sg.1 16) sg) = (fX9_memory x1 sg) by unfold fX9_memory; rw [if_pos c_11]).trans hv)
  · refine lv_iload_n hx hb dX9_memory_13 rfl (lv_at hl 2 rfl) ?_
    refine lv_bipush (v := 38) hx hb dX9_memory_14 (by decide) ?_
    refine lv_icmp_ne (tgt := 40) hx hb dX9_memory_16 (by decide) (fun c_12 => ?_) (fun c_12 => ?_)
    · refine lv_iload_n hx hb dX9_memory_40 rfl (lv_at hl 2 rfl) ?_
      refine lv_bipush (v := 38) hx hb dX9_memory_41 (by decide) ?_
      refine lv_icmp_ge (tgt := 62) hx hb dX9_memory_43 (by decide) (fun c_13 => ?_) (fun c_13 => ?_)
      · refine lv_iload_n hx hb dX9_memory_62 rfl (lv_at hl 2 rfl) ?_
        refine lv_bipush (v := 44) hx hb dX9_memory_63 (by decide) ?_
        refine lv_icmp_ge (tgt := 74) hx hb dX9_memory_65 (by decide) (fun c_14 => ?_) (fun c_14 => ?_)
        · exact J74 (fld sg.1 16) sg H _ ls hP hD hS (lv_sub hl [0, 1, 2] rfl) ((show (fX9_memory_74 x1 (fld sg.1 16) sg) = (fX9_memory x1 sg) by unfold fX9_memory; rw [if_neg c_11, if_neg c_12, if_pos c_13, if_pos c_14]).trans hv)
        · refine lv_iload_n hx hb dX9_memory_68 rfl (lv_at hl 2 rfl) ?_
          refine lv_bipush (v := 39) hx hb dX9_memory_69 (by decide) ?_
          refine lv_icmp_gt (tgt := 80) hx hb dX9_memory_71 (by decide) (fun c_15 => ?_) (fun c_15 => ?_)
          · exact J80 (fld sg.1 16) sg H _ ls hP hD hS (lv_sub hl [0, 1, 2] rfl) ((show (fX9_memory_80 x1 (fld sg.1 16) sg) = (fX9_memory x1 sg) by unfold fX9_memory; rw [if_neg c_11, if_neg c_12, if_pos c_13, if_neg c_14, if_pos c_15]).trans hv)
          · exact J74 (fld sg.1 16) sg H _ ls hP hD hS (lv_sub hl [0, 1, 2] rfl) ((show (fX9_memory_74 x1 (fld sg.1 16) sg) = (fX9_memory x1 sg) by unfold fX9_memory; rw [if_neg c_11, if_neg c_12, if_pos c_13, if_neg c_14, if_neg c_15]).trans hv)
      · refine lv_aload_n hx hb dX9_memory_46 rfl (lv_at hl 1 rfl) ?_
        refine lv_iconst (v := 1) hx hb dX9_memory_47 (by decide) ?_
        refine lv_aload_n hx hb dX9_memory_48 rfl (lv_at hl 1 rfl) ?_
        refine ro_calll (va_runV (As := []) (rest := [.int (1), .ref m0]) ⟨hx, hb, hml, hown, hts⟩ (kX9_s l dC dI m0 g H.size  sg) (cwV 0 hts gX9_memory_X9_s rfl rfl rfl (by decide +kernel) ⟨Nat.le_of_ble_eq_true rfl, Nat.le_of_ble_eq_true rfl⟩) (ro_preV 0 4 (q := (RX9, TX9, 26)) rfl rfl hP hK) rfl rfl hl.1 rfl (lv_room (Nat.le_of_ble_eq_true rfl)) dX9_memory_49 ⟨Nat.zero_le _, Nat.zero_le _⟩) hS hA (fun H locs kP hS => ?_)
        have hP := kP _ _ _ hP
        refine lv_aload_n hx hb dX9_memory_52 rfl (lv_at hl 1 rfl) ?_
        refine ro_calll (va_runV (As := []) (rest := [.long ((rgs sg.1 21)), .int (1), .ref m0]) ⟨hx, hb, hml, hown, hts⟩ (kX9_t l dC dI m0 g H.size  sg) (cwV 0 hts gX9_memory_X9_t rfl rfl rfl (by decide +kernel) ⟨Nat.le_of_ble_eq_true rfl, Nat.le_of_ble_eq_true rfl⟩) (ro_preV 0 4 (q := (RX9, TX9, 26)) rfl rfl hP hK) rfl rfl hl.1 rfl (lv_room (Nat.le_of_ble_eq_true rfl)) dX9_memory_53 ⟨Nat.zero_le _, Nat.zero_le _⟩) hS hA (fun H locs kP hS => ?_)
        have hP := kP _ _ _ hP
        refine md_callv (wr := []) (va_runV (As := [.int (1), .long ((rgs sg.1 21)), .long ((rgs sg.1 16))]) (rest := []) ⟨hx, hb, hml, hown, hts⟩ (kX9_is l dC dI m0 g H.size 1 (rgs sg.1 21) (rgs sg.1 16) sg) (cwV 3 hts gX9_memory_X9_is rfl rfl rfl (by decide +kernel) ⟨Nat.le_of_ble_eq_true rfl, Nat.le_of_ble_eq_true rfl⟩) (md_preV 0 4 (q := (RX9, TX9, 26)) rfl rfl hP hK hD) rfl rfl hl.1 rfl (lv_room (Nat.le_of_ble_eq_true rfl)) dX9_memory_56 ⟨Nat.zero_le _, Nat.zero_le _⟩) hS hA hP hD [0] [] rfl rfl (by decide) (by decide) (fun H locs hP hD hS => ?_)
        have hP : va_P (dC, dI) vwCl (wM1 m0 g (sg.1, 1, sg.2.2.1, sg.2.2.2.1, (rgs sg.1 21), (rgs sg.1 16), sg.2.2.2.2.2.2)) H := hP
        have hD : va_D A (wM1 m0 g (sg.1, 1, sg.2.2.1, sg.2.2.2.1, (rgs sg.1 21), (rgs sg.1 16), sg.2.2.2.2.2.2)) := hD
        refine lv_goto (tgt := 232) hx hb dX9_memory_59 (by decide) ?_
        have e9 : (sg.1, 1, sg.2.2.1, sg.2.2.2.1, (rgs sg.1 21), (rgs sg.1 16), sg.2.2.2.2.2.2) = (fX9_memory x1 sg) := ((show (sg.1, 1, sg.2.2.1, sg.2.2.2.1, (rgs sg.1 21), (rgs sg.1 16), sg.2.2.2.2.2.2) = (fX9_memory x1 sg) by unfold fX9_memory; rw [if_neg c_11, if_neg c_12, if_neg c_13]).trans hv)
        have hP : va_P (dC, dI) vwCl (wM1 m0 g (fX9_memory x1 sg)) H := by rw [← e9]; exact hP
        have hD : va_D A (wM1 m0 g (fX9_memory x1 sg)) := by rw [← e9]; exact hD
        exact W.vret hx hb hr (fun t ht hW => ⟨⟨(), rfl, trivial, by rw [ht]; exact hP, hD⟩, hS.F ht⟩) hS.2.2 dX9_memory_232
    · exact J19 (fld sg.1 16) sg H _ ls hP hD hS (lv_sub hl [0, 1, 2] rfl) ((show (fX9_memory_19 x1 (fld sg.1 16) sg) = (fX9_memory x1 sg) by unfold fX9_memory; rw [if_neg c_11, if_pos c_12]).trans hv)
def fX9_reckons_231 (x1 : Int32) (x2 : Int32) (x3 : Int32) (x4 : Int32) (x5 : Int32) (tg : Sc) : Sc := if x1 < 48 then tg else (tg.1, (frS x4 x2 (frS x3 x2 5)), 1, 1, ((frV x3 x2) ||| (frV x4 x2)), tg.2.2.2.2.2.1, tg.2.2.2.2.2.2)
def fX9_reckons_201 (x1 : Int32) (x2 : Int32) (x3 : Int32) (x4 : Int32) (x5 : Int32) (z0 : Int64) (tg : Sc) : Sc := if x1 = 17 then (tg.1, (frS x5 x2 tg.2.1), 1, 0, (((frV x3 x2) ||| (frV x5 x2)) ||| z0), (frV x5 x2), tg.2.2.2.2.2.2) else (tg.1, (frS x5 x2 tg.2.1), tg.2.2.1, tg.2.2.2.1, (((frV x3 x2) ||| (frV x5 x2)) ||| z0), (frV x5 x2), tg.2.2.2.2.2.2)
def fX9_reckons_155 (x1 : Int32) (x2 : Int32) (x3 : Int32) (x4 : Int32) (x5 : Int32) (tg : Sc) : Sc := if x1 < 17 then (fX9_reckons_231 x1 x2 x3 x4 x5 tg) else if 20 ≤ x1 then (fX9_reckons_231 x1 x2 x3 x4 x5 tg) else if x1 ≤ 17 then (fX9_reckons_201 x1 x2 x3 x4 x5 0 (tg.1, (frS x5 x2 (frS x3 x2 5)), tg.2.2.1, tg.2.2.2.1, tg.2.2.2.2.1, tg.2.2.2.2.2.1, tg.2.2.2.2.2.2)) else (fX9_reckons_201 x1 x2 x3 x4 x5 (rgs tg.1 16) (tg.1, (frS x5 x2 (frS x3 x2 5)), tg.2.2.1, tg.2.2.2.1, tg.2.2.2.2.1, tg.2.2.2.2.2.1, tg.2.2.2.2.2.2))
def fX9_reckons_146 (x1 : Int32) (x2 : Int32) (x3 : Int32) (x4 : Int32) (x5 : Int32) (z0 : Int32) (tg : Sc) : Sc := (tg.1, (frS x5 z0 tg.2.1), tg.2.2.1, tg.2.2.2.1, tg.2.2.2.2.1, (frV x5 z0), tg.2.2.2.2.2.2)
def fX9_reckons_141 (x1 : Int32) (x2 : Int32) (x3 : Int32) (x4 : Int32) (x5 : Int32) (tg : Sc) : Sc := (fX9_reckons_146 x1 x2 x3 x4 x5 1 tg)
def fX9_reckons_135 (x1 : Int32) (x2 : Int32) (x3 : Int32) (x4 : Int32) (x5 : Int32) (tg : Sc) : Sc := if x1 = 33 then (fX9_reckons_141 x1 x2 x3 x4 x5 tg) else (fX9_reckons_146 x1 x2 x3 x4 x5 0 tg)
def fX9_reckons_108 (x1 : Int32) (x2 : Int32) (x3 : Int32) (x4 : Int32) (x5 : Int32) (z0 : Int32) (tg : Sc) : Sc := if 8 ≤ x1 then (fX9_reckons_135 x1 x2 x3 x4 x5 (tg.1, (frS x3 x2 z0), tg.2.2.1, tg.2.2.2.1, (frV x3 x2), tg.2.2.2.2.2.1, tg.2.2.2.2.2.2)) else if x2 = 0 then (fX9_reckons_135 x1 x2 x3 x4 x5 (tg.1, (frS x3 x2 z0), tg.2.2.1, tg.2.2.2.1, (frV x3 x2), tg.2.2.2.2.2.1, tg.2.2.2.2.2.2)) else (fX9_reckons_141 x1 x2 x3 x4 x5 (tg.1, (frS x3 x2 z0), tg.2.2.1, tg.2.2.2.1, (frV x3 x2), tg.2.2.2.2.2.1, tg.2.2.2.2.2.2))
def fX9_reckons_96 (x1 : Int32) (x2 : Int32) (x3 : Int32) (x4 : Int32) (x5 : Int32) (tg : Sc) : Sc := if x1 = 4 then (fX9_reckons_108 x1 x2 x3 x4 x5 6 tg) else (fX9_reckons_108 x1 x2 x3 x4 x5 5 tg)
def fX9_reckons_86 (x1 : Int32) (x2 : Int32) (x3 : Int32) (x4 : Int32) (x5 : Int32) (tg : Sc) : Sc := if x1 = 33 then if x2 = 0 then (fX9_reckons_96 x1 x2 x3 x4 x5 tg) else (fX9_reckons_155 x1 x2 x3 x4 x5 tg) else (fX9_reckons_155 x1 x2 x3 x4 x5 tg)
def fX9_reckons_70 (x1 : Int32) (x2 : Int32) (x3 : Int32) (x4 : Int32) (x5 : Int32) (tg : Sc) : Sc := if x1 = 36 then (fX9_reckons_96 x1 x2 x3 x4 x5 tg) else if x1 = 32 then if x2 = 0 then (fX9_reckons_86 x1 x2 x3 x4 x5 tg) else (fX9_reckons_96 x1 x2 x3 x4 x5 tg) else (fX9_reckons_86 x1 x2 x3 x4 x5 tg)
def fX9_reckons_17 (x1 : Int32) (x2 : Int32) (x3 : Int32) (x4 : Int32) (x5 : Int32) (z0 : Int32) (tg : Sc) : Sc := (tg.1, (frS x5 x2 (frS x4 x2 (frS x3 x2 z0))), tg.2.2.1, tg.2.2.2.1, ((frV x3 x2) ||| (frV x4 x2)), (frV x5 x2), tg.2.2.2.2.2.2)
def fX9_reckons (x1 : Int32) (x2 : Int32) (x3 : Int32) (x4 : Int32) (x5 : Int32) (sg : Sc) : Sc := if 4 ≤ x1 then if x1 < 8 then (fX9_reckons_96 x1 x2 x3 x4 x5 sg) else if x1 < 12 then (fX9_reckons_70 x1 x2 x3 x4 x5 sg) else if x1 < 16 then (fX9_reckons_96 x1 x2 x3 x4 x5 sg) else (fX9_reckons_70 x1 x2 x3 x4 x5 sg) else if x1 = 3 then (fX9_reckons_17 x1 x2 x3 x4 x5 6 sg) else (fX9_reckons_17 x1 x2 x3 x4 x5 5 sg)
set_option maxHeartbeats 4000000 in
set_option maxRecDepth 100000 in
theorem kX9_reckons (l : Launch) (dC : Nat → ClassId) (dI : Nat → Nat → Nat) (m0 : Nat) (g : Nat → Value) (sz : Nat) (x1 : Int32) (x2 : Int32) (x3 : Int32) (x4 : Int32) (x5 : Int32) (sg : Sc) : Met l yX9_reckons wsX9_reckons ({ frames := 2, cells := 0, slots := 0, locals := 41 }) (md_Pc (dC, dI) (wM1 m0 g sg) [] [.ref m0, .int (x1), .int (x2), .int (x3), .int (x4), .int (x5)] sz) (md_Qv (dC, dI) (wM1 m0 g (fX9_reckons x1 x2 x3 x4 x5 sg)) (va_A (wM1 m0 g sg) sz)) 0 0 (va_A (wM1 m0 g sg) sz) := by
  refine Met.ofW (cc := cX9_reckons) (maxL := 6) (ret := none) (by decide) rfl ?_
  intro p e s m args below meth c s₁ B0 hml hv
  obtain ⟨rfl, hsz, hP, hK, hD0⟩ := hv
  have hx := B0.exec
  have hb := B0.bytes
  have hr := B0.returns
  have hts := atoms_spec (ws := wsX9_reckons) B0.pre
  have hown : s.vm.findClass RX9 = some m.cls := findClass_of_methodNamed B0.named
  have hlocks := B0.notSynchronized
  have hinX9 : ∀ w ∈ wsX90, w ∈ wsX9_reckons := fun w h => List.mem_cons_of_mem _ (List.mem_append_right _ (h))
  subst hsz
  have hD := hD0.self (sz := s.heap.size)
  generalize hAe : va_A (wM1 m0 g sg) s.heap.size = A at hD ⊢
  have hA : ∀ q : Nat, s.heap.size ≤ q → A q := fun q h => by rw [← hAe]; exact Or.inr h
  have hS : va_S A s.heap s.heap [] := va_S.rf
  have hl := lv_entry ([.ref m0, .int (x1), .int (x2), .int (x3), .int (x4), .int (x5)]) (n := 6) (Nat.le_of_ble_eq_true rfl)
  rw [lg_entry_eq]
  generalize (lg_sl ([.ref m0, .int (x1), .int (x2), .int (x3), .int (x4), .int (x5)]) ++ List.replicate (6 - (lg_sl ([.ref m0, .int (x1), .int (x2), .int (x3), .int (x4), .int (x5)])).length) Slot.unset).toArray = ls at hl ⊢
  have hl : lv_has ls 6 [(0, .ref m0), (1, .int (x1)), (2, .int (x2)), (3, .int (x3)), (4, .int (x4)), (5, .int (x5))] := hl
  have hv : (fX9_reckons x1 x2 x3 x4 x5 sg) = (fX9_reckons x1 x2 x3 x4 x5 sg) := rfl
  have J231 : ∀ (tg : Sc) (H : Heap) (locs : List Loc) (ls : Array Slot), va_P (dC, dI) vwCl (wM1 m0 g tg) H → va_D A (wM1 m0 g tg) → va_S A s.heap H locs → lv_has ls 6 [(0, .ref m0), (1, .int (x1)), (2, .int (x2)), (3, .int (x3)), (4, .int (x4)), (5, .int (x5))] → (fX9_reckons_231 x1 x2 x3 x4 x5 tg) = (fX9_reckons x1 x2 x3 x4 x5 sg) → W p l e (headSpec wsX9_reckons ({ frames := 2, cells := 0, slots := 0, locals := 41 })).room s m ([.ref m0, .int (x1), .int (x2), .int (x3), .int (x4), .int (x5)] : List Value).toArray below meth c H locs 0 0 (MQ below (md_Qv (dC, dI) (wM1 m0 g (fX9_reckons x1 x2 x3 x4 x5 sg)) (A)) ([.ref m0, .int (x1), .int (x2), .int (x3), .int (x4), .int (x5)] : List Value).toArray s 0 0 (A)) (F0 m 231 ls []) := by
    intro tg H locs ls hP hD hS hl hv
    refine lv_iload_n hx hb dX9_reckons_231 rfl (lv_at hl 1 rfl) ?_
    refine lv_bipush (v := 48) hx hb dX9_reckons_232 (by decide) ?_
    refine lv_icmp_lt (tgt := 266) hx hb dX9_reckons_234 (by decide) (fun c_1 => ?_) (fun c_1 => ?_)
    · have e9 : tg = (fX9_reckons x1 x2 x3 x4 x5 sg) := ((show tg = (fX9_reckons_231 x1 x2 x3 x4 x5 tg) by unfold fX9_reckons_231; rw [if_pos c_1]).trans hv)
      have hP : va_P (dC, dI) vwCl (wM1 m0 g (fX9_reckons x1 x2 x3 x4 x5 sg)) H := by rw [← e9]; exact hP
      have hD : va_D A (wM1 m0 g (fX9_reckons x1 x2 x3 x4 x5 sg)) := by rw [← e9]; exact hD
      exact W.vret hx hb hr (fun t ht hW => ⟨⟨(), rfl, trivial, by rw [ht]; exact hP, hD⟩, hS.F ht⟩) hS.2.2 dX9_reckons_266
    · refine lv_aload_n hx hb dX9_reckons_237 rfl (lv_at hl 0 rfl) ?_
      refine lv_iconst (v := 5) hx hb dX9_reckons_238 (by decide) ?_
      refine va_put (D := (dC, dI)) (ci := 4) (v := .int (5)) (ty := .int) (C := RX9) (T := TX9) (N := 26) hx hb hts hinX9 tyX9 tyX9_ok nmX9 hown hK hP hD hS 0 rfl rfl 16 (by decide) (hts (.fieldLink RX9 69 "SlotFillerModel" "sort" "I") (by decide +kernel)) (fun _ h9 => h9) rfl (by decide +kernel) rfl rfl (Nat.le_of_ble_eq_true rfl) dX9_reckons_239 (fun H locs hP hD hS => ?_)
      have hP : va_P (dC, dI) vwCl [(m0, .inr (4, [(g 0), (g 1), (g 2), (g 3), (g 4), (g 5), (g 6), (g 7), (g 8), (g 9), (g 10), (g 11), (g 12), (g 13), (g 14), .int (tg.1), .int (5), .int (tg.2.2.1), .int (tg.2.2.2.1), .long (tg.2.2.2.2.1), .long (tg.2.2.2.2.2.1), .int (tg.2.2.2.2.2.2), (g 22), (g 23), (g 24), (g 25)]))] H := hP
      have hD : va_D A [(m0, .inr (4, [(g 0), (g 1), (g 2), (g 3), (g 4), (g 5), (g 6), (g 7), (g 8), (g 9), (g 10), (g 11), (g 12), (g 13), (g 14), .int (tg.1), .int (5), .int (tg.2.2.1), .int (tg.2.2.2.1), .long (tg.2.2.2.2.1), .long (tg.2.2.2.2.2.1), .int (tg.2.2.2.2.2.2), (g 22), (g 23), (g 24), (g 25)]))] := hD
      refine lv_aload_n hx hb dX9_reckons_242 rfl (lv_at hl 0 rfl) ?_
      refine lv_aload_n hx hb dX9_reckons_243 rfl (lv_at hl 0 rfl) ?_
      refine lv_iload_n hx hb dX9_reckons_244 rfl (lv_at hl 3 rfl) ?_
      refine lv_iload_n hx hb dX9_reckons_245 rfl (lv_at hl 2 rfl) ?_
      refine md_calll (wr := []) (va_runV (As := [.int (x3), .int (x2)]) (rest := [.ref m0]) ⟨hx, hb, hml, hown, hts⟩ (kX9_fractionE l dC dI m0 g H.size x3 x2 (tg.1, 5, tg.2.2.1, tg.2.2.2.1, tg.2.2.2.2.1, tg.2.2.2.2.2.1, tg.2.2.2.2.2.2)) (cwV 2 hts gX9_reckons_X9_fraction rfl rfl rfl (by decide +kernel) ⟨Nat.le_of_ble_eq_true rfl, Nat.le_of_ble_eq_true rfl⟩) (md_preV 0 4 (q := (RX9, TX9, 26)) rfl rfl hP hK hD) rfl rfl hl.1 rfl (lv_room (Nat.le_of_ble_eq_true rfl)) dX9_reckons_246 ⟨Nat.zero_le _, Nat.zero_le _⟩) hS hA hP hD [0] [] rfl rfl (by decide) (by decide) (fun H locs hP hD hS => ?_)
      have hP : va_P (dC, dI) vwCl (wM1 m0 g (tg.1, (frS x3 x2 5), tg.2.2.1, tg.2.2.2.1, tg.2.2.2.2.1, tg.2.2.2.2.2.1, tg.2.2.2.2.2.2)) H := hP
      have hD : va_D A (wM1 m0 g (tg.1, (frS x3 x2 5), tg.2.2.1, tg.2.2.2.1, tg.2.2.2.2.1, tg.2.2.2.2.2.1, tg.2.2.2.2.2.2)) := hD
      refine lv_aload_n hx hb dX9_reckons_249 rfl (lv_at hl 0 rfl) ?_
      refine lv_iload hx hb dX9_reckons_250 (lv_at hl 4 rfl) ?_
      refine lv_iload_n hx hb dX9_reckons_252 rfl (lv_at hl 2 rfl) ?_
      refine md_calll (wr := []) (va_runV (As := [.int (x4), .int (x2)]) (rest := [.long ((frV x3 x2)), .ref m0]) ⟨hx, hb, hml, hown, hts⟩ (kX9_fractionE l dC dI m0 g H.size x4 x2 (tg.1, (frS x3 x2 5), tg.2.2.1, tg.2.2.2.1, tg.2.2.2.2.1, tg.2.2.2.2.2.1, tg.2.2.2.2.2.2)) (cwV 2 hts gX9_reckons_X9_fraction rfl rfl rfl (by decide +kernel) ⟨Nat.le_of_ble_eq_true rfl, Nat.le_of_ble_eq_true rfl⟩) (md_preV 0 4 (q := (RX9, TX9, 26)) rfl rfl hP hK hD) rfl rfl hl.1 rfl (lv_room (Nat.le_of_ble_eq_true rfl)) dX9_reckons_253 ⟨Nat.zero_le _, Nat.zero_le _⟩) hS hA hP hD [0] [] rfl rfl (by decide) (by decide) (fun H locs hP hD hS => ?_)
      have hP : va_P (dC, dI) vwCl (wM1 m0 g (tg.1, (frS x4 x2 (frS x3 x2 5)), tg.2.2.1, tg.2.2.2.1, tg.2.2.2.2.1, tg.2.2.2.2.2.1, tg.2.2.2.2.2.2)) H := hP
      have hD : va_D A (wM1 m0 g (tg.1, (frS x4 x2 (frS x3 x2 5)), tg.2.2.1, tg.2.2.2.1, tg.2.2.2.2.1, tg.2.2.2.2.2.1, tg.2.2.2.2.2.2)) := hD
      refine lv_lor hx hb dX9_reckons_256 ?_
      refine va_put (D := (dC, dI)) (ci := 4) (v := .long (((frV x3 x2) ||| (frV x4 x2)))) (ty := .long) (C := RX9) (T := TX9) (N := 26) hx hb hts hinX9 tyX9 tyX9_ok nmX9 hown hK hP hD hS 0 rfl rfl 19 (by decide) (hts (.fieldLink RX9 72 "SlotFillerModel" "reads" "J") (by decide +kernel)) (fun _ h9 => h9) rfl (by decide +kernel) rfl rfl (Nat.le_of_ble_eq_true rfl) dX9_reckons_257 (fun H locs hP hD hS => ?_)
      have hP : va_P (dC, dI) vwCl [(m0, .inr (4, [(g 0), (g 1), (g 2), (g 3), (g 4), (g 5), (g 6), (g 7), (g 8), (g 9), (g 10), (g 11), (g 12), (g 13), (g 14), .int (tg.1), .int ((frS x4 x2 (frS x3 x2 5))), .int (tg.2.2.1), .int (tg.2.2.2.1), .long (((frV x3 x2) ||| (frV x4 x2))), .long (tg.2.2.2.2.2.1), .int (tg.2.2.2.2.2.2), (g 22), (g 23), (g 24), (g 25)]))] H := hP
      have hD : va_D A [(m0, .inr (4, [(g 0), (g 1), (g 2), (g 3), (g 4), (g 5), (g 6), (g 7), (g 8), (g 9), (g 10), (g 11), (g 12), (g 13), (g 14), .int (tg.1), .int ((frS x4 x2 (frS x3 x2 5))), .int (tg.2.2.1), .int (tg.2.2.2.1), .long (((frV x3 x2) ||| (frV x4 x2))), .long (tg.2.2.2.2.2.1), .int (tg.2.2.2.2.2.2), (g 22), (g 23), (g 24), (g 25)]))] := hD
      refine lv_aload_n hx hb dX9_reckons_260 rfl (lv_at hl 0 rfl) ?_
      refine lv_iconst (v := 1) hx hb dX9_reckons_261 (by decide) ?_
      refine lv_iconst (v := 1) hx hb dX9_reckons_262 (by decide) ?_
      refine md_callv (wr := []) (va_runV (As := [.int (1), .int (1)]) (rest := []) ⟨hx, hb, hml, hown, hts⟩ (kX9_also l dC dI m0 g H.size 1 1 (tg.1, (frS x4 x2 (frS x3 x2 5)), tg.2.2.1, tg.2.2.2.1, ((frV x3 x2) ||| (frV x4 x2)), tg.2.2.2.2.2.1, tg.2.2.2.2.2.2)) (cwV 2 hts gX9_reckons_X9_also rfl rfl rfl (by decide +kernel) ⟨Nat.le_of_ble_eq_true rfl, Nat.le_of_ble_eq_true rfl⟩) (md_preV 0 4 (q := (RX9, TX9, 26)) rfl rfl hP hK hD) rfl rfl hl.1 rfl (lv_room (Nat.le_of_ble_eq_true rfl)) dX9_reckons_263 ⟨Nat.zero_le _, Nat.zero_le _⟩) hS hA hP hD [0] [] rfl rfl (by decide) (by decide) (fun H locs hP hD hS => ?_)
      have hP : va_P (dC, dI) vwCl (wM1 m0 g (tg.1, (frS x4 x2 (frS x3 x2 5)), 1, 1, ((frV x3 x2) ||| (frV x4 x2)), tg.2.2.2.2.2.1, tg.2.2.2.2.2.2)) H := hP
      have hD : va_D A (wM1 m0 g (tg.1, (frS x4 x2 (frS x3 x2 5)), 1, 1, ((frV x3 x2) ||| (frV x4 x2)), tg.2.2.2.2.2.1, tg.2.2.2.2.2.2)) := hD
      have e9 : (tg.1, (frS x4 x2 (frS x3 x2 5)), 1, 1, ((frV x3 x2) ||| (frV x4 x2)), tg.2.2.2.2.2.1, tg.2.2.2.2.2.2) = (fX9_reckons x1 x2 x3 x4 x5 sg) := ((show (tg.1, (frS x4 x2 (frS x3 x2 5)), 1, 1, ((frV x3 x2) ||| (frV x4 x2)), tg.2.2.2.2.2.1, tg.2.2.2.2.2.2) = (fX9_reckons_231 x1 x2 x3 x4 x5 tg) by unfold fX9_reckons_231; rw [if_neg c_1]).trans hv)
      have hP : va_P (dC, dI) vwCl (wM1 m0 g (fX9_reckons x1 x2 x3 x4 x5 sg)) H := by rw [← e9]; exact hP
      have hD : va_D A (wM1 m0 g (fX9_reckons x1 x2 x3 x4 x5 sg)) := by rw [← e9]; exact hD
      exact W.vret hx hb hr (fun t ht hW => ⟨⟨(), rfl, trivial, by rw [ht]; exact hP, hD⟩, hS.F ht⟩) hS.2.2 dX9_reckons_266
  have J201 : ∀ (z0 : Int64) (tg : Sc) (H : Heap) (locs : List Loc) (ls : Array Slot), va_P (dC, dI) vwCl (wM1 m0 g tg) H → va_D A (wM1 m0 g tg) → va_S A s.heap H locs → lv_has ls 6 [(0, .ref m0), (1, .int (x1)), (2, .int (x2)), (3, .int (x3)), (4, .int (x4)), (5, .int (x5))] → (fX9_reckons_201 x1 x2 x3 x4 x5 z0 tg) = (fX9_reckons x1 x2 x3 x4 x5 sg) → W p l e (headSpec wsX9_reckons ({ frames := 2, cells := 0, slots := 0, locals := 41 })).room s m ([.ref m0, .int (x1), .int (x2), .int (x3), .int (x4), .int (x5)] : List Value).toArray below meth c H locs 0 0 (MQ below (md_Qv (dC, dI) (wM1 m0 g (fX9_reckons x1 x2 x3 x4 x5 sg)) (A)) ([.ref m0, .int (x1), .int (x2), .int (x3), .int (x4), .int (x5)] : List Value).toArray s 0 0 (A)) (F0 m 201 ls [.long (z0), .long (((frV x3 x2) ||| (frV x5 x2))), .ref m0]) := by
    intro z0 tg H locs ls hP hD hS hl hv
    refine lv_lor hx hb dX9_reckons_201 ?_
    refine va_put (D := (dC, dI)) (ci := 4) (v := .long ((((frV x3 x2) ||| (frV x5 x2)) ||| z0))) (ty := .long) (C := RX9) (T := TX9) (N := 26) hx hb hts hinX9 tyX9 tyX9_ok nmX9 hown hK hP hD hS 0 rfl rfl 19 (by decide) (hts (.fieldLink RX9 72 "SlotFillerModel" "reads" "J") (by decide +kernel)) (fun _ h9 => h9) rfl (by decide +kernel) rfl rfl (Nat.le_of_ble_eq_true rfl) dX9_reckons_202 (fun H locs hP hD hS => ?_)
    have hP : va_P (dC, dI) vwCl [(m0, .inr (4, [(g 0), (g 1), (g 2), (g 3), (g 4), (g 5), (g 6), (g 7), (g 8), (g 9), (g 10), (g 11), (g 12), (g 13), (g 14), .int (tg.1), .int (tg.2.1), .int (tg.2.2.1), .int (tg.2.2.2.1), .long ((((frV x3 x2) ||| (frV x5 x2)) ||| z0)), .long (tg.2.2.2.2.2.1), .int (tg.2.2.2.2.2.2), (g 22), (g 23), (g 24), (g 25)]))] H := hP
    have hD : va_D A [(m0, .inr (4, [(g 0), (g 1), (g 2), (g 3), (g 4), (g 5), (g 6), (g 7), (g 8), (g 9), (g 10), (g 11), (g 12), (g 13), (g 14), .int (tg.1), .int (tg.2.1), .int (tg.2.2.1), .int (tg.2.2.2.1), .long ((((frV x3 x2) ||| (frV x5 x2)) ||| z0)), .long (tg.2.2.2.2.2.1), .int (tg.2.2.2.2.2.2), (g 22), (g 23), (g 24), (g 25)]))] := hD
    refine lv_aload_n hx hb dX9_reckons_205 rfl (lv_at hl 0 rfl) ?_
    refine lv_aload_n hx hb dX9_reckons_206 rfl (lv_at hl 0 rfl) ?_
    refine lv_iload hx hb dX9_reckons_207 (lv_at hl 5 rfl) ?_
    refine lv_iload_n hx hb dX9_reckons_209 rfl (lv_at hl 2 rfl) ?_
    refine md_calll (wr := []) (va_runV (As := [.int (x5), .int (x2)]) (rest := [.ref m0]) ⟨hx, hb, hml, hown, hts⟩ (kX9_fractionE l dC dI m0 g H.size x5 x2 (tg.1, tg.2.1, tg.2.2.1, tg.2.2.2.1, (((frV x3 x2) ||| (frV x5 x2)) ||| z0), tg.2.2.2.2.2.1, tg.2.2.2.2.2.2)) (cwV 2 hts gX9_reckons_X9_fraction rfl rfl rfl (by decide +kernel) ⟨Nat.le_of_ble_eq_true rfl, Nat.le_of_ble_eq_true rfl⟩) (md_preV 0 4 (q := (RX9, TX9, 26)) rfl rfl hP hK hD) rfl rfl hl.1 rfl (lv_room (Nat.le_of_ble_eq_true rfl)) dX9_reckons_210 ⟨Nat.zero_le _, Nat.zero_le _⟩) hS hA hP hD [0] [] rfl rfl (by decide) (by decide) (fun H locs hP hD hS => ?_)
    have hP : va_P (dC, dI) vwCl (wM1 m0 g (tg.1, (frS x5 x2 tg.2.1), tg.2.2.1, tg.2.2.2.1, (((frV x3 x2) ||| (frV x5 x2)) ||| z0), tg.2.2.2.2.2.1, tg.2.2.2.2.2.2)) H := hP
    have hD : va_D A (wM1 m0 g (tg.1, (frS x5 x2 tg.2.1), tg.2.2.1, tg.2.2.2.1, (((frV x3 x2) ||| (frV x5 x2)) ||| z0), tg.2.2.2.2.2.1, tg.2.2.2.2.2.2)) := hD
    refine va_put (D := (dC, dI)) (ci := 4) (v := .long ((frV x5 x2))) (ty := .long) (C := RX9) (T := TX9) (N := 26) hx hb hts hinX9 tyX9 tyX9_ok nmX9 hown hK hP hD hS 0 rfl rfl 20 (by decide) (hts (.fieldLink RX9 76 "SlotFillerModel" "writes" "J") (by decide +kernel)) (fun _ h9 => h9) rfl (by decide +kernel) rfl rfl (Nat.le_of_ble_eq_true rfl) dX9_reckons_213 (fun H locs hP hD hS => ?_)
    have hP : va_P (dC, dI) vwCl [(m0, .inr (4, [(g 0), (g 1), (g 2), (g 3), (g 4), (g 5), (g 6), (g 7), (g 8), (g 9), (g 10), (g 11), (g 12), (g 13), (g 14), .int (tg.1), .int ((frS x5 x2 tg.2.1)), .int (tg.2.2.1), .int (tg.2.2.2.1), .long ((((frV x3 x2) ||| (frV x5 x2)) ||| z0)), .long ((frV x5 x2)), .int (tg.2.2.2.2.2.2), (g 22), (g 23), (g 24), (g 25)]))] H := hP
    have hD : va_D A [(m0, .inr (4, [(g 0), (g 1), (g 2), (g 3), (g 4), (g 5), (g 6), (g 7), (g 8), (g 9), (g 10), (g 11), (g 12), (g 13), (g 14), .int (tg.1), .int ((frS x5 x2 tg.2.1)), .int (tg.2.2.1), .int (tg.2.2.2.1), .long ((((frV x3 x2) ||| (frV x5 x2)) ||| z0)), .long ((frV x5 x2)), .int (tg.2.2.2.2.2.2), (g 22), (g 23), (g 24), (g 25)]))] := hD
    refine lv_iload_n hx hb dX9_reckons_216 rfl (lv_at hl 1 rfl) ?_
    refine lv_bipush (v := 17) hx hb dX9_reckons_217 (by decide) ?_
    refine lv_icmp_ne (tgt := 266) hx hb dX9_reckons_219 (by decide) (fun c_2 => ?_) (fun c_2 => ?_)
    · have e9 : (tg.1, (frS x5 x2 tg.2.1), tg.2.2.1, tg.2.2.2.1, (((frV x3 x2) ||| (frV x5 x2)) ||| z0), (frV x5 x2), tg.2.2.2.2.2.2) = (fX9_reckons x1 x2 x3 x4 x5 sg) := ((show (tg.1, (frS x5 x2 tg.2.1), tg.2.2.1, tg.2.2.2.1, (((frV x3 x2) ||| (frV x5 x2)) ||| z0), (frV x5 x2), tg.2.2.2.2.2.2) = (fX9_reckons_201 x1 x2 x3 x4 x5 z0 tg) by unfold fX9_reckons_201; rw [if_neg c_2]).trans hv)
      have hP : va_P (dC, dI) vwCl (wM1 m0 g (fX9_reckons x1 x2 x3 x4 x5 sg)) H := by rw [← e9]; exact hP
      have hD : va_D A (wM1 m0 g (fX9_reckons x1 x2 x3 x4 x5 sg)) := by rw [← e9]; exact hD
      exact W.vret hx hb hr (fun t ht hW => ⟨⟨(), rfl, trivial, by rw [ht]; exact hP, hD⟩, hS.F ht⟩) hS.2.2 dX9_reckons_266
    · refine lv_aload_n hx hb dX9_reckons_222 rfl (lv_at hl 0 rfl) ?_
      refine lv_iconst (v := 1) hx hb dX9_reckons_223 (by decide) ?_
      refine lv_iconst (v := 0) hx hb dX9_reckons_224 (by decide) ?_
      refine md_callv (wr := []) (va_runV (As := [.int (1), .int (0)]) (rest := []) ⟨hx, hb, hml, hown, hts⟩ (kX9_also l dC dI m0 g H.size 1 0 (tg.1, (frS x5 x2 tg.2.1), tg.2.2.1, tg.2.2.2.1, (((frV x3 x2) ||| (frV x5 x2)) ||| z0), (frV x5 x2), tg.2.2.2.2.2.2)) (cwV 2 hts gX9_reckons_X9_also rfl rfl rfl (by decide +kernel) ⟨Nat.le_of_ble_eq_true rfl, Nat.le_of_ble_eq_true rfl⟩) (md_preV 0 4 (q := (RX9, TX9, 26)) rfl rfl hP hK hD) rfl rfl hl.1 rfl (lv_room (Nat.le_of_ble_eq_true rfl)) dX9_reckons_225 ⟨Nat.zero_le _, Nat.zero_le _⟩) hS hA hP hD [0] [] rfl rfl (by decide) (by decide) (fun H locs hP hD hS => ?_)
      have hP : va_P (dC, dI) vwCl (wM1 m0 g (tg.1, (frS x5 x2 tg.2.1), 1, 0, (((frV x3 x2) ||| (frV x5 x2)) ||| z0), (frV x5 x2), tg.2.2.2.2.2.2)) H := hP
      have hD : va_D A (wM1 m0 g (tg.1, (frS x5 x2 tg.2.1), 1, 0, (((frV x3 x2) ||| (frV x5 x2)) ||| z0), (frV x5 x2), tg.2.2.2.2.2.2)) := hD
      refine lv_goto (tgt := 266) hx hb dX9_reckons_228 (by decide) ?_
      have e9 : (tg.1, (frS x5 x2 tg.2.1), 1, 0, (((frV x3 x2) ||| (frV x5 x2)) ||| z0), (frV x5 x2), tg.2.2.2.2.2.2) = (fX9_reckons x1 x2 x3 x4 x5 sg) := ((show (tg.1, (frS x5 x2 tg.2.1), 1, 0, (((frV x3 x2) ||| (frV x5 x2)) ||| z0), (frV x5 x2), tg.2.2.2.2.2.2) = (fX9_reckons_201 x1 x2 x3 x4 x5 z0 tg) by unfold fX9_reckons_201; rw [if_pos c_2]).trans hv)
      have hP : va_P (dC, dI) vwCl (wM1 m0 g (fX9_reckons x1 x2 x3 x4 x5 sg)) H := by rw [← e9]; exact hP
      have hD : va_D A (wM1 m0 g (fX9_reckons x1 x2 x3 x4 x5 sg)) := by rw [← e9]; exact hD
      exact W.vret hx hb hr (fun t ht hW => ⟨⟨(), rfl, trivial, by rw [ht]; exact hP, hD⟩, hS.F ht⟩) hS.2.2 dX9_reckons_266
  have J155 : ∀ (tg : Sc) (H : Heap) (locs : List Loc) (ls : Array Slot), va_P (dC, dI) vwCl (wM1 m0 g tg) H → va_D A (wM1 m0 g tg) → va_S A s.heap H locs → lv_has ls 6 [(0, .ref m0), (1, .int (x1)), (2, .int (x2)), (3, .int (x3)), (4, .int (x4)), (5, .int (x5))] → (fX9_reckons_155 x1 x2 x3 x4 x5 tg) = (fX9_reckons x1 x2 x3 x4 x5 sg) → W p l e (headSpec wsX9_reckons ({ frames := 2, cells := 0, slots := 0, locals := 41 })).room s m ([.ref m0, .int (x1), .int (x2), .int (x3), .int (x4), .int (x5)] : List Value).toArray below meth c H locs 0 0 (MQ below (md_Qv (dC, dI) (wM1 m0 g (fX9_reckons x1 x2 x3 x4 x5 sg)) (A)) ([.ref m0, .int (x1), .int (x2), .int (x3), .int (x4), .int (x5)] : List Value).toArray s 0 0 (A)) (F0 m 155 ls []) := by
    intro tg H locs ls hP hD hS hl hv
    refine lv_iload_n hx hb dX9_reckons_155 rfl (lv_at hl 1 rfl) ?_
    refine lv_bipush (v := 17) hx hb dX9_reckons_156 (by decide) ?_
    refine lv_icmp_lt (tgt := 231) hx hb dX9_reckons_158 (by decide) (fun c_3 => ?_) (fun c_3 => ?_)
    · exact J231 tg H _ ls hP hD hS (lv_sub hl [0, 1, 2, 3, 4, 5] rfl) ((show (fX9_reckons_231 x1 x2 x3 x4 x5 tg) = (fX9_reckons_155 x1 x2 x3 x4 x5 tg) by unfold fX9_reckons_155; rw [if_pos c_3]).trans hv)
    · refine lv_iload_n hx hb dX9_reckons_161 rfl (lv_at hl 1 rfl) ?_
      refine lv_bipush (v := 20) hx hb dX9_reckons_162 (by decide) ?_
      refine lv_icmp_ge (tgt := 231) hx hb dX9_reckons_164 (by decide) (fun c_4 => ?_) (fun c_4 => ?_)
      · exact J231 tg H _ ls hP hD hS (lv_sub hl [0, 1, 2, 3, 4, 5] rfl) ((show (fX9_reckons_231 x1 x2 x3 x4 x5 tg) = (fX9_reckons_155 x1 x2 x3 x4 x5 tg) by unfold fX9_reckons_155; rw [if_neg c_3, if_pos c_4]).trans hv)
      · refine lv_aload_n hx hb dX9_reckons_167 rfl (lv_at hl 0 rfl) ?_
        refine lv_iconst (v := 5) hx hb dX9_reckons_168 (by decide) ?_
        refine va_put (D := (dC, dI)) (ci := 4) (v := .int (5)) (ty := .int) (C := RX9) (T := TX9) (N := 26) hx hb hts hinX9 tyX9 tyX9_ok nmX9 hown hK hP hD hS 0 rfl rfl 16 (by decide) (hts (.fieldLink RX9 69 "SlotFillerModel" "sort" "I") (by decide +kernel)) (fun _ h9 => h9) rfl (by decide +kernel) rfl rfl (Nat.le_of_ble_eq_true rfl) dX9_reckons_169 (fun H locs hP hD hS => ?_)
        have hP : va_P (dC, dI) vwCl [(m0, .inr (4, [(g 0), (g 1), (g 2), (g 3), (g 4), (g 5), (g 6), (g 7), (g 8), (g 9), (g 10), (g 11), (g 12), (g 13), (g 14), .int (tg.1), .int (5), .int (tg.2.2.1), .int (tg.2.2.2.1), .long (tg.2.2.2.2.1), .long (tg.2.2.2.2.2.1), .int (tg.2.2.2.2.2.2), (g 22), (g 23), (g 24), (g 25)]))] H := hP
        have hD : va_D A [(m0, .inr (4, [(g 0), (g 1), (g 2), (g 3), (g 4), (g 5), (g 6), (g 7), (g 8), (g 9), (g 10), (g 11), (g 12), (g 13), (g 14), .int (tg.1), .int (5), .int (tg.2.2.1), .int (tg.2.2.2.1), .long (tg.2.2.2.2.1), .long (tg.2.2.2.2.2.1), .int (tg.2.2.2.2.2.2), (g 22), (g 23), (g 24), (g 25)]))] := hD
        refine lv_aload_n hx hb dX9_reckons_172 rfl (lv_at hl 0 rfl) ?_
        refine lv_aload_n hx hb dX9_reckons_173 rfl (lv_at hl 0 rfl) ?_
        refine lv_iload_n hx hb dX9_reckons_174 rfl (lv_at hl 3 rfl) ?_
        refine lv_iload_n hx hb dX9_reckons_175 rfl (lv_at hl 2 rfl) ?_
        refine md_calll (wr := []) (va_runV (As := [.int (x3), .int (x2)]) (rest := [.ref m0]) ⟨hx, hb, hml, hown, hts⟩ (kX9_fractionE l dC dI m0 g H.size x3 x2 (tg.1, 5, tg.2.2.1, tg.2.2.2.1, tg.2.2.2.2.1, tg.2.2.2.2.2.1, tg.2.2.2.2.2.2)) (cwV 2 hts gX9_reckons_X9_fraction rfl rfl rfl (by decide +kernel) ⟨Nat.le_of_ble_eq_true rfl, Nat.le_of_ble_eq_true rfl⟩) (md_preV 0 4 (q := (RX9, TX9, 26)) rfl rfl hP hK hD) rfl rfl hl.1 rfl (lv_room (Nat.le_of_ble_eq_true rfl)) dX9_reckons_176 ⟨Nat.zero_le _, Nat.zero_le _⟩) hS hA hP hD [0] [] rfl rfl (by decide) (by decide) (fun H locs hP hD hS => ?_)
        have hP : va_P (dC, dI) vwCl (wM1 m0 g (tg.1, (frS x3 x2 5), tg.2.2.1, tg.2.2.2.1, tg.2.2.2.2.1, tg.2.2.2.2.2.1, tg.2.2.2.2.2.2)) H := hP
        have hD : va_D A (wM1 m0 g (tg.1, (frS x3 x2 5), tg.2.2.1, tg.2.2.2.1, tg.2.2.2.2.1, tg.2.2.2.2.2.1, tg.2.2.2.2.2.2)) := hD
        refine lv_aload_n hx hb dX9_reckons_179 rfl (lv_at hl 0 rfl) ?_
        refine lv_iload hx hb dX9_reckons_180 (lv_at hl 5 rfl) ?_
        refine lv_iload_n hx hb dX9_reckons_182 rfl (lv_at hl 2 rfl) ?_
        refine md_calll (wr := []) (va_runV (As := [.int (x5), .int (x2)]) (rest := [.long ((frV x3 x2)), .ref m0]) ⟨hx, hb, hml, hown, hts⟩ (kX9_fractionE l dC dI m0 g H.size x5 x2 (tg.1, (frS x3 x2 5), tg.2.2.1, tg.2.2.2.1, tg.2.2.2.2.1, tg.2.2.2.2.2.1, tg.2.2.2.2.2.2)) (cwV 2 hts gX9_reckons_X9_fraction rfl rfl rfl (by decide +kernel) ⟨Nat.le_of_ble_eq_true rfl, Nat.le_of_ble_eq_true rfl⟩) (md_preV 0 4 (q := (RX9, TX9, 26)) rfl rfl hP hK hD) rfl rfl hl.1 rfl (lv_room (Nat.le_of_ble_eq_true rfl)) dX9_reckons_183 ⟨Nat.zero_le _, Nat.zero_le _⟩) hS hA hP hD [0] [] rfl rfl (by decide) (by decide) (fun H locs hP hD hS => ?_)
        have hP : va_P (dC, dI) vwCl (wM1 m0 g (tg.1, (frS x5 x2 (frS x3 x2 5)), tg.2.2.1, tg.2.2.2.1, tg.2.2.2.2.1, tg.2.2.2.2.2.1, tg.2.2.2.2.2.2)) H := hP
        have hD : va_D A (wM1 m0 g (tg.1, (frS x5 x2 (frS x3 x2 5)), tg.2.2.1, tg.2.2.2.1, tg.2.2.2.2.1, tg.2.2.2.2.2.1, tg.2.2.2.2.2.2)) := hD
        refine lv_lor hx hb dX9_reckons_186 ?_
        refine lv_iload_n hx hb dX9_reckons_187 rfl (lv_at hl 1 rfl) ?_
        refine lv_bipush (v := 17) hx hb dX9_reckons_188 (by decide) ?_
        refine lv_icmp_le (tgt := 200) hx hb dX9_reckons_190 (by decide) (fun c_5 => ?_) (fun c_5 => ?_)
        · refine lv_lconst (v := 0) hx hb dX9_reckons_200 (by decide) ?_
          exact J201 0 (tg.1, (frS x5 x2 (frS x3 x2 5)), tg.2.2.1, tg.2.2.2.1, tg.2.2.2.2.1, tg.2.2.2.2.2.1, tg.2.2.2.2.2.2) H _ ls hP hD hS (lv_sub hl [0, 1, 2, 3, 4, 5] rfl) ((show (fX9_reckons_201 x1 x2 x3 x4 x5 0 (tg.1, (frS x5 x2 (frS x3 x2 5)), tg.2.2.1, tg.2.2.2.1, tg.2.2.2.2.1, tg.2.2.2.2.2.1, tg.2.2.2.2.2.2)) = (fX9_reckons_155 x1 x2 x3 x4 x5 tg) by unfold fX9_reckons_155; rw [if_neg c_3, if_neg c_4, if_pos c_5]).trans hv)
        · refine lv_aload_n hx hb dX9_reckons_193 rfl (lv_at hl 0 rfl) ?_
          refine ro_calll (va_runV (As := []) (rest := [.long (((frV x3 x2) ||| (frV x5 x2))), .ref m0]) ⟨hx, hb, hml, hown, hts⟩ (kX9_t l dC dI m0 g H.size  (tg.1, (frS x5 x2 (frS x3 x2 5)), tg.2.2.1, tg.2.2.2.1, tg.2.2.2.2.1, tg.2.2.2.2.2.1, tg.2.2.2.2.2.2)) (cwV 0 hts gX9_reckons_X9_t rfl rfl rfl (by decide +kernel) ⟨Nat.le_of_ble_eq_true rfl, Nat.le_of_ble_eq_true rfl⟩) (ro_preV 0 4 (q := (RX9, TX9, 26)) rfl rfl hP hK) rfl rfl hl.1 rfl (lv_room (Nat.le_of_ble_eq_true rfl)) dX9_reckons_194 ⟨Nat.zero_le _, Nat.zero_le _⟩) hS hA (fun H locs kP hS => ?_)
          have hP := kP _ _ _ hP
          refine lv_goto (tgt := 201) hx hb dX9_reckons_197 (by decide) ?_
          exact J201 (rgs tg.1 16) (tg.1, (frS x5 x2 (frS x3 x2 5)), tg.2.2.1, tg.2.2.2.1, tg.2.2.2.2.1, tg.2.2.2.2.2.1, tg.2.2.2.2.2.2) H _ ls hP hD hS (lv_sub hl [0, 1, 2, 3, 4, 5] rfl) ((show (fX9_reckons_201 x1 x2 x3 x4 x5 (rgs tg.1 16) (tg.1, (frS x5 x2 (frS x3 x2 5)), tg.2.2.1, tg.2.2.2.1, tg.2.2.2.2.1, tg.2.2.2.2.2.1, tg.2.2.2.2.2.2)) = (fX9_reckons_155 x1 x2 x3 x4 x5 tg) by unfold fX9_reckons_155; rw [if_neg c_3, if_neg c_4, if_neg c_5]).trans hv)
  have J146 : ∀ (z0 : Int32) (tg : Sc) (H : Heap) (locs : List Loc) (ls : Array Slot), va_P (dC, dI) vwCl (wM1 m0 g tg) H → va_D A (wM1 m0 g tg) → va_S A s.heap H locs → lv_has ls 6 [(0, .ref m0), (1, .int (x1)), (2, .int (x2)), (3, .int (x3)), (4, .int (x4)), (5, .int (x5))] → (fX9_reckons_146 x1 x2 x3 x4 x5 z0 tg) = (fX9_reckons x1 x2 x3 x4 x5 sg) → W p l e (headSpec wsX9_reckons ({ frames := 2, cells := 0, slots := 0, locals := 41 })).room s m ([.ref m0, .int (x1), .int (x2), .int (x3), .int (x4), .int (x5)] : List Value).toArray below meth c H locs 0 0 (MQ below (md_Qv (dC, dI) (wM1 m0 g (fX9_reckons x1 x2 x3 x4 x5 sg)) (A)) ([.ref m0, .int (x1), .int (x2), .int (x3), .int (x4), .int (x5)] : List Value).toArray s 0 0 (A)) (F0 m 146 ls [.int (z0), .int (x5), .ref m0, .ref m0]) := by
    intro z0 tg H locs ls hP hD hS hl hv
    refine md_calll (wr := []) (va_runV (As := [.int (x5), .int (z0)]) (rest := [.ref m0]) ⟨hx, hb, hml, hown, hts⟩ (kX9_fractionE l dC dI m0 g H.size x5 z0 tg) (cwV 2 hts gX9_reckons_X9_fraction rfl rfl rfl (by decide +kernel) ⟨Nat.le_of_ble_eq_true rfl, Nat.le_of_ble_eq_true rfl⟩) (md_preV 0 4 (q := (RX9, TX9, 26)) rfl rfl hP hK hD) rfl rfl hl.1 rfl (lv_room (Nat.le_of_ble_eq_true rfl)) dX9_reckons_146 ⟨Nat.zero_le _, Nat.zero_le _⟩) hS hA hP hD [0] [] rfl rfl (by decide) (by decide) (fun H locs hP hD hS => ?_)
    have hP : va_P (dC, dI) vwCl (wM1 m0 g (tg.1, (frS x5 z0 tg.2.1), tg.2.2.1, tg.2.2.2.1, tg.2.2.2.2.1, tg.2.2.2.2.2.1, tg.2.2.2.2.2.2)) H := hP
    have hD : va_D A (wM1 m0 g (tg.1, (frS x5 z0 tg.2.1), tg.2.2.1, tg.2.2.2.1, tg.2.2.2.2.1, tg.2.2.2.2.2.1, tg.2.2.2.2.2.2)) := hD
    refine va_put (D := (dC, dI)) (ci := 4) (v := .long ((frV x5 z0))) (ty := .long) (C := RX9) (T := TX9) (N := 26) hx hb hts hinX9 tyX9 tyX9_ok nmX9 hown hK hP hD hS 0 rfl rfl 20 (by decide) (hts (.fieldLink RX9 76 "SlotFillerModel" "writes" "J") (by decide +kernel)) (fun _ h9 => h9) rfl (by decide +kernel) rfl rfl (Nat.le_of_ble_eq_true rfl) dX9_reckons_149 (fun H locs hP hD hS => ?_)
    have hP : va_P (dC, dI) vwCl [(m0, .inr (4, [(g 0), (g 1), (g 2), (g 3), (g 4), (g 5), (g 6), (g 7), (g 8), (g 9), (g 10), (g 11), (g 12), (g 13), (g 14), .int (tg.1), .int ((frS x5 z0 tg.2.1)), .int (tg.2.2.1), .int (tg.2.2.2.1), .long (tg.2.2.2.2.1), .long ((frV x5 z0)), .int (tg.2.2.2.2.2.2), (g 22), (g 23), (g 24), (g 25)]))] H := hP
    have hD : va_D A [(m0, .inr (4, [(g 0), (g 1), (g 2), (g 3), (g 4), (g 5), (g 6), (g 7), (g 8), (g 9), (g 10), (g 11), (g 12), (g 13), (g 14), .int (tg.1), .int ((frS x5 z0 tg.2.1)), .int (tg.2.2.1), .int (tg.2.2.2.1), .long (tg.2.2.2.2.1), .long ((frV x5 z0)), .int (tg.2.2.2.2.2.2), (g 22), (g 23), (g 24), (g 25)]))] := hD
    refine lv_goto (tgt := 266) hx hb dX9_reckons_152 (by decide) ?_
    have e9 : (tg.1, (frS x5 z0 tg.2.1), tg.2.2.1, tg.2.2.2.1, tg.2.2.2.2.1, (frV x5 z0), tg.2.2.2.2.2.2) = (fX9_reckons x1 x2 x3 x4 x5 sg) := ((show (tg.1, (frS x5 z0 tg.2.1), tg.2.2.1, tg.2.2.2.1, tg.2.2.2.2.1, (frV x5 z0), tg.2.2.2.2.2.2) = (fX9_reckons_146 x1 x2 x3 x4 x5 z0 tg) by unfold fX9_reckons_146; rfl).trans hv)
    have hP : va_P (dC, dI) vwCl (wM1 m0 g (fX9_reckons x1 x2 x3 x4 x5 sg)) H := by rw [← e9]; exact hP
    have hD : va_D A (wM1 m0 g (fX9_reckons x1 x2 x3 x4 x5 sg)) := by rw [← e9]; exact hD
    exact W.vret hx hb hr (fun t ht hW => ⟨⟨(), rfl, trivial, by rw [ht]; exact hP, hD⟩, hS.F ht⟩) hS.2.2 dX9_reckons_266
  have J141 : ∀ (tg : Sc) (H : Heap) (locs : List Loc) (ls : Array Slot), va_P (dC, dI) vwCl (wM1 m0 g tg) H → va_D A (wM1 m0 g tg) → va_S A s.heap H locs → lv_has ls 6 [(0, .ref m0), (1, .int (x1)), (2, .int (x2)), (3, .int (x3)), (4, .int (x4)), (5, .int (x5))] → (fX9_reckons_141 x1 x2 x3 x4 x5 tg) = (fX9_reckons x1 x2 x3 x4 x5 sg) → W p l e (headSpec wsX9_reckons ({ frames := 2, cells := 0, slots := 0, locals := 41 })).room s m ([.ref m0, .int (x1), .int (x2), .int (x3), .int (x4), .int (x5)] : List Value).toArray below meth c H locs 0 0 (MQ below (md_Qv (dC, dI) (wM1 m0 g (fX9_reckons x1 x2 x3 x4 x5 sg)) (A)) ([.ref m0, .int (x1), .int (x2), .int (x3), .int (x4), .int (x5)] : List Value).toArray s 0 0 (A)) (F0 m 141 ls [.int (x5), .ref m0, .ref m0]) := by
    intro tg H locs ls hP hD hS hl hv
    refine lv_iconst (v := 1) hx hb dX9_reckons_141 (by decide) ?_
    refine lv_goto (tgt := 146) hx hb dX9_reckons_142 (by decide) ?_
    exact J146 1 tg H _ ls hP hD hS (lv_sub hl [0, 1, 2, 3, 4, 5] rfl) ((show (fX9_reckons_146 x1 x2 x3 x4 x5 1 tg) = (fX9_reckons_141 x1 x2 x3 x4 x5 tg) by unfold fX9_reckons_141; rfl).trans hv)
  have J135 : ∀ (tg : Sc) (H : Heap) (locs : List Loc) (ls : Array Slot), va_P (dC, dI) vwCl (wM1 m0 g tg) H → va_D A (wM1 m0 g tg) → va_S A s.heap H locs → lv_has ls 6 [(0, .ref m0), (1, .int (x1)), (2, .int (x2)), (3, .int (x3)), (4, .int (x4)), (5, .int (x5))] → (fX9_reckons_135 x1 x2 x3 x4 x5 tg) = (fX9_reckons x1 x2 x3 x4 x5 sg) → W p l e (headSpec wsX9_reckons ({ frames := 2, cells := 0, slots := 0, locals := 41 })).room s m ([.ref m0, .int (x1), .int (x2), .int (x3), .int (x4), .int (x5)] : List Value).toArray below meth c H locs 0 0 (MQ below (md_Qv (dC, dI) (wM1 m0 g (fX9_reckons x1 x2 x3 x4 x5 sg)) (A)) ([.ref m0, .int (x1), .int (x2), .int (x3), .int (x4), .int (x5)] : List Value).toArray s 0 0 (A)) (F0 m 135 ls [.int (x5), .ref m0, .ref m0]) := by
    intro tg H locs ls hP hD hS hl hv
    refine lv_iload_n hx hb dX9_reckons_135 rfl (lv_at hl 1 rfl) ?_
    refine lv_bipush (v := 33) hx hb dX9_reckons_136 (by decide) ?_
    refine lv_icmp_ne (tgt := 145) hx hb dX9_reckons_138 (by decide) (fun c_6 => ?_) (fun c_6 => ?_)
    · refine lv_iconst (v := 0) hx hb dX9_reckons_145 (by decide) ?_
      exact J146 0 tg H _ ls hP hD hS (lv_sub hl [0, 1, 2, 3, 4, 5] rfl) ((show (fX9_reckons_146 x1 x2 x3 x4 x5 0 tg) = (fX9_reckons_135 x1 x2 x3 x4 x5 tg) by unfold fX9_reckons_135; rw [if_neg c_6]).trans hv)
    · exact J141 tg H _ ls hP hD hS (lv_sub hl [0, 1, 2, 3, 4, 5] rfl) ((show (fX9_reckons_141 x1 x2 x3 x4 x5 tg) = (fX9_reckons_135 x1 x2 x3 x4 x5 tg) by unfold fX9_reckons_135; rw [if_pos c_6]).trans hv)
  have J108 : ∀ (z0 : Int32) (tg : Sc) (H : Heap) (locs : List Loc) (ls : Array Slot), va_P (dC, dI) vwCl (wM1 m0 g tg) H → va_D A (wM1 m0 g tg) → va_S A s.heap H locs → lv_has ls 6 [(0, .ref m0), (1, .int (x1)), (2, .int (x2)), (3, .int (x3)), (4, .int (x4)), (5, .int (x5))] → (fX9_reckons_108 x1 x2 x3 x4 x5 z0 tg) = (fX9_reckons x1 x2 x3 x4 x5 sg) → W p l e (headSpec wsX9_reckons ({ frames := 2, cells := 0, slots := 0, locals := 41 })).room s m ([.ref m0, .int (x1), .int (x2), .int (x3), .int (x4), .int (x5)] : List Value).toArray below meth c H locs 0 0 (MQ below (md_Qv (dC, dI) (wM1 m0 g (fX9_reckons x1 x2 x3 x4 x5 sg)) (A)) ([.ref m0, .int (x1), .int (x2), .int (x3), .int (x4), .int (x5)] : List Value).toArray s 0 0 (A)) (F0 m 108 ls [.int (z0), .ref m0]) := by
    intro z0 tg H locs ls hP hD hS hl hv
    refine va_put (D := (dC, dI)) (ci := 4) (v := .int (z0)) (ty := .int) (C := RX9) (T := TX9) (N := 26) hx hb hts hinX9 tyX9 tyX9_ok nmX9 hown hK hP hD hS 0 rfl rfl 16 (by decide) (hts (.fieldLink RX9 69 "SlotFillerModel" "sort" "I") (by decide +kernel)) (fun _ h9 => h9) rfl (by decide +kernel) rfl rfl (Nat.le_of_ble_eq_true rfl) dX9_reckons_108 (fun H locs hP hD hS => ?_)
    have hP : va_P (dC, dI) vwCl [(m0, .inr (4, [(g 0), (g 1), (g 2), (g 3), (g 4), (g 5), (g 6), (g 7), (g 8), (g 9), (g 10), (g 11), (g 12), (g 13), (g 14), .int (tg.1), .int (z0), .int (tg.2.2.1), .int (tg.2.2.2.1), .long (tg.2.2.2.2.1), .long (tg.2.2.2.2.2.1), .int (tg.2.2.2.2.2.2), (g 22), (g 23), (g 24), (g 25)]))] H := hP
    have hD : va_D A [(m0, .inr (4, [(g 0), (g 1), (g 2), (g 3), (g 4), (g 5), (g 6), (g 7), (g 8), (g 9), (g 10), (g 11), (g 12), (g 13), (g 14), .int (tg.1), .int (z0), .int (tg.2.2.1), .int (tg.2.2.2.1), .long (tg.2.2.2.2.1), .long (tg.2.2.2.2.2.1), .int (tg.2.2.2.2.2.2), (g 22), (g 23), (g 24), (g 25)]))] := hD
    refine lv_aload_n hx hb dX9_reckons_111 rfl (lv_at hl 0 rfl) ?_
    refine lv_aload_n hx hb dX9_reckons_112 rfl (lv_at hl 0 rfl) ?_
    refine lv_iload_n hx hb dX9_reckons_113 rfl (lv_at hl 3 rfl) ?_
    refine lv_iload_n hx hb dX9_reckons_114 rfl (lv_at hl 2 rfl) ?_
    refine md_calll (wr := []) (va_runV (As := [.int (x3), .int (x2)]) (rest := [.ref m0]) ⟨hx, hb, hml, hown, hts⟩ (kX9_fractionE l dC dI m0 g H.size x3 x2 (tg.1, z0, tg.2.2.1, tg.2.2.2.1, tg.2.2.2.2.1, tg.2.2.2.2.2.1, tg.2.2.2.2.2.2)) (cwV 2 hts gX9_reckons_X9_fraction rfl rfl rfl (by decide +kernel) ⟨Nat.le_of_ble_eq_true rfl, Nat.le_of_ble_eq_true rfl⟩) (md_preV 0 4 (q := (RX9, TX9, 26)) rfl rfl hP hK hD) rfl rfl hl.1 rfl (lv_room (Nat.le_of_ble_eq_true rfl)) dX9_reckons_115 ⟨Nat.zero_le _, Nat.zero_le _⟩) hS hA hP hD [0] [] rfl rfl (by decide) (by decide) (fun H locs hP hD hS => ?_)
    have hP : va_P (dC, dI) vwCl (wM1 m0 g (tg.1, (frS x3 x2 z0), tg.2.2.1, tg.2.2.2.1, tg.2.2.2.2.1, tg.2.2.2.2.2.1, tg.2.2.2.2.2.2)) H := hP
    have hD : va_D A (wM1 m0 g (tg.1, (frS x3 x2 z0), tg.2.2.1, tg.2.2.2.1, tg.2.2.2.2.1, tg.2.2.2.2.2.1, tg.2.2.2.2.2.2)) := hD
    refine va_put (D := (dC, dI)) (ci := 4) (v := .long ((frV x3 x2))) (ty := .long) (C := RX9) (T := TX9) (N := 26) hx hb hts hinX9 tyX9 tyX9_ok nmX9 hown hK hP hD hS 0 rfl rfl 19 (by decide) (hts (.fieldLink RX9 72 "SlotFillerModel" "reads" "J") (by decide +kernel)) (fun _ h9 => h9) rfl (by decide +kernel) rfl rfl (Nat.le_of_ble_eq_true rfl) dX9_reckons_118 (fun H locs hP hD hS => ?_)
    have hP : va_P (dC, dI) vwCl [(m0, .inr (4, [(g 0), (g 1), (g 2), (g 3), (g 4), (g 5), (g 6), (g 7), (g 8), (g 9), (g 10), (g 11), (g 12), (g 13), (g 14), .int (tg.1), .int ((frS x3 x2 z0)), .int (tg.2.2.1), .int (tg.2.2.2.1), .long ((frV x3 x2)), .long (tg.2.2.2.2.2.1), .int (tg.2.2.2.2.2.2), (g 22), (g 23), (g 24), (g 25)]))] H := hP
    have hD : va_D A [(m0, .inr (4, [(g 0), (g 1), (g 2), (g 3), (g 4), (g 5), (g 6), (g 7), (g 8), (g 9), (g 10), (g 11), (g 12), (g 13), (g 14), .int (tg.1), .int ((frS x3 x2 z0)), .int (tg.2.2.1), .int (tg.2.2.2.1), .long ((frV x3 x2)), .long (tg.2.2.2.2.2.1), .int (tg.2.2.2.2.2.2), (g 22), (g 23), (g 24), (g 25)]))] := hD
    refine lv_aload_n hx hb dX9_reckons_121 rfl (lv_at hl 0 rfl) ?_
    refine lv_aload_n hx hb dX9_reckons_122 rfl (lv_at hl 0 rfl) ?_
    refine lv_iload hx hb dX9_reckons_123 (lv_at hl 5 rfl) ?_
    refine lv_iload_n hx hb dX9_reckons_125 rfl (lv_at hl 1 rfl) ?_
    refine lv_bipush (v := 8) hx hb dX9_reckons_126 (by decide) ?_
    refine lv_icmp_ge (tgt := 135) hx hb dX9_reckons_128 (by decide) (fun c_7 => ?_) (fun c_7 => ?_)
    · exact J135 (tg.1, (frS x3 x2 z0), tg.2.2.1, tg.2.2.2.1, (frV x3 x2), tg.2.2.2.2.2.1, tg.2.2.2.2.2.2) H _ ls hP hD hS (lv_sub hl [0, 1, 2, 3, 4, 5] rfl) ((show (fX9_reckons_135 x1 x2 x3 x4 x5 (tg.1, (frS x3 x2 z0), tg.2.2.1, tg.2.2.2.1, (frV x3 x2), tg.2.2.2.2.2.1, tg.2.2.2.2.2.2)) = (fX9_reckons_108 x1 x2 x3 x4 x5 z0 tg) by unfold fX9_reckons_108; rw [if_pos c_7]).trans hv)
    · refine lv_iload_n hx hb dX9_reckons_131 rfl (lv_at hl 2 rfl) ?_
      refine lv_if_ne (tgt := 141) hx hb dX9_reckons_132 (by decide) (fun c_8 => ?_) (fun c_8 => ?_)
      · exact J141 (tg.1, (frS x3 x2 z0), tg.2.2.1, tg.2.2.2.1, (frV x3 x2), tg.2.2.2.2.2.1, tg.2.2.2.2.2.2) H _ ls hP hD hS (lv_sub hl [0, 1, 2, 3, 4, 5] rfl) ((show (fX9_reckons_141 x1 x2 x3 x4 x5 (tg.1, (frS x3 x2 z0), tg.2.2.1, tg.2.2.2.1, (frV x3 x2), tg.2.2.2.2.2.1, tg.2.2.2.2.2.2)) = (fX9_reckons_108 x1 x2 x3 x4 x5 z0 tg) by unfold fX9_reckons_108; rw [if_neg c_7, if_neg c_8]).trans hv)
      · exact J135 (tg.1, (frS x3 x2 z0), tg.2.2.1, tg.2.2.2.1, (frV x3 x2), tg.2.2.2.2.2.1, tg.2.2.2.2.2.2) H _ ls hP hD hS (lv_sub hl [0, 1, 2, 3, 4, 5] rfl) ((show (fX9_reckons_135 x1 x2 x3 x4 x5 (tg.1, (frS x3 x2 z0), tg.2.2.1, tg.2.2.2.1, (frV x3 x2), tg.2.2.2.2.2.1, tg.2.2.2.2.2.2)) = (fX9_reckons_108 x1 x2 x3 x4 x5 z0 tg) by unfold fX9_reckons_108; rw [if_neg c_7, if_pos c_8]).trans hv)
  have J96 : ∀ (tg : Sc) (H : Heap) (locs : List Loc) (ls : Array Slot), va_P (dC, dI) vwCl (wM1 m0 g tg) H → va_D A (wM1 m0 g tg) → va_S A s.heap H locs → lv_has ls 6 [(0, .ref m0), (1, .int (x1)), (2, .int (x2)), (3, .int (x3)), (4, .int (x4)), (5, .int (x5))] → (fX9_reckons_96 x1 x2 x3 x4 x5 tg) = (fX9_reckons x1 x2 x3 x4 x5 sg) → W p l e (headSpec wsX9_reckons ({ frames := 2, cells := 0, slots := 0, locals := 41 })).room s m ([.ref m0, .int (x1), .int (x2), .int (x3), .int (x4), .int (x5)] : List Value).toArray below meth c H locs 0 0 (MQ below (md_Qv (dC, dI) (wM1 m0 g (fX9_reckons x1 x2 x3 x4 x5 sg)) (A)) ([.ref m0, .int (x1), .int (x2), .int (x3), .int (x4), .int (x5)] : List Value).toArray s 0 0 (A)) (F0 m 96 ls []) := by
    intro tg H locs ls hP hD hS hl hv
    refine lv_aload_n hx hb dX9_reckons_96 rfl (lv_at hl 0 rfl) ?_
    refine lv_iload_n hx hb dX9_reckons_97 rfl (lv_at hl 1 rfl) ?_
    refine lv_iconst (v := 4) hx hb dX9_reckons_98 (by decide) ?_
    refine lv_icmp_ne (tgt := 107) hx hb dX9_reckons_99 (by decide) (fun c_9 => ?_) (fun c_9 => ?_)
    · refine lv_iconst (v := 5) hx hb dX9_reckons_107 (by decide) ?_
      exact J108 5 tg H _ ls hP hD hS (lv_sub hl [0, 1, 2, 3, 4, 5] rfl) ((show (fX9_reckons_108 x1 x2 x3 x4 x5 5 tg) = (fX9_reckons_96 x1 x2 x3 x4 x5 tg) by unfold fX9_reckons_96; rw [if_neg c_9]).trans hv)
    · refine lv_bipush (v := 6) hx hb dX9_reckons_102 (by decide) ?_
      refine lv_goto (tgt := 108) hx hb dX9_reckons_104 (by decide) ?_
      exact J108 6 tg H _ ls hP hD hS (lv_sub hl [0, 1, 2, 3, 4, 5] rfl) ((show (fX9_reckons_108 x1 x2 x3 x4 x5 6 tg) = (fX9_reckons_96 x1 x2 x3 x4 x5 tg) by unfold fX9_reckons_96; rw [if_pos c_9]).trans hv)
  have J86 : ∀ (tg : Sc) (H : Heap) (locs : List Loc) (ls : Array Slot), va_P (dC, dI) vwCl (wM1 m0 g tg) H → va_D A (wM1 m0 g tg) → va_S A s.heap H locs → lv_has ls 6 [(0, .ref m0), (1, .int (x1)), (2, .int (x2)), (3, .int (x3)), (4, .int (x4)), (5, .int (x5))] → (fX9_reckons_86 x1 x2 x3 x4 x5 tg) = (fX9_reckons x1 x2 x3 x4 x5 sg) → W p l e (headSpec wsX9_reckons ({ frames := 2, cells := 0, slots := 0, locals := 41 })).room s m ([.ref m0, .int (x1), .int (x2), .int (x3), .int (x4), .int (x5)] : List Value).toArray below meth c H locs 0 0 (MQ below (md_Qv (dC, dI) (wM1 m0 g (fX9_reckons x1 x2 x3 x4 x5 sg)) (A)) ([.ref m0, .int (x1), .int (x2), .int (x3), .int (x4), .int (x5)] : List Value).toArray s 0 0 (A)) (F0 m 86 ls []) := by
    intro tg H locs ls hP hD hS hl hv
    refine lv_iload_n hx hb dX9_reckons_86 rfl (lv_at hl 1 rfl) ?_
    refine lv_bipush (v := 33) hx hb dX9_reckons_87 (by decide) ?_
    refine lv_icmp_ne (tgt := 155) hx hb dX9_reckons_89 (by decide) (fun c_10 => ?_) (fun c_10 => ?_)
    · exact J155 tg H _ ls hP hD hS (lv_sub hl [0, 1, 2, 3, 4, 5] rfl) ((show (fX9_reckons_155 x1 x2 x3 x4 x5 tg) = (fX9_reckons_86 x1 x2 x3 x4 x5 tg) by unfold fX9_reckons_86; rw [if_neg c_10]).trans hv)
    · refine lv_iload_n hx hb dX9_reckons_92 rfl (lv_at hl 2 rfl) ?_
      refine lv_if_ne (tgt := 155) hx hb dX9_reckons_93 (by decide) (fun c_11 => ?_) (fun c_11 => ?_)
      · exact J155 tg H _ ls hP hD hS (lv_sub hl [0, 1, 2, 3, 4, 5] rfl) ((show (fX9_reckons_155 x1 x2 x3 x4 x5 tg) = (fX9_reckons_86 x1 x2 x3 x4 x5 tg) by unfold fX9_reckons_86; rw [if_pos c_10, if_neg c_11]).trans hv)
      · exact J96 tg H _ ls hP hD hS (lv_sub hl [0, 1, 2, 3, 4, 5] rfl) ((show (fX9_reckons_96 x1 x2 x3 x4 x5 tg) = (fX9_reckons_86 x1 x2 x3 x4 x5 tg) by unfold fX9_reckons_86; rw [if_pos c_10, if_pos c_11]).trans hv)
  have J70 : ∀ (tg : Sc) (H : Heap) (locs : List Loc) (ls : Array Slot), va_P (dC, dI) vwCl (wM1 m0 g tg) H → va_D A (wM1 m0 g tg) → va_S A s.heap H locs → lv_has ls 6 [(0, .ref m0), (1, .int (x1)), (2, .int (x2)), (3, .int (x3)), (4, .int (x4)), (5, .int (x5))] → (fX9_reckons_70 x1 x2 x3 x4 x5 tg) = (fX9_reckons x1 x2 x3 x4 x5 sg) → W p l e (headSpec wsX9_reckons ({ frames := 2, cells := 0, slots := 0, locals := 41 })).room s m ([.ref m0, .int (x1), .int (x2), .int (x3), .int (x4), .int (x5)] : List Value).toArray below meth c H locs 0 0 (MQ below (md_Qv (dC, dI) (wM1 m0 g (fX9_reckons x1 x2 x3 x4 x5 sg)) (A)) ([.ref m0, .int (x1), .int (x2), .int (x3), .int (x4), .int (x5)] : List Value).toArray s 0 0 (A)) (F0 m 70 ls []) := by
    intro tg H locs ls hP hD hS hl hv
    refine lv_iload_n hx hb dX9_reckons_70 rfl (lv_at hl 1 rfl) ?_
    refine lv_bipush (v := 36) hx hb dX9_reckons_71 (by decide) ?_
    refine lv_icmp_eq (tgt := 96) hx hb dX9_reckons_73 (by decide) (fun c_12 => ?_) (fun c_12 => ?_)
    · exact J96 tg H _ ls hP hD hS (lv_sub hl [0, 1, 2, 3, 4, 5] rfl) ((show (fX9_reckons_96 x1 x2 x3 x4 x5 tg) = (fX9_reckons_70 x1 x2 x3 x4 x5 tg) by unfold fX9_reckons_70; rw [if_pos c_12]).trans hv)
    · refine lv_iload_n hx hb dX9_reckons_76 rfl (lv_at hl 1 rfl) ?_
      refine lv_bipush (v := 32) hx hb dX9_reckons_77 (by decide) ?_
      refine lv_icmp_ne (tgt := 86) hx hb dX9_reckons_79 (by decide) (fun c_13 => ?_) (fun c_13 => ?_)
      · exact J86 tg H _ ls hP hD hS (lv_sub hl [0, 1, 2, 3, 4, 5] rfl) ((show (fX9_reckons_86 x1 x2 x3 x4 x5 tg) = (fX9_reckons_70 x1 x2 x3 x4 x5 tg) by unfold fX9_reckons_70; rw [if_neg c_12, if_neg c_13]).trans hv)
      · refine lv_iload_n hx hb dX9_reckons_82 rfl (lv_at hl 2 rfl) ?_
        refine lv_if_ne (tgt := 96) hx hb dX9_reckons_83 (by decide) (fun c_14 => ?_) (fun c_14 => ?_)
        · exact J96 tg H _ ls hP hD hS (lv_sub hl [0, 1, 2, 3, 4, 5] rfl) ((show (fX9_reckons_96 x1 x2 x3 x4 x5 tg) = (fX9_reckons_70 x1 x2 x3 x4 x5 tg) by unfold fX9_reckons_70; rw [if_neg c_12, if_pos c_13, if_neg c_14]).trans hv)
        · exact J86 tg H _ ls hP hD hS (lv_sub hl [0, 1, 2, 3, 4, 5] rfl) ((show (fX9_reckons_86 x1 x2 x3 x4 x5 tg) = (fX9_reckons_70 x1 x2 x3 x4 x5 tg) by unfold fX9_reckons_70; rw [if_neg c_12, if_pos c_13, if_pos c_14]).trans hv)
  have J17 : ∀ (z0 : Int32) (tg : Sc) (H : Heap) (locs : List Loc) (ls : Array Slot), va_P (dC, dI) vwCl (wM1 m0 g tg) H → va_D A (wM1 m0 g tg) → va_S A s.heap H locs → lv_has ls 6 [(0, .ref m0), (1, .int (x1)), (2, .int (x2)), (3, .int (x3)), (4, .int (x4)), (5, .int (x5))] → (fX9_reckons_17 x1 x2 x3 x4 x5 z0 tg) = (fX9_reckons x1 x2 x3 x4 x5 sg) → W p l e (headSpec wsX9_reckons ({ frames := 2, cells := 0, slots := 0, locals := 41 })).room s m ([.ref m0, .int (x1), .int (x2), .int (x3), .int (x4), .int (x5)] : List Value).toArray below meth c H locs 0 0 (MQ below (md_Qv (dC, dI) (wM1 m0 g (fX9_reckons x1 x2 x3 x4 x5 sg)) (A)) ([.ref m0, .int (x1), .int (x2), .int (x3), .int (x4), .int (x5)] : List Value).toArray s 0 0 (A)) (F0 m 17 ls [.int (z0), .ref m0]) := by
    intro z0 tg H locs ls hP hD hS hl hv
    refine va_put (D := (dC, dI)) (ci := 4) (v := .int (z0)) (ty := .int) (C := RX9) (T := TX9) (N := 26) hx hb hts hinX9 tyX9 tyX9_ok nmX9 hown hK hP hD hS 0 rfl rfl 16 (by decide) (hts (.fieldLink RX9 69 "SlotFillerModel" "sort" "I") (by decide +kernel)) (fun _ h9 => h9) rfl (by decide +kernel) rfl rfl (Nat.le_of_ble_eq_true rfl) dX9_reckons_17 (fun H locs hP hD hS => ?_)
    have hP : va_P (dC, dI) vwCl [(m0, .inr (4, [(g 0), (g 1), (g 2), (g 3), (g 4), (g 5), (g 6), (g 7), (g 8), (g 9), (g 10), (g 11), (g 12), (g 13), (g 14), .int (tg.1), .int (z0), .int (tg.2.2.1), .int (tg.2.2.2.1), .long (tg.2.2.2.2.1), .long (tg.2.2.2.2.2.1), .int (tg.2.2.2.2.2.2), (g 22), (g 23), (g 24), (g 25)]))] H := hP
    have hD : va_D A [(m0, .inr (4, [(g 0), (g 1), (g 2), (g 3), (g 4), (g 5), (g 6), (g 7), (g 8), (g 9), (g 10), (g 11), (g 12), (g 13), (g 14), .int (tg.1), .int (z0), .int (tg.2.2.1), .int (tg.2.2.2.1), .long (tg.2.2.2.2.1), .long (tg.2.2.2.2.2.1), .int (tg.2.2.2.2.2.2), (g 22), (g 23), (g 24), (g 25)]))] := hD
    refine lv_aload_n hx hb dX9_reckons_20 rfl (lv_at hl 0 rfl) ?_
    refine lv_aload_n hx hb dX9_reckons_21 rfl (lv_at hl 0 rfl) ?_
    refine lv_iload_n hx hb dX9_reckons_22 rfl (lv_at hl 3 rfl) ?_
    refine lv_iload_n hx hb dX9_reckons_23 rfl (lv_at hl 2 rfl) ?_
    refine md_calll (wr := []) (va_runV (As := [.int (x3), .int (x2)]) (rest := [.ref m0]) ⟨hx, hb, hml, hown, hts⟩ (kX9_fractionE l dC dI m0 g H.size x3 x2 (tg.1, z0, tg.2.2.1, tg.2.2.2.1, tg.2.2.2.2.1, tg.2.2.2.2.2.1, tg.2.2.2.2.2.2)) (cwV 2 hts gX9_reckons_X9_fraction rfl rfl rfl (by decide +kernel) ⟨Nat.le_of_ble_eq_true rfl, Nat.le_of_ble_eq_true rfl⟩) (md_preV 0 4 (q := (RX9, TX9, 26)) rfl rfl hP hK hD) rfl rfl hl.1 rfl (lv_room (Nat.le_of_ble_eq_true rfl)) dX9_reckons_24 ⟨Nat.zero_le _, Nat.zero_le _⟩) hS hA hP hD [0] [] rfl rfl (by decide) (by decide) (fun H locs hP hD hS => ?_)
    have hP : va_P (dC, dI) vwCl (wM1 m0 g (tg.1, (frS x3 x2 z0), tg.2.2.1, tg.2.2.2.1, tg.2.2.2.2.1, tg.2.2.2.2.2.1, tg.2.2.2.2.2.2)) H := hP
    have hD : va_D A (wM1 m0 g (tg.1, (frS x3 x2 z0), tg.2.2.1, tg.2.2.2.1, tg.2.2.2.2.1, tg.2.2.2.2.2.1, tg.2.2.2.2.2.2)) := hD
    refine lv_aload_n hx hb dX9_reckons_27 rfl (lv_at hl 0 rfl) ?_
    refine lv_iload hx hb dX9_reckons_28 (lv_at hl 4 rfl) ?_
    refine lv_iload_n hx hb dX9_reckons_30 rfl (lv_at hl 2 rfl) ?_
    refine md_calll (wr := []) (va_runV (As := [.int (x4), .int (x2)]) (rest := [.long ((frV x3 x2)), .ref m0]) ⟨hx, hb, hml, hown, hts⟩ (kX9_fractionE l dC dI m0 g H.size x4 x2 (tg.1, (frS x3 x2 z0), tg.2.2.1, tg.2.2.2.1, tg.2.2.2.2.1, tg.2.2.2.2.2.1, tg.2.2.2.2.2.2)) (cwV 2 hts gX9_reckons_X9_fraction rfl rfl rfl (by decide +kernel) ⟨Nat.le_of_ble_eq_true rfl, Nat.le_of_ble_eq_true rfl⟩) (md_preV 0 4 (q := (RX9, TX9, 26)) rfl rfl hP hK hD) rfl rfl hl.1 rfl (lv_room (Nat.le_of_ble_eq_true rfl)) dX9_reckons_31 ⟨Nat.zero_le _, Nat.zero_le _⟩) hS hA hP hD [0] [] rfl rfl (by decide) (by decide) (fun H locs hP hD hS => ?_)
    have hP : va_P (dC, dI) vwCl (wM1 m0 g (tg.1, (frS x4 x2 (frS x3 x2 z0)), tg.2.2.1, tg.2.2.2.1, tg.2.2.2.2.1, tg.2.2.2.2.2.1, tg.2.2.2.2.2.2)) H := hP
    have hD : va_D A (wM1 m0 g (tg.1, (frS x4 x2 (frS x3 x2 z0)), tg.2.2.1, tg.2.2.2.1, tg.2.2.2.2.1, tg.2.2.2.2.2.1, tg.2.2.2.2.2.2)) := hD
    refine lv_lor hx hb dX9_reckons_34 ?_
    refine va_put (D := (dC, dI)) (ci := 4) (v := .long (((frV x3 x2) ||| (frV x4 x2)))) (ty := .long) (C := RX9) (T := TX9) (N := 26) hx hb hts hinX9 tyX9 tyX9_ok nmX9 hown hK hP hD hS 0 rfl rfl 19 (by decide) (hts (.fieldLink RX9 72 "SlotFillerModel" "reads" "J") (by decide +kernel)) (fun _ h9 => h9) rfl (by decide +kernel) rfl rfl (Nat.le_of_ble_eq_true rfl) dX9_reckons_35 (fun H locs hP hD hS => ?_)
    have hP : va_P (dC, dI) vwCl [(m0, .inr (4, [(g 0), (g 1), (g 2), (g 3), (g 4), (g 5), (g 6), (g 7), (g 8), (g 9), (g 10), (g 11), (g 12), (g 13), (g 14), .int (tg.1), .int ((frS x4 x2 (frS x3 x2 z0))), .int (tg.2.2.1), .int (tg.2.2.2.1), .long (((frV x3 x2) ||| (frV x4 x2))), .long (tg.2.2.2.2.2.1), .int (tg.2.2.2.2.2.2), (g 22), (g 23), (g 24), (g 25)]))] H := hP
    have hD : va_D A [(m0, .inr (4, [(g 0), (g 1), (g 2), (g 3), (g 4), (g 5), (g 6), (g 7), (g 8), (g 9), (g 10), (g 11), (g 12), (g 13), (g 14), .int (tg.1), .int ((frS x4 x2 (frS x3 x2 z0))), .int (tg.2.2.1), .int (tg.2.2.2.1), .long (((frV x3 x2) ||| (frV x4 x2))), .long (tg.2.2.2.2.2.1), .int (tg.2.2.2.2.2.2), (g 22), (g 23), (g 24), (g 25)]))] := hD
    refine lv_aload_n hx hb dX9_reckons_38 rfl (lv_at hl 0 rfl) ?_
    refine lv_aload_n hx hb dX9_reckons_39 rfl (lv_at hl 0 rfl) ?_
    refine lv_iload hx hb dX9_reckons_40 (lv_at hl 5 rfl) ?_
    refine lv_iload_n hx hb dX9_reckons_42 rfl (lv_at hl 2 rfl) ?_
    refine md_calll (wr := []) (va_runV (As := [.int (x5), .int (x2)]) (rest := [.ref m0]) ⟨hx, hb, hml, hown, hts⟩ (kX9_fractionE l dC dI m0 g H.size x5 x2 (tg.1, (frS x4 x2 (frS x3 x2 z0)), tg.2.2.1, tg.2.2.2.1, ((frV x3 x2) ||| (frV x4 x2)), tg.2.2.2.2.2.1, tg.2.2.2.2.2.2)) (cwV 2 hts gX9_reckons_X9_fraction rfl rfl rfl (by decide +kernel) ⟨Nat.le_of_ble_eq_true rfl, Nat.le_of_ble_eq_true rfl⟩) (md_preV 0 4 (q := (RX9, TX9, 26)) rfl rfl hP hK hD) rfl rfl hl.1 rfl (lv_room (Nat.le_of_ble_eq_true rfl)) dX9_reckons_43 ⟨Nat.zero_le _, Nat.zero_le _⟩) hS hA hP hD [0] [] rfl rfl (by decide) (by decide) (fun H locs hP hD hS => ?_)
    have hP : va_P (dC, dI) vwCl (wM1 m0 g (tg.1, (frS x5 x2 (frS x4 x2 (frS x3 x2 z0))), tg.2.2.1, tg.2.2.2.1, ((frV x3 x2) ||| (frV x4 x2)), tg.2.2.2.2.2.1, tg.2.2.2.2.2.2)) H := hP
    have hD : va_D A (wM1 m0 g (tg.1, (frS x5 x2 (frS x4 x2 (frS x3 x2 z0))), tg.2.2.1, tg.2.2.2.1, ((frV x3 x2) ||| (frV x4 x2)), tg.2.2.2.2.2.1, tg.2.2.2.2.2.2)) := hD
    refine va_put (D := (dC, dI)) (ci := 4) (v := .long ((frV x5 x2))) (ty := .long) (C := RX9) (T := TX9) (N := 26) hx hb hts hinX9 tyX9 tyX9_ok nmX9 hown hK hP hD hS 0 rfl rfl 20 (by decide) (hts (.fieldLink RX9 76 "SlotFillerModel" "writes" "J") (by decide +kernel)) (fun _ h9 => h9) rfl (by decide +kernel) rfl rfl (Nat.le_of_ble_eq_true rfl) dX9_reckons_46 (fun H locs hP hD hS => ?_)
    have hP : va_P (dC, dI) vwCl [(m0, .inr (4, [(g 0), (g 1), (g 2), (g 3), (g 4), (g 5), (g 6), (g 7), (g 8), (g 9), (g 10), (g 11), (g 12), (g 13), (g 14), .int (tg.1), .int ((frS x5 x2 (frS x4 x2 (frS x3 x2 z0)))), .int (tg.2.2.1), .int (tg.2.2.2.1), .long (((frV x3 x2) ||| (frV x4 x2))), .long ((frV x5 x2)), .int (tg.2.2.2.2.2.2), (g 22), (g 23), (g 24), (g 25)]))] H := hP
    have hD : va_D A [(m0, .inr (4, [(g 0), (g 1), (g 2), (g 3), (g 4), (g 5), (g 6), (g 7), (g 8), (g 9), (g 10), (g 11), (g 12), (g 13), (g 14), .int (tg.1), .int ((frS x5 x2 (frS x4 x2 (frS x3 x2 z0)))), .int (tg.2.2.1), .int (tg.2.2.2.1), .long (((frV x3 x2) ||| (frV x4 x2))), .long ((frV x5 x2)), .int (tg.2.2.2.2.2.2), (g 22), (g 23), (g 24), (g 25)]))] := hD
    refine lv_goto (tgt := 266) hx hb dX9_reckons_49 (by decide) ?_
    have e9 : (tg.1, (frS x5 x2 (frS x4 x2 (frS x3 x2 z0))), tg.2.2.1, tg.2.2.2.1, ((frV x3 x2) ||| (frV x4 x2)), (frV x5 x2), tg.2.2.2.2.2.2) = (fX9_reckons x1 x2 x3 x4 x5 sg) := ((show (tg.1, (frS x5 x2 (frS x4 x2 (frS x3 x2 z0))), tg.2.2.1, tg.2.2.2.1, ((frV x3 x2) ||| (frV x4 x2)), (frV x5 x2), tg.2.2.2.2.2.2) = (fX9_reckons_17 x1 x2 x3 x4 x5 z0 tg) by unfold fX9_reckons_17; rfl).trans hv)
    have hP : va_P (dC, dI) vwCl (wM1 m0 g (fX9_reckons x1 x2 x3 x4 x5 sg)) H := by rw [← e9]; exact hP
    have hD : va_D A (wM1 m0 g (fX9_reckons x1 x2 x3 x4 x5 sg)) := by rw [← e9]; exact hD
    exact W.vret hx hb hr (fun t ht hW => ⟨⟨(), rfl, trivial, by rw [ht]; exact hP, hD⟩, hS.F ht⟩) hS.2.2 dX9_reckons_266
  refine lv_iload_n hx hb dX9_reckons_0 rfl (lv_at hl 1 rfl) ?_
  refine lv_iconst (v := 4) hx hb dX9_reckons_1 (by decide) ?_
  refine lv_icmp_ge (tgt := 52) hx hb dX9_reckons_2 (by decide) (fun c_15 => ?_) (fun c_15 => ?_)
  · refine lv_iload_n hx hb dX9_reckons_52 rfl (lv_at hl 1 rfl) ?_
    refine lv_bipush (v := 8) hx hb dX9_reckons_53 (by decide) ?_
    refine lv_icmp_lt (tgt := 96) hx hb dX9_reckons_55 (by decide) (fun c_16 => ?_) (fun c_16 => ?_)
    · exact J96 sg s.heap _ ls hP hD hS (lv_sub hl [0, 1, 2, 3, 4, 5] rfl) ((show (fX9_reckons_96 x1 x2 x3 x4 x5 sg) = (fX9_reckons x1 x2 x3 x4 x5 sg) by unfold fX9_reckons; rw [if_pos c_15, if_pos c_16]).trans hv)
    · refine lv_iload_n hx hb dX9_reckons_58 rfl (lv_at hl 1 rfl) ?_
      refine lv_bipush (v := 12) hx hb dX9_reckons_59 (by decide) ?_
      refine lv_icmp_lt (tgt := 70) hx hb dX9_reckons_61 (by decide) (fun c_17 => ?_) (fun c_17 => ?_)
      · exact J70 sg s.heap _ ls hP hD hS (lv_sub hl [0, 1, 2, 3, 4, 5] rfl) ((show (fX9_reckons_70 x1 x2 x3 x4 x5 sg) = (fX9_reckons x1 x2 x3 x4 x5 sg) by unfold fX9_reckons; rw [if_pos c_15, if_neg c_16, if_pos c_17]).trans hv)
      · refine lv_iload_n hx hb dX9_reckons_64 rfl (lv_at hl 1 rfl) ?_
        refine lv_bipush (v := 16) hx hb dX9_reckons_65 (by decide) ?_
        refine lv_icmp_lt (tgt := 96) hx hb dX9_reckons_67 (by decide) (fun c_18 => ?_) (fun c_18 => ?_)
        · exact J96 sg s.heap _ ls hP hD hS (lv_sub hl [0, 1, 2, 3, 4, 5] rfl) ((show (fX9_reckons_96 x1 x2 x3 x4 x5 sg) = (fX9_reckons x1 x2 x3 x4 x5 sg) by unfold fX9_reckons; rw [if_pos c_15, if_neg c_16, if_neg c_17, if_pos c_18]).trans hv)
        · exact J70 sg s.heap _ ls hP hD hS (lv_sub hl [0, 1, 2, 3, 4, 5] rfl) ((show (fX9_reckons_70 x1 x2 x3 x4 x5 sg) = (fX9_reckons x1 x2 x3 x4 x5 sg) by unfold fX9_reckons; rw [if_pos c_15, if_neg c_16, if_neg c_17, if_neg c_18]).trans hv)
  · refine lv_aload_n hx hb dX9_reckons_5 rfl (lv_at hl 0 rfl) ?_
    refine lv_iload_n hx hb dX9_reckons_6 rfl (lv_at hl 1 rfl) ?_
    refine lv_iconst (v := 3) hx hb dX9_reckons_7 (by decide) ?_
    refine lv_icmp_ne (tgt := 16) hx hb dX9_reckons_8 (by decide) (fun c_19 => ?_) (fun c_19 => ?_)
    · refine lv_iconst (v := 5) hx hb dX9_reckons_16 (by decide) ?_
      exact J17 5 sg s.heap _ ls hP hD hS (lv_sub hl [0, 1, 2, 3, 4, 5] rfl) ((show (fX9_reckons_17 x1 x2 x3 x4 x5 5 sg) = (fX9_reckons x1 x2 x3 x4 x5 sg) by unfold fX9_reckons; rw [if_neg c_15, if_neg c_19]).trans hv)
    · refine lv_bipush (v := 6) hx hb dX9_reckons_11 (by decide) ?_
      refine lv_goto (tgt := 17) hx hb dX9_reckons_13 (by decide) ?_
      exact J17 6 sg s.heap _ ls hP hD hS (lv_sub hl [0, 1, 2, 3, 4, 5] rfl) ((show (fX9_reckons_17 x1 x2 x3 x4 x5 6 sg) = (fX9_reckons x1 x2 x3 x4 x5 sg) by unfold fX9_reckons; rw [if_neg c_15, if_pos c_19]).trans hv)
def fX9_fractions_221 (v2 : Int32) (v1 : Int32) (z0 : Int32) (z1 : Int32) (tg : Sc) : Sc := (tg.1, (frS z1 z0 tg.2.1), tg.2.2.1, tg.2.2.2.1, tg.2.2.2.2.1, (frV z1 z0), tg.2.2.2.2.2.2)
def fX9_fractions_184 (v2 : Int32) (v1 : Int32) (tg : Sc) : Sc := if (tg.1 &&& 63) = 33 then (fX9_fractions_221 v2 v1 1 (fld tg.1 6) (tg.1, 5, tg.2.2.1, tg.2.2.2.1, (lsh 1 (32 + v2)), 0, tg.2.2.2.2.2.2)) else (fX9_fractions_221 v2 v1 0 (fld tg.1 6) (tg.1, 5, tg.2.2.1, tg.2.2.2.1, (lsh 1 (32 + v2)), 0, tg.2.2.2.2.2.2))
def fX9_fractions_135 (v2 : Int32) (v1 : Int32) (z0 : Int32) (z1 : Int32) (tg : Sc) : Sc := (fX9_reckons z1 z0 v2 (fld tg.1 16) (fld tg.1 6) tg)
def fX9_fractions_116 (v2 : Int32) (v1 : Int32) (tg : Sc) : Sc := if v1 = 17 then (fX9_fractions_135 v2 v1 1 (tg.1 &&& 63) tg) else (fX9_fractions_135 v2 v1 0 (tg.1 &&& 63) tg)
def fX9_fractions  (sg : Sc) : Sc := if (fld sg.1 21) = 0 then (sg.1, 0, sg.2.2.1, sg.2.2.2.1, (lsh 1 (32 + (fld sg.1 11))), (rgs sg.1 16), sg.2.2.2.2.2.2) else if (fld sg.1 21) = 4 then (sg.1, 0, sg.2.2.1, sg.2.2.2.1, (rgs sg.1 16), (lsh 1 (32 + (fld sg.1 11))), sg.2.2.2.2.2.2) else if (fld sg.1 21) = 8 then if ((ush sg.1 17) &&& 1) = 1 then (sg.1, 7, 1, 0, 0, 0, 1) else (sg.1, 7, 1, 0, 0, 0, 0) else if (fld sg.1 21) = 16 then (fX9_fractions_116 (fld sg.1 11) (fld sg.1 21) sg) else if (fld sg.1 21) = 17 then (fX9_fractions_116 (fld sg.1 11) (fld sg.1 21) sg) else if (fld sg.1 21) = 20 then if (sg.1 &&& 63) = 32 then (fX9_fractions_184 (fld sg.1 11) (fld sg.1 21) sg) else if (sg.1 &&& 63) = 33 then (fX9_fractions_184 (fld sg.1 11) (fld sg.1 21) sg) else sg else sg
set_option maxHeartbeats 4000000 in
set_option maxRecDepth 100000 in
theorem kX9_fractions (l : Launch) (dC : Nat → ClassId) (dI : Nat → Nat → Nat) (m0 : Nat) (g : Nat → Value) (sz : Nat)  (sg : Sc) : Met l yX9_fractions wsX9_fractions ({ frames := 3, cells := 0, slots := 0, locals := 66 }) (md_Pc (dC, dI) (wM1 m0 g sg) [] [.ref m0] sz) (md_Qv (dC, dI) (wM1 m0 g (fX9_fractions  sg)) (va_A (wM1 m0 g sg) sz)) 0 0 (va_A (wM1 m0 g sg) sz) := by
  refine Met.ofW (cc := cX9_fractions) (maxL := 3) (ret := none) (by decide) rfl ?_
  intro p e s m args below meth c s₁ B0 hml hv
  obtain ⟨rfl, hsz, hP, hK, hD0⟩ := hv
  have hx := B0.exec
  have hb := B0.bytes
  have hr := B0.returns
  have hts := atoms_spec (ws := wsX9_fractions) B0.pre
  have hown : s.vm.findClass RX9 = some m.cls := findClass_of_methodNamed B0.named
  have hlocks := B0.notSynchronized
  have hinX9 : ∀ w ∈ wsX90, w ∈ wsX9_fractions := fun w h => List.mem_cons_of_mem _ (List.mem_append_right _ (h))
  subst hsz
  have hD := hD0.self (sz := s.heap.size)
  generalize hAe : va_A (wM1 m0 g sg) s.heap.size = A at hD ⊢
  have hA : ∀ q : Nat, s.heap.size ≤ q → A q := fun q h => by rw [← hAe]; exact Or.inr h
  have hS : va_S A s.heap s.heap [] := va_S.rf
  have hl := lv_entry ([.ref m0]) (n := 3) (Nat.le_of_ble_eq_true rfl)
  rw [lg_entry_eq]
  generalize (lg_sl ([.ref m0]) ++ List.replicate (3 - (lg_sl ([.ref m0])).length) Slot.unset).toArray = ls at hl ⊢
  have hl : lv_has ls 3 [(0, .ref m0)] := hl
  have hv : (fX9_fractions  sg) = (fX9_fractions  sg) := rfl
  have J221 : ∀ (v2 : Int32) (v1 : Int32) (z0 : Int32) (z1 : Int32) (tg : Sc) (H : Heap) (locs : List Loc) (ls : Array Slot), va_P (dC, dI) vwCl (wM1 m0 g tg) H → va_D A (wM1 m0 g tg) → va_S A s.heap H locs → lv_has ls 3 [(2, .int (v2)), (1, .int (v1)), (0, .ref m0)] → (fX9_fractions_221 v2 v1 z0 z1 tg) = (fX9_fractions  sg) → W p l e (headSpec wsX9_fractions ({ frames := 3, cells := 0, slots := 0, locals := 66 })).room s m ([.ref m0] : List Value).toArray below meth c H locs 0 0 (MQ below (md_Qv (dC, dI) (wM1 m0 g (fX9_fractions  sg)) (A)) ([.ref m0] : List Value).toArray s 0 0 (A)) (F0 m 221 ls [.int (z0), .int (z1), .ref m0, .ref m0]) := by
    intro v2 v1 z0 z1 tg H locs ls hP hD hS hl hv
    refine md_calll (wr := []) (va_runV (As := [.int (z1), .int (z0)]) (rest := [.ref m0]) ⟨hx, hb, hml, hown, hts⟩ (kX9_fractionE l dC dI m0 g H.size z1 z0 tg) (cwV 2 hts gX9_fractions_X9_fraction rfl rfl rfl (by decide +kernel) ⟨Nat.le_of_ble_eq_true rfl, Nat.le_of_ble_eq_true rfl⟩) (md_preV 0 4 (q := (RX9, TX9, 26)) rfl rfl hP hK hD) rfl rfl hl.1 rfl (lv_room (Nat.le_of_ble_eq_true rfl)) dX9_fractions_221 ⟨Nat.zero_le _, Nat.zero_le _⟩) hS hA hP hD [0] [] rfl rfl (by decide) (by decide) (fun H locs hP hD hS => ?_)
    have hP : va_P (dC, dI) vwCl (wM1 m0 g (tg.1, (frS z1 z0 tg.2.1), tg.2.2.1, tg.2.2.2.1, tg.2.2.2.2.1, tg.2.2.2.2.2.1, tg.2.2.2.2.2.2)) H := hP
    have hD : va_D A (wM1 m0 g (tg.1, (frS z1 z0 tg.2.1), tg.2.2.1, tg.2.2.2.1, tg.2.2.2.2.1, tg.2.2.2.2.2.1, tg.2.2.2.2.2.2)) := hD
    refine va_put (D := (dC, dI)) (ci := 4) (v := .long ((frV z1 z0))) (ty := .long) (C := RX9) (T := TX9) (N := 26) hx hb hts hinX9 tyX9 tyX9_ok nmX9 hown hK hP hD hS 0 rfl rfl 20 (by decide) (hts (.fieldLink RX9 76 "SlotFillerModel" "writes" "J") (by decide +kernel)) (fun _ h9 => h9) rfl (by decide +kernel) rfl rfl (Nat.le_of_ble_eq_true rfl) dX9_fractions_224 (fun H locs hP hD hS => ?_)
    have hP : va_P (dC, dI) vwCl [(m0, .inr (4, [(g 0), (g 1), (g 2), (g 3), (g 4), (g 5), (g 6), (g 7), (g 8), (g 9), (g 10), (g 11), (g 12), (g 13), (g 14), .int (tg.1), .int ((frS z1 z0 tg.2.1)), .int (tg.2.2.1), .int (tg.2.2.2.1), .long (tg.2.2.2.2.1), .long ((frV z1 z0)), .int (tg.2.2.2.2.2.2), (g 22), (g 23), (g 24), (g 25)]))] H := hP
    have hD : va_D A [(m0, .inr (4, [(g 0), (g 1), (g 2), (g 3), (g 4), (g 5), (g 6), (g 7), (g 8), (g 9), (g 10), (g 11), (g 12), (g 13), (g 14), .int (tg.1), .int ((frS z1 z0 tg.2.1)), .int (tg.2.2.1), .int (tg.2.2.2.1), .long (tg.2.2.2.2.1), .long ((frV z1 z0)), .int (tg.2.2.2.2.2.2), (g 22), (g 23), (g 24), (g 25)]))] := hD
    have e9 : (tg.1, (frS z1 z0 tg.2.1), tg.2.2.1, tg.2.2.2.1, tg.2.2.2.2.1, (frV z1 z0), tg.2.2.2.2.2.2) = (fX9_fractions  sg) := ((show (tg.1, (frS z1 z0 tg.2.1), tg.2.2.1, tg.2.2.2.1, tg.2.2.2.2.1, (frV z1 z0), tg.2.2.2.2.2.2) = (fX9_fractions_221 v2 v1 z0 z1 tg) by unfold fX9_fractions_221; rfl).trans hv)
    have hP : va_P (dC, dI) vwCl (wM1 m0 g (fX9_fractions  sg)) H := by rw [← e9]; exact hP
    have hD : va_D A (wM1 m0 g (fX9_fractions  sg)) := by rw [← e9]; exact hD
    exact W.vret hx hb hr (fun t ht hW => ⟨⟨(), rfl, trivial, by rw [ht]; exact hP, hD⟩, hS.F ht⟩) hS.2.2 dX9_fractions_227
  have J184 : ∀ (v2 : Int32) (v1 : Int32) (tg : Sc) (H : Heap) (locs : List Loc) (ls : Array Slot), va_P (dC, dI) vwCl (wM1 m0 g tg) H → va_D A (wM1 m0 g tg) → va_S A s.heap H locs → lv_has ls 3 [(2, .int (v2)), (1, .int (v1)), (0, .ref m0)] → (fX9_fractions_184 v2 v1 tg) = (fX9_fractions  sg) → W p l e (headSpec wsX9_fractions ({ frames := 3, cells := 0, slots := 0, locals := 66 })).room s m ([.ref m0] : List Value).toArray below meth c H locs 0 0 (MQ below (md_Qv (dC, dI) (wM1 m0 g (fX9_fractions  sg)) (A)) ([.ref m0] : List Value).toArray s 0 0 (A)) (F0 m 184 ls []) := by
    intro v2 v1 tg H locs ls hP hD hS hl hv
    refine lv_aload_n hx hb dX9_fractions_184 rfl (lv_at hl 2 rfl) ?_
    refine lv_iconst (v := 5) hx hb dX9_fractions_185 (by decide) ?_
    refine lv_lconst (v := 1) hx hb dX9_fractions_186 (by decide) ?_
    refine lv_bipush (v := 32) hx hb dX9_fractions_187 (by decide) ?_
    refine lv_iload_n hx hb dX9_fractions_189 rfl (lv_at hl 0 rfl) ?_
    refine lv_iadd hx hb dX9_fractions_190 ?_
    refine lv_lshl (v := (lsh 1 (32 + v2))) hx hb dX9_fractions_191 rfl ?_
    refine lv_lconst (v := 0) hx hb dX9_fractions_192 (by decide) ?_
    refine md_callv (wr := []) (va_runV (As := [.int (5), .long ((lsh 1 (32 + v2))), .long (0)]) (rest := []) ⟨hx, hb, hml, hown, hts⟩ (kX9_is l dC dI m0 g H.size 5 (lsh 1 (32 + v2)) 0 tg) (cwV 3 hts gX9_fractions_X9_is rfl rfl rfl (by decide +kernel) ⟨Nat.le_of_ble_eq_true rfl, Nat.le_of_ble_eq_true rfl⟩) (md_preV 0 4 (q := (RX9, TX9, 26)) rfl rfl hP hK hD) rfl rfl hl.1 rfl (lv_room (Nat.le_of_ble_eq_true rfl)) dX9_fractions_193 ⟨Nat.zero_le _, Nat.zero_le _⟩) hS hA hP hD [0] [] rfl rfl (by decide) (by decide) (fun H locs hP hD hS => ?_)
    have hP : va_P (dC, dI) vwCl (wM1 m0 g (tg.1, 5, tg.2.2.1, tg.2.2.2.1, (lsh 1 (32 + v2)), 0, tg.2.2.2.2.2.2)) H := hP
    have hD : va_D A (wM1 m0 g (tg.1, 5, tg.2.2.1, tg.2.2.2.1, (lsh 1 (32 + v2)), 0, tg.2.2.2.2.2.2)) := hD
    refine lv_aload_n hx hb dX9_fractions_196 rfl (lv_at hl 2 rfl) ?_
    refine lv_aload_n hx hb dX9_fractions_197 rfl (lv_at hl 2 rfl) ?_
    refine lv_aload_n hx hb dX9_fractions_198 rfl (lv_at hl 2 rfl) ?_
    refine lv_bipush (v := 6) hx hb dX9_fractions_199 (by decide) ?_
    refine ro_calli (va_runV (As := [.int (6)]) (rest := [.ref m0, .ref m0]) ⟨hx, hb, hml, hown, hts⟩ (kX9_field l dC dI m0 g H.size 6 (tg.1, 5, tg.2.2.1, tg.2.2.2.1, (lsh 1 (32 + v2)), 0, tg.2.2.2.2.2.2)) (cwV 1 hts gX9_fractions_X9_field rfl rfl rfl (by decide +kernel) ⟨Nat.le_of_ble_eq_true rfl, Nat.le_of_ble_eq_true rfl⟩) (ro_preV 0 4 (q := (RX9, TX9, 26)) rfl rfl hP hK) rfl rfl hl.1 rfl (lv_room (Nat.le_of_ble_eq_true rfl)) dX9_fractions_201 ⟨Nat.zero_le _, Nat.zero_le _⟩) hS hA (fun H locs kP hS => ?_)
    have hP := kP _ _ _ hP
    refine lv_aload_n hx hb dX9_fractions_204 rfl (lv_at hl 2 rfl) ?_
    refine va_get (D := (dC, dI)) (ci := 4) (v := .int (tg.1)) (C := RX9) (T := TX9) (N := 26) hx hb hts hinX9 hown hK hP 0 rfl rfl 15 (by decide) (hts (.fieldLink RX9 58 "SlotFillerModel" "w" "I") (by decide +kernel)) (fun _ h9 => h9) rfl dX9_fractions_205 ?_
    refine lv_bipush (v := 63) hx hb dX9_fractions_208 (by decide) ?_
    refine lv_iand hx hb dX9_fractions_210 ?_
    refine lv_bipush (v := 33) hx hb dX9_fractions_211 (by decide) ?_
    refine lv_icmp_ne (tgt := 220) hx hb dX9_fractions_213 (by decide) (fun c_1 => ?_) (fun c_1 => ?_)
    · refine lv_iconst (v := 0) hx hb dX9_fractions_220 (by decide) ?_
      exact J221 v2 v1 0 (fld tg.1 6) (tg.1, 5, tg.2.2.1, tg.2.2.2.1, (lsh 1 (32 + v2)), 0, tg.2.2.2.2.2.2) H _ ls hP hD hS (lv_sub hl [0, 1, 2] rfl) ((show (fX9_fractions_221 v2 v1 0 (fld tg.1 6) (tg.1, 5, tg.2.2.1, tg.2.2.2.1, (lsh 1 (32 + v2)), 0, tg.2.2.2.2.2.2)) = (fX9_fractions_184 v2 v1 tg) by unfold fX9_fractions_184; rw [if_neg c_1]).trans hv)
    · refine lv_iconst (v := 1) hx hb dX9_fractions_216 (by decide) ?_
      refine lv_goto (tgt := 221) hx hb dX9_fractions_217 (by decide) ?_
      exact J221 v2 v1 1 (fld tg.1 6) (tg.1, 5, tg.2.2.1, tg.2.2.2.1, (lsh 1 (32 + v2)), 0, tg.2.2.2.2.2.2) H _ ls hP hD hS (lv_sub hl [0, 1, 2] rfl) ((show (fX9_fractions_221 v2 v1 1 (fld tg.1 6) (tg.1, 5, tg.2.2.1, tg.2.2.2.1, (lsh 1 (32 + v2)), 0, tg.2.2.2.2.2.2)) = (fX9_fractions_184 v2 v1 tg) by unfold fX9_fractions_184; rw [if_pos c_1]).trans hv)
  have J135 : ∀ (v2 : Int32) (v1 : Int32) (z0 : Int32) (z1 : Int32) (tg : Sc) (H : Heap) (locs : List Loc) (ls : Array Slot), va_P (dC, dI) vwCl (wM1 m0 g tg) H → va_D A (wM1 m0 g tg) → va_S A s.heap H locs → lv_has ls 3 [(2, .int (v2)), (1, .int (v1)), (0, .ref m0)] → (fX9_fractions_135 v2 v1 z0 z1 tg) = (fX9_fractions  sg) → W p l e (headSpec wsX9_fractions ({ frames := 3, cells := 0, slots := 0, locals := 66 })).room s m ([.ref m0] : List Value).toArray below meth c H locs 0 0 (MQ below (md_Qv (dC, dI) (wM1 m0 g (fX9_fractions  sg)) (A)) ([.ref m0] : List Value).toArray s 0 0 (A)) (F0 m 135 ls [.int (z0), .int (z1), .ref m0]) := by
    intro v2 v1 z0 z1 tg H locs ls hP hD hS hl hv
    refine lv_iload_n hx hb dX9_fractions_135 rfl (lv_at hl 0 rfl) ?_
    refine lv_aload_n hx hb dX9_fractions_136 rfl (lv_at hl 2 rfl) ?_
    refine lv_bipush (v := 16) hx hb dX9_fractions_137 (by decide) ?_
    refine ro_calli (va_runV (As := [.int (16)]) (rest := [.int (v2), .int (z0), .int (z1), .ref m0]) ⟨hx, hb, hml, hown, hts⟩ (kX9_field l dC dI m0 g H.size 16 tg) (cwV 1 hts gX9_fractions_X9_field rfl rfl rfl (by decide +kernel) ⟨Nat.le_of_ble_eq_true rfl, Nat.le_of_ble_eq_true rfl⟩) (ro_preV 0 4 (q := (RX9, TX9, 26)) rfl rfl hP hK) rfl rfl hl.1 rfl (lv_room (Nat.le_of_ble_eq_true rfl)) dX9_fractions_139 ⟨Nat.zero_le _, Nat.zero_le _⟩) hS hA (fun H locs kP hS => ?_)
    have hP := kP _ _ _ hP
    refine lv_aload_n hx hb dX9_fractions_142 rfl (lv_at hl 2 rfl) ?_
    refine lv_bipush (v := 6) hx hb dX9_fractions_143 (by decide) ?_
    refine ro_calli (va_runV (As := [.int (6)]) (rest := [.int ((fld tg.1 16)), .int (v2), .int (z0), .int (z1), .ref m0]) ⟨hx, hb, hml, hown, hts⟩ (kX9_field l dC dI m0 g H.size 6 tg) (cwV 1 hts gX9_fractions_X9_field rfl rfl rfl (by decide +kernel) ⟨Nat.le_of_ble_eq_true rfl, Nat.le_of_ble_eq_true rfl⟩) (ro_preV 0 4 (q := (RX9, TX9, 26)) rfl rfl hP hK) rfl rfl hl.1 rfl (lv_room (Nat.le_of_ble_eq_true rfl)) dX9_fractions_145 ⟨Nat.zero_le _, Nat.zero_le _⟩) hS hA (fun H locs kP hS => ?_)
    have hP := kP _ _ _ hP
    refine md_callv (wr := []) (va_runV (As := [.int (z1), .int (z0), .int (v2), .int ((fld tg.1 16)), .int ((fld tg.1 6))]) (rest := []) ⟨hx, hb, hml, hown, hts⟩ (kX9_reckons l dC dI m0 g H.size z1 z0 v2 (fld tg.1 16) (fld tg.1 6) tg) (cwV 5 hts gX9_fractions_X9_reckons rfl rfl rfl (by decide +kernel) ⟨Nat.le_of_ble_eq_true rfl, Nat.le_of_ble_eq_true rfl⟩) (md_preV 0 4 (q := (RX9, TX9, 26)) rfl rfl hP hK hD) rfl rfl hl.1 rfl (lv_room (Nat.le_of_ble_eq_true rfl)) dX9_fractions_148 ⟨Nat.zero_le _, Nat.zero_le _⟩) hS hA hP hD [0] [] rfl rfl (by decide) (by decide) (fun H locs hP hD hS => ?_)
    have hP : va_P (dC, dI) vwCl (wM1 m0 g (fX9_reckons z1 z0 v2 (fld tg.1 16) (fld tg.1 6) tg)) H := hP
    have hD : va_D A (wM1 m0 g (fX9_reckons z1 z0 v2 (fld tg.1 16) (fld tg.1 6) tg)) := hD
    refine lv_goto (tgt := 227) hx hb dX9_fractions_151 (by decide) ?_
    have e9 : (fX9_reckons z1 z0 v2 (fld tg.1 16) (fld tg.1 6) tg) = (fX9_fractions  sg) := ((show (fX9_reckons z1 z0 v2 (fld tg.1 16) (fld tg.1 6) tg) = (fX9_fractions_135 v2 v1 z0 z1 tg) by unfold fX9_fractions_135; rfl).trans hv)
    have hP : va_P (dC, dI) vwCl (wM1 m0 g (fX9_fractions  sg)) H := by rw [← e9]; exact hP
    have hD : va_D A (wM1 m0 g (fX9_fractions  sg)) := by rw [← e9]; exact hD
    exact W.vret hx hb hr (fun t ht hW => ⟨⟨(), rfl, trivial, by rw [ht]; exact hP, hD⟩, hS.F ht⟩) hS.2.2 dX9_fractions_227
  have J116 : ∀ (v2 : Int32) (v1 : Int32) (tg : Sc) (H : Heap) (locs : List Loc) (ls : Array Slot), va_P (dC, dI) vwCl (wM1 m0 g tg) H → va_D A (wM1 m0 g tg) → va_S A s.heap H locs → lv_has ls 3 [(2, .int (v2)), (1, .int (v1)), (0, .ref m0)] → (fX9_fractions_116 v2 v1 tg) = (fX9_fractions  sg) → W p l e (headSpec wsX9_fractions ({ frames := 3, cells := 0, slots := 0, locals := 66 })).room s m ([.ref m0] : List Value).toArray below meth c H locs 0 0 (MQ below (md_Qv (dC, dI) (wM1 m0 g (fX9_fractions  sg)) (A)) ([.ref m0] : List Value).toArray s 0 0 (A)) (F0 m 116 ls []) := by
    intro v2 v1 tg H locs ls hP hD hS hl hv
    refine lv_aload_n hx hb dX9_fractions_116 rfl (lv_at hl 2 rfl) ?_
    refine lv_aload_n hx hb dX9_fractions_117 rfl (lv_at hl 2 rfl) ?_
    refine va_get (D := (dC, dI)) (ci := 4) (v := .int (tg.1)) (C := RX9) (T := TX9) (N := 26) hx hb hts hinX9 hown hK hP 0 rfl rfl 15 (by decide) (hts (.fieldLink RX9 58 "SlotFillerModel" "w" "I") (by decide +kernel)) (fun _ h9 => h9) rfl dX9_fractions_118 ?_
    refine lv_bipush (v := 63) hx hb dX9_fractions_121 (by decide) ?_
    refine lv_iand hx hb dX9_fractions_123 ?_
    refine lv_iload_n hx hb dX9_fractions_124 rfl (lv_at hl 1 rfl) ?_
    refine lv_bipush (v := 17) hx hb dX9_fractions_125 (by decide) ?_
    refine lv_icmp_ne (tgt := 134) hx hb dX9_fractions_127 (by decide) (fun c_2 => ?_) (fun c_2 => ?_)
    · refine lv_iconst (v := 0) hx hb dX9_fractions_134 (by decide) ?_
      exact J135 v2 v1 0 (tg.1 &&& 63) tg H _ ls hP hD hS (lv_sub hl [0, 1, 2] rfl) ((show (fX9_fractions_135 v2 v1 0 (tg.1 &&& 63) tg) = (fX9_fractions_116 v2 v1 tg) by unfold fX9_fractions_116; rw [if_neg c_2]).trans hv)
    · refine lv_iconst (v := 1) hx hb dX9_fractions_130 (by decide) ?_
      refine lv_goto (tgt := 135) hx hb dX9_fractions_131 (by decide) ?_
      exact J135 v2 v1 1 (tg.1 &&& 63) tg H _ ls hP hD hS (lv_sub hl [0, 1, 2] rfl) ((show (fX9_fractions_135 v2 v1 1 (tg.1 &&& 63) tg) = (fX9_fractions_116 v2 v1 tg) by unfold fX9_fractions_116; rw [if_pos c_2]).trans hv)
  refine lv_aload_n hx hb dX9_fractions_0 rfl (lv_at hl 0 rfl) ?_
  refine lv_bipush (v := 21) hx hb dX9_fractions_1 (by decide) ?_
  refine ro_calli (va_runV (As := [.int (21)]) (rest := []) ⟨hx, hb, hml, hown, hts⟩ (kX9_field l dC dI m0 g s.heap.size 21 sg) (cwV 1 hts gX9_fractions_X9_field rfl rfl rfl (by decide +kernel) ⟨Nat.le_of_ble_eq_true rfl, Nat.le_of_ble_eq_true rfl⟩) (ro_preV 0 4 (q := (RX9, TX9, 26)) rfl rfl hP hK) rfl rfl hl.1 rfl (lv_room (Nat.le_of_ble_eq_true rfl)) dX9_fractions_3 ⟨Nat.zero_le _, Nat.zero_le _⟩) hS hA (fun H locs kP hS => ?_)
  have hP := kP _ _ _ hP
  refine lv_istore_n (lv' := [(1, .int ((fld sg.1 21))), (0, .ref m0)]) hx hb dX9_fractions_6 rfl hl (by decide) rfl (fun ls hl => ?_)
  refine lv_aload_n hx hb dX9_fractions_7 rfl (lv_at hl 1 rfl) ?_
  refine lv_bipush (v := 11) hx hb dX9_fractions_8 (by decide) ?_
  refine ro_calli (va_runV (As := [.int (11)]) (rest := []) ⟨hx, hb, hml, hown, hts⟩ (kX9_field l dC dI m0 g H.size 11 sg) (cwV 1 hts gX9_fractions_X9_field rfl rfl rfl (by decide +kernel) ⟨Nat.le_of_ble_eq_true rfl, Nat.le_of_ble_eq_true rfl⟩) (ro_preV 0 4 (q := (RX9, TX9, 26)) rfl rfl hP hK) rfl rfl hl.1 rfl (lv_room (Nat.le_of_ble_eq_true rfl)) dX9_fractions_10 ⟨Nat.zero_le _, Nat.zero_le _⟩) hS hA (fun H locs kP hS => ?_)
  have hP := kP _ _ _ hP
  refine lv_istore_n (lv' := [(2, .int ((fld sg.1 11))), (1, .int ((fld sg.1 21))), (0, .ref m0)]) hx hb dX9_fractions_13 rfl hl (by decide) rfl (fun ls hl => ?_)
  refine lv_iload_n hx hb dX9_fractions_14 rfl (lv_at hl 1 rfl) ?_
  refine lv_if_ne (tgt := 36) hx hb dX9_fractions_15 (by decide) (fun c_3 => ?_) (fun c_3 => ?_)
  · refine lv_iload_n hx hb dX9_fractions_36 rfl (lv_at hl 1 rfl) ?_
    refine lv_iconst (v := 4) hx hb dX9_fractions_37 (by decide) ?_
    refine lv_icmp_ne (tgt := 59) hx hb dX9_fractions_38 (by decide) (fun c_4 => ?_) (fun c_4 => ?_)
    · refine lv_iload_n hx hb dX9_fractions_59 rfl (lv_at hl 1 rfl) ?_
      refine lv_bipush (v := 8) hx hb dX9_fractions_60 (by decide) ?_
      refine lv_icmp_ne (tgt := 104) hx hb dX9_fractions_62 (by decide) (fun c_5 => ?_) (fun c_5 => ?_)
      · refine lv_iload_n hx hb dX9_fractions_104 rfl (lv_at hl 1 rfl) ?_
        refine lv_bipush (v := 16) hx hb dX9_fractions_105 (by decide) ?_
        refine lv_icmp_eq (tgt := 116) hx hb dX9_fractions_107 (by decide) (fun c_6 => ?_) (fun c_6 => ?_)
        · exact J116 (fld sg.1 11) (fld sg.1 21) sg H _ ls hP hD hS (lv_sub hl [0, 1, 2] rfl) ((show (fX9_fractions_116 (fld sg.1 11) (fld sg.1 21) sg) = (fX9_fractions  sg) by unfold fX9_fractions; rw [if_neg c_3, if_neg c_4, if_neg c_5, if_pos c_6]).trans hv)
        · refine lv_iload_n hx hb dX9_fractions_110 rfl (lv_at hl 1 rfl) ?_
          refine lv_bipush (v := 17) hx hb dX9_fractions_111 (by decide) ?_
          refine lv_icmp_ne (tgt := 154) hx hb dX9_fractions_113 (by decide) (fun c_7 => ?_) (fun c_7 => ?_)
          · refine lv_iload_n hx hb dX9_fractions_154 rfl (lv_at hl 1 rfl) ?_
            refine lv_bipush (v := 20) hx hb dX9_fractions_155 (by decide) ?_
            refine lv_icmp_ne (tgt := 227) hx hb dX9_fractions_157 (by decide) (fun c_8 => ?_) (fun c_8 => ?_)
            · have e9 : sg = (fX9_fractions  sg) := ((show sg = (fX9_fractions  sg) by unfold fX9_fractions; rw [if_neg c_3, if_neg c_4, if_neg c_5, if_neg c_6, if_neg c_7, if_neg c_8]).trans hv)
              have hP : va_P (dC, dI) vwCl (wM1 m0 g (fX9_fractions  sg)) H := by rw [← e9]; exact hP
              have hD : va_D A (wM1 m0 g (fX9_fractions  sg)) := by rw [← e9]; exact hD
              exact W.vret hx hb hr (fun t ht hW => ⟨⟨(), rfl, trivial, by rw [ht]; exact hP, hD⟩, hS.F ht⟩) hS.2.2 dX9_fractions_227
            · refine lv_aload_n hx hb dX9_fractions_160 rfl (lv_at hl 2 rfl) ?_
              refine va_get (D := (dC, dI)) (ci := 4) (v := .int (sg.1)) (C := RX9) (T := TX9) (N := 26) hx hb hts hinX9 hown hK hP 0 rfl rfl 15 (by decide) (hts (.fieldLink RX9 58 "SlotFillerModel" "w" "I") (by decide +kernel)) (fun _ h9 => h9) rfl dX9_fractions_161 ?_
              refine lv_bipush (v := 63) hx hb dX9_fractions_164 (by decide) ?_
              refine lv_iand hx hb dX9_fractions_166 ?_
              refine lv_bipush (v := 32) hx hb dX9_fractions_167 (by decide) ?_
              refine lv_icmp_eq (tgt := 184) hx hb dX9_fractions_169 (by decide) (fun c_9 => ?_) (fun c_9 => ?_)
              · exact J184 (fld sg.1 11) (fld sg.1 21) sg H _ ls hP hD hS (lv_sub hl [0, 1, 2] rfl) ((show (fX9_fractions_184 (fld sg.1 11) (fld sg.1 21) sg) = (fX9_fractions  sg) by unfold fX9_fractions; rw [if_neg c_3, if_neg c_4, if_neg c_5, if_neg c_6, if_neg c_7, if_pos c_8, if_pos c_9]).trans hv)
              · refine lv_aload_n hx hb dX9_fractions_172 rfl (lv_at hl 2 rfl) ?_
                refine va_get (D := (dC, dI)) (ci := 4) (v := .int (sg.1)) (C := RX9) (T := TX9) (N := 26) hx hb hts hinX9 hown hK hP 0 rfl rfl 15 (by decide) (hts (.fieldLink RX9 58 "SlotFillerModel" "w" "I") (by decide +kernel)) (fun _ h9 => h9) rfl dX9_fractions_173 ?_
                refine lv_bipush (v := 63) hx hb dX9_fractions_176 (by decide) ?_
                refine lv_iand hx hb dX9_fractions_178 ?_
                refine lv_bipush (v := 33) hx hb dX9_fractions_179 (by decide) ?_
                refine lv_icmp_ne (tgt := 227) hx hb dX9_fractions_181 (by decide) (fun c_10 => ?_) (fun c_10 => ?_)
                · have e9 : sg = (fX9_fractions  sg) := ((show sg = (fX9_fractions  sg) by unfold fX9_fractions; rw [if_neg c_3, if_neg c_4, if_neg c_5, if_neg c_6, if_neg c_7, if_pos c_8, if_neg c_9, if_neg c_10]).trans hv)
                  have hP : va_P (dC, dI) vwCl (wM1 m0 g (fX9_fractions  sg)) H := by rw [← e9]; exact hP
                  have hD : va_D A (wM1 m0 g (fX9_fractions  sg)) := by rw [← e9]; exact hD
                  exact W.vret hx hb hr (fun t ht hW => ⟨⟨(), rfl, trivial, by rw [ht]; exact hP, hD⟩, hS.F ht⟩) hS.2.2 dX9_fractions_227
                · exact J184 (fld sg.1 11) (fld sg.1 21) sg H _ ls hP hD hS (lv_sub hl [0, 1, 2] rfl) ((show (fX9_fractions_184 (fld sg.1 11) (fld sg.1 21) sg) = (fX9_fractions  sg) by unfold fX9_fractions; rw [if_neg c_3, if_neg c_4, if_neg c_5, if_neg c_6, if_neg c_7, if_pos c_8, if_neg c_9, if_pos c_10]).trans hv)
          · exact J116 (fld sg.1 11) (fld sg.1 21) sg H _ ls hP hD hS (lv_sub hl [0, 1, 2] rfl) ((show (fX9_fractions_116 (fld sg.1 11) (fld sg.1 21) sg) = (fX9_fractions  sg) by unfold fX9_fractions; rw [if_neg c_3, if_neg c_4, if_neg c_5, if_neg c_6, if_pos c_7]).trans hv)
      · refine lv_aload_n hx hb dX9_fractions_65 rfl (lv_at hl 2 rfl) ?_
        refine lv_bipush (v := 7) hx hb dX9_fractions_66 (by decide) ?_
        refine lv_lconst (v := 0) hx hb dX9_fractions_68 (by decide) ?_
        refine lv_lconst (v := 0) hx hb dX9_fractions_69 (by decide) ?_
        refine md_callv (wr := []) (va_runV (As := [.int (7), .long (0), .long (0)]) (rest := []) ⟨hx, hb, hml, hown, hts⟩ (kX9_is l dC dI m0 g H.size 7 0 0 sg) (cwV 3 hts gX9_fractions_X9_is rfl rfl rfl (by decide +kernel) ⟨Nat.le_of_ble_eq_true rfl, Nat.le_of_ble_eq_true rfl⟩) (md_preV 0 4 (q := (RX9, TX9, 26)) rfl rfl hP hK hD) rfl rfl hl.1 rfl (lv_room (Nat.le_of_ble_eq_true rfl)) dX9_fractions_70 ⟨Nat.zero_le _, Nat.zero_le _⟩) hS hA hP hD [0] [] rfl rfl (by decide) (by decide) (fun H locs hP hD hS => ?_)
        have hP : va_P (dC, dI) vwCl (wM1 m0 g (sg.1, 7, sg.2.2.1, sg.2.2.2.1, 0, 0, sg.2.2.2.2.2.2)) H := hP
        have hD : va_D A (wM1 m0 g (sg.1, 7, sg.2.2.1, sg.2.2.2.1, 0, 0, sg.2.2.2.2.2.2)) := hD
        refine lv_aload_n hx hb dX9_fractions_73 rfl (lv_at hl 2 rfl) ?_
        refine lv_aload_n hx hb dX9_fractions_74 rfl (lv_at hl 2 rfl) ?_
        refine va_get (D := (dC, dI)) (ci := 4) (v := .int (sg.1)) (C := RX9) (T := TX9) (N := 26) hx hb hts hinX9 hown hK hP 0 rfl rfl 15 (by decide) (hts (.fieldLink RX9 58 "SlotFillerModel" "w" "I") (by decide +kernel)) (fun _ h9 => h9) rfl dX9_fractions_75 ?_
        refine lv_bipush (v := 17) hx hb dX9_fractions_78 (by decide) ?_
        refine lv_iushr (v := ush sg.1 17) hx hb dX9_fractions_80 rfl ?_
        refine lv_iconst (v := 1) hx hb dX9_fractions_81 (by decide) ?_
        refine lv_iand hx hb dX9_fractions_82 ?_
        refine lv_iconst (v := 1) hx hb dX9_fractions_83 (by decide) ?_
        refine lv_icmp_ne (tgt := 91) hx hb dX9_fractions_84 (by decide) (fun c_11 => ?_) (fun c_11 => ?_)
        · refine lv_iconst (v := 0) hx hb dX9_fractions_91 (by decide) ?_
          refine va_put (D := (dC, dI)) (ci := 4) (v := .int (0)) (ty := .boolean) (C := RX9) (T := TX9) (N := 26) hx hb hts hinX9 tyX9 tyX9_ok nmX9 hown hK hP hD hS 0 rfl rfl 21 (by decide) (hts (.fieldLink RX9 87 "SlotFillerModel" "isLikely" "Z") (by decide +kernel)) (fun _ h9 => h9) rfl (by decide +kernel) (by decide) (by decide) (Nat.le_of_ble_eq_true rfl) dX9_fractions_92 (fun H locs hP hD hS => ?_)
          have hP : va_P (dC, dI) vwCl [(m0, .inr (4, [(g 0), (g 1), (g 2), (g 3), (g 4), (g 5), (g 6), (g 7), (g 8), (g 9), (g 10), (g 11), (g 12), (g 13), (g 14), .int (sg.1), .int (7), .int (sg.2.2.1), .int (sg.2.2.2.1), .long (0), .long (0), .int (0), (g 22), (g 23), (g 24), (g 25)]))] H := hP
          have hD : va_D A [(m0, .inr (4, [(g 0), (g 1), (g 2), (g 3), (g 4), (g 5), (g 6), (g 7), (g 8), (g 9), (g 10), (g 11), (g 12), (g 13), (g 14), .int (sg.1), .int (7), .int (sg.2.2.1), .int (sg.2.2.2.1), .long (0), .long (0), .int (0), (g 22), (g 23), (g 24), (g 25)]))] := hD
          refine lv_aload_n hx hb dX9_fractions_95 rfl (lv_at hl 2 rfl) ?_
          refine lv_iconst (v := 1) hx hb dX9_fractions_96 (by decide) ?_
          refine lv_iconst (v := 0) hx hb dX9_fractions_97 (by decide) ?_
          refine md_callv (wr := []) (va_runV (As := [.int (1), .int (0)]) (rest := []) ⟨hx, hb, hml, hown, hts⟩ (kX9_also l dC dI m0 g H.size 1 0 (sg.1, 7, sg.2.2.1, sg.2.2.2.1, 0, 0, 0)) (cwV 2 hts gX9_fractions_X9_also rfl rfl rfl (by decide +kernel) ⟨Nat.le_of_ble_eq_true rfl, Nat.le_of_ble_eq_true rfl⟩) (md_preV 0 4 (q := (RX9, TX9, 26)) rfl rfl hP hK hD) rfl rfl hl.1 rfl (lv_room (Nat.le_of_ble_eq_true rfl)) dX9_fractions_98 ⟨Nat.zero_le _, Nat.zero_le _⟩) hS hA hP hD [0] [] rfl rfl (by decide) (by decide) (fun H locs hP hD hS => ?_)
          have hP : va_P (dC, dI) vwCl (wM1 m0 g (sg.1, 7, 1, 0, 0, 0, 0)) H := hP
          have hD : va_D A (wM1 m0 g (sg.1, 7, 1, 0, 0, 0, 0)) := hD
          refine lv_goto (tgt := 227) hx hb dX9_fractions_101 (by decide) ?_
          have e9 : (sg.1, 7, 1, 0, 0, 0, 0) = (fX9_fractions  sg) := ((show (sg.1, 7, 1, 0, 0, 0, 0) = (fX9_fractions  sg) by unfold fX9_fractions; rw [if_neg c_3, if_neg c_4, if_pos c_5, if_neg c_11]).trans hv)
          have hP : va_P (dC, dI) vwCl (wM1 m0 g (fX9_fractions  sg)) H := by rw [← e9]; exact hP
          have hD : va_D A (wM1 m0 g (fX9_fractions  sg)) := by rw [← e9]; exact hD
          exact W.vret hx hb hr (fun t ht hW => ⟨⟨(), rfl, trivial, by rw [ht]; exact hP, hD⟩, hS.F ht⟩) hS.2.2 dX9_fractions_227
        · refine lv_iconst (v := 1) hx hb dX9_fractions_87 (by decide) ?_
          refine lv_goto (tgt := 92) hx hb dX9_fractions_88 (by decide) ?_
          refine va_put (D := (dC, dI)) (ci := 4) (v := .int (1)) (ty := .boolean) (C := RX9) (T := TX9) (N := 26) hx hb hts hinX9 tyX9 tyX9_ok nmX9 hown hK hP hD hS 0 rfl rfl 21 (by decide) (hts (.fieldLink RX9 87 "SlotFillerModel" "isLikely" "Z") (by decide +kernel)) (fun _ h9 => h9) rfl (by decide +kernel) (by decide) (by decide) (Nat.le_of_ble_eq_true rfl) dX9_fractions_92 (fun H locs hP hD hS => ?_)
          have hP : va_P (dC, dI) vwCl [(m0, .inr (4, [(g 0), (g 1), (g 2), (g 3), (g 4), (g 5), (g 6), (g 7), (g 8), (g 9), (g 10), (g 11), (g 12), (g 13), (g 14), .int (sg.1), .int (7), .int (sg.2.2.1), .int (sg.2.2.2.1), .long (0), .long (0), .int (1), (g 22), (g 23), (g 24), (g 25)]))] H := hP
          have hD : va_D A [(m0, .inr (4, [(g 0), (g 1), (g 2), (g 3), (g 4), (g 5), (g 6), (g 7), (g 8), (g 9), (g 10), (g 11), (g 12), (g 13), (g 14), .int (sg.1), .int (7), .int (sg.2.2.1), .int (sg.2.2.2.1), .long (0), .long (0), .int (1), (g 22), (g 23), (g 24), (g 25)]))] := hD
          refine lv_aload_n hx hb dX9_fractions_95 rfl (lv_at hl 2 rfl) ?_
          refine lv_iconst (v := 1) hx hb dX9_fractions_96 (by decide) ?_
          refine lv_iconst (v := 0) hx hb dX9_fractions_97 (by decide) ?_
          refine md_callv (wr := []) (va_runV (As := [.int (1), .int (0)]) (rest := []) ⟨hx, hb, hml, hown, hts⟩ (kX9_also l dC dI m0 g H.size 1 0 (sg.1, 7, sg.2.2.1, sg.2.2.2.1, 0, 0, 1)) (cwV 2 hts gX9_fractions_X9_also rfl rfl rfl (by decide +kernel) ⟨Nat.le_of_ble_eq_true rfl, Nat.le_of_ble_eq_true rfl⟩) (md_preV 0 4 (q := (RX9, TX9, 26)) rfl rfl hP hK hD) rfl rfl hl.1 rfl (lv_room (Nat.le_of_ble_eq_true rfl)) dX9_fractions_98 ⟨Nat.zero_le _, Nat.zero_le _⟩) hS hA hP hD [0] [] rfl rfl (by decide) (by decide) (fun H locs hP hD hS => ?_)
          have hP : va_P (dC, dI) vwCl (wM1 m0 g (sg.1, 7, 1, 0, 0, 0, 1)) H := hP
          have hD : va_D A (wM1 m0 g (sg.1, 7, 1, 0, 0, 0, 1)) := hD
          refine lv_goto (tgt := 227) hx hb dX9_fractions_101 (by decide) ?_
          have e9 : (sg.1, 7, 1, 0, 0, 0, 1) = (fX9_fractions  sg) := ((show (sg.1, 7, 1, 0, 0, 0, 1) = (fX9_fractions  sg) by unfold fX9_fractions; rw [if_neg c_3, if_neg c_4, if_pos c_5, if_pos c_11]).trans hv)
          have hP : va_P (dC, dI) vwCl (wM1 m0 g (fX9_fractions  sg)) H := by rw [← e9]; exact hP
          have hD : va_D A (wM1 m0 g (fX9_fractions  sg)) := by rw [← e9]; exact hD
          exact W.vret hx hb hr (fun t ht hW => ⟨⟨(), rfl, trivial, by rw [ht]; exact hP, hD⟩, hS.F ht⟩) hS.2.2 dX9_fractions_227
    · refine lv_aload_n hx hb dX9_fractions_41 rfl (lv_at hl 2 rfl) ?_
      refine lv_iconst (v := 0) hx hb dX9_fractions_42 (by decide) ?_
      refine lv_aload_n hx hb dX9_fractions_43 rfl (lv_at hl 2 rfl) ?_
      refine ro_calll (va_runV (As := []) (rest := [.int (0), .ref m0]) ⟨hx, hb, hml, hown, hts⟩ (kX9_t l dC dI m0 g H.size  sg) (cwV 0 hts gX9_fractions_X9_t rfl rfl rfl (by decide +kernel) ⟨Nat.le_of_ble_eq_true rfl, Nat.le_of_ble_eq_true rfl⟩) (ro_preV 0 4 (q := (RX9, TX9, 26)) rfl rfl hP hK) rfl rfl hl.1 rfl (lv_room (Nat.le_of_ble_eq_true rfl)) dX9_fractions_44 ⟨Nat.zero_le _, Nat.zero_le _⟩) hS hA (fun H locs kP hS => ?_)
      have hP := kP _ _ _ hP
      refine lv_lconst (v := 1) hx hb dX9_fractions_47 (by decide) ?_
      refine lv_bipush (v := 32) hx hb dX9_fractions_48 (by decide) ?_
      refine lv_iload_n hx hb dX9_fractions_50 rfl (lv_at hl 0 rfl) ?_
      refine lv_iadd hx hb dX9_fractions_51 ?_
      refine lv_lshl (v := (lsh 1 (32 + (fld sg.1 11)))) hx hb dX9_fractions_52 rfl ?_
      refine md_callv (wr := []) (va_runV (As := [.int (0), .long ((rgs sg.1 16)), .long ((lsh 1 (32 + (fld sg.1 11))))]) (rest := []) ⟨hx, hb, hml, hown, hts⟩ (kX9_is l dC dI m0 g H.size 0 (rgs sg.1 16) (lsh 1 (32 + (fld sg.1 11))) sg) (cwV 3 hts gX9_fractions_X9_is rfl rfl rfl (by decide +kernel) ⟨Nat.le_of_ble_eq_true rfl, Nat.le_of_ble_eq_true rfl⟩) (md_preV 0 4 (q := (RX9, TX9, 26)) rfl rfl hP hK hD) rfl rfl hl.1 rfl (lv_room (Nat.le_of_ble_eq_true rfl)) dX9_fractions_53 ⟨Nat.zero_le _, Nat.zero_le _⟩) hS hA hP hD [0] [] rfl rfl (by decide) (by decide) (fun H locs hP hD hS => ?_)
      have hP : va_P (dC, dI) vwCl (wM1 m0 g (sg.1, 0, sg.2.2.1, sg.2.2.2.1, (rgs sg.1 16), (lsh 1 (32 + (fld sg.1 11))), sg.2.2.2.2.2.2)) H := hP
      have hD : va_D A (wM1 m0 g (sg.1, 0, sg.2.2.1, sg.2.2.2.1, (rgs sg.1 16), (lsh 1 (32 + (fld sg.1 11))), sg.2.2.2.2.2.2)) := hD
      refine lv_goto (tgt := 227) hx hb dX9_fractions_56 (by decide) ?_
      have e9 : (sg.1, 0, sg.2.2.1, sg.2.2.2.1, (rgs sg.1 16), (lsh 1 (32 + (fld sg.1 11))), sg.2.2.2.2.2.2) = (fX9_fractions  sg) := ((show (sg.1, 0, sg.2.2.1, sg.2.2.2.1, (rgs sg.1 16), (lsh 1 (32 + (fld sg.1 11))), sg.2.2.2.2.2.2) = (fX9_fractions  sg) by unfold fX9_fractions; rw [if_neg c_3, if_pos c_4]).trans hv)
      have hP : va_P (dC, dI) vwCl (wM1 m0 g (fX9_fractions  sg)) H := by rw [← e9]; exact hP
      have hD : va_D A (wM1 m0 g (fX9_fractions  sg)) := by rw [← e9]; exact hD
      exact W.vret hx hb hr (fun t ht hW => ⟨⟨(), rfl, trivial, by rw [ht]; exact hP, hD⟩, hS.F ht⟩) hS.2.2 dX9_fractions_227
  · refine lv_aload_n hx hb dX9_fractions_18 rfl (lv_at hl 2 rfl) ?_
    refine lv_iconst (v := 0) hx hb dX9_fractions_19 (by decide) ?_
    refine lv_lconst (v := 1) hx hb dX9_fractions_20 (by decide) ?_
    refine lv_bipush (v := 32) hx hb dX9_fractions_21 (by decide) ?_
    refine lv_iload_n hx hb dX9_fractions_23 rfl (lv_at hl 0 rfl) ?_
    refine lv_iadd hx hb dX9_fractions_24 ?_
    refine lv_lshl (v := (lsh 1 (32 + (fld sg.1 11)))) hx hb dX9_fractions_25 rfl ?_
    refine lv_aload_n hx hb dX9_fractions_26 rfl (lv_at hl 2 rfl) ?_
    refine ro_calll (va_runV (As := []) (rest := [.long ((lsh 1 (32 + (fld sg.1 11)))), .int (0), .ref m0]) ⟨hx, hb, hml, hown, hts⟩ (kX9_t l dC dI m0 g H.size  sg) (cwV 0 hts gX9_fractions_X9_t rfl rfl rfl (by decide +kernel) ⟨Nat.le_of_ble_eq_true rfl, Nat.le_of_ble_eq_true rfl⟩) (ro_preV 0 4 (q := (RX9, TX9, 26)) rfl rfl hP hK) rfl rfl hl.1 rfl (lv_room (Nat.le_of_ble_eq_true rfl)) dX9_fractions_27 ⟨Nat.zero_le _, Nat.zero_le _⟩) hS hA (fun H locs kP hS => ?_)
    have hP := kP _ _ _ hP
    refine md_callv (wr := []) (va_runV (As := [.int (0), .long ((lsh 1 (32 + (fld sg.1 11)))), .long ((rgs sg.1 16))]) (rest := []) ⟨hx, hb, hml, hown, hts⟩ (kX9_is l dC dI m0 g H.size 0 (lsh 1 (32 + (fld sg.1 11))) (rgs sg.1 16) sg) (cwV 3 hts gX9_fractions_X9_is rfl rfl rfl (by decide +kernel) ⟨Nat.le_of_ble_eq_true rfl, Nat.le_of_ble_eq_true rfl⟩) (md_preV 0 4 (q := (RX9, TX9, 26)) rfl rfl hP hK hD) rfl rfl hl.1 rfl (lv_room (Nat.le_of_ble_eq_true rfl)) dX9_fractions_30 ⟨Nat.zero_le _, Nat.zero_le _⟩) hS hA hP hD [0] [] rfl rfl (by decide) (by decide) (fun H locs hP hD hS => ?_)
    have hP : va_P (dC, dI) vwCl (wM1 m0 g (sg.1, 0, sg.2.2.1, sg.2.2.2.1, (lsh 1 (32 + (fld sg.1 11))), (rgs sg.1 16), sg.2.2.2.2.2.2)) H := hP
    have hD : va_D A (wM1 m0 g (sg.1, 0, sg.2.2.1, sg.2.2.2.1, (lsh 1 (32 + (fld sg.1 11))), (rgs sg.1 16), sg.2.2.2.2.2.2)) := hD
    refine lv_goto (tgt := 227) hx hb dX9_fractions_33 (by decide) ?_
    have e9 : (sg.1, 0, sg.2.2.1, sg.2.2.2.1, (lsh 1 (32 + (fld sg.1 11))), (rgs sg.1 16), sg.2.2.2.2.2.2) = (fX9_fractions  sg) := ((show (sg.1, 0, sg.2.2.1, sg.2.2.2.1, (lsh 1 (32 + (fld sg.1 11))), (rgs sg.1 16), sg.2.2.2.2.2.2) = (fX9_fractions  sg) by unfold fX9_fractions; rw [if_pos c_3]).trans hv)
    have hP : va_P (dC, dI) vwCl (wM1 m0 g (fX9_fractions  sg)) H := by rw [← e9]; exact hP
    have hD : va_D A (wM1 m0 g (fX9_fractions  sg)) := by rw [← e9]; exact hD
    exact W.vret hx hb hr (fun t ht hW => ⟨⟨(), rfl, trivial, by rw [ht]; exact hP, hD⟩, hS.F ht⟩) hS.2.2 dX9_fractions_227
def fX9_look_101 (x1 : Int32) (tg : Sc) : Sc := if 16 ≤ (ush x1 26) then if (ush x1 26) = 17 then (fX9_fractions tg) else if (ush x1 26) = 28 then (fX9_second (tg.1 &&& 63) tg) else if (ush x1 26) < 32 then tg else (fX9_memory (ush x1 26) tg) else (fX9_number (ush x1 26) tg)
def fX9_look_93 (x1 : Int32) (tg : Sc) : Sc := (fX9_branch (ush x1 26) tg)
def fX9_look (x1 : Int32) (sg : Sc) : Sc := if (ush x1 26) = 0 then (fX9_special (x1 &&& 63) (x1, (-1), 0, 0, 0, 0, 0)) else if (ush x1 26) = 1 then (fX9_immediate (fld x1 16) (x1, (-1), 0, 0, 0, 0, 0)) else if (ush x1 26) < 8 then (fX9_look_93 x1 (x1, (-1), 0, 0, 0, 0, 0)) else if (ush x1 26) < 20 then (fX9_look_101 x1 (x1, (-1), 0, 0, 0, 0, 0)) else if 24 ≤ (ush x1 26) then (fX9_look_101 x1 (x1, (-1), 0, 0, 0, 0, 0)) else (fX9_look_93 x1 (x1, (-1), 0, 0, 0, 0, 0))
set_option maxHeartbeats 4000000 in
set_option maxRecDepth 100000 in
theorem kX9_look (l : Launch) (dC : Nat → ClassId) (dI : Nat → Nat → Nat) (m0 : Nat) (g : Nat → Value) (sz : Nat) (x1 : Int32) (sg : Sc) : Met l yX9_look wsX9_look ({ frames := 4, cells := 0, slots := 0, locals := 88 }) (md_Pc (dC, dI) (wM1 m0 g sg) [] [.ref m0, .int (x1)] sz) (md_Qv (dC, dI) (wM1 m0 g (fX9_look x1 sg)) (va_A (wM1 m0 g sg) sz)) 0 0 (va_A (wM1 m0 g sg) sz) := by
  refine Met.ofW (cc := cX9_look) (maxL := 3) (ret := none) (by decide) rfl ?_
  intro p e s m args below meth c s₁ B0 hml hv
  obtain ⟨rfl, hsz, hP, hK, hD0⟩ := hv
  have hx := B0.exec
  have hb := B0.bytes
  have hr := B0.returns
  have hts := atoms_spec (ws := wsX9_look) B0.pre
  have hown : s.vm.findClass RX9 = some m.cls := findClass_of_methodNamed B0.named
  have hlocks := B0.notSynchronized
  have hinX9 : ∀ w ∈ wsX90, w ∈ wsX9_look := fun w h => List.mem_cons_of_mem _ (List.mem_append_right _ (h))
  subst hsz
  have hD := hD0.self (sz := s.heap.size)
  generalize hAe : va_A (wM1 m0 g sg) s.heap.size = A at hD ⊢
  have hA : ∀ q : Nat, s.heap.size ≤ q → A q := fun q h => by rw [← hAe]; exact Or.inr h
  have hS : va_S A s.heap s.heap [] := va_S.rf
  have hl := lv_entry ([.ref m0, .int (x1)]) (n := 3) (Nat.le_of_ble_eq_true rfl)
  rw [lg_entry_eq]
  generalize (lg_sl ([.ref m0, .int (x1)]) ++ List.replicate (3 - (lg_sl ([.ref m0, .int (x1)])).length) Slot.unset).toArray = ls at hl ⊢
  have hl : lv_has ls 3 [(0, .ref m0), (1, .int (x1))] := hl
  have hv : (fX9_look x1 sg) = (fX9_look x1 sg) := rfl
  have J101 : ∀ (tg : Sc) (H : Heap) (locs : List Loc) (ls : Array Slot), va_P (dC, dI) vwCl (wM1 m0 g tg) H → va_D A (wM1 m0 g tg) → va_S A s.heap H locs → lv_has ls 3 [(2, .int ((ush x1 26))), (0, .ref m0), (1, .int (x1))] → (fX9_look_101 x1 tg) = (fX9_look x1 sg) → W p l e (headSpec wsX9_look ({ frames := 4, cells := 0, slots := 0, locals := 88 })).room s m ([.ref m0, .int (x1)] : List Value).toArray below meth c H locs 0 0 (MQ below (md_Qv (dC, dI) (wM1 m0 g (fX9_look x1 sg)) (A)) ([.ref m0, .int (x1)] : List Value).toArray s 0 0 (A)) (F0 m 101 ls []) := by
    intro tg H locs ls hP hD hS hl hv
    refine lv_iload_n hx hb dX9_look_101 rfl (lv_at hl 0 rfl) ?_
    refine lv_bipush (v := 16) hx hb dX9_look_102 (by decide) ?_
    refine lv_icmp_ge (tgt := 115) hx hb dX9_look_104 (by decide) (fun c_1 => ?_) (fun c_1 => ?_)
    · refine lv_iload_n hx hb dX9_look_115 rfl (lv_at hl 0 rfl) ?_
      refine lv_bipush (v := 17) hx hb dX9_look_116 (by decide) ?_
      refine lv_icmp_ne (tgt := 128) hx hb dX9_look_118 (by decide) (fun c_2 => ?_) (fun c_2 => ?_)
      · refine lv_iload_n hx hb dX9_look_128 rfl (lv_at hl 0 rfl) ?_
        refine lv_bipush (v := 28) hx hb dX9_look_129 (by decide) ?_
        refine lv_icmp_ne (tgt := 148) hx hb dX9_look_131 (by decide) (fun c_3 => ?_) (fun c_3 => ?_)
        · refine lv_iload_n hx hb dX9_look_148 rfl (lv_at hl 0 rfl) ?_
          refine lv_bipush (v := 32) hx hb dX9_look_149 (by decide) ?_
          refine lv_icmp_lt (tgt := 159) hx hb dX9_look_151 (by decide) (fun c_4 => ?_) (fun c_4 => ?_)
          · have e9 : tg = (fX9_look x1 sg) := ((show tg = (fX9_look_101 x1 tg) by unfold fX9_look_101; rw [if_pos c_1, if_neg c_2, if_neg c_3, if_pos c_4]).trans hv)
            have hP : va_P (dC, dI) vwCl (wM1 m0 g (fX9_look x1 sg)) H := by rw [← e9]; exact hP
            have hD : va_D A (wM1 m0 g (fX9_look x1 sg)) := by rw [← e9]; exact hD
            exact W.vret hx hb hr (fun t ht hW => ⟨⟨(), rfl, trivial, by rw [ht]; exact hP, hD⟩, hS.F ht⟩) hS.2.2 dX9_look_159
          · refine lv_aload_n hx hb dX9_look_154 rfl (lv_at hl 1 rfl) ?_
            refine lv_iload_n hx hb dX9_look_155 rfl (lv_at hl 0 rfl) ?_
            refine md_callv (wr := []) (va_runV (As := [.int ((ush x1 26))]) (rest := []) ⟨hx, hb, hml, hown, hts⟩ (kX9_memory l dC dI m0 g H.size (ush x1 26) tg) (cwV 1 hts gX9_look_X9_memory rfl rfl rfl (by decide +kernel) ⟨Nat.le_of_ble_eq_true rfl, Nat.le_of_ble_eq_true rfl⟩) (md_preV 0 4 (q := (RX9, TX9, 26)) rfl rfl hP hK hD) rfl rfl hl.1 rfl (lv_room (Nat.le_of_ble_eq_true rfl)) dX9_look_156 ⟨Nat.zero_le _, Nat.zero_le _⟩) hS hA hP hD [0] [] rfl rfl (by decide) (by decide) (fun H locs hP hD hS => ?_)
            have hP : va_P (dC, dI) vwCl (wM1 m0 g (fX9_memory (ush x1 26) tg)) H := hP
            have hD : va_D A (wM1 m0 g (fX9_memory (ush x1 26) tg)) := hD
            have e9 : (fX9_memory (ush x1 26) tg) = (fX9_look x1 sg) := ((show (fX9_memory (ush x1 26) tg) = (fX9_look_101 x1 tg) by unfold fX9_look_101; rw [if_pos c_1, if_neg c_2, if_neg c_3, if_neg c_4]).trans hv)
            have hP : va_P (dC, dI) vwCl (wM1 m0 g (fX9_look x1 sg)) H := by rw [← e9]; exact hP
            have hD : va_D A (wM1 m0 g (fX9_look x1 sg)) := by rw [← e9]; exact hD
            exact W.vret hx hb hr (fun t ht hW => ⟨⟨(), rfl, trivial, by rw [ht]; exact hP, hD⟩, hS.F ht⟩) hS.2.2 dX9_look_159
        · refine lv_aload_n hx hb dX9_look_134 rfl (lv_at hl 1 rfl) ?_
          refine lv_aload_n hx hb dX9_look_135 rfl (lv_at hl 1 rfl) ?_
          refine va_get (D := (dC, dI)) (ci := 4) (v := .int (tg.1)) (C := RX9) (T := TX9) (N := 26) hx hb hts hinX9 hown hK hP 0 rfl rfl 15 (by decide) (hts (.fieldLink RX9 58 "SlotFillerModel" "w" "I") (by decide +kernel)) (fun _ h9 => h9) rfl dX9_look_136 ?_
          refine lv_bipush (v := 63) hx hb dX9_look_139 (by decide) ?_
          refine lv_iand hx hb dX9_look_141 ?_
          refine md_callv (wr := []) (va_runV (As := [.int ((tg.1 &&& 63))]) (rest := []) ⟨hx, hb, hml, hown, hts⟩ (kX9_second l dC dI m0 g H.size (tg.1 &&& 63) tg) (cwV 1 hts gX9_look_X9_second rfl rfl rfl (by decide +kernel) ⟨Nat.le_of_ble_eq_true rfl, Nat.le_of_ble_eq_true rfl⟩) (md_preV 0 4 (q := (RX9, TX9, 26)) rfl rfl hP hK hD) rfl rfl hl.1 rfl (lv_room (Nat.le_of_ble_eq_true rfl)) dX9_look_142 ⟨Nat.zero_le _, Nat.zero_le _⟩) hS hA hP hD [0] [] rfl rfl (by decide) (by decide) (fun H locs hP hD hS => ?_)
          have hP : va_P (dC, dI) vwCl (wM1 m0 g (fX9_second (tg.1 &&& 63) tg)) H := hP
          have hD : va_D A (wM1 m0 g (fX9_second (tg.1 &&& 63) tg)) := hD
          refine lv_goto (tgt := 159) hx hb dX9_look_145 (by decide) ?_
          have e9 : (fX9_second (tg.1 &&& 63) tg) = (fX9_look x1 sg) := ((show (fX9_second (tg.1 &&& 63) tg) = (fX9_look_101 x1 tg) by unfold fX9_look_101; rw [if_pos c_1, if_neg c_2, if_pos c_3]).trans hv)
          have hP : va_P (dC, dI) vwCl (wM1 m0 g (fX9_look x1 sg)) H := by rw [← e9]; exact hP
          have hD : va_D A (wM1 m0 g (fX9_look x1 sg)) := by rw [← e9]; exact hD
          exact W.vret hx hb hr (fun t ht hW => ⟨⟨(), rfl, trivial, by rw [ht]; exact hP, hD⟩, hS.F ht⟩) hS.2.2 dX9_look_159
      · refine lv_aload_n hx hb dX9_look_121 rfl (lv_at hl 1 rfl) ?_
        refine md_callv (wr := []) (va_runV (As := []) (rest := []) ⟨hx, hb, hml, hown, hts⟩ (kX9_fractions l dC dI m0 g H.size  tg) (cwV 0 hts gX9_look_X9_fractions rfl rfl rfl (by decide +kernel) ⟨Nat.le_of_ble_eq_true rfl, Nat.le_of_ble_eq_true rfl⟩) (md_preV 0 4 (q := (RX9, TX9, 26)) rfl rfl hP hK hD) rfl rfl hl.1 rfl (lv_room (Nat.le_of_ble_eq_true rfl)) dX9_look_122 ⟨Nat.zero_le _, Nat.zero_le _⟩) hS hA hP hD [0] [] rfl rfl (by decide) (by decide) (fun H locs hP hD hS => ?_)
        have hP : va_P (dC, dI) vwCl (wM1 m0 g (fX9_fractions tg)) H := hP
        have hD : va_D A (wM1 m0 g (fX9_fractions tg)) := hD
        refine lv_goto (tgt := 159) hx hb dX9_look_125 (by decide) ?_
        have e9 : (fX9_fractions tg) = (fX9_look x1 sg) := ((show (fX9_fractions tg) = (fX9_look_101 x1 tg) by unfold fX9_look_101; rw [if_pos c_1, if_pos c_2]).trans hv)
        have hP : va_P (dC, dI) vwCl (wM1 m0 g (fX9_look x1 sg)) H := by rw [← e9]; exact hP
        have hD : va_D A (wM1 m0 g (fX9_look x1 sg)) := by rw [← e9]; exact hD
        exact W.vret hx hb hr (fun t ht hW => ⟨⟨(), rfl, trivial, by rw [ht]; exact hP, hD⟩, hS.F ht⟩) hS.2.2 dX9_look_159
    · refine lv_aload_n hx hb dX9_look_107 rfl (lv_at hl 1 rfl) ?_
      refine lv_iload_n hx hb dX9_look_108 rfl (lv_at hl 0 rfl) ?_
      refine md_callv (wr := []) (va_runV (As := [.int ((ush x1 26))]) (rest := []) ⟨hx, hb, hml, hown, hts⟩ (kX9_number l dC dI m0 g H.size (ush x1 26) tg) (cwV 1 hts gX9_look_X9_number rfl rfl rfl (by decide +kernel) ⟨Nat.le_of_ble_eq_true rfl, Nat.le_of_ble_eq_true rfl⟩) (md_preV 0 4 (q := (RX9, TX9, 26)) rfl rfl hP hK hD) rfl rfl hl.1 rfl (lv_room (Nat.le_of_ble_eq_true rfl)) dX9_look_109 ⟨Nat.zero_le _, Nat.zero_le _⟩) hS hA hP hD [0] [] rfl rfl (by decide) (by decide) (fun H locs hP hD hS => ?_)
      have hP : va_P (dC, dI) vwCl (wM1 m0 g (fX9_number (ush x1 26) tg)) H := hP
      have hD : va_D A (wM1 m0 g (fX9_number (ush x1 26) tg)) := hD
      refine lv_goto (tgt := 159) hx hb dX9_look_112 (by decide) ?_
      have e9 : (fX9_number (ush x1 26) tg) = (fX9_look x1 sg) := ((show (fX9_number (ush x1 26) tg) = (fX9_look_101 x1 tg) by unfold fX9_look_101; rw [if_neg c_1]).trans hv)
      have hP : va_P (dC, dI) vwCl (wM1 m0 g (fX9_look x1 sg)) H := by rw [← e9]; exact hP
      have hD : va_D A (wM1 m0 g (fX9_look x1 sg)) := by rw [← e9]; exact hD
      exact W.vret hx hb hr (fun t ht hW => ⟨⟨(), rfl, trivial, by rw [ht]; exact hP, hD⟩, hS.F ht⟩) hS.2.2 dX9_look_159
  have J93 : ∀ (tg : Sc) (H : Heap) (locs : List Loc) (ls : Array Slot), va_P (dC, dI) vwCl (wM1 m0 g tg) H → va_D A (wM1 m0 g tg) → va_S A s.heap H locs → lv_has ls 3 [(2, .int ((ush x1 26))), (0, .ref m0), (1, .int (x1))] → (fX9_look_93 x1 tg) = (fX9_look x1 sg) → W p l e (headSpec wsX9_look ({ frames := 4, cells := 0, slots := 0, locals := 88 })).room s m ([.ref m0, .int (x1)] : List Value).toArray below meth c H locs 0 0 (MQ below (md_Qv (dC, dI) (wM1 m0 g (fX9_look x1 sg)) (A)) ([.ref m0, .int (x1)] : List Value).toArray s 0 0 (A)) (F0 m 93 ls []) := by
    intro tg H locs ls hP hD hS hl hv
    refine lv_aload_n hx hb dX9_look_93 rfl (lv_at hl 1 rfl) ?_
    refine lv_iload_n hx hb dX9_look_94 rfl (lv_at hl 0 rfl) ?_
    refine md_callv (wr := []) (va_runV (As := [.int ((ush x1 26))]) (rest := []) ⟨hx, hb, hml, hown, hts⟩ (kX9_branch l dC dI m0 g H.size (ush x1 26) tg) (cwV 1 hts gX9_look_X9_branch rfl rfl rfl (by decide +kernel) ⟨Nat.le_of_ble_eq_true rfl, Nat.le_of_ble_eq_true rfl⟩) (md_preV 0 4 (q := (RX9, TX9, 26)) rfl rfl hP hK hD) rfl rfl hl.1 rfl (lv_room (Nat.le_of_ble_eq_true rfl)) dX9_look_95 ⟨Nat.zero_le _, Nat.zero_le _⟩) hS hA hP hD [0] [] rfl rfl (by decide) (by decide) (fun H locs hP hD hS => ?_)
    have hP : va_P (dC, dI) vwCl (wM1 m0 g (fX9_branch (ush x1 26) tg)) H := hP
    have hD : va_D A (wM1 m0 g (fX9_branch (ush x1 26) tg)) := hD
    refine lv_goto (tgt := 159) hx hb dX9_look_98 (by decide) ?_
    have e9 : (fX9_branch (ush x1 26) tg) = (fX9_look x1 sg) := ((show (fX9_branch (ush x1 26) tg) = (fX9_look_93 x1 tg) by unfold fX9_look_93; rfl).trans hv)
    have hP : va_P (dC, dI) vwCl (wM1 m0 g (fX9_look x1 sg)) H := by rw [← e9]; exact hP
    have hD : va_D A (wM1 m0 g (fX9_look x1 sg)) := by rw [← e9]; exact hD
    exact W.vret hx hb hr (fun t ht hW => ⟨⟨(), rfl, trivial, by rw [ht]; exact hP, hD⟩, hS.F ht⟩) hS.2.2 dX9_look_159
  refine lv_aload_n hx hb dX9_look_0 rfl (lv_at hl 0 rfl) ?_
  refine lv_iload_n hx hb dX9_look_1 rfl (lv_at hl 1 rfl) ?_
  refine va_put (D := (dC, dI)) (ci := 4) (v := .int (x1)) (ty := .int) (C := RX9) (T := TX9) (N := 26) hx hb hts hinX9 tyX9 tyX9_ok nmX9 hown hK hP hD hS 0 rfl rfl 15 (by decide) (hts (.fieldLink RX9 58 "SlotFillerModel" "w" "I") (by decide +kernel)) (fun _ h9 => h9) rfl (by decide +kernel) rfl rfl (Nat.le_of_ble_eq_true rfl) dX9_look_2 (fun H locs hP hD hS => ?_)
  have hP : va_P (dC, dI) vwCl [(m0, .inr (4, [(g 0), (g 1), (g 2), (g 3), (g 4), (g 5), (g 6), (g 7), (g 8), (g 9), (g 10), (g 11), (g 12), (g 13), (g 14), .int (x1), .int (sg.2.1), .int (sg.2.2.1), .int (sg.2.2.2.1), .long (sg.2.2.2.2.1), .long (sg.2.2.2.2.2.1), .int (sg.2.2.2.2.2.2), (g 22), (g 23), (g 24), (g 25)]))] H := hP
  have hD : va_D A [(m0, .inr (4, [(g 0), (g 1), (g 2), (g 3), (g 4), (g 5), (g 6), (g 7), (g 8), (g 9), (g 10), (g 11), (g 12), (g 13), (g 14), .int (x1), .int (sg.2.1), .int (sg.2.2.1), .int (sg.2.2.2.1), .long (sg.2.2.2.2.1), .long (sg.2.2.2.2.2.1), .int (sg.2.2.2.2.2.2), (g 22), (g 23), (g 24), (g 25)]))] := hD
  refine lv_aload_n hx hb dX9_look_5 rfl (lv_at hl 0 rfl) ?_
  refine lv_iconst (v := (-1)) hx hb dX9_look_6 (by decide) ?_
  refine va_put (D := (dC, dI)) (ci := 4) (v := .int ((-1))) (ty := .int) (C := RX9) (T := TX9) (N := 26) hx hb hts hinX9 tyX9 tyX9_ok nmX9 hown hK hP hD hS 0 rfl rfl 16 (by decide) (hts (.fieldLink RX9 69 "SlotFillerModel" "sort" "I") (by decide +kernel)) (fun _ h9 => h9) rfl (by decide +kernel) rfl rfl (Nat.le_of_ble_eq_true rfl) dX9_look_7 (fun H locs hP hD hS => ?_)
  have hP : va_P (dC, dI) vwCl [(m0, .inr (4, [(g 0), (g 1), (g 2), (g 3), (g 4), (g 5), (g 6), (g 7), (g 8), (g 9), (g 10), (g 11), (g 12), (g 13), (g 14), .int (x1), .int ((-1)), .int (sg.2.2.1), .int (sg.2.2.2.1), .long (sg.2.2.2.2.1), .long (sg.2.2.2.2.2.1), .int (sg.2.2.2.2.2.2), (g 22), (g 23), (g 24), (g 25)]))] H := hP
  have hD : va_D A [(m0, .inr (4, [(g 0), (g 1), (g 2), (g 3), (g 4), (g 5), (g 6), (g 7), (g 8), (g 9), (g 10), (g 11), (g 12), (g 13), (g 14), .int (x1), .int ((-1)), .int (sg.2.2.1), .int (sg.2.2.2.1), .long (sg.2.2.2.2.1), .long (sg.2.2.2.2.2.1), .int (sg.2.2.2.2.2.2), (g 22), (g 23), (g 24), (g 25)]))] := hD
  refine lv_aload_n hx hb dX9_look_10 rfl (lv_at hl 0 rfl) ?_
  refine lv_lconst (v := 0) hx hb dX9_look_11 (by decide) ?_
  refine va_put (D := (dC, dI)) (ci := 4) (v := .long (0)) (ty := .long) (C := RX9) (T := TX9) (N := 26) hx hb hts hinX9 tyX9 tyX9_ok nmX9 hown hK hP hD hS 0 rfl rfl 19 (by decide) (hts (.fieldLink RX9 72 "SlotFillerModel" "reads" "J") (by decide +kernel)) (fun _ h9 => h9) rfl (by decide +kernel) rfl rfl (Nat.le_of_ble_eq_true rfl) dX9_look_12 (fun H locs hP hD hS => ?_)
  have hP : va_P (dC, dI) vwCl [(m0, .inr (4, [(g 0), (g 1), (g 2), (g 3), (g 4), (g 5), (g 6), (g 7), (g 8), (g 9), (g 10), (g 11), (g 12), (g 13), (g 14), .int (x1), .int ((-1)), .int (sg.2.2.1), .int (sg.2.2.2.1), .long (0), .long (sg.2.2.2.2.2.1), .int (sg.2.2.2.2.2.2), (g 22), (g 23), (g 24), (g 25)]))] H := hP
  have hD : va_D A [(m0, .inr (4, [(g 0), (g 1), (g 2), (g 3), (g 4), (g 5), (g 6), (g 7), (g 8), (g 9), (g 10), (g 11), (g 12), (g 13), (g 14), .int (x1), .int ((-1)), .int (sg.2.2.1), .int (sg.2.2.2.1), .long (0), .long (sg.2.2.2.2.2.1), .int (sg.2.2.2.2.2.2), (g 22), (g 23), (g 24), (g 25)]))] := hD
  refine lv_aload_n hx hb dX9_look_15 rfl (lv_at hl 0 rfl) ?_
  refine lv_lconst (v := 0) hx hb dX9_look_16 (by decide) ?_
  refine va_put (D := (dC, dI)) (ci := 4) (v := .long (0)) (ty := .long) (C := RX9) (T := TX9) (N := 26) hx hb hts hinX9 tyX9 tyX9_ok nmX9 hown hK hP hD hS 0 rfl rfl 20 (by decide) (hts (.fieldLink RX9 76 "SlotFillerModel" "writes" "J") (by decide +kernel)) (fun _ h9 => h9) rfl (by decide +kernel) rfl rfl (Nat.le_of_ble_eq_true rfl) dX9_look_17 (fun H locs hP hD hS => ?_)
  have hP : va_P (dC, dI) vwCl [(m0, .inr (4, [(g 0), (g 1), (g 2), (g 3), (g 4), (g 5), (g 6), (g 7), (g 8), (g 9), (g 10), (g 11), (g 12), (g 13), (g 14), .int (x1), .int ((-1)), .int (sg.2.2.1), .int (sg.2.2.2.1), .long (0), .long (0), .int (sg.2.2.2.2.2.2), (g 22), (g 23), (g 24), (g 25)]))] H := hP
  have hD : va_D A [(m0, .inr (4, [(g 0), (g 1), (g 2), (g 3), (g 4), (g 5), (g 6), (g 7), (g 8), (g 9), (g 10), (g 11), (g 12), (g 13), (g 14), .int (x1), .int ((-1)), .int (sg.2.2.1), .int (sg.2.2.2.1), .long (0), .long (0), .int (sg.2.2.2.2.2.2), (g 22), (g 23), (g 24), (g 25)]))] := hD
  refine lv_aload_n hx hb dX9_look_20 rfl (lv_at hl 0 rfl) ?_
  refine lv_iconst (v := 0) hx hb dX9_look_21 (by decide) ?_
  refine va_put (D := (dC, dI)) (ci := 4) (v := .int (0)) (ty := .boolean) (C := RX9) (T := TX9) (N := 26) hx hb hts hinX9 tyX9 tyX9_ok nmX9 hown hK hP hD hS 0 rfl rfl 21 (by decide) (hts (.fieldLink RX9 87 "SlotFillerModel" "isLikely" "Z") (by decide +kernel)) (fun _ h9 => h9) rfl (by decide +kernel) (by decide) (by decide) (Nat.le_of_ble_eq_true rfl) dX9_look_22 (fun H locs hP hD hS => ?_)
  have hP : va_P (dC, dI) vwCl [(m0, .inr (4, [(g 0), (g 1), (g 2), (g 3), (g 4), (g 5), (g 6), (g 7), (g 8), (g 9), (g 10), (g 11), (g 12), (g 13), (g 14), .int (x1), .int ((-1)), .int (sg.2.2.1), .int (sg.2.2.2.1), .long (0), .long (0), .int (0), (g 22), (g 23), (g 24), (g 25)]))] H := hP
  have hD : va_D A [(m0, .inr (4, [(g 0), (g 1), (g 2), (g 3), (g 4), (g 5), (g 6), (g 7), (g 8), (g 9), (g 10), (g 11), (g 12), (g 13), (g 14), .int (x1), .int ((-1)), .int (sg.2.2.1), .int (sg.2.2.2.1), .long (0), .long (0), .int (0), (g 22), (g 23), (g 24), (g 25)]))] := hD
  refine lv_aload_n hx hb dX9_look_25 rfl (lv_at hl 0 rfl) ?_
  refine lv_iconst (v := 0) hx hb dX9_look_26 (by decide) ?_
  refine lv_iconst (v := 0) hx hb dX9_look_27 (by decide) ?_
  refine md_callv (wr := []) (va_runV (As := [.int (0), .int (0)]) (rest := []) ⟨hx, hb, hml, hown, hts⟩ (kX9_also l dC dI m0 g H.size 0 0 (x1, (-1), sg.2.2.1, sg.2.2.2.1, 0, 0, 0)) (cwV 2 hts gX9_look_X9_also rfl rfl rfl (by decide +kernel) ⟨Nat.le_of_ble_eq_true rfl, Nat.le_of_ble_eq_true rfl⟩) (md_preV 0 4 (q := (RX9, TX9, 26)) rfl rfl hP hK hD) rfl rfl hl.1 rfl (lv_room (Nat.le_of_ble_eq_true rfl)) dX9_look_28 ⟨Nat.zero_le _, Nat.zero_le _⟩) hS hA hP hD [0] [] rfl rfl (by decide) (by decide) (fun H locs hP hD hS => ?_)
  have hP : va_P (dC, dI) vwCl (wM1 m0 g (x1, (-1), 0, 0, 0, 0, 0)) H := hP
  have hD : va_D A (wM1 m0 g (x1, (-1), 0, 0, 0, 0, 0)) := hD
  refine lv_aload_n hx hb dX9_look_31 rfl (lv_at hl 0 rfl) ?_
  refine va_get (D := (dC, dI)) (ci := 4) (v := .int (x1)) (C := RX9) (T := TX9) (N := 26) hx hb hts hinX9 hown hK hP 0 rfl rfl 15 (by decide) (hts (.fieldLink RX9 58 "SlotFillerModel" "w" "I") (by decide +kernel)) (fun _ h9 => h9) rfl dX9_look_32 ?_
  refine lv_bipush (v := 26) hx hb dX9_look_35 (by decide) ?_
  refine lv_iushr (v := ush x1 26) hx hb dX9_look_37 rfl ?_
  refine lv_istore_n (lv' := [(2, .int ((ush x1 26))), (0, .ref m0), (1, .int (x1))]) hx hb dX9_look_38 rfl hl (by decide) rfl (fun ls hl => ?_)
  refine lv_iload_n hx hb dX9_look_39 rfl (lv_at hl 0 rfl) ?_
  refine lv_if_ne (tgt := 57) hx hb dX9_look_40 (by decide) (fun c_5 => ?_) (fun c_5 => ?_)
  · refine lv_iload_n hx hb dX9_look_57 rfl (lv_at hl 0 rfl) ?_
    refine lv_iconst (v := 1) hx hb dX9_look_58 (by decide) ?_
    refine lv_icmp_ne (tgt := 75) hx hb dX9_look_59 (by decide) (fun c_6 => ?_) (fun c_6 => ?_)
    · refine lv_iload_n hx hb dX9_look_75 rfl (lv_at hl 0 rfl) ?_
      refine lv_bipush (v := 8) hx hb dX9_look_76 (by decide) ?_
      refine lv_icmp_lt (tgt := 93) hx hb dX9_look_78 (by decide) (fun c_7 => ?_) (fun c_7 => ?_)
      · exact J93 (x1, (-1), 0, 0, 0, 0, 0) H _ ls hP hD hS (lv_sub hl [0, 1, 2] rfl) ((show (fX9_look_93 x1 (x1, (-1), 0, 0, 0, 0, 0)) = (fX9_look x1 sg) by unfold fX9_look; rw [if_neg c_5, if_neg c_6, if_pos c_7]).trans hv)
      · refine lv_iload_n hx hb dX9_look_81 rfl (lv_at hl 0 rfl) ?_
        refine lv_bipush (v := 20) hx hb dX9_look_82 (by decide) ?_
        refine lv_icmp_lt (tgt := 101) hx hb dX9_look_84 (by decide) (fun c_8 => ?_) (fun c_8 => ?_)
        · exact J101 (x1, (-1), 0, 0, 0, 0, 0) H _ ls hP hD hS (lv_sub hl [0, 1, 2] rfl) ((show (fX9_look_101 x1 (x1, (-1), 0, 0, 0, 0, 0)) = (fX9_look x1 sg) by unfold fX9_look; rw [if_neg c_5, if_neg c_6, if_neg c_7, if_pos c_8]).trans hv)
        · refine lv_iload_n hx hb dX9_look_87 rfl (lv_at hl 0 rfl) ?_
          refine lv_bipush (v := 24) hx hb dX9_look_88 (by decide) ?_
          refine lv_icmp_ge (tgt := 101) hx hb dX9_look_90 (by decide) (fun c_9 => ?_) (fun c_9 => ?_)
          · exact J101 (x1, (-1), 0, 0, 0, 0, 0) H _ ls hP hD hS (lv_sub hl [0, 1, 2] rfl) ((show (fX9_look_101 x1 (x1, (-1), 0, 0, 0, 0, 0)) = (fX9_look x1 sg) by unfold fX9_look; rw [if_neg c_5, if_neg c_6, if_neg c_7, if_neg c_8, if_pos c_9]).trans hv)
          · exact J93 (x1, (-1), 0, 0, 0, 0, 0) H _ ls hP hD hS (lv_sub hl [0, 1, 2] rfl) ((show (fX9_look_93 x1 (x1, (-1), 0, 0, 0, 0, 0)) = (fX9_look x1 sg) by unfold fX9_look; rw [if_neg c_5, if_neg c_6, if_neg c_7, if_neg c_8, if_neg c_9]).trans hv)
    · refine lv_aload_n hx hb dX9_look_62 rfl (lv_at hl 1 rfl) ?_
      refine lv_aload_n hx hb dX9_look_63 rfl (lv_at hl 1 rfl) ?_
      refine lv_bipush (v := 16) hx hb dX9_look_64 (by decide) ?_
      refine ro_calli (va_runV (As := [.int (16)]) (rest := [.ref m0]) ⟨hx, hb, hml, hown, hts⟩ (kX9_field l dC dI m0 g H.size 16 (x1, (-1), 0, 0, 0, 0, 0)) (cwV 1 hts gX9_look_X9_field rfl rfl rfl (by decide +kernel) ⟨Nat.le_of_ble_eq_true rfl, Nat.le_of_ble_eq_true rfl⟩) (ro_preV 0 4 (q := (RX9, TX9, 26)) rfl rfl hP hK) rfl rfl hl.1 rfl (lv_room (Nat.le_of_ble_eq_true rfl)) dX9_look_66 ⟨Nat.zero_le _, Nat.zero_le _⟩) hS hA (fun H locs kP hS => ?_)
      have hP := kP _ _ _ hP
      refine md_callv (wr := []) (va_runV (As := [.int ((fld x1 16))]) (rest := []) ⟨hx, hb, hml, hown, hts⟩ (kX9_immediate l dC dI m0 g H.size (fld x1 16) (x1, (-1), 0, 0, 0, 0, 0)) (cwV 1 hts gX9_look_X9_immediate rfl rfl rfl (by decide +kernel) ⟨Nat.le_of_ble_eq_true rfl, Nat.le_of_ble_eq_true rfl⟩) (md_preV 0 4 (q := (RX9, TX9, 26)) rfl rfl hP hK hD) rfl rfl hl.1 rfl (lv_room (Nat.le_of_ble_eq_true rfl)) dX9_look_69 ⟨Nat.zero_le _, Nat.zero_le _⟩) hS hA hP hD [0] [] rfl rfl (by decide) (by decide) (fun H locs hP hD hS => ?_)
      have hP : va_P (dC, dI) vwCl (wM1 m0 g (fX9_immediate (fld x1 16) (x1, (-1), 0, 0, 0, 0, 0))) H := hP
      have hD : va_D A (wM1 m0 g (fX9_immediate (fld x1 16) (x1, (-1), 0, 0, 0, 0, 0))) := hD
      refine lv_goto (tgt := 159) hx hb dX9_look_72 (by decide) ?_
      have e9 : (fX9_immediate (fld x1 16) (x1, (-1), 0, 0, 0, 0, 0)) = (fX9_look x1 sg) := ((show (fX9_immediate (fld x1 16) (x1, (-1), 0, 0, 0, 0, 0)) = (fX9_look x1 sg) by unfold fX9_look; rw [if_neg c_5, if_pos c_6]).trans hv)
      have hP : va_P (dC, dI) vwCl (wM1 m0 g (fX9_look x1 sg)) H := by rw [← e9]; exact hP
      have hD : va_D A (wM1 m0 g (fX9_look x1 sg)) := by rw [← e9]; exact hD
      exact W.vret hx hb hr (fun t ht hW => ⟨⟨(), rfl, trivial, by rw [ht]; exact hP, hD⟩, hS.F ht⟩) hS.2.2 dX9_look_159
  · refine lv_aload_n hx hb dX9_look_43 rfl (lv_at hl 1 rfl) ?_
    refine lv_aload_n hx hb dX9_look_44 rfl (lv_at hl 1 rfl) ?_
    refine va_get (D := (dC, dI)) (ci := 4) (v := .int (x1)) (C := RX9) (T := TX9) (N := 26) hx hb hts hinX9 hown hK hP 0 rfl rfl 15 (by decide) (hts (.fieldLink RX9 58 "SlotFillerModel" "w" "I") (by decide +kernel)) (fun _ h9 => h9) rfl dX9_look_45 ?_
    refine lv_bipush (v := 63) hx hb dX9_look_48 (by decide) ?_
    refine lv_iand hx hb dX9_look_50 ?_
    refine md_callv (wr := []) (va_runV (As := [.int ((x1 &&& 63))]) (rest := []) ⟨hx, hb, hml, hown, hts⟩ (kX9_special l dC dI m0 g H.size (x1 &&& 63) (x1, (-1), 0, 0, 0, 0, 0)) (cwV 1 hts gX9_look_X9_special rfl rfl rfl (by decide +kernel) ⟨Nat.le_of_ble_eq_true rfl, Nat.le_of_ble_eq_true rfl⟩) (md_preV 0 4 (q := (RX9, TX9, 26)) rfl rfl hP hK hD) rfl rfl hl.1 rfl (lv_room (Nat.le_of_ble_eq_true rfl)) dX9_look_51 ⟨Nat.zero_le _, Nat.zero_le _⟩) hS hA hP hD [0] [] rfl rfl (by decide) (by decide) (fun H locs hP hD hS => ?_)
    have hP : va_P (dC, dI) vwCl (wM1 m0 g (fX9_special (x1 &&& 63) (x1, (-1), 0, 0, 0, 0, 0))) H := hP
    have hD : va_D A (wM1 m0 g (fX9_special (x1 &&& 63) (x1, (-1), 0, 0, 0, 0, 0))) := hD
    refine lv_goto (tgt := 159) hx hb dX9_look_54 (by decide) ?_
    have e9 : (fX9_special (x1 &&& 63) (x1, (-1), 0, 0, 0, 0, 0)) = (fX9_look x1 sg) := ((show (fX9_special (x1 &&& 63) (x1, (-1), 0, 0, 0, 0, 0)) = (fX9_look x1 sg) by unfold fX9_look; rw [if_pos c_5]).trans hv)
    have hP : va_P (dC, dI) vwCl (wM1 m0 g (fX9_look x1 sg)) H := by rw [← e9]; exact hP
    have hD : va_D A (wM1 m0 g (fX9_look x1 sg)) := by rw [← e9]; exact hD
    exact W.vret hx hb hr (fun t ht hW => ⟨⟨(), rfl, trivial, by rw [ht]; exact hP, hD⟩, hS.F ht⟩) hS.2.2 dX9_look_159
