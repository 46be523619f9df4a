/-! ===== Order ===== -/
abbrev OS : Type := Nat × (Nat → Nat → Int32)
def wO (cI cZ : ClassId) (oa : Nat → Nat) (o : OS) : va_W := [((oa 0), .inr (1, [.int (nI o.1), .ref (oa 1), .ref (oa 2), .ref (oa 3), .ref (oa 4)])), ((oa 1), .inl (cI, 40, .inl (o.2 1))), ((oa 2), .inl (cZ, 40, .inl (o.2 2))), ((oa 3), .inl (cI, 40, .inl (o.2 3))), ((oa 4), .inl (cI, 40, .inl (o.2 4)))]
/-- the block's size without its branch -/
def swb (n : Nat) (B : Nat → Nat → Int32) (BL : Nat → Nat → Int64) : Nat := if fX0_endsInBranch n B BL = 0 then n else n - 1
theorem swb_le (n : Nat) (B : Nat → Nat → Int32) (BL : Nat → Nat → Int64) : swb n B BL ≤ n := by unfold swb; split <;> omega
theorem ends_pos {n : Nat} {B : Nat → Nat → Int32} {BL : Nat → Nat → Int64} (h : ¬ fX0_endsInBranch n B BL = 0) : 0 < n := by
  unfold fX0_endsInBranch at h
  by_cases q : nI n ≤ 0
  · rw [if_pos q] at h; exact absurd rfl h
  · exact nI_pos_of q
theorem swb_eq (n : Nat) (B : Nat → Nat → Int32) (BL : Nat → Nat → Int64) : fX0_sizeWithoutBranch n B BL = nI (swb n B BL) := by
  unfold fX0_sizeWithoutBranch swb
  split
  · rfl
  · next h => exact nI_sub1 (ends_pos h)
theorem vp_nI {x : Int32} {n : Nat} (h : vp_in x n) (hn : n < 2 ^ 31) : x = nI x.toNatClampNeg ∧ x.toNatClampNeg < n := by
  obtain ⟨j, hj, rfl⟩ := vp_in_of h hn
  rw [nI_clamp (by omega)]
  exact ⟨rfl, hj⟩
def fX5_asInBlock_10 (n : Nat) (B : Nat → Nat → Int32) (BL : Nat → Nat → Int64) : Nat → Nat → OS → OS
  | 0, i, tg => tg
  | q10 + 1, i, tg => if nI tg.1 ≤ nI i then tg else (fX5_asInBlock_10 n B BL q10 (i + 1) (tg.1, (upB tg.2 1 (upd (tg.2 1) (i) (nI i)))))
def fX5_asInBlock (n : Nat) (B : Nat → Nat → Int32) (BL : Nat → Nat → Int64) (sg : OS) : OS := (fX5_asInBlock_10 n B BL 41 0 ((swb n B BL), sg.2))
set_option maxHeartbeats 4000000 in
set_option maxRecDepth 100000 in
theorem kX5_asInBlock (l : Launch) (dC : Nat → ClassId) (dI : Nat → Nat → Nat) (cI cJ cZ : ClassId) (oa ba : Nat → Nat) (n : Nat) (B : Nat → Nat → Int32) (BL : Nat → Nat → Int64) (sz : Nat) (hn : n ≤ 40) (hk : ∀ q, q < 40 → vp_in (B 3 q) 9) (sg : OS) : Met l yX5_asInBlock wsX5_asInBlock ({ frames := 2, cells := 0, slots := 0, locals := 40 }) (md_Pc (dC, dI) (wO cI cZ oa sg ++ wB cI cJ cZ ba n B BL) (tyA cI cJ cZ) [.ref (oa 0), .ref (ba 1)] sz) (md_Qv (dC, dI) (wO cI cZ oa (fX5_asInBlock n B BL sg) ++ wB cI cJ cZ ba n B BL) (va_A (wO cI cZ oa sg ++ wB cI cJ cZ ba n B BL) sz)) 0 0 (va_A (wO cI cZ oa sg ++ wB cI cJ cZ ba n B BL) sz) := by
  refine Met.ofW (cc := cX5_asInBlock) (maxL := 3) (ret := none) (by decide) rfl ?_
  intro p e s m args below meth c s₁ B0 hml hv
  obtain ⟨rfl, hsz, hP, hK, hD0⟩ := hv
  have hx := B0.exec
  have hb := B0.bytes
  have hr := B0.returns
  have hts := atoms_spec (ws := wsX5_asInBlock) B0.pre
  have hown : s.vm.findClass RX5 = some m.cls := findClass_of_methodNamed B0.named
  have hlocks := B0.notSynchronized
  have hinX5 : ∀ w ∈ wsX50, w ∈ wsX5_asInBlock := fun w h => List.mem_cons_of_mem _ (List.mem_append_left _ (List.mem_append_right _ (h)))
  subst hsz
  have hD := hD0.self (sz := s.heap.size)
  generalize hAe : va_A (wO cI cZ oa sg ++ wB cI cJ cZ ba n B BL) s.heap.size = A at hD ⊢
  have hA : ∀ q : Nat, s.heap.size ≤ q → A q := fun q h => by rw [← hAe]; exact Or.inr h
  have hS : va_S A s.heap s.heap [] := va_S.rf
  have hl := lv_entry ([.ref (oa 0), .ref (ba 1)]) (n := 3) (Nat.le_of_ble_eq_true rfl)
  rw [lg_entry_eq]
  generalize (lg_sl ([.ref (oa 0), .ref (ba 1)]) ++ List.replicate (3 - (lg_sl ([.ref (oa 0), .ref (ba 1)])).length) Slot.unset).toArray = ls at hl ⊢
  have hl : lv_has ls 3 [(0, .ref (oa 0)), (1, .ref (ba 1))] := hl
  have hv : (fX5_asInBlock n B BL sg) = (fX5_asInBlock n B BL sg) := rfl
  have J10 : ∀ (q10 : Nat) (i : Nat) (tg : OS) (H : Heap) (locs : List Loc) (ls : Array Slot), ((i ≤ tg.1 ∧ tg.1 ≤ 40) ∧ 41 ≤ i + q10) → va_P (dC, dI) vwCl (wO cI cZ oa tg ++ wB cI cJ cZ ba n B BL) H → va_D A (wO cI cZ oa tg ++ wB cI cJ cZ ba n B BL) → va_S A s.heap H locs → lv_has ls 3 [(2, .int (nI i)), (0, .ref (oa 0)), (1, .ref (ba 1))] → (fX5_asInBlock_10 n B BL q10 i tg) = (fX5_asInBlock n B BL sg) → W p l e (headSpec wsX5_asInBlock ({ frames := 2, cells := 0, slots := 0, locals := 40 })).room s m ([.ref (oa 0), .ref (ba 1)] : List Value).toArray below meth c H locs 0 0 (MQ below (md_Qv (dC, dI) (wO cI cZ oa (fX5_asInBlock n B BL sg) ++ wB cI cJ cZ ba n B BL) (A)) ([.ref (oa 0), .ref (ba 1)] : List Value).toArray s 0 0 (A)) (F0 m 10 ls []) := by
    intro q10
    induction q10 with
    | zero => intro i tg H locs ls hm10 hP hD hS hl hv; exact absurd hm10 (by omega)
    | succ q10 ih10 =>
      intro i tg H locs ls hm10 hP hD hS hl hv
      have htn := hm10.1.2; have hin := hm10.1.1
      refine lv_iload_n hx hb dX5_asInBlock_10 rfl (lv_at hl 0 rfl) ?_
      refine lv_aload_n hx hb dX5_asInBlock_11 rfl (lv_at hl 1 rfl) ?_
      refine va_get (D := (dC, dI)) (ci := 1) (v := .int (nI tg.1)) (C := RX5) (T := TX5) (N := 5) hx hb hts hinX5 hown hK hP 0 rfl rfl 0 (by decide) (hts (.fieldLink RX5 9 "SlotFiller$Order" "size" "I") (by decide +kernel)) (fun _ h9 => h9) rfl dX5_asInBlock_12 ?_
      refine lv_icmp_ge (tgt := 31) hx hb dX5_asInBlock_15 (by decide) (fun c_1 => ?_) (fun c_1 => ?_)
      · have e9 : tg = (fX5_asInBlock n B BL sg) := ((show tg = (fX5_asInBlock_10 n B BL (q10 + 1) i tg) by rw [fX5_asInBlock_10, if_pos c_1]).trans hv)
        have hP : va_P (dC, dI) vwCl (wO cI cZ oa (fX5_asInBlock n B BL sg) ++ wB cI cJ cZ ba n B BL) H := by rw [← e9]; exact hP
        have hD : va_D A (wO cI cZ oa (fX5_asInBlock n B BL sg) ++ wB cI cJ cZ ba n B BL) := by rw [← e9]; exact hD
        exact W.vret hx hb hr (fun t ht hW => ⟨⟨(), rfl, trivial, by rw [ht]; exact hP, hD⟩, hS.F ht⟩) hS.2.2 dX5_asInBlock_31
      · refine lv_aload_n hx hb dX5_asInBlock_18 rfl (lv_at hl 1 rfl) ?_
        refine va_get (D := (dC, dI)) (ci := 1) (v := .ref (oa 1)) (C := RX5) (T := TX5) (N := 5) hx hb hts hinX5 hown hK hP 0 rfl rfl 1 (by decide) (hts (.fieldLink RX5 15 "SlotFiller$Order" "places" "[I") (by decide +kernel)) (fun _ h9 => h9) rfl dX5_asInBlock_19 ?_
        refine lv_iload_n hx hb dX5_asInBlock_22 rfl (lv_at hl 0 rfl) ?_
        refine lv_iload_n hx hb dX5_asInBlock_23 rfl (lv_at hl 0 rfl) ?_
        refine my_iast (j := i) hx hb hK hP hD hS 1 0 rfl rfl (Nat.lt_of_lt_of_le (nI_geN (by omega) (by omega) c_1) hm10.1.2) (by decide) dX5_asInBlock_24 (fun H locs hP hD hS => ?_)
        have hP : va_P (dC, dI) vwCl ([((oa 0), .inr (1, [.int (nI tg.1), .ref (oa 1), .ref (oa 2), .ref (oa 3), .ref (oa 4)])), ((oa 1), .inl (cI, 40, .inl (upd (tg.2 1) (i) (nI i)))), ((oa 2), .inl (cZ, 40, .inl (tg.2 2))), ((oa 3), .inl (cI, 40, .inl (tg.2 3))), ((oa 4), .inl (cI, 40, .inl (tg.2 4)))] ++ wB cI cJ cZ ba n B BL) H := hP
        have hD : va_D A ([((oa 0), .inr (1, [.int (nI tg.1), .ref (oa 1), .ref (oa 2), .ref (oa 3), .ref (oa 4)])), ((oa 1), .inl (cI, 40, .inl (upd (tg.2 1) (i) (nI i)))), ((oa 2), .inl (cZ, 40, .inl (tg.2 2))), ((oa 3), .inl (cI, 40, .inl (tg.2 3))), ((oa 4), .inl (cI, 40, .inl (tg.2 4)))] ++ wB cI cJ cZ ba n B BL) := hD
        refine lv_iinc (v := nI (i + 1)) (lv' := [(2, .int (nI (i + 1))), (0, .ref (oa 0)), (1, .ref (ba 1))]) hx hb dX5_asInBlock_25 hl (k := 0) rfl (nI_1 i) (by decide) rfl (fun ls hl => ?_)
        refine lv_goto (tgt := 10) hx hb dX5_asInBlock_28 (by decide) ?_
        exact ih10 (i + 1) (tg.1, (upB tg.2 1 (upd (tg.2 1) (i) (nI i)))) H _ ls (⟨⟨nI_geN (by omega) (by omega) c_1, htn⟩, by omega⟩) hP hD hS (lv_sub hl [0, 1, 2] rfl) ((show (fX5_asInBlock_10 n B BL q10 (i + 1) (tg.1, (upB tg.2 1 (upd (tg.2 1) (i) (nI i))))) = (fX5_asInBlock_10 n B BL (q10 + 1) i tg) by rw [fX5_asInBlock_10, if_neg c_1]).trans hv)
  refine lv_aload_n hx hb dX5_asInBlock_0 rfl (lv_at hl 0 rfl) ?_
  refine lv_aload_n hx hb dX5_asInBlock_1 rfl (lv_at hl 1 rfl) ?_
  refine ro_calli (va_runV (As := []) (rest := [.ref (oa 0)]) ⟨hx, hb, hml, hown, hts⟩ (kX0_sizeWithoutBranch l dC dI cI cJ cZ ba n B BL s.heap.size hn) (cwV 0 hts gX5_asInBlock_X0_sizeWithoutBranch rfl rfl rfl (by decide +kernel) ⟨Nat.le_of_ble_eq_true rfl, Nat.le_of_ble_eq_true rfl⟩) (ro_preV 0 0 (q := (RX0, TX0, 15)) rfl rfl (hP.sub [5, 6, 7, 8, 9, 10, 11, 12, 13, 14, 15, 16, 17, 18, 19] rfl) hK) rfl rfl hl.1 rfl (lv_room (Nat.le_of_ble_eq_true rfl)) dX5_asInBlock_2 ⟨Nat.zero_le _, Nat.zero_le _⟩) hS hA (fun H locs kP hS => ?_)
  have hP := kP _ _ _ hP
  refine top_i (y := nI (swb n B BL)) (swb_eq n B BL) ?_
  refine va_put (D := (dC, dI)) (ci := 1) (v := .int (nI (swb n B BL))) (ty := .int) (C := RX5) (T := TX5) (N := 5) hx hb hts hinX5 tyX5 tyX5_ok nmX5 hown hK hP hD hS 0 rfl rfl 0 (by decide) (hts (.fieldLink RX5 9 "SlotFiller$Order" "size" "I") (by decide +kernel)) (fun _ h9 => h9) rfl (by decide +kernel) rfl rfl (Nat.le_of_ble_eq_true rfl) dX5_asInBlock_5 (fun H locs hP hD hS => ?_)
  have hP : va_P (dC, dI) vwCl ([((oa 0), .inr (1, [.int (nI (swb n B BL)), .ref (oa 1), .ref (oa 2), .ref (oa 3), .ref (oa 4)])), ((oa 1), .inl (cI, 40, .inl (sg.2 1))), ((oa 2), .inl (cZ, 40, .inl (sg.2 2))), ((oa 3), .inl (cI, 40, .inl (sg.2 3))), ((oa 4), .inl (cI, 40, .inl (sg.2 4)))] ++ wB cI cJ cZ ba n B BL) H := hP
  have hD : va_D A ([((oa 0), .inr (1, [.int (nI (swb n B BL)), .ref (oa 1), .ref (oa 2), .ref (oa 3), .ref (oa 4)])), ((oa 1), .inl (cI, 40, .inl (sg.2 1))), ((oa 2), .inl (cZ, 40, .inl (sg.2 2))), ((oa 3), .inl (cI, 40, .inl (sg.2 3))), ((oa 4), .inl (cI, 40, .inl (sg.2 4)))] ++ wB cI cJ cZ ba n B BL) := hD
  refine lv_iconst (v := 0) hx hb dX5_asInBlock_8 (by decide) ?_
  refine top_i (y := nI 0) (nI_0.symm) ?_
  refine lv_istore_n (lv' := [(2, .int (nI 0)), (0, .ref (oa 0)), (1, .ref (ba 1))]) hx hb dX5_asInBlock_9 rfl hl (by decide) rfl (fun ls hl => ?_)
  exact J10 41 0 ((swb n B BL), sg.2) H _ ls (⟨⟨Nat.zero_le _, Nat.le_trans (swb_le _ _ _) hn⟩, by omega⟩) hP hD hS (lv_sub hl [0, 1, 2] rfl) ((show (fX5_asInBlock_10 n B BL 41 0 ((swb n B BL), sg.2)) = (fX5_asInBlock n B BL sg) by unfold fX5_asInBlock; rfl).trans hv)
def fX5_prepare_31 (n : Nat) (B : Nat → Nat → Int32) (BL : Nat → Nat → Int64) (mm : Nat) (j : Nat) : Nat → Nat → OS → Nat × OS
  | 0, i, ug => (i, ug)
  | q31 + 1, i, ug => if nI j ≤ nI i then (i, ug) else if (fX0_distance n B BL j i) ≤ 0 then (fX5_prepare_31 n B BL mm j q31 (i + 1) ug) else (fX5_prepare_31 n B BL mm j q31 (i + 1) (ug.1, (upB ug.2 3 (upd (ug.2 3) (j) ((((ug.2 3) (j)) + 1))))))
def fX5_prepare_2 (n : Nat) (B : Nat → Nat → Int32) (BL : Nat → Nat → Int64) (mm : Nat) : Nat → Nat → OS → OS
  | 0, j, tg => tg
  | q2 + 1, j, tg => if nI mm ≤ nI j then tg else (fX5_prepare_2 n B BL mm q2 (j + 1) ((((fX5_prepare_31 n B BL mm j 41 0 (tg.1, (upB (upB (upB tg.2 2 (upd (tg.2 2) (j) (0))) 3 (upd (tg.2 3) (j) (0))) 4 (upd (tg.2 4) (j) (0))))).2).1), ((fX5_prepare_31 n B BL mm j 41 0 (tg.1, (upB (upB (upB tg.2 2 (upd (tg.2 2) (j) (0))) 3 (upd (tg.2 3) (j) (0))) 4 (upd (tg.2 4) (j) (0))))).2).2))
def fX5_prepare (n : Nat) (B : Nat → Nat → Int32) (BL : Nat → Nat → Int64) (mm : Nat) (sg : OS) : OS := (fX5_prepare_2 n B BL mm 41 0 sg)
set_option maxHeartbeats 4000000 in
set_option maxRecDepth 100000 in
theorem kX5_prepare (l : Launch) (dC : Nat → ClassId) (dI : Nat → Nat → Nat) (cI cJ cZ : ClassId) (oa ba : Nat → Nat) (n : Nat) (B : Nat → Nat → Int32) (BL : Nat → Nat → Int64) (sz : Nat) (mm : Nat) (hmm : mm ≤ 40) (hn : n ≤ 40) (hk : ∀ q, q < 40 → vp_in (B 3 q) 9) (sg : OS) : Met l yX5_prepare wsX5_prepare ({ frames := 3, cells := 0, slots := 0, locals := 70 }) (md_Pc (dC, dI) (wO cI cZ oa sg ++ wB cI cJ cZ ba n B BL) (tyA cI cJ cZ) [.ref (oa 0), .ref (ba 1), .int (nI mm)] sz) (md_Qv (dC, dI) (wO cI cZ oa (fX5_prepare n B BL mm sg) ++ wB cI cJ cZ ba n B BL) (va_A (wO cI cZ oa sg ++ wB cI cJ cZ ba n B BL) sz)) 0 0 (va_A (wO cI cZ oa sg ++ wB cI cJ cZ ba n B BL) sz) := by
  refine Met.ofW (cc := cX5_prepare) (maxL := 5) (ret := none) (by decide) rfl ?_
  intro p e s m args below meth c s₁ B0 hml hv
  obtain ⟨rfl, hsz, hP, hK, hD0⟩ := hv
  have hx := B0.exec
  have hb := B0.bytes
  have hr := B0.returns
  have hts := atoms_spec (ws := wsX5_prepare) B0.pre
  have hown : s.vm.findClass RX5 = some m.cls := findClass_of_methodNamed B0.named
  have hlocks := B0.notSynchronized
  have hinX5 : ∀ w ∈ wsX50, w ∈ wsX5_prepare := fun w h => List.mem_cons_of_mem _ (List.mem_append_left _ (List.mem_append_right _ (h)))
  subst hsz
  have hD := hD0.self (sz := s.heap.size)
  generalize hAe : va_A (wO cI cZ oa sg ++ wB cI cJ cZ ba n B BL) s.heap.size = A at hD ⊢
  have hA : ∀ q : Nat, s.heap.size ≤ q → A q := fun q h => by rw [← hAe]; exact Or.inr h
  have hS : va_S A s.heap s.heap [] := va_S.rf
  have hl := lv_entry ([.ref (oa 0), .ref (ba 1), .int (nI mm)]) (n := 5) (Nat.le_of_ble_eq_true rfl)
  rw [lg_entry_eq]
  generalize (lg_sl ([.ref (oa 0), .ref (ba 1), .int (nI mm)]) ++ List.replicate (5 - (lg_sl ([.ref (oa 0), .ref (ba 1), .int (nI mm)])).length) Slot.unset).toArray = ls at hl ⊢
  have hl : lv_has ls 5 [(0, .ref (oa 0)), (1, .ref (ba 1)), (2, .int (nI mm))] := hl
  have hv : (fX5_prepare n B BL mm sg) = (fX5_prepare n B BL mm sg) := rfl
  have J2 : ∀ (q2 : Nat) (j : Nat) (tg : OS) (H : Heap) (locs : List Loc) (ls : Array Slot), (j ≤ mm ∧ 41 ≤ j + q2) → va_P (dC, dI) vwCl (wO cI cZ oa tg ++ wB cI cJ cZ ba n B BL) H → va_D A (wO cI cZ oa tg ++ wB cI cJ cZ ba n B BL) → va_S A s.heap H locs → lv_has ls 5 [(3, .int (nI j)), (0, .ref (oa 0)), (1, .ref (ba 1)), (2, .int (nI mm))] → (fX5_prepare_2 n B BL mm q2 j tg) = (fX5_prepare n B BL mm sg) → W p l e (headSpec wsX5_prepare ({ frames := 3, cells := 0, slots := 0, locals := 70 })).room s m ([.ref (oa 0), .ref (ba 1), .int (nI mm)] : List Value).toArray below meth c H locs 0 0 (MQ below (md_Qv (dC, dI) (wO cI cZ oa (fX5_prepare n B BL mm sg) ++ wB cI cJ cZ ba n B BL) (A)) ([.ref (oa 0), .ref (ba 1), .int (nI mm)] : List Value).toArray s 0 0 (A)) (F0 m 2 ls []) := by
    intro q2
    induction q2 with
    | zero => intro j tg H locs ls hm2 hP hD hS hl hv; exact absurd hm2 (by omega)
    | succ q2 ih2 =>
      intro j tg H locs ls hm2 hP hD hS hl hv
      have hjm := hm2.1
      have J31 : ∀ (q31 : Nat) (i : Nat) (ug : OS) (H : Heap) (locs : List Loc) (ls : Array Slot), ((i ≤ j ∧ j < 40) ∧ 41 ≤ i + q31) → va_P (dC, dI) vwCl (wO cI cZ oa ug ++ wB cI cJ cZ ba n B BL) H → va_D A (wO cI cZ oa ug ++ wB cI cJ cZ ba n B BL) → va_S A s.heap H locs → lv_has ls 5 [(4, .int (nI i)), (3, .int (nI j)), (0, .ref (oa 0)), (1, .ref (ba 1)), (2, .int (nI mm))] → (∀ (H : Heap) (locs : List Loc) (ls : Array Slot), va_P (dC, dI) vwCl (wO cI cZ oa ((fX5_prepare_31 n B BL mm j q31 i ug).2) ++ wB cI cJ cZ ba n B BL) H → va_D A (wO cI cZ oa ((fX5_prepare_31 n B BL mm j q31 i ug).2) ++ wB cI cJ cZ ba n B BL) → va_S A s.heap H locs → lv_has ls 5 [(4, .int (nI ((fX5_prepare_31 n B BL mm j q31 i ug).1))), (3, .int (nI j)), (0, .ref (oa 0)), (1, .ref (ba 1)), (2, .int (nI mm))] → W p l e (headSpec wsX5_prepare ({ frames := 3, cells := 0, slots := 0, locals := 70 })).room s m ([.ref (oa 0), .ref (ba 1), .int (nI mm)] : List Value).toArray below meth c H locs 0 0 (MQ below (md_Qv (dC, dI) (wO cI cZ oa (fX5_prepare n B BL mm sg) ++ wB cI cJ cZ ba n B BL) (A)) ([.ref (oa 0), .ref (ba 1), .int (nI mm)] : List Value).toArray s 0 0 (A)) (F0 m 63 ls [])) → W p l e (headSpec wsX5_prepare ({ frames := 3, cells := 0, slots := 0, locals := 70 })).room s m ([.ref (oa 0), .ref (ba 1), .int (nI mm)] : List Value).toArray below meth c H locs 0 0 (MQ below (md_Qv (dC, dI) (wO cI cZ oa (fX5_prepare n B BL mm sg) ++ wB cI cJ cZ ba n B BL) (A)) ([.ref (oa 0), .ref (ba 1), .int (nI mm)] : List Value).toArray s 0 0 (A)) (F0 m 31 ls []) := by
        intro q31
        induction q31 with
        | zero => intro i ug H locs ls hm31 hP hD hS hl kx; exact absurd hm31 (by omega)
        | succ q31 ih31 =>
          intro i ug H locs ls hm31 hP hD hS hl kx
          have hj := hm31.1.2; have hij := hm31.1.1
          refine lv_iload hx hb dX5_prepare_31 (lv_at hl 0 rfl) ?_
          refine lv_iload_n hx hb dX5_prepare_33 rfl (lv_at hl 1 rfl) ?_
          refine lv_icmp_ge (tgt := 63) hx hb dX5_prepare_34 (by decide) (fun c_1 => ?_) (fun c_1 => ?_)
          · rw [show (fX5_prepare_31 n B BL mm j (q31 + 1) i ug) = (i, ug) by rw [fX5_prepare_31, if_pos c_1]] at kx
            exact kx H _ ls hP hD hS (lv_sub hl [0, 1, 2, 3, 4] rfl)
          · refine lv_aload_n hx hb dX5_prepare_37 rfl (lv_at hl 3 rfl) ?_
            refine lv_iload_n hx hb dX5_prepare_38 rfl (lv_at hl 1 rfl) ?_
            refine lv_iload hx hb dX5_prepare_39 (lv_at hl 0 rfl) ?_
            refine ro_calli (va_runV (As := [.int (nI j), .int (nI i)]) (rest := []) ⟨hx, hb, hml, hown, hts⟩ (kX0_distance l dC dI cI cJ cZ ba n B BL H.size j i hj (Nat.lt_of_lt_of_le (nI_geN (by omega) (by omega) c_1) (Nat.le_of_lt hj)) hk) (cwV 2 hts gX5_prepare_X0_distance rfl rfl rfl (by decide +kernel) ⟨Nat.le_of_ble_eq_true rfl, Nat.le_of_ble_eq_true rfl⟩) (ro_preV 0 0 (q := (RX0, TX0, 15)) rfl rfl (hP.sub [5, 6, 7, 8, 9, 10, 11, 12, 13, 14, 15, 16, 17, 18, 19] rfl) hK) rfl rfl hl.1 rfl (lv_room (Nat.le_of_ble_eq_true rfl)) dX5_prepare_41 ⟨Nat.zero_le _, Nat.zero_le _⟩) hS hA (fun H locs kP hS => ?_)
            have hP := kP _ _ _ hP
            refine lv_if_le (tgt := 57) hx hb dX5_prepare_44 (by decide) (fun c_2 => ?_) (fun c_2 => ?_)
            · refine lv_iinc (v := nI (i + 1)) (lv' := [(4, .int (nI (i + 1))), (3, .int (nI j)), (0, .ref (oa 0)), (1, .ref (ba 1)), (2, .int (nI mm))]) hx hb dX5_prepare_57 hl (k := 0) rfl (nI_1 i) (by decide) rfl (fun ls hl => ?_)
              refine lv_goto (tgt := 31) hx hb dX5_prepare_60 (by decide) ?_
              rw [show (fX5_prepare_31 n B BL mm j (q31 + 1) i ug) = (fX5_prepare_31 n B BL mm j q31 (i + 1) ug) by rw [fX5_prepare_31, if_neg c_1, if_pos c_2]] at kx
              exact ih31 (i + 1) ug H _ ls (⟨⟨nI_geN (by omega) (by omega) c_1, hj⟩, by omega⟩) hP hD hS (lv_sub hl [0, 1, 2, 3, 4] rfl) kx
            · refine lv_aload_n hx hb dX5_prepare_47 rfl (lv_at hl 2 rfl) ?_
              refine va_get (D := (dC, dI)) (ci := 1) (v := .ref (oa 3)) (C := RX5) (T := TX5) (N := 5) hx hb hts hinX5 hown hK hP 0 rfl rfl 3 (by decide) (hts (.fieldLink RX5 23 "SlotFiller$Order" "waits" "[I") (by decide +kernel)) (fun _ h9 => h9) rfl dX5_prepare_48 ?_
              refine lv_iload_n hx hb dX5_prepare_51 rfl (lv_at hl 1 rfl) ?_
              refine lv_dup2_11 hx hb dX5_prepare_52 rfl rfl ?_
              refine my_iald (j := j) hx hb hK hP 3 0 rfl rfl (hj) (by decide) dX5_prepare_53 ?_
              refine lv_iconst (v := 1) hx hb dX5_prepare_54 (by decide) ?_
              refine lv_iadd hx hb dX5_prepare_55 ?_
              refine my_iast (j := j) hx hb hK hP hD hS 3 0 rfl rfl (hj) (by decide) dX5_prepare_56 (fun H locs hP hD hS => ?_)
              have hP : va_P (dC, dI) vwCl ([((oa 0), .inr (1, [.int (nI ug.1), .ref (oa 1), .ref (oa 2), .ref (oa 3), .ref (oa 4)])), ((oa 1), .inl (cI, 40, .inl (ug.2 1))), ((oa 2), .inl (cZ, 40, .inl (ug.2 2))), ((oa 3), .inl (cI, 40, .inl (upd (ug.2 3) (j) ((((ug.2 3) (j)) + 1))))), ((oa 4), .inl (cI, 40, .inl (ug.2 4)))] ++ wB cI cJ cZ ba n B BL) H := hP
              have hD : va_D A ([((oa 0), .inr (1, [.int (nI ug.1), .ref (oa 1), .ref (oa 2), .ref (oa 3), .ref (oa 4)])), ((oa 1), .inl (cI, 40, .inl (ug.2 1))), ((oa 2), .inl (cZ, 40, .inl (ug.2 2))), ((oa 3), .inl (cI, 40, .inl (upd (ug.2 3) (j) ((((ug.2 3) (j)) + 1))))), ((oa 4), .inl (cI, 40, .inl (ug.2 4)))] ++ wB cI cJ cZ ba n B BL) := hD
              refine lv_iinc (v := nI (i + 1)) (lv' := [(4, .int (nI (i + 1))), (3, .int (nI j)), (0, .ref (oa 0)), (1, .ref (ba 1)), (2, .int (nI mm))]) hx hb dX5_prepare_57 hl (k := 0) rfl (nI_1 i) (by decide) rfl (fun ls hl => ?_)
              refine lv_goto (tgt := 31) hx hb dX5_prepare_60 (by decide) ?_
              rw [show (fX5_prepare_31 n B BL mm j (q31 + 1) i ug) = (fX5_prepare_31 n B BL mm j q31 (i + 1) (ug.1, (upB ug.2 3 (upd (ug.2 3) (j) ((((ug.2 3) (j)) + 1)))))) by rw [fX5_prepare_31, if_neg c_1, if_neg c_2]] at kx
              exact ih31 (i + 1) (ug.1, (upB ug.2 3 (upd (ug.2 3) (j) ((((ug.2 3) (j)) + 1))))) H _ ls (⟨⟨nI_geN (by omega) (by omega) c_1, hj⟩, by omega⟩) hP hD hS (lv_sub hl [0, 1, 2, 3, 4] rfl) kx
      refine lv_iload_n hx hb dX5_prepare_2 rfl (lv_at hl 0 rfl) ?_
      refine lv_iload_n hx hb dX5_prepare_3 rfl (lv_at hl 3 rfl) ?_
      refine lv_icmp_ge (tgt := 69) hx hb dX5_prepare_4 (by decide) (fun c_3 => ?_) (fun c_3 => ?_)
      · have e9 : tg = (fX5_prepare n B BL mm sg) := ((show tg = (fX5_prepare_2 n B BL mm (q2 + 1) j tg) by rw [fX5_prepare_2, if_pos c_3]).trans hv)
        have hP : va_P (dC, dI) vwCl (wO cI cZ oa (fX5_prepare n B BL mm sg) ++ wB cI cJ cZ ba n B BL) H := by rw [← e9]; exact hP
        have hD : va_D A (wO cI cZ oa (fX5_prepare n B BL mm sg) ++ wB cI cJ cZ ba n B BL) := by rw [← e9]; exact hD
        exact W.vret hx hb hr (fun t ht hW => ⟨⟨(), rfl, trivial, by rw [ht]; exact hP, hD⟩, hS.F ht⟩) hS.2.2 dX5_prepare_69
      · have hj : j < 40 := Nat.lt_of_lt_of_le (nI_geN (by omega) (by omega) c_3) hmm
        refine lv_aload_n hx hb dX5_prepare_7 rfl (lv_at hl 1 rfl) ?_
        refine va_get (D := (dC, dI)) (ci := 1) (v := .ref (oa 2)) (C := RX5) (T := TX5) (N := 5) hx hb hts hinX5 hown hK hP 0 rfl rfl 2 (by decide) (hts (.fieldLink RX5 19 "SlotFiller$Order" "placed" "[Z") (by decide +kernel)) (fun _ h9 => h9) rfl dX5_prepare_8 ?_
        refine lv_iload_n hx hb dX5_prepare_11 rfl (lv_at hl 0 rfl) ?_
        refine lv_iconst (v := 0) hx hb dX5_prepare_12 (by decide) ?_
        refine my_zast (j := j) hx hb hK hP hD hS 2 2 rfl rfl (hj) (by decide) (by decide) dX5_prepare_13 (fun H locs hP hD hS => ?_)
        have hP : va_P (dC, dI) vwCl ([((oa 0), .inr (1, [.int (nI tg.1), .ref (oa 1), .ref (oa 2), .ref (oa 3), .ref (oa 4)])), ((oa 1), .inl (cI, 40, .inl (tg.2 1))), ((oa 2), .inl (cZ, 40, .inl (upd (tg.2 2) (j) (0)))), ((oa 3), .inl (cI, 40, .inl (tg.2 3))), ((oa 4), .inl (cI, 40, .inl (tg.2 4)))] ++ wB cI cJ cZ ba n B BL) H := hP
        have hD : va_D A ([((oa 0), .inr (1, [.int (nI tg.1), .ref (oa 1), .ref (oa 2), .ref (oa 3), .ref (oa 4)])), ((oa 1), .inl (cI, 40, .inl (tg.2 1))), ((oa 2), .inl (cZ, 40, .inl (upd (tg.2 2) (j) (0)))), ((oa 3), .inl (cI, 40, .inl (tg.2 3))), ((oa 4), .inl (cI, 40, .inl (tg.2 4)))] ++ wB cI cJ cZ ba n B BL) := hD
        refine lv_aload_n hx hb dX5_prepare_14 rfl (lv_at hl 1 rfl) ?_
        refine va_get (D := (dC, dI)) (ci := 1) (v := .ref (oa 4)) (C := RX5) (T := TX5) (N := 5) hx hb hts hinX5 hown hK hP 0 rfl rfl 4 (by decide) (hts (.fieldLink RX5 26 "SlotFiller$Order" "earliest" "[I") (by decide +kernel)) (fun _ h9 => h9) rfl dX5_prepare_15 ?_
        refine lv_iload_n hx hb dX5_prepare_18 rfl (lv_at hl 0 rfl) ?_
        refine lv_iconst (v := 0) hx hb dX5_prepare_19 (by decide) ?_
        refine my_iast (j := j) hx hb hK hP hD hS 4 0 rfl rfl (hj) (by decide) dX5_prepare_20 (fun H locs hP hD hS => ?_)
        have hP : va_P (dC, dI) vwCl ([((oa 0), .inr (1, [.int (nI tg.1), .ref (oa 1), .ref (oa 2), .ref (oa 3), .ref (oa 4)])), ((oa 1), .inl (cI, 40, .inl (tg.2 1))), ((oa 2), .inl (cZ, 40, .inl (upd (tg.2 2) (j) (0)))), ((oa 3), .inl (cI, 40, .inl (tg.2 3))), ((oa 4), .inl (cI, 40, .inl (upd (tg.2 4) (j) (0))))] ++ wB cI cJ cZ ba n B BL) H := hP
        have hD : va_D A ([((oa 0), .inr (1, [.int (nI tg.1), .ref (oa 1), .ref (oa 2), .ref (oa 3), .ref (oa 4)])), ((oa 1), .inl (cI, 40, .inl (tg.2 1))), ((oa 2), .inl (cZ, 40, .inl (upd (tg.2 2) (j) (0)))), ((oa 3), .inl (cI, 40, .inl (tg.2 3))), ((oa 4), .inl (cI, 40, .inl (upd (tg.2 4) (j) (0))))] ++ wB cI cJ cZ ba n B BL) := hD
        refine lv_aload_n hx hb dX5_prepare_21 rfl (lv_at hl 1 rfl) ?_
        refine va_get (D := (dC, dI)) (ci := 1) (v := .ref (oa 3)) (C := RX5) (T := TX5) (N := 5) hx hb hts hinX5 hown hK hP 0 rfl rfl 3 (by decide) (hts (.fieldLink RX5 23 "SlotFiller$Order" "waits" "[I") (by decide +kernel)) (fun _ h9 => h9) rfl dX5_prepare_22 ?_
        refine lv_iload_n hx hb dX5_prepare_25 rfl (lv_at hl 0 rfl) ?_
        refine lv_iconst (v := 0) hx hb dX5_prepare_26 (by decide) ?_
        refine my_iast (j := j) hx hb hK hP hD hS 3 0 rfl rfl (hj) (by decide) dX5_prepare_27 (fun H locs hP hD hS => ?_)
        have hP : va_P (dC, dI) vwCl ([((oa 0), .inr (1, [.int (nI tg.1), .ref (oa 1), .ref (oa 2), .ref (oa 3), .ref (oa 4)])), ((oa 1), .inl (cI, 40, .inl (tg.2 1))), ((oa 2), .inl (cZ, 40, .inl (upd (tg.2 2) (j) (0)))), ((oa 3), .inl (cI, 40, .inl (upd (tg.2 3) (j) (0)))), ((oa 4), .inl (cI, 40, .inl (upd (tg.2 4) (j) (0))))] ++ wB cI cJ cZ ba n B BL) H := hP
        have hD : va_D A ([((oa 0), .inr (1, [.int (nI tg.1), .ref (oa 1), .ref (oa 2), .ref (oa 3), .ref (oa 4)])), ((oa 1), .inl (cI, 40, .inl (tg.2 1))), ((oa 2), .inl (cZ, 40, .inl (upd (tg.2 2) (j) (0)))), ((oa 3), .inl (cI, 40, .inl (upd (tg.2 3) (j) (0)))), ((oa 4), .inl (cI, 40, .inl (upd (tg.2 4) (j) (0))))] ++ wB cI cJ cZ ba n B BL) := hD
        refine lv_iconst (v := 0) hx hb dX5_prepare_28 (by decide) ?_
        refine top_i (y := nI 0) (nI_0.symm) ?_
        refine lv_istore (lv' := [(4, .int (nI 0)), (3, .int (nI j)), (0, .ref (oa 0)), (1, .ref (ba 1)), (2, .int (nI mm))]) hx hb dX5_prepare_29 hl (by decide) rfl (fun ls hl => ?_)
        refine J31 41 0 (tg.1, (upB (upB (upB tg.2 2 (upd (tg.2 2) (j) (0))) 3 (upd (tg.2 3) (j) (0))) 4 (upd (tg.2 4) (j) (0)))) H _ ls (⟨⟨Nat.zero_le _, hj⟩, by omega⟩) hP hD hS (lv_sub hl [0, 1, 2, 3, 4] rfl) (fun H locs ls hP hD hS hl => ?_)
        refine lv_iinc (v := nI (j + 1)) (lv' := [(3, .int (nI (j + 1))), (4, .int (nI ((fX5_prepare_31 n B BL mm j 41 0 (tg.1, (upB (upB (upB tg.2 2 (upd (tg.2 2) (j) (0))) 3 (upd (tg.2 3) (j) (0))) 4 (upd (tg.2 4) (j) (0))))).1))), (0, .ref (oa 0)), (1, .ref (ba 1)), (2, .int (nI mm))]) hx hb dX5_prepare_63 hl (k := 1) rfl (nI_1 j) (by decide) rfl (fun ls hl => ?_)
        refine lv_goto (tgt := 2) hx hb dX5_prepare_66 (by decide) ?_
        exact ih2 (j + 1) ((((fX5_prepare_31 n B BL mm j 41 0 (tg.1, (upB (upB (upB tg.2 2 (upd (tg.2 2) (j) (0))) 3 (upd (tg.2 3) (j) (0))) 4 (upd (tg.2 4) (j) (0))))).2).1), ((fX5_prepare_31 n B BL mm j 41 0 (tg.1, (upB (upB (upB tg.2 2 (upd (tg.2 2) (j) (0))) 3 (upd (tg.2 3) (j) (0))) 4 (upd (tg.2 4) (j) (0))))).2).2) H _ ls (⟨nI_geN (by omega) (by omega) c_3, by omega⟩) hP hD hS (lv_sub hl [0, 2, 3, 4] rfl) ((show (fX5_prepare_2 n B BL mm q2 (j + 1) ((((fX5_prepare_31 n B BL mm j 41 0 (tg.1, (upB (upB (upB tg.2 2 (upd (tg.2 2) (j) (0))) 3 (upd (tg.2 3) (j) (0))) 4 (upd (tg.2 4) (j) (0))))).2).1), ((fX5_prepare_31 n B BL mm j 41 0 (tg.1, (upB (upB (upB tg.2 2 (upd (tg.2 2) (j) (0))) 3 (upd (tg.2 3) (j) (0))) 4 (upd (tg.2 4) (j) (0))))).2).2)) = (fX5_prepare_2 n B BL mm (q2 + 1) j tg) by rw [fX5_prepare_2, if_neg c_3]).trans hv)
  refine lv_iconst (v := 0) hx hb dX5_prepare_0 (by decide) ?_
  refine top_i (y := nI 0) (nI_0.symm) ?_
  refine lv_istore_n (lv' := [(3, .int (nI 0)), (0, .ref (oa 0)), (1, .ref (ba 1)), (2, .int (nI mm))]) hx hb dX5_prepare_1 rfl hl (by decide) rfl (fun ls hl => ?_)
  exact J2 41 0 sg s.heap _ ls (⟨Nat.zero_le _, by omega⟩) hP hD hS (lv_sub hl [0, 1, 2, 3] rfl) ((show (fX5_prepare_2 n B BL mm 41 0 sg) = (fX5_prepare n B BL mm sg) by unfold fX5_prepare; rfl).trans hv)
def fX5_choose_6 (o : OS) (n : Nat) (B : Nat → Nat → Int32) (BL : Nat → Nat → Int64) (mm : Nat) (cy : Int32) : Nat → Nat → Int32 → Int32
  | 0, _, _ => 0
  | q6 + 1, i, v => if nI mm ≤ nI i then v else if ((o.2 2) (i)) = 0 then if ((o.2 3) (i)) = 0 then if cy < ((o.2 4) (i)) then (fX5_choose_6 o n B BL mm cy q6 (i + 1) v) else if v = (-1) then (fX5_choose_6 o n B BL mm cy q6 (i + 1) (nI i)) else if ((B 13) (i)) ≤ ((B 13) (v).toNatClampNeg) then (fX5_choose_6 o n B BL mm cy q6 (i + 1) v) else (fX5_choose_6 o n B BL mm cy q6 (i + 1) (nI i)) else (fX5_choose_6 o n B BL mm cy q6 (i + 1) v) else (fX5_choose_6 o n B BL mm cy q6 (i + 1) v)
def fX5_choose (o : OS) (n : Nat) (B : Nat → Nat → Int32) (BL : Nat → Nat → Int64) (mm : Nat) (cy : Int32) : Int32 := (fX5_choose_6 o n B BL mm cy 41 0 (-1))
set_option maxHeartbeats 4000000 in
set_option maxRecDepth 100000 in
theorem kX5_choose (l : Launch) (dC : Nat → ClassId) (dI : Nat → Nat → Nat) (cI cJ cZ : ClassId) (o : OS) (oa ba : Nat → Nat) (n : Nat) (B : Nat → Nat → Int32) (BL : Nat → Nat → Int64) (sz : Nat) (mm : Nat) (hmm : mm ≤ 40) (cy : Int32) : Met l yX5_choose wsX5_choose ({ frames := 0, cells := 0, slots := 0, locals := 0 }) (ro_Pc (dC, dI) (wO cI cZ oa o ++ wB cI cJ cZ ba n B BL) (tyA cI cJ cZ) [.ref (oa 0), .ref (ba 1), .int (nI mm), .int (cy)] sz) (ro_Qi (fX5_choose o n B BL mm cy) sz) 0 0 (ro sz) := by
  refine Met.ofW (cc := cX5_choose) (maxL := 7) (ret := (some .int)) (by decide) rfl ?_
  intro p e s m args below meth c s₁ B0 hml hv
  obtain ⟨rfl, hsz, hP, hK⟩ := hv
  have hx := B0.exec
  have hb := B0.bytes
  have hr := B0.returns
  have hts := atoms_spec (ws := wsX5_choose) B0.pre
  have hown : s.vm.findClass RX5 = some m.cls := findClass_of_methodNamed B0.named
  have hlocks := B0.notSynchronized
  have hinX5 : ∀ w ∈ wsX50, w ∈ wsX5_choose := fun w h => List.mem_cons_of_mem _ (List.mem_append_left _ (List.mem_append_right _ (h)))
  have hinX0 : ∀ w ∈ wsX00, w ∈ wsX5_choose := fun w h => List.mem_cons_of_mem _ (List.mem_append_right _ (h))
  subst hsz
  have hA : ∀ q : Nat, s.heap.size ≤ q → ro s.heap.size q := fun _ h => h
  have hS : va_S (ro s.heap.size) s.heap s.heap [] := va_S.rf
  have hl := lv_entry ([.ref (oa 0), .ref (ba 1), .int (nI mm), .int (cy)]) (n := 7) (Nat.le_of_ble_eq_true rfl)
  rw [lg_entry_eq]
  generalize (lg_sl ([.ref (oa 0), .ref (ba 1), .int (nI mm), .int (cy)]) ++ List.replicate (7 - (lg_sl ([.ref (oa 0), .ref (ba 1), .int (nI mm), .int (cy)])).length) Slot.unset).toArray = ls at hl ⊢
  have hl : lv_has ls 7 [(0, .ref (oa 0)), (1, .ref (ba 1)), (2, .int (nI mm)), (3, .int (cy))] := hl
  have hv : (fX5_choose o n B BL mm cy) = (fX5_choose o n B BL mm cy) := rfl
  have J6 : ∀ (q6 : Nat) (i : Nat) (v : Int32) (H : Heap) (locs : List Loc) (ls : Array Slot), ((i ≤ mm ∧ 41 ≤ i + q6) ∧ (v = (-1) ∨ vp_in v 40)) → va_P (dC, dI) vwCl (wO cI cZ oa o ++ wB cI cJ cZ ba n B BL) H → va_S (ro s.heap.size) s.heap H locs → lv_has ls 7 [(5, .int (nI i)), (4, .int (v)), (0, .ref (oa 0)), (1, .ref (ba 1)), (2, .int (nI mm)), (3, .int (cy))] → (fX5_choose_6 o n B BL mm cy q6 i v) = (fX5_choose o n B BL mm cy) → W p l e (headSpec wsX5_choose ({ frames := 0, cells := 0, slots := 0, locals := 0 })).room s m ([.ref (oa 0), .ref (ba 1), .int (nI mm), .int (cy)] : List Value).toArray below meth c H locs 0 0 (MQ below (ro_Qi (fX5_choose o n B BL mm cy) s.heap.size) ([.ref (oa 0), .ref (ba 1), .int (nI mm), .int (cy)] : List Value).toArray s 0 0 ((ro s.heap.size))) (F0 m 6 ls []) := by
    intro q6
    induction q6 with
    | zero => intro i v H locs ls hm6 hP hS hl hv; exact absurd hm6 (fun h => absurd h.1.2 (by omega))
    | succ q6 ih6 =>
      intro i v H locs ls hm6 hP hS hl hv
      have him := hm6.1.1
      refine lv_iload hx hb dX5_choose_6 (lv_at hl 0 rfl) ?_
      refine lv_iload_n hx hb dX5_choose_8 rfl (lv_at hl 4 rfl) ?_
      refine lv_icmp_ge (tgt := 88) hx hb dX5_choose_9 (by decide) (fun c_1 => ?_) (fun c_1 => ?_)
      · refine lv_iload hx hb dX5_choose_88 (lv_at hl 1 rfl) ?_
        exact W.iret (v := v) hx hb hr (fun t ht hW => ⟨⟨_, (), rfl, ((show v = (fX5_choose_6 o n B BL mm cy (q6 + 1) i v) by rw [fX5_choose_6, if_pos c_1]).trans hv), trivial⟩, hS.F ht⟩) hS.2.2 dX5_choose_90
      · have hi : i < 40 := Nat.lt_of_lt_of_le (nI_geN (by omega) (by omega) c_1) hmm
        refine lv_aload_n hx hb dX5_choose_12 rfl (lv_at hl 2 rfl) ?_
        refine va_get (D := (dC, dI)) (ci := 1) (v := .ref (oa 2)) (C := RX5) (T := TX5) (N := 5) hx hb hts hinX5 hown hK hP 0 rfl rfl 2 (by decide) (hts (.fieldLink RX5 19 "SlotFiller$Order" "placed" "[Z") (by decide +kernel)) (fun _ h9 => h9) rfl dX5_choose_13 ?_
        refine lv_iload hx hb dX5_choose_16 (lv_at hl 0 rfl) ?_
        refine my_zald (j := i) hx hb hK hP 2 2 rfl rfl (hi) (by decide) dX5_choose_18 ?_
        refine lv_if_ne (tgt := 47) hx hb dX5_choose_19 (by decide) (fun c_2 => ?_) (fun c_2 => ?_)
        · refine lv_iconst (v := 0) hx hb dX5_choose_47 (by decide) ?_
          refine lv_istore (lv' := [(6, .int (0)), (5, .int (nI i)), (4, .int (v)), (0, .ref (oa 0)), (1, .ref (ba 1)), (2, .int (nI mm)), (3, .int (cy))]) hx hb dX5_choose_48 hl (by decide) rfl (fun ls hl => ?_)
          refine lv_iload hx hb dX5_choose_50 (lv_at hl 0 rfl) ?_
          refine lv_if_eq (tgt := 82) hx hb dX5_choose_52 (by decide) (fun c_3 => ?_) (fun c_3 => absurd c_3 (by decide))
          refine lv_iinc (v := nI (i + 1)) (lv' := [(5, .int (nI (i + 1))), (6, .int (0)), (4, .int (v)), (0, .ref (oa 0)), (1, .ref (ba 1)), (2, .int (nI mm)), (3, .int (cy))]) hx hb dX5_choose_82 hl (k := 1) rfl (nI_1 i) (by decide) rfl (fun ls hl => ?_)
          refine lv_goto (tgt := 6) hx hb dX5_choose_85 (by decide) ?_
          exact ih6 (i + 1) v H _ ls (⟨⟨nI_geN (by omega) (by omega) c_1, by have := hm6.1.2; omega⟩, hm6.2⟩) hP hS (lv_sub hl [0, 2, 3, 4, 5, 6] rfl) ((show (fX5_choose_6 o n B BL mm cy q6 (i + 1) v) = (fX5_choose_6 o n B BL mm cy (q6 + 1) i v) by rw [fX5_choose_6, if_neg c_1, if_neg c_2]).trans hv)
        · refine lv_aload_n hx hb dX5_choose_22 rfl (lv_at hl 2 rfl) ?_
          refine va_get (D := (dC, dI)) (ci := 1) (v := .ref (oa 3)) (C := RX5) (T := TX5) (N := 5) hx hb hts hinX5 hown hK hP 0 rfl rfl 3 (by decide) (hts (.fieldLink RX5 23 "SlotFiller$Order" "waits" "[I") (by decide +kernel)) (fun _ h9 => h9) rfl dX5_choose_23 ?_
          refine lv_iload hx hb dX5_choose_26 (lv_at hl 0 rfl) ?_
          refine my_iald (j := i) hx hb hK hP 3 0 rfl rfl (hi) (by decide) dX5_choose_28 ?_
          refine lv_if_ne (tgt := 47) hx hb dX5_choose_29 (by decide) (fun c_4 => ?_) (fun c_4 => ?_)
          · refine lv_iconst (v := 0) hx hb dX5_choose_47 (by decide) ?_
            refine lv_istore (lv' := [(6, .int (0)), (5, .int (nI i)), (4, .int (v)), (0, .ref (oa 0)), (1, .ref (ba 1)), (2, .int (nI mm)), (3, .int (cy))]) hx hb dX5_choose_48 hl (by decide) rfl (fun ls hl => ?_)
            refine lv_iload hx hb dX5_choose_50 (lv_at hl 0 rfl) ?_
            refine lv_if_eq (tgt := 82) hx hb dX5_choose_52 (by decide) (fun c_5 => ?_) (fun c_5 => absurd c_5 (by decide))
            refine lv_iinc (v := nI (i + 1)) (lv' := [(5, .int (nI (i + 1))), (6, .int (0)), (4, .int (v)), (0, .ref (oa 0)), (1, .ref (ba 1)), (2, .int (nI mm)), (3, .int (cy))]) hx hb dX5_choose_82 hl (k := 1) rfl (nI_1 i) (by decide) rfl (fun ls hl => ?_)
            refine lv_goto (tgt := 6) hx hb dX5_choose_85 (by decide) ?_
            exact ih6 (i + 1) v H _ ls (⟨⟨nI_geN (by omega) (by omega) c_1, by have := hm6.1.2; omega⟩, hm6.2⟩) hP hS (lv_sub hl [0, 2, 3, 4, 5, 6] rfl) ((show (fX5_choose_6 o n B BL mm cy q6 (i + 1) v) = (fX5_choose_6 o n B BL mm cy (q6 + 1) i v) by rw [fX5_choose_6, if_neg c_1, if_pos c_2, if_neg c_4]).trans hv)
          · refine lv_aload_n hx hb dX5_choose_32 rfl (lv_at hl 2 rfl) ?_
            refine va_get (D := (dC, dI)) (ci := 1) (v := .ref (oa 4)) (C := RX5) (T := TX5) (N := 5) hx hb hts hinX5 hown hK hP 0 rfl rfl 4 (by decide) (hts (.fieldLink RX5 26 "SlotFiller$Order" "earliest" "[I") (by decide +kernel)) (fun _ h9 => h9) rfl dX5_choose_33 ?_
            refine lv_iload hx hb dX5_choose_36 (lv_at hl 0 rfl) ?_
            refine my_iald (j := i) hx hb hK hP 4 0 rfl rfl (hi) (by decide) dX5_choose_38 ?_
            refine lv_iload_n hx hb dX5_choose_39 rfl (lv_at hl 5 rfl) ?_
            refine lv_icmp_gt (tgt := 47) hx hb dX5_choose_40 (by decide) (fun c_6 => ?_) (fun c_6 => ?_)
            · refine lv_iconst (v := 0) hx hb dX5_choose_47 (by decide) ?_
              refine lv_istore (lv' := [(6, .int (0)), (5, .int (nI i)), (4, .int (v)), (0, .ref (oa 0)), (1, .ref (ba 1)), (2, .int (nI mm)), (3, .int (cy))]) hx hb dX5_choose_48 hl (by decide) rfl (fun ls hl => ?_)
              refine lv_iload hx hb dX5_choose_50 (lv_at hl 0 rfl) ?_
              refine lv_if_eq (tgt := 82) hx hb dX5_choose_52 (by decide) (fun c_7 => ?_) (fun c_7 => absurd c_7 (by decide))
              refine lv_iinc (v := nI (i + 1)) (lv' := [(5, .int (nI (i + 1))), (6, .int (0)), (4, .int (v)), (0, .ref (oa 0)), (1, .ref (ba 1)), (2, .int (nI mm)), (3, .int (cy))]) hx hb dX5_choose_82 hl (k := 1) rfl (nI_1 i) (by decide) rfl (fun ls hl => ?_)
              refine lv_goto (tgt := 6) hx hb dX5_choose_85 (by decide) ?_
              exact ih6 (i + 1) v H _ ls (⟨⟨nI_geN (by omega) (by omega) c_1, by have := hm6.1.2; omega⟩, hm6.2⟩) hP hS (lv_sub hl [0, 2, 3, 4, 5, 6] rfl) ((show (fX5_choose_6 o n B BL mm cy q6 (i + 1) v) = (fX5_choose_6 o n B BL mm cy (q6 + 1) i v) by rw [fX5_choose_6, if_neg c_1, if_pos c_2, if_pos c_4, if_pos c_6]).trans hv)
            · refine lv_iconst (v := 1) hx hb dX5_choose_43 (by decide) ?_
              refine lv_goto (tgt := 48) hx hb dX5_choose_44 (by decide) ?_
              refine lv_istore (lv' := [(6, .int (1)), (5, .int (nI i)), (4, .int (v)), (0, .ref (oa 0)), (1, .ref (ba 1)), (2, .int (nI mm)), (3, .int (cy))]) hx hb dX5_choose_48 hl (by decide) rfl (fun ls hl => ?_)
              refine lv_iload hx hb dX5_choose_50 (lv_at hl 0 rfl) ?_
              refine lv_if_eq (tgt := 82) hx hb dX5_choose_52 (by decide) (fun c_8 => absurd c_8 (by decide)) (fun c_8 => ?_)
              refine lv_iload hx hb dX5_choose_55 (lv_at hl 2 rfl) ?_
              refine lv_iconst (v := (-1)) hx hb dX5_choose_57 (by decide) ?_
              refine lv_icmp_eq (tgt := 78) hx hb dX5_choose_58 (by decide) (fun c_9 => ?_) (fun c_9 => ?_)
              · refine lv_iload hx hb dX5_choose_78 (lv_at hl 1 rfl) ?_
                refine lv_istore (lv' := [(4, .int (nI i)), (6, .int (1)), (5, .int (nI i)), (0, .ref (oa 0)), (1, .ref (ba 1)), (2, .int (nI mm)), (3, .int (cy))]) hx hb dX5_choose_80 hl (by decide) rfl (fun ls hl => ?_)
                refine lv_iinc (v := nI (i + 1)) (lv' := [(5, .int (nI (i + 1))), (4, .int (nI i)), (6, .int (1)), (0, .ref (oa 0)), (1, .ref (ba 1)), (2, .int (nI mm)), (3, .int (cy))]) hx hb dX5_choose_82 hl (k := 2) rfl (nI_1 i) (by decide) rfl (fun ls hl => ?_)
                refine lv_goto (tgt := 6) hx hb dX5_choose_85 (by decide) ?_
                exact ih6 (i + 1) (nI i) H _ ls (⟨⟨nI_geN (by omega) (by omega) c_1, by have := hm6.1.2; omega⟩, Or.inr (vp_in_nI hi (by decide))⟩) hP hS (lv_sub hl [0, 1, 3, 4, 5, 6] rfl) ((show (fX5_choose_6 o n B BL mm cy q6 (i + 1) (nI i)) = (fX5_choose_6 o n B BL mm cy (q6 + 1) i v) by rw [fX5_choose_6, if_neg c_1, if_pos c_2, if_pos c_4, if_neg c_6, if_pos c_9]).trans hv)
              · refine lv_aload_n hx hb dX5_choose_61 rfl (lv_at hl 4 rfl) ?_
                refine va_get (D := (dC, dI)) (ci := 0) (v := .ref (ba 13)) (C := RX0) (T := TX0) (N := 15) hx hb hts hinX0 hown hK hP 5 rfl rfl 13 (by decide) (hts (.fieldLink RX5 51 "SlotFiller$Block" "heights" "[I") (by decide +kernel)) (fun _ h9 => h9) rfl dX5_choose_62 ?_
                refine lv_iload hx hb dX5_choose_65 (lv_at hl 1 rfl) ?_
                refine my_iald (j := i) hx hb hK hP 18 0 rfl rfl (hi) (by decide) dX5_choose_67 ?_
                refine lv_aload_n hx hb dX5_choose_68 rfl (lv_at hl 4 rfl) ?_
                refine va_get (D := (dC, dI)) (ci := 0) (v := .ref (ba 13)) (C := RX0) (T := TX0) (N := 15) hx hb hts hinX0 hown hK hP 5 rfl rfl 13 (by decide) (hts (.fieldLink RX5 51 "SlotFiller$Block" "heights" "[I") (by decide +kernel)) (fun _ h9 => h9) rfl dX5_choose_69 ?_
                refine lv_iload hx hb dX5_choose_72 (lv_at hl 2 rfl) ?_
                refine va_iald hx hb hK hP 18 0 rfl rfl (hm6.2.resolve_left c_9) dX5_choose_74 ?_
                refine lv_icmp_le (tgt := 82) hx hb dX5_choose_75 (by decide) (fun c_10 => ?_) (fun c_10 => ?_)
                · refine lv_iinc (v := nI (i + 1)) (lv' := [(5, .int (nI (i + 1))), (6, .int (1)), (4, .int (v)), (0, .ref (oa 0)), (1, .ref (ba 1)), (2, .int (nI mm)), (3, .int (cy))]) hx hb dX5_choose_82 hl (k := 1) rfl (nI_1 i) (by decide) rfl (fun ls hl => ?_)
                  refine lv_goto (tgt := 6) hx hb dX5_choose_85 (by decide) ?_
                  exact ih6 (i + 1) v H _ ls (⟨⟨nI_geN (by omega) (by omega) c_1, by have := hm6.1.2; omega⟩, hm6.2⟩) hP hS (lv_sub hl [0, 2, 3, 4, 5, 6] rfl) ((show (fX5_choose_6 o n B BL mm cy q6 (i + 1) v) = (fX5_choose_6 o n B BL mm cy (q6 + 1) i v) by rw [fX5_choose_6, if_neg c_1, if_pos c_2, if_pos c_4, if_neg c_6, if_neg c_9, if_pos c_10]).trans hv)
                · refine lv_iload hx hb dX5_choose_78 (lv_at hl 1 rfl) ?_
                  refine lv_istore (lv' := [(4, .int (nI i)), (6, .int (1)), (5, .int (nI i)), (0, .ref (oa 0)), (1, .ref (ba 1)), (2, .int (nI mm)), (3, .int (cy))]) hx hb dX5_choose_80 hl (by decide) rfl (fun ls hl => ?_)
                  refine lv_iinc (v := nI (i + 1)) (lv' := [(5, .int (nI (i + 1))), (4, .int (nI i)), (6, .int (1)), (0, .ref (oa 0)), (1, .ref (ba 1)), (2, .int (nI mm)), (3, .int (cy))]) hx hb dX5_choose_82 hl (k := 2) rfl (nI_1 i) (by decide) rfl (fun ls hl => ?_)
                  refine lv_goto (tgt := 6) hx hb dX5_choose_85 (by decide) ?_
                  exact ih6 (i + 1) (nI i) H _ ls (⟨⟨nI_geN (by omega) (by omega) c_1, by have := hm6.1.2; omega⟩, Or.inr (vp_in_nI hi (by decide))⟩) hP hS (lv_sub hl [0, 1, 3, 4, 5, 6] rfl) ((show (fX5_choose_6 o n B BL mm cy q6 (i + 1) (nI i)) = (fX5_choose_6 o n B BL mm cy (q6 + 1) i v) by rw [fX5_choose_6, if_neg c_1, if_pos c_2, if_pos c_4, if_neg c_6, if_neg c_9, if_neg c_10]).trans hv)
  refine lv_iconst (v := (-1)) hx hb dX5_choose_0 (by decide) ?_
  refine lv_istore (lv' := [(4, .int ((-1))), (0, .ref (oa 0)), (1, .ref (ba 1)), (2, .int (nI mm)), (3, .int (cy))]) hx hb dX5_choose_1 hl (by decide) rfl (fun ls hl => ?_)
  refine lv_iconst (v := 0) hx hb dX5_choose_3 (by decide) ?_
  refine top_i (y := nI 0) (nI_0.symm) ?_
  refine lv_istore (lv' := [(5, .int (nI 0)), (4, .int ((-1))), (0, .ref (oa 0)), (1, .ref (ba 1)), (2, .int (nI mm)), (3, .int (cy))]) hx hb dX5_choose_4 hl (by decide) rfl (fun ls hl => ?_)
  exact J6 41 0 (-1) s.heap _ ls (⟨⟨Nat.zero_le _, by omega⟩, Or.inl rfl⟩) hP hS (lv_sub hl [0, 1, 2, 3, 4, 5] rfl) ((show (fX5_choose_6 o n B BL mm cy 41 0 (-1)) = (fX5_choose o n B BL mm cy) by unfold fX5_choose; rfl).trans hv)
def fX5_place_32 (n : Nat) (B : Nat → Nat → Int32) (BL : Nat → Nat → Int64) (mm : Nat) (i : Nat) (cy : Int32) : Nat → Nat → OS → OS
  | 0, j, tg => tg
  | q32 + 1, j, tg => if nI mm ≤ nI j then tg else if (fX0_distance n B BL j i) ≤ 0 then (fX5_place_32 n B BL mm i cy q32 (j + 1) tg) else (fX5_place_32 n B BL mm i cy q32 (j + 1) (tg.1, (upB (upB tg.2 3 (upd (tg.2 3) (j) ((((tg.2 3) (j)) - 1)))) 4 (upd (tg.2 4) (j) ((mx ((tg.2 4) (j)) (cy + (fX0_distance n B BL j i))))))))
def fX5_place (n : Nat) (B : Nat → Nat → Int32) (BL : Nat → Nat → Int64) (mm : Nat) (i : Nat) (cy : Int32) (sg : OS) : OS := (fX5_place_32 n B BL mm i cy 41 (i + 1) ((sg.1 + 1), (upB (upB sg.2 1 (upd (sg.2 1) (sg.1) (nI i))) 2 (upd (sg.2 2) (i) (1)))))
set_option maxHeartbeats 4000000 in
set_option maxRecDepth 100000 in
theorem kX5_place (l : Launch) (dC : Nat → ClassId) (dI : Nat → Nat → Nat) (cI cJ cZ : ClassId) (oa ba : Nat → Nat) (n : Nat) (B : Nat → Nat → Int32) (BL : Nat → Nat → Int64) (sz : Nat) (mm : Nat) (hmm : mm ≤ 40) (i : Nat) (hi : i < 40) (cy : Int32) (hn : n ≤ 40) (hk : ∀ q, q < 40 → vp_in (B 3 q) 9) (sg : OS) (hsz : sg.1 < 40) : Met l yX5_place wsX5_place ({ frames := 3, cells := 0, slots := 0, locals := 70 }) (md_Pc (dC, dI) (wO cI cZ oa sg ++ wB cI cJ cZ ba n B BL) (tyA cI cJ cZ) [.ref (oa 0), .ref (ba 1), .int (nI mm), .int (nI i), .int (cy)] sz) (md_Qv (dC, dI) (wO cI cZ oa (fX5_place n B BL mm i cy sg) ++ wB cI cJ cZ ba n B BL) (va_A (wO cI cZ oa sg ++ wB cI cJ cZ ba n B BL) sz)) 0 0 (va_A (wO cI cZ oa sg ++ wB cI cJ cZ ba n B BL) sz) := by
  refine Met.ofW (cc := cX5_place) (maxL := 7) (ret := none) (by decide) rfl ?_
  intro p e s m args below meth c s₁ B0 hml hv
  obtain ⟨rfl, hsz, hP, hK, hD0⟩ := hv
  have hx := B0.exec
  have hb := B0.bytes
  have hr := B0.returns
  have hts := atoms_spec (ws := wsX5_place) B0.pre
  have hown : s.vm.findClass RX5 = some m.cls := findClass_of_methodNamed B0.named
  have hlocks := B0.notSynchronized
  have hinX5 : ∀ w ∈ wsX50, w ∈ wsX5_place := fun w h => List.mem_cons_of_mem _ (List.mem_append_left _ (List.mem_append_right _ (h)))
  subst hsz
  have hD := hD0.self (sz := s.heap.size)
  generalize hAe : va_A (wO cI cZ oa sg ++ wB cI cJ cZ ba n B BL) s.heap.size = A at hD ⊢
  have hA : ∀ q : Nat, s.heap.size ≤ q → A q := fun q h => by rw [← hAe]; exact Or.inr h
  have hS : va_S A s.heap s.heap [] := va_S.rf
  have hl := lv_entry ([.ref (oa 0), .ref (ba 1), .int (nI mm), .int (nI i), .int (cy)]) (n := 7) (Nat.le_of_ble_eq_true rfl)
  rw [lg_entry_eq]
  generalize (lg_sl ([.ref (oa 0), .ref (ba 1), .int (nI mm), .int (nI i), .int (cy)]) ++ List.replicate (7 - (lg_sl ([.ref (oa 0), .ref (ba 1), .int (nI mm), .int (nI i), .int (cy)])).length) Slot.unset).toArray = ls at hl ⊢
  have hl : lv_has ls 7 [(0, .ref (oa 0)), (1, .ref (ba 1)), (2, .int (nI mm)), (3, .int (nI i)), (4, .int (cy))] := hl
  have hv : (fX5_place n B BL mm i cy sg) = (fX5_place n B BL mm i cy sg) := rfl
  have J32 : ∀ (q32 : Nat) (j : Nat) (tg : OS) (H : Heap) (locs : List Loc) (ls : Array Slot), (j ≤ 40 ∧ 41 ≤ j + q32) → va_P (dC, dI) vwCl (wO cI cZ oa tg ++ wB cI cJ cZ ba n B BL) H → va_D A (wO cI cZ oa tg ++ wB cI cJ cZ ba n B BL) → va_S A s.heap H locs → lv_has ls 7 [(5, .int (nI j)), (0, .ref (oa 0)), (1, .ref (ba 1)), (2, .int (nI mm)), (3, .int (nI i)), (4, .int (cy))] → (fX5_place_32 n B BL mm i cy q32 j tg) = (fX5_place n B BL mm i cy sg) → W p l e (headSpec wsX5_place ({ frames := 3, cells := 0, slots := 0, locals := 70 })).room s m ([.ref (oa 0), .ref (ba 1), .int (nI mm), .int (nI i), .int (cy)] : List Value).toArray below meth c H locs 0 0 (MQ below (md_Qv (dC, dI) (wO cI cZ oa (fX5_place n B BL mm i cy sg) ++ wB cI cJ cZ ba n B BL) (A)) ([.ref (oa 0), .ref (ba 1), .int (nI mm), .int (nI i), .int (cy)] : List Value).toArray s 0 0 (A)) (F0 m 32 ls []) := by
    intro q32
    induction q32 with
    | zero => intro j tg H locs ls hm32 hP hD hS hl hv; exact absurd hm32 (by omega)
    | succ q32 ih32 =>
      intro j tg H locs ls hm32 hP hD hS hl hv
      have hj40 := hm32.1
      refine lv_iload hx hb dX5_place_32 (lv_at hl 0 rfl) ?_
      refine lv_iload_n hx hb dX5_place_34 rfl (lv_at hl 3 rfl) ?_
      refine lv_icmp_ge (tgt := 91) hx hb dX5_place_35 (by decide) (fun c_1 => ?_) (fun c_1 => ?_)
      · have e9 : tg = (fX5_place n B BL mm i cy sg) := ((show tg = (fX5_place_32 n B BL mm i cy (q32 + 1) j tg) by rw [fX5_place_32, if_pos c_1]).trans hv)
        have hP : va_P (dC, dI) vwCl (wO cI cZ oa (fX5_place n B BL mm i cy sg) ++ wB cI cJ cZ ba n B BL) H := by rw [← e9]; exact hP
        have hD : va_D A (wO cI cZ oa (fX5_place n B BL mm i cy sg) ++ wB cI cJ cZ ba n B BL) := by rw [← e9]; exact hD
        exact W.vret hx hb hr (fun t ht hW => ⟨⟨(), rfl, trivial, by rw [ht]; exact hP, hD⟩, hS.F ht⟩) hS.2.2 dX5_place_91
      · have hj : j < 40 := Nat.lt_of_lt_of_le (nI_geN (by omega) (by omega) c_1) hmm
        refine lv_aload_n hx hb dX5_place_38 rfl (lv_at hl 2 rfl) ?_
        refine lv_iload hx hb dX5_place_39 (lv_at hl 0 rfl) ?_
        refine lv_iload_n hx hb dX5_place_41 rfl (lv_at hl 4 rfl) ?_
        refine ro_calli (va_runV (As := [.int (nI j), .int (nI i)]) (rest := []) ⟨hx, hb, hml, hown, hts⟩ (kX0_distance l dC dI cI cJ cZ ba n B BL H.size j i hj hi hk) (cwV 2 hts gX5_place_X0_distance rfl rfl rfl (by decide +kernel) ⟨Nat.le_of_ble_eq_true rfl, Nat.le_of_ble_eq_true rfl⟩) (ro_preV 0 0 (q := (RX0, TX0, 15)) rfl rfl (hP.sub [5, 6, 7, 8, 9, 10, 11, 12, 13, 14, 15, 16, 17, 18, 19] rfl) hK) rfl rfl hl.1 rfl (lv_room (Nat.le_of_ble_eq_true rfl)) dX5_place_42 ⟨Nat.zero_le _, Nat.zero_le _⟩) hS hA (fun H locs kP hS => ?_)
        have hP := kP _ _ _ hP
        refine lv_istore (lv' := [(6, .int ((fX0_distance n B BL j i))), (5, .int (nI j)), (0, .ref (oa 0)), (1, .ref (ba 1)), (2, .int (nI mm)), (3, .int (nI i)), (4, .int (cy))]) hx hb dX5_place_45 hl (by decide) rfl (fun ls hl => ?_)
        refine lv_iload hx hb dX5_place_47 (lv_at hl 0 rfl) ?_
        refine lv_if_le (tgt := 85) hx hb dX5_place_49 (by decide) (fun c_2 => ?_) (fun c_2 => ?_)
        · refine lv_iinc (v := nI (j + 1)) (lv' := [(5, .int (nI (j + 1))), (6, .int ((fX0_distance n B BL j i))), (0, .ref (oa 0)), (1, .ref (ba 1)), (2, .int (nI mm)), (3, .int (nI i)), (4, .int (cy))]) hx hb dX5_place_85 hl (k := 1) rfl (nI_1 j) (by decide) rfl (fun ls hl => ?_)
          refine lv_goto (tgt := 32) hx hb dX5_place_88 (by decide) ?_
          exact ih32 (j + 1) tg H _ ls (⟨hj, by omega⟩) hP hD hS (lv_sub hl [0, 2, 3, 4, 5, 6] rfl) ((show (fX5_place_32 n B BL mm i cy q32 (j + 1) tg) = (fX5_place_32 n B BL mm i cy (q32 + 1) j tg) by rw [fX5_place_32, if_neg c_1, if_pos c_2]).trans hv)
        · refine lv_aload_n hx hb dX5_place_52 rfl (lv_at hl 2 rfl) ?_
          refine va_get (D := (dC, dI)) (ci := 1) (v := .ref (oa 3)) (C := RX5) (T := TX5) (N := 5) hx hb hts hinX5 hown hK hP 0 rfl rfl 3 (by decide) (hts (.fieldLink RX5 23 "SlotFiller$Order" "waits" "[I") (by decide +kernel)) (fun _ h9 => h9) rfl dX5_place_53 ?_
          refine lv_iload hx hb dX5_place_56 (lv_at hl 1 rfl) ?_
          refine lv_dup2_11 hx hb dX5_place_58 rfl rfl ?_
          refine my_iald (j := j) hx hb hK hP 3 0 rfl rfl (hj) (by decide) dX5_place_59 ?_
          refine lv_iconst (v := 1) hx hb dX5_place_60 (by decide) ?_
          refine lv_isub hx hb dX5_place_61 ?_
          refine my_iast (j := j) hx hb hK hP hD hS 3 0 rfl rfl (hj) (by decide) dX5_place_62 (fun H locs hP hD hS => ?_)
          have hP : va_P (dC, dI) vwCl ([((oa 0), .inr (1, [.int (nI tg.1), .ref (oa 1), .ref (oa 2), .ref (oa 3), .ref (oa 4)])), ((oa 1), .inl (cI, 40, .inl (tg.2 1))), ((oa 2), .inl (cZ, 40, .inl (tg.2 2))), ((oa 3), .inl (cI, 40, .inl (upd (tg.2 3) (j) ((((tg.2 3) (j)) - 1))))), ((oa 4), .inl (cI, 40, .inl (tg.2 4)))] ++ wB cI cJ cZ ba n B BL) H := hP
          have hD : va_D A ([((oa 0), .inr (1, [.int (nI tg.1), .ref (oa 1), .ref (oa 2), .ref (oa 3), .ref (oa 4)])), ((oa 1), .inl (cI, 40, .inl (tg.2 1))), ((oa 2), .inl (cZ, 40, .inl (tg.2 2))), ((oa 3), .inl (cI, 40, .inl (upd (tg.2 3) (j) ((((tg.2 3) (j)) - 1))))), ((oa 4), .inl (cI, 40, .inl (tg.2 4)))] ++ wB cI cJ cZ ba n B BL) := hD
          refine lv_aload_n hx hb dX5_place_63 rfl (lv_at hl 2 rfl) ?_
          refine va_get (D := (dC, dI)) (ci := 1) (v := .ref (oa 4)) (C := RX5) (T := TX5) (N := 5) hx hb hts hinX5 hown hK hP 0 rfl rfl 4 (by decide) (hts (.fieldLink RX5 26 "SlotFiller$Order" "earliest" "[I") (by decide +kernel)) (fun _ h9 => h9) rfl dX5_place_64 ?_
          refine lv_iload hx hb dX5_place_67 (lv_at hl 1 rfl) ?_
          refine lv_aload_n hx hb dX5_place_69 rfl (lv_at hl 2 rfl) ?_
          refine va_get (D := (dC, dI)) (ci := 1) (v := .ref (oa 4)) (C := RX5) (T := TX5) (N := 5) hx hb hts hinX5 hown hK hP 0 rfl rfl 4 (by decide) (hts (.fieldLink RX5 26 "SlotFiller$Order" "earliest" "[I") (by decide +kernel)) (fun _ h9 => h9) rfl dX5_place_70 ?_
          refine lv_iload hx hb dX5_place_73 (lv_at hl 1 rfl) ?_
          refine my_iald (j := j) hx hb hK hP 4 0 rfl rfl (hj) (by decide) dX5_place_75 ?_
          refine lv_iload hx hb dX5_place_76 (lv_at hl 6 rfl) ?_
          refine lv_iload hx hb dX5_place_78 (lv_at hl 0 rfl) ?_
          refine lv_iadd hx hb dX5_place_80 ?_
          refine va_mmax hx hb (hml.trans hl.1.symm) hown (hts (.methodLink RX5 54 Lib.Math.max.name) (by decide +kernel)) (hts (.static Lib.Math.max.name) (by decide +kernel)) (hts (.initialized "java/lang/Math") (by decide +kernel)) (hts (.code Lib.Math.max.name Lib.Math.max.code 2 (some .int)) (by decide +kernel)) (Nat.le_of_ble_eq_true rfl) (Nat.le_of_ble_eq_true rfl) (Nat.zero_le _) (Nat.zero_le _) dX5_place_81 ?_
          refine my_iast (j := j) hx hb hK hP hD hS 4 0 rfl rfl (hj) (by decide) dX5_place_84 (fun H locs hP hD hS => ?_)
          have hP : va_P (dC, dI) vwCl ([((oa 0), .inr (1, [.int (nI tg.1), .ref (oa 1), .ref (oa 2), .ref (oa 3), .ref (oa 4)])), ((oa 1), .inl (cI, 40, .inl (tg.2 1))), ((oa 2), .inl (cZ, 40, .inl (tg.2 2))), ((oa 3), .inl (cI, 40, .inl (upd (tg.2 3) (j) ((((tg.2 3) (j)) - 1))))), ((oa 4), .inl (cI, 40, .inl (upd (tg.2 4) (j) ((mx ((tg.2 4) (j)) (cy + (fX0_distance n B BL j i)))))))] ++ wB cI cJ cZ ba n B BL) H := hP
          have hD : va_D A ([((oa 0), .inr (1, [.int (nI tg.1), .ref (oa 1), .ref (oa 2), .ref (oa 3), .ref (oa 4)])), ((oa 1), .inl (cI, 40, .inl (tg.2 1))), ((oa 2), .inl (cZ, 40, .inl (tg.2 2))), ((oa 3), .inl (cI, 40, .inl (upd (tg.2 3) (j) ((((tg.2 3) (j)) - 1))))), ((oa 4), .inl (cI, 40, .inl (upd (tg.2 4) (j) ((mx ((tg.2 4) (j)) (cy + (fX0_distance n B BL j i)))))))] ++ wB cI cJ cZ ba n B BL) := hD
          refine lv_iinc (v := nI (j + 1)) (lv' := [(5, .int (nI (j + 1))), (6, .int ((fX0_distance n B BL j i))), (0, .ref (oa 0)), (1, .ref (ba 1)), (2, .int (nI mm)), (3, .int (nI i)), (4, .int (cy))]) hx hb dX5_place_85 hl (k := 1) rfl (nI_1 j) (by decide) rfl (fun ls hl => ?_)
          refine lv_goto (tgt := 32) hx hb dX5_place_88 (by decide) ?_
          exact ih32 (j + 1) (tg.1, (upB (upB tg.2 3 (upd (tg.2 3) (j) ((((tg.2 3) (j)) - 1)))) 4 (upd (tg.2 4) (j) ((mx ((tg.2 4) (j)) (cy + (fX0_distance n B BL j i))))))) H _ ls (⟨hj, by omega⟩) hP hD hS (lv_sub hl [0, 2, 3, 4, 5, 6] rfl) ((show (fX5_place_32 n B BL mm i cy q32 (j + 1) (tg.1, (upB (upB tg.2 3 (upd (tg.2 3) (j) ((((tg.2 3) (j)) - 1)))) 4 (upd (tg.2 4) (j) ((mx ((tg.2 4) (j)) (cy + (fX0_distance n B BL j i)))))))) = (fX5_place_32 n B BL mm i cy (q32 + 1) j tg) by rw [fX5_place_32, if_neg c_1, if_neg c_2]).trans hv)
  refine lv_aload_n hx hb dX5_place_0 rfl (lv_at hl 0 rfl) ?_
  refine va_get (D := (dC, dI)) (ci := 1) (v := .ref (oa 1)) (C := RX5) (T := TX5) (N := 5) hx hb hts hinX5 hown hK hP 0 rfl rfl 1 (by decide) (hts (.fieldLink RX5 15 "SlotFiller$Order" "places" "[I") (by decide +kernel)) (fun _ h9 => h9) rfl dX5_place_1 ?_
  refine lv_aload_n hx hb dX5_place_4 rfl (lv_at hl 0 rfl) ?_
  refine va_get (D := (dC, dI)) (ci := 1) (v := .int (nI sg.1)) (C := RX5) (T := TX5) (N := 5) hx hb hts hinX5 hown hK hP 0 rfl rfl 0 (by decide) (hts (.fieldLink RX5 9 "SlotFiller$Order" "size" "I") (by decide +kernel)) (fun _ h9 => h9) rfl dX5_place_5 ?_
  refine lv_iload_n hx hb dX5_place_8 rfl (lv_at hl 3 rfl) ?_
  refine my_iast (j := sg.1) hx hb hK hP hD hS 1 0 rfl rfl (hsz) (by decide) dX5_place_9 (fun H locs hP hD hS => ?_)
  have hP : va_P (dC, dI) vwCl ([((oa 0), .inr (1, [.int (nI sg.1), .ref (oa 1), .ref (oa 2), .ref (oa 3), .ref (oa 4)])), ((oa 1), .inl (cI, 40, .inl (upd (sg.2 1) (sg.1) (nI i)))), ((oa 2), .inl (cZ, 40, .inl (sg.2 2))), ((oa 3), .inl (cI, 40, .inl (sg.2 3))), ((oa 4), .inl (cI, 40, .inl (sg.2 4)))] ++ wB cI cJ cZ ba n B BL) H := hP
  have hD : va_D A ([((oa 0), .inr (1, [.int (nI sg.1), .ref (oa 1), .ref (oa 2), .ref (oa 3), .ref (oa 4)])), ((oa 1), .inl (cI, 40, .inl (upd (sg.2 1) (sg.1) (nI i)))), ((oa 2), .inl (cZ, 40, .inl (sg.2 2))), ((oa 3), .inl (cI, 40, .inl (sg.2 3))), ((oa 4), .inl (cI, 40, .inl (sg.2 4)))] ++ wB cI cJ cZ ba n B BL) := hD
  refine lv_aload_n hx hb dX5_place_10 rfl (lv_at hl 0 rfl) ?_
  refine lv_dup hx hb dX5_place_11 rfl ?_
  refine va_get (D := (dC, dI)) (ci := 1) (v := .int (nI sg.1)) (C := RX5) (T := TX5) (N := 5) hx hb hts hinX5 hown hK hP 0 rfl rfl 0 (by decide) (hts (.fieldLink RX5 9 "SlotFiller$Order" "size" "I") (by decide +kernel)) (fun _ h9 => h9) rfl dX5_place_12 ?_
  refine lv_iconst (v := 1) hx hb dX5_place_15 (by decide) ?_
  refine lv_iadd hx hb dX5_place_16 ?_
  refine top_i (y := nI (sg.1 + 1)) (nI_1 _) ?_
  refine va_put (D := (dC, dI)) (ci := 1) (v := .int (nI (sg.1 + 1))) (ty := .int) (C := RX5) (T := TX5) (N := 5) hx hb hts hinX5 tyX5 tyX5_ok nmX5 hown hK hP hD hS 0 rfl rfl 0 (by decide) (hts (.fieldLink RX5 9 "SlotFiller$Order" "size" "I") (by decide +kernel)) (fun _ h9 => h9) rfl (by decide +kernel) rfl rfl (Nat.le_of_ble_eq_true rfl) dX5_place_17 (fun H locs hP hD hS => ?_)
  have hP : va_P (dC, dI) vwCl ([((oa 0), .inr (1, [.int (nI (sg.1 + 1)), .ref (oa 1), .ref (oa 2), .ref (oa 3), .ref (oa 4)])), ((oa 1), .inl (cI, 40, .inl (upd (sg.2 1) (sg.1) (nI i)))), ((oa 2), .inl (cZ, 40, .inl (sg.2 2))), ((oa 3), .inl (cI, 40, .inl (sg.2 3))), ((oa 4), .inl (cI, 40, .inl (sg.2 4)))] ++ wB cI cJ cZ ba n B BL) H := hP
  have hD : va_D A ([((oa 0), .inr (1, [.int (nI (sg.1 + 1)), .ref (oa 1), .ref (oa 2), .ref (oa 3), .ref (oa 4)])), ((oa 1), .inl (cI, 40, .inl (upd (sg.2 1) (sg.1) (nI i)))), ((oa 2), .inl (cZ, 40, .inl (sg.2 2))), ((oa 3), .inl (cI, 40, .inl (sg.2 3))), ((oa 4), .inl (cI, 40, .inl (sg.2 4)))] ++ wB cI cJ cZ ba n B BL) := hD
  refine lv_aload_n hx hb dX5_place_20 rfl (lv_at hl 0 rfl) ?_
  refine va_get (D := (dC, dI)) (ci := 1) (v := .ref (oa 2)) (C := RX5) (T := TX5) (N := 5) hx hb hts hinX5 hown hK hP 0 rfl rfl 2 (by decide) (hts (.fieldLink RX5 19 "SlotFiller$Order" "placed" "[Z") (by decide +kernel)) (fun _ h9 => h9) rfl dX5_place_21 ?_
  refine lv_iload_n hx hb dX5_place_24 rfl (lv_at hl 3 rfl) ?_
  refine lv_iconst (v := 1) hx hb dX5_place_25 (by decide) ?_
  refine my_zast (j := i) hx hb hK hP hD hS 2 2 rfl rfl (hi) (by decide) (by decide) dX5_place_26 (fun H locs hP hD hS => ?_)
  have hP : va_P (dC, dI) vwCl ([((oa 0), .inr (1, [.int (nI (sg.1 + 1)), .ref (oa 1), .ref (oa 2), .ref (oa 3), .ref (oa 4)])), ((oa 1), .inl (cI, 40, .inl (upd (sg.2 1) (sg.1) (nI i)))), ((oa 2), .inl (cZ, 40, .inl (upd (sg.2 2) (i) (1)))), ((oa 3), .inl (cI, 40, .inl (sg.2 3))), ((oa 4), .inl (cI, 40, .inl (sg.2 4)))] ++ wB cI cJ cZ ba n B BL) H := hP
  have hD : va_D A ([((oa 0), .inr (1, [.int (nI (sg.1 + 1)), .ref (oa 1), .ref (oa 2), .ref (oa 3), .ref (oa 4)])), ((oa 1), .inl (cI, 40, .inl (upd (sg.2 1) (sg.1) (nI i)))), ((oa 2), .inl (cZ, 40, .inl (upd (sg.2 2) (i) (1)))), ((oa 3), .inl (cI, 40, .inl (sg.2 3))), ((oa 4), .inl (cI, 40, .inl (sg.2 4)))] ++ wB cI cJ cZ ba n B BL) := hD
  refine lv_iload_n hx hb dX5_place_27 rfl (lv_at hl 3 rfl) ?_
  refine lv_iconst (v := 1) hx hb dX5_place_28 (by decide) ?_
  refine lv_iadd hx hb dX5_place_29 ?_
  refine top_i (y := nI (i + 1)) (nI_1 i) ?_
  refine lv_istore (lv' := [(5, .int (nI (i + 1))), (0, .ref (oa 0)), (1, .ref (ba 1)), (2, .int (nI mm)), (3, .int (nI i)), (4, .int (cy))]) hx hb dX5_place_30 hl (by decide) rfl (fun ls hl => ?_)
  exact J32 41 (i + 1) ((sg.1 + 1), (upB (upB sg.2 1 (upd (sg.2 1) (sg.1) (nI i))) 2 (upd (sg.2 2) (i) (1)))) H _ ls (⟨hi, by omega⟩) hP hD hS (lv_sub hl [0, 1, 2, 3, 4, 5] rfl) ((show (fX5_place_32 n B BL mm i cy 41 (i + 1) ((sg.1 + 1), (upB (upB sg.2 1 (upd (sg.2 1) (sg.1) (nI i))) 2 (upd (sg.2 2) (i) (1))))) = (fX5_place n B BL mm i cy sg) by unfold fX5_place; rfl).trans hv)
