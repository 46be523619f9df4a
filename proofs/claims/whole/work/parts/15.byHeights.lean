/-! ===== Order.byHeights ===== -/
theorem choose_in6 (o : OS) (n : Nat) (B : Nat → Nat → Int32) (BL : Nat → Nat → Int64) (mm : Nat) (cy : Int32) (hmm : mm ≤ 40) : ∀ (q i : Nat) (v : Int32), i + q ≤ 41 → (v = (-1) ∨ vp_in v 40) → (fX5_choose_6 o n B BL mm cy q i v = (-1) ∨ vp_in (fX5_choose_6 o n B BL mm cy q i v) 40) := by
  intro q
  induction q with
  | zero => intro i v _ _; exact Or.inr (by rw [fX5_choose_6]; exact vp_in_nI (n := 0) (N := 40) (by decide) (by decide))
  | succ q ih =>
    intro i v hi hv
    rw [fX5_choose_6]
    by_cases h : nI mm ≤ nI i
    · rw [if_pos h]; exact hv
    · rw [if_neg h]
      have hlt : i < 40 := Nat.lt_of_lt_of_le (nI_geN (by omega) (by omega) h) hmm
      have hin : nI i = (-1) ∨ vp_in (nI i) 40 := Or.inr (vp_in_nI hlt (by decide))
      repeat' split
      all_goals first | exact ih _ _ (by omega) hv | exact ih _ _ (by omega) hin
theorem choose_in {o : OS} {n : Nat} {B : Nat → Nat → Int32} {BL : Nat → Nat → Int64} {mm : Nat} {cy : Int32} (hmm : mm ≤ 40) (h : ¬ fX5_choose o n B BL mm cy = (-1)) : fX5_choose o n B BL mm cy = nI (fX5_choose o n B BL mm cy).toNatClampNeg ∧ (fX5_choose o n B BL mm cy).toNatClampNeg < 40 :=
  vp_nI ((choose_in6 o n B BL mm cy hmm 41 0 (-1) (by omega) (Or.inl rfl)).resolve_left h) (by decide)
theorem place_sz32 (n : Nat) (B : Nat → Nat → Int32) (BL : Nat → Nat → Int64) (mm i : Nat) (cy : Int32) : ∀ (q j : Nat) (t : OS), (fX5_place_32 n B BL mm i cy q j t).1 = t.1 := by
  intro q
  induction q with
  | zero => intro j t; rw [fX5_place_32]
  | succ q ih =>
    intro j t
    rw [fX5_place_32]
    repeat' split
    all_goals first | rfl | exact ih _ _
theorem place_sz (n : Nat) (B : Nat → Nat → Int32) (BL : Nat → Nat → Int64) (mm i : Nat) (cy : Int32) (t : OS) : (fX5_place n B BL mm i cy t).1 = t.1 + 1 := place_sz32 n B BL mm i cy _ _ _
def fX5_byHeights_18 (n : Nat) (B : Nat → Nat → Int32) (BL : Nat → Nat → Int64) (fu : Nat) : Nat → Nat → OS → OS
  | 0, cy, tg => tg
  | q18 + 1, cy, tg => if 1640 ≤ nI cy then tg else if nI (swb n B BL) ≤ nI tg.1 then tg else if (fX5_choose tg n B BL (swb n B BL) (nI cy)) = (-1) then (fX5_byHeights_18 n B BL fu q18 (cy + 1) tg) else (fX5_byHeights_18 n B BL fu q18 (cy + 1) (((fX5_place n B BL (swb n B BL) (((fX5_choose tg n B BL (swb n B BL) (nI cy))).toNatClampNeg) (nI cy) tg).1), (fX5_place n B BL (swb n B BL) (((fX5_choose tg n B BL (swb n B BL) (nI cy))).toNatClampNeg) (nI cy) tg).2))
def fX5_byHeights (n : Nat) (B : Nat → Nat → Int32) (BL : Nat → Nat → Int64) (fu : Nat) (sg : OS) : OS := (fX5_byHeights_18 n B BL fu fu 0 (0, (fX5_prepare n B BL (swb n B BL) sg).2))
set_option maxHeartbeats 4000000 in
set_option maxRecDepth 100000 in
theorem kX5_byHeights (l : Launch) (dC : Nat → ClassId) (dI : Nat → Nat → Nat) (cI cJ cZ : ClassId) (oa ba : Nat → Nat) (n : Nat) (B : Nat → Nat → Int32) (BL : Nat → Nat → Int64) (sz : Nat) (fu : Nat) (hfu : 1641 ≤ fu) (hn : n ≤ 40) (hk : ∀ q, q < 40 → vp_in (B 3 q) 9) (sg : OS) : Met l yX5_byHeights wsX5_byHeights ({ frames := 4, cells := 0, slots := 0, locals := 96 }) (md_Pc (dC, dI) (wO cI cZ oa sg ++ wB cI cJ cZ ba n B BL) (tyA cI cJ cZ) [.ref (oa 0), .ref (ba 1)] sz) (md_Qv (dC, dI) (wO cI cZ oa (fX5_byHeights n B BL fu sg) ++ wB cI cJ cZ ba n B BL) (va_A (wO cI cZ oa sg ++ wB cI cJ cZ ba n B BL) sz)) 0 0 (va_A (wO cI cZ oa sg ++ wB cI cJ cZ ba n B BL) sz) := by
  refine Met.ofW (cc := cX5_byHeights) (maxL := 5) (ret := none) (by decide) rfl ?_
  intro p e s m args below meth c s₁ B0 hml hv
  obtain ⟨rfl, hsz, hP, hK, hD0⟩ := hv
  have hx := B0.exec
  have hb := B0.bytes
  have hr := B0.returns
  have hts := atoms_spec (ws := wsX5_byHeights) B0.pre
  have hown : s.vm.findClass RX5 = some m.cls := findClass_of_methodNamed B0.named
  have hlocks := B0.notSynchronized
  have hinX5 : ∀ w ∈ wsX50, w ∈ wsX5_byHeights := fun w h => List.mem_cons_of_mem _ (List.mem_append_left _ (List.mem_append_right _ (h)))
  subst hsz
  have hD := hD0.self (sz := s.heap.size)
  generalize hAe : va_A (wO cI cZ oa sg ++ wB cI cJ cZ ba n B BL) s.heap.size = A at hD ⊢
  have hA : ∀ q : Nat, s.heap.size ≤ q → A q := fun q h => by rw [← hAe]; exact Or.inr h
  have hS : va_S A s.heap s.heap [] := va_S.rf
  have hl := lv_entry ([.ref (oa 0), .ref (ba 1)]) (n := 5) (Nat.le_of_ble_eq_true rfl)
  rw [lg_entry_eq]
  generalize (lg_sl ([.ref (oa 0), .ref (ba 1)]) ++ List.replicate (5 - (lg_sl ([.ref (oa 0), .ref (ba 1)])).length) Slot.unset).toArray = ls at hl ⊢
  have hl : lv_has ls 5 [(0, .ref (oa 0)), (1, .ref (ba 1))] := hl
  have hv : (fX5_byHeights n B BL fu sg) = (fX5_byHeights n B BL fu sg) := rfl
  have hmm : swb n B BL ≤ 40 := Nat.le_trans (swb_le n B BL) hn
  have J18 : ∀ (q18 : Nat) (cy : Nat) (tg : OS) (H : Heap) (locs : List Loc) (ls : Array Slot), ((cy ≤ 1640 ∧ 1641 ≤ cy + q18) ∧ tg.1 ≤ 40) → va_P (dC, dI) vwCl (wO cI cZ oa tg ++ wB cI cJ cZ ba n B BL) H → va_D A (wO cI cZ oa tg ++ wB cI cJ cZ ba n B BL) → va_S A s.heap H locs → lv_has ls 5 [(3, .int (nI cy)), (2, .int (nI (swb n B BL))), (0, .ref (oa 0)), (1, .ref (ba 1))] → (fX5_byHeights_18 n B BL fu q18 cy tg) = (fX5_byHeights n B BL fu sg) → W p l e (headSpec wsX5_byHeights ({ frames := 4, cells := 0, slots := 0, locals := 96 })).room s m ([.ref (oa 0), .ref (ba 1)] : List Value).toArray below meth c H locs 0 0 (MQ below (md_Qv (dC, dI) (wO cI cZ oa (fX5_byHeights n B BL fu sg) ++ wB cI cJ cZ ba n B BL) (A)) ([.ref (oa 0), .ref (ba 1)] : List Value).toArray s 0 0 (A)) (F0 m 18 ls []) := by
    intro q18
    induction q18 with
    | zero => intro cy tg H locs ls hm18 hP hD hS hl hv; exact absurd hm18 (fun h => absurd h.1 (by omega))
    | succ q18 ih18 =>
      intro cy tg H locs ls hm18 hP hD hS hl hv
      have hcy := hm18.1
      refine lv_iload_n hx hb dX5_byHeights_18 rfl (lv_at hl 0 rfl) ?_
      refine lv_sipush (v := 1640) hx hb dX5_byHeights_19 (by decide) ?_
      refine lv_icmp_ge (tgt := 63) hx hb dX5_byHeights_22 (by decide) (fun c_1 => ?_) (fun c_1 => ?_)
      · have e9 : tg = (fX5_byHeights n B BL fu sg) := ((show tg = (fX5_byHeights_18 n B BL fu (q18 + 1) cy tg) by rw [fX5_byHeights_18, if_pos c_1]).trans hv)
        have hP : va_P (dC, dI) vwCl (wO cI cZ oa (fX5_byHeights n B BL fu sg) ++ wB cI cJ cZ ba n B BL) H := by rw [← e9]; exact hP
        have hD : va_D A (wO cI cZ oa (fX5_byHeights n B BL fu sg) ++ wB cI cJ cZ ba n B BL) := by rw [← e9]; exact hD
        exact W.vret hx hb hr (fun t ht hW => ⟨⟨(), rfl, trivial, by rw [ht]; exact hP, hD⟩, hS.F ht⟩) hS.2.2 dX5_byHeights_63
      · refine lv_aload_n hx hb dX5_byHeights_25 rfl (lv_at hl 2 rfl) ?_
        refine va_get (D := (dC, dI)) (ci := 1) (v := .int (nI tg.1)) (C := RX5) (T := TX5) (N := 5) hx hb hts hinX5 hown hK hP 0 rfl rfl 0 (by decide) (hts (.fieldLink RX5 9 "SlotFiller$Order" "size" "I") (by decide +kernel)) (fun _ h9 => h9) rfl dX5_byHeights_26 ?_
        refine lv_iload_n hx hb dX5_byHeights_29 rfl (lv_at hl 1 rfl) ?_
        refine lv_icmp_ge (tgt := 63) hx hb dX5_byHeights_30 (by decide) (fun c_2 => ?_) (fun c_2 => ?_)
        · have e9 : tg = (fX5_byHeights n B BL fu sg) := ((show tg = (fX5_byHeights_18 n B BL fu (q18 + 1) cy tg) by rw [fX5_byHeights_18, if_neg c_1, if_pos c_2]).trans hv)
          have hP : va_P (dC, dI) vwCl (wO cI cZ oa (fX5_byHeights n B BL fu sg) ++ wB cI cJ cZ ba n B BL) H := by rw [← e9]; exact hP
          have hD : va_D A (wO cI cZ oa (fX5_byHeights n B BL fu sg) ++ wB cI cJ cZ ba n B BL) := by rw [← e9]; exact hD
          exact W.vret hx hb hr (fun t ht hW => ⟨⟨(), rfl, trivial, by rw [ht]; exact hP, hD⟩, hS.F ht⟩) hS.2.2 dX5_byHeights_63
        · have hs40 : tg.1 < 40 := Nat.lt_of_lt_of_le (nI_geN (by have := hm18.2; omega) (by omega) c_2) hmm
          refine lv_aload_n hx hb dX5_byHeights_33 rfl (lv_at hl 2 rfl) ?_
          refine lv_aload_n hx hb dX5_byHeights_34 rfl (lv_at hl 3 rfl) ?_
          refine lv_iload_n hx hb dX5_byHeights_35 rfl (lv_at hl 1 rfl) ?_
          refine lv_iload_n hx hb dX5_byHeights_36 rfl (lv_at hl 0 rfl) ?_
          refine ro_calli (va_runV (As := [.ref (ba 1), .int (nI (swb n B BL)), .int (nI cy)]) (rest := []) ⟨hx, hb, hml, hown, hts⟩ (kX5_choose l dC dI cI cJ cZ tg oa ba n B BL H.size (swb n B BL) hmm (nI cy)) (cwV 3 hts gX5_byHeights_X5_choose rfl rfl rfl (by decide +kernel) ⟨Nat.le_of_ble_eq_true rfl, Nat.le_of_ble_eq_true rfl⟩) (ro_preV 0 1 (q := (RX5, TX5, 5)) rfl rfl hP hK) rfl rfl hl.1 rfl (lv_room (Nat.le_of_ble_eq_true rfl)) dX5_byHeights_37 ⟨Nat.zero_le _, Nat.zero_le _⟩) hS hA (fun H locs kP hS => ?_)
          have hP := kP _ _ _ hP
          refine lv_istore (lv' := [(4, .int ((fX5_choose tg n B BL (swb n B BL) (nI cy)))), (3, .int (nI cy)), (2, .int (nI (swb n B BL))), (0, .ref (oa 0)), (1, .ref (ba 1))]) hx hb dX5_byHeights_40 hl (by decide) rfl (fun ls hl => ?_)
          refine lv_iload hx hb dX5_byHeights_42 (lv_at hl 0 rfl) ?_
          refine lv_iconst (v := (-1)) hx hb dX5_byHeights_44 (by decide) ?_
          refine lv_icmp_eq (tgt := 57) hx hb dX5_byHeights_45 (by decide) (fun c_3 => ?_) (fun c_3 => ?_)
          · refine lv_iinc (v := nI (cy + 1)) (lv' := [(3, .int (nI (cy + 1))), (4, .int ((fX5_choose tg n B BL (swb n B BL) (nI cy)))), (2, .int (nI (swb n B BL))), (0, .ref (oa 0)), (1, .ref (ba 1))]) hx hb dX5_byHeights_57 hl (k := 1) rfl (nI_1 cy) (by decide) rfl (fun ls hl => ?_)
            refine lv_goto (tgt := 18) hx hb dX5_byHeights_60 (by decide) ?_
            exact ih18 (cy + 1) tg H _ ls (⟨⟨(nI_ltI (b := 1640) (by omega) (by decide)).mp (Int32.not_le.mp c_1), by omega⟩, hm18.2⟩) hP hD hS (lv_sub hl [0, 2, 3, 4] rfl) ((show (fX5_byHeights_18 n B BL fu q18 (cy + 1) tg) = (fX5_byHeights_18 n B BL fu (q18 + 1) cy tg) by rw [fX5_byHeights_18, if_neg c_1, if_neg c_2, if_pos c_3]).trans hv)
          · have hc := choose_in hmm c_3
            refine lv_aload_n hx hb dX5_byHeights_48 rfl (lv_at hl 3 rfl) ?_
            refine lv_aload_n hx hb dX5_byHeights_49 rfl (lv_at hl 4 rfl) ?_
            refine lv_iload_n hx hb dX5_byHeights_50 rfl (lv_at hl 2 rfl) ?_
            refine lv_iload hx hb dX5_byHeights_51 (lv_at hl 0 rfl) ?_
            refine top_i (y := nI ((fX5_choose tg n B BL (swb n B BL) (nI cy))).toNatClampNeg) (hc.1) ?_
            refine lv_iload_n hx hb dX5_byHeights_53 rfl (lv_at hl 1 rfl) ?_
            refine md_callv (wr := []) (va_runV (As := [.ref (ba 1), .int (nI (swb n B BL)), .int (nI ((fX5_choose tg n B BL (swb n B BL) (nI cy))).toNatClampNeg), .int (nI cy)]) (rest := []) ⟨hx, hb, hml, hown, hts⟩ (kX5_place l dC dI cI cJ cZ oa ba n B BL H.size (swb n B BL) hmm (((fX5_choose tg n B BL (swb n B BL) (nI cy))).toNatClampNeg) hc.2 (nI cy) hn hk tg hs40) (cwV 4 hts gX5_byHeights_X5_place rfl rfl rfl (by decide +kernel) ⟨Nat.le_of_ble_eq_true rfl, Nat.le_of_ble_eq_true rfl⟩) (md_preV 0 1 (q := (RX5, TX5, 5)) rfl rfl hP hK hD) rfl rfl hl.1 rfl (lv_room (Nat.le_of_ble_eq_true rfl)) dX5_byHeights_54 ⟨Nat.zero_le _, Nat.zero_le _⟩) hS hA hP hD [0, 1, 2, 3, 4, 5, 6, 7, 8, 9, 10, 11, 12, 13, 14, 15, 16, 17, 18, 19] [] rfl rfl (by decide) (by decide) (fun H locs hP hD hS => ?_)
            have hP : va_P (dC, dI) vwCl (wO cI cZ oa (fX5_place n B BL (swb n B BL) (((fX5_choose tg n B BL (swb n B BL) (nI cy))).toNatClampNeg) (nI cy) tg) ++ wB cI cJ cZ ba n B BL) H := hP
            have hD : va_D A (wO cI cZ oa (fX5_place n B BL (swb n B BL) (((fX5_choose tg n B BL (swb n B BL) (nI cy))).toNatClampNeg) (nI cy) tg) ++ wB cI cJ cZ ba n B BL) := hD
            refine lv_iinc (v := nI (cy + 1)) (lv' := [(3, .int (nI (cy + 1))), (4, .int ((fX5_choose tg n B BL (swb n B BL) (nI cy)))), (2, .int (nI (swb n B BL))), (0, .ref (oa 0)), (1, .ref (ba 1))]) hx hb dX5_byHeights_57 hl (k := 1) rfl (nI_1 cy) (by decide) rfl (fun ls hl => ?_)
            refine lv_goto (tgt := 18) hx hb dX5_byHeights_60 (by decide) ?_
            exact ih18 (cy + 1) (((fX5_place n B BL (swb n B BL) (((fX5_choose tg n B BL (swb n B BL) (nI cy))).toNatClampNeg) (nI cy) tg).1), (fX5_place n B BL (swb n B BL) (((fX5_choose tg n B BL (swb n B BL) (nI cy))).toNatClampNeg) (nI cy) tg).2) H _ ls (⟨⟨(nI_ltI (b := 1640) (by omega) (by decide)).mp (Int32.not_le.mp c_1), by omega⟩, by rw [place_sz]; omega⟩) hP hD hS (lv_sub hl [0, 2, 3, 4] rfl) ((show (fX5_byHeights_18 n B BL fu q18 (cy + 1) (((fX5_place n B BL (swb n B BL) (((fX5_choose tg n B BL (swb n B BL) (nI cy))).toNatClampNeg) (nI cy) tg).1), (fX5_place n B BL (swb n B BL) (((fX5_choose tg n B BL (swb n B BL) (nI cy))).toNatClampNeg) (nI cy) tg).2)) = (fX5_byHeights_18 n B BL fu (q18 + 1) cy tg) by rw [fX5_byHeights_18, if_neg c_1, if_neg c_2, if_neg c_3]).trans hv)
  refine lv_aload_n hx hb dX5_byHeights_0 rfl (lv_at hl 1 rfl) ?_
  refine ro_calli (va_runV (As := []) (rest := []) ⟨hx, hb, hml, hown, hts⟩ (kX0_sizeWithoutBranch l dC dI cI cJ cZ ba n B BL s.heap.size hn) (cwV 0 hts gX5_byHeights_X0_sizeWithoutBranch rfl rfl rfl (by decide +kernel) ⟨Nat.le_of_ble_eq_true rfl, Nat.le_of_ble_eq_true rfl⟩) (ro_preV 0 0 (q := (RX0, TX0, 15)) rfl rfl (hP.sub [5, 6, 7, 8, 9, 10, 11, 12, 13, 14, 15, 16, 17, 18, 19] rfl) hK) rfl rfl hl.1 rfl (lv_room (Nat.le_of_ble_eq_true rfl)) dX5_byHeights_1 ⟨Nat.zero_le _, Nat.zero_le _⟩) hS hA (fun H locs kP hS => ?_)
  have hP := kP _ _ _ hP
  refine top_i (y := nI (swb n B BL)) (swb_eq n B BL) ?_
  refine lv_istore_n (lv' := [(2, .int (nI (swb n B BL))), (0, .ref (oa 0)), (1, .ref (ba 1))]) hx hb dX5_byHeights_4 rfl hl (by decide) rfl (fun ls hl => ?_)
  refine lv_aload_n hx hb dX5_byHeights_5 rfl (lv_at hl 1 rfl) ?_
  refine lv_aload_n hx hb dX5_byHeights_6 rfl (lv_at hl 2 rfl) ?_
  refine lv_iload_n hx hb dX5_byHeights_7 rfl (lv_at hl 0 rfl) ?_
  refine md_callv (wr := []) (va_runV (As := [.ref (ba 1), .int (nI (swb n B BL))]) (rest := []) ⟨hx, hb, hml, hown, hts⟩ (kX5_prepare l dC dI cI cJ cZ oa ba n B BL H.size (swb n B BL) hmm hn hk sg) (cwV 2 hts gX5_byHeights_X5_prepare rfl rfl rfl (by decide +kernel) ⟨Nat.le_of_ble_eq_true rfl, Nat.le_of_ble_eq_true rfl⟩) (md_preV 0 1 (q := (RX5, TX5, 5)) rfl rfl hP hK hD) rfl rfl hl.1 rfl (lv_room (Nat.le_of_ble_eq_true rfl)) dX5_byHeights_8 ⟨Nat.zero_le _, Nat.zero_le _⟩) hS hA hP hD [0, 1, 2, 3, 4, 5, 6, 7, 8, 9, 10, 11, 12, 13, 14, 15, 16, 17, 18, 19] [] rfl rfl (by decide) (by decide) (fun H locs hP hD hS => ?_)
  have hP : va_P (dC, dI) vwCl (wO cI cZ oa (fX5_prepare n B BL (swb n B BL) sg) ++ wB cI cJ cZ ba n B BL) H := hP
  have hD : va_D A (wO cI cZ oa (fX5_prepare n B BL (swb n B BL) sg) ++ wB cI cJ cZ ba n B BL) := hD
  refine lv_aload_n hx hb dX5_byHeights_11 rfl (lv_at hl 1 rfl) ?_
  refine lv_iconst (v := 0) hx hb dX5_byHeights_12 (by decide) ?_
  refine top_i (y := nI 0) (nI_0.symm) ?_
  refine va_put (D := (dC, dI)) (ci := 1) (v := .int (nI 0)) (ty := .int) (C := RX5) (T := TX5) (N := 5) hx hb hts hinX5 tyX5 tyX5_ok nmX5 hown hK hP hD hS 0 rfl rfl 0 (by decide) (hts (.fieldLink RX5 9 "SlotFiller$Order" "size" "I") (by decide +kernel)) (fun _ h9 => h9) rfl (by decide +kernel) rfl rfl (Nat.le_of_ble_eq_true rfl) dX5_byHeights_13 (fun H locs hP hD hS => ?_)
  have hP : va_P (dC, dI) vwCl ([((oa 0), .inr (1, [.int (nI 0), .ref (oa 1), .ref (oa 2), .ref (oa 3), .ref (oa 4)])), ((oa 1), .inl (cI, 40, .inl (((fX5_prepare n B BL (swb n B BL) sg).2) 1))), ((oa 2), .inl (cZ, 40, .inl (((fX5_prepare n B BL (swb n B BL) sg).2) 2))), ((oa 3), .inl (cI, 40, .inl (((fX5_prepare n B BL (swb n B BL) sg).2) 3))), ((oa 4), .inl (cI, 40, .inl (((fX5_prepare n B BL (swb n B BL) sg).2) 4)))] ++ wB cI cJ cZ ba n B BL) H := hP
  have hD : va_D A ([((oa 0), .inr (1, [.int (nI 0), .ref (oa 1), .ref (oa 2), .ref (oa 3), .ref (oa 4)])), ((oa 1), .inl (cI, 40, .inl (((fX5_prepare n B BL (swb n B BL) sg).2) 1))), ((oa 2), .inl (cZ, 40, .inl (((fX5_prepare n B BL (swb n B BL) sg).2) 2))), ((oa 3), .inl (cI, 40, .inl (((fX5_prepare n B BL (swb n B BL) sg).2) 3))), ((oa 4), .inl (cI, 40, .inl (((fX5_prepare n B BL (swb n B BL) sg).2) 4)))] ++ wB cI cJ cZ ba n B BL) := hD
  refine lv_iconst (v := 0) hx hb dX5_byHeights_16 (by decide) ?_
  refine top_i (y := nI 0) (nI_0.symm) ?_
  refine lv_istore_n (lv' := [(3, .int (nI 0)), (2, .int (nI (swb n B BL))), (0, .ref (oa 0)), (1, .ref (ba 1))]) hx hb dX5_byHeights_17 rfl hl (by decide) rfl (fun ls hl => ?_)
  exact J18 fu 0 (0, (fX5_prepare n B BL (swb n B BL) sg).2) H _ ls (⟨⟨Nat.zero_le _, by omega⟩, Nat.zero_le _⟩) hP hD hS (lv_sub hl [0, 1, 2, 3] rfl) ((show (fX5_byHeights_18 n B BL fu fu 0 (0, (fX5_prepare n B BL (swb n B BL) sg).2)) = (fX5_byHeights n B BL fu sg) by unfold fX5_byHeights; rfl).trans hv)
