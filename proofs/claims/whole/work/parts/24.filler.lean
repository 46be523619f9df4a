/-! ===== SlotFiller: through, the block, the order, what came out ===== -/
abbrev FS : Type := Int32 × BS × OS × QS
def wF (cI cJ cZ : ClassId) (fa : Nat) (qa oa ba : Nat → Nat) (x : FS) : va_W := [(fa, .inr (3, [.ref (ba 1), .ref (oa 0), .ref (qa 0), .int x.1]))] ++ (wQ cI qa x.2.2.2 ++ (wO cI cZ oa x.2.2.1 ++ wB cI cJ cZ ba x.2.1.1 x.2.1.2.1 x.2.1.2.2))
theorem survey_fr7 : ∀ (q k : Nat) (t : BS), ∃ f g, fX0_survey_7 q k t = (t.1, upB (upB t.2.1 13 f) 14 g, t.2.2) := by
  intro q
  induction q with
  | zero => intro k t; exact ⟨t.2.1 13, t.2.1 14, by rw [fX0_survey_7, upB_same, upB_same]⟩
  | succ q ih =>
    intro k t
    rw [fX0_survey_7]
    repeat' split
    · exact ⟨t.2.1 13, t.2.1 14, by rw [upB_same, upB_same]⟩
    all_goals
      obtain ⟨f, g, h⟩ := ih (k - 1) _
      refine ⟨f, g, h.trans ?_⟩
      refine congrArg (fun z => (t.1, z, t.2.2)) ?_
      funext x
      unfold upB
      by_cases h1 : x = 14
      · simp [h1]
      · by_cases h2 : x = 13
        · simp [h2]
        · simp [h1, h2]
/-- survey changes the heights and what is needed alone -/
theorem survey_fr (t : BS) : ∃ f g, fX0_survey t = (t.1, upB (upB t.2.1 13 f) 14 g, t.2.2) := survey_fr7 _ _ t
/-- an order of at most 40 places of the block -/
def okP (o : OS) : Prop := o.1 ≤ 40 ∧ ∀ q, q < 40 → vp_in (o.2 1 q) 40
theorem asIn_ok10 (n : Nat) (B : Nat → Nat → Int32) (BL : Nat → Nat → Int64) : ∀ (q i : Nat) (t : OS), i + q ≤ 41 → okP t → okP (fX5_asInBlock_10 n B BL q i t) := by
  intro q
  induction q with
  | zero => intro i t _ h; rw [fX5_asInBlock_10]; exact h
  | succ q ih =>
    intro i t hi h
    rw [fX5_asInBlock_10]
    by_cases c : nI t.1 ≤ nI i
    · rw [if_pos c]; exact h
    · rw [if_neg c]
      have hlt : i < t.1 := nI_geN (by omega) (by have := h.1; omega) c
      refine ih _ _ (by omega) ⟨h.1, fun q hq => ?_⟩
      show vp_in (upd (t.2 1) i (nI i) q) 40
      by_cases e : q = i
      · subst e; rw [pk_us]; exact vp_in_nI hq (by decide)
      · rw [pk_un e]; exact h.2 q hq
theorem asIn_ok (n : Nat) (B : Nat → Nat → Int32) (BL : Nat → Nat → Int64) (hn : n ≤ 40) (t : OS) (h : okP t) : okP (fX5_asInBlock n B BL t) :=
  asIn_ok10 n B BL 41 0 _ (by omega) ⟨Nat.le_trans (swb_le n B BL) hn, h.2⟩
theorem place_1 (n : Nat) (B : Nat → Nat → Int32) (BL : Nat → Nat → Int64) (mm i : Nat) (cy : Int32) : ∀ (q j : Nat) (t : OS), (fX5_place_32 n B BL mm i cy q j t).2 1 = t.2 1 := by
  intro q
  induction q with
  | zero => intro j t; rw [fX5_place_32]
  | succ q ih =>
    intro j t
    rw [fX5_place_32]
    repeat' split
    all_goals first | rfl | (refine (ih _ _).trans ?_; rfl)
theorem place_okP (n : Nat) (B : Nat → Nat → Int32) (BL : Nat → Nat → Int64) (mm i : Nat) (cy : Int32) (hi : i < 40) (t : OS) (ht : t.1 < 40) (h : okP t) : okP (fX5_place n B BL mm i cy t) := by
  refine ⟨by rw [place_sz]; omega, fun q hq => ?_⟩
  unfold fX5_place
  rw [place_1]
  show vp_in (upd (t.2 1) t.1 (nI i) q) 40
  by_cases e : q = t.1
  · subst e; rw [pk_us]; exact vp_in_nI hi (by decide)
  · rw [pk_un e]; exact h.2 q hq
theorem prep_31 (n : Nat) (B : Nat → Nat → Int32) (BL : Nat → Nat → Int64) (mm j : Nat) : ∀ (q i : Nat) (t : OS), (fX5_prepare_31 n B BL mm j q i t).2.2 1 = t.2 1 := by
  intro q
  induction q with
  | zero => intro i t; rw [fX5_prepare_31]
  | succ q ih =>
    intro i t
    rw [fX5_prepare_31]
    repeat' split
    all_goals first | rfl | (refine (ih _ _).trans ?_; rfl)
theorem prep_2 (n : Nat) (B : Nat → Nat → Int32) (BL : Nat → Nat → Int64) (mm : Nat) : ∀ (q j : Nat) (t : OS), (fX5_prepare_2 n B BL mm q j t).2 1 = t.2 1 := by
  intro q
  induction q with
  | zero => intro j t; rw [fX5_prepare_2]
  | succ q ih =>
    intro j t
    rw [fX5_prepare_2]
    split
    · rfl
    · refine (ih _ _).trans ((prep_31 n B BL mm j 41 0 _).trans ?_)
      rfl
theorem byH_ok18 (n : Nat) (B : Nat → Nat → Int32) (BL : Nat → Nat → Int64) (fu : Nat) (hmm : swb n B BL ≤ 40) : ∀ (q cy : Nat) (t : OS), okP t → okP (fX5_byHeights_18 n B BL fu q cy t) := by
  intro q
  induction q with
  | zero => intro cy t h; rw [fX5_byHeights_18]; exact h
  | succ q ih =>
    intro cy t h
    rw [fX5_byHeights_18]
    by_cases c1 : 1640 ≤ nI cy
    · rw [if_pos c1]; exact h
    · rw [if_neg c1]
      by_cases c2 : nI (swb n B BL) ≤ nI t.1
      · rw [if_pos c2]; exact h
      · rw [if_neg c2]
        have ht : t.1 < 40 := Nat.lt_of_lt_of_le (nI_geN (by have := h.1; omega) (by omega) c2) hmm
        by_cases c3 : fX5_choose t n B BL (swb n B BL) (nI cy) = (-1)
        · rw [if_pos c3]; exact ih _ _ h
        · rw [if_neg c3]
          exact ih _ _ (place_okP n B BL _ _ _ (choose_in hmm c3).2 t ht h)
theorem byH_ok (n : Nat) (B : Nat → Nat → Int32) (BL : Nat → Nat → Int64) (fu : Nat) (hn : n ≤ 40) (t : OS) (h : okP t) : okP (fX5_byHeights n B BL fu t) := by
  unfold fX5_byHeights
  refine byH_ok18 n B BL fu (Nat.le_trans (swb_le n B BL) hn) _ _ _ ⟨Nat.zero_le _, fun q hq => ?_⟩
  show vp_in ((fX5_prepare_2 n B BL (swb n B BL) 41 0 t).2 1 q) 40
  rw [prep_2]
  exact h.2 q hq
def fX8_schedule (z1 : Int32) (z2 : Int32) (fu : Nat) (sg : FS) : Int32 × FS := if z1 = 0 then (nI ((fX6_take (fX5_asInBlock ((fX0_survey sg.2.1).1) ((fX0_survey sg.2.1).2.1) ((fX0_survey sg.2.1).2.2) sg.2.2.1) ((fX0_survey sg.2.1).1) ((fX0_survey sg.2.1).2.1) ((fX0_survey sg.2.1).2.2) z2 sg.2.2.2).1), (1, fX0_survey sg.2.1, fX5_asInBlock ((fX0_survey sg.2.1).1) ((fX0_survey sg.2.1).2.1) ((fX0_survey sg.2.1).2.2) sg.2.2.1, fX6_take (fX5_asInBlock ((fX0_survey sg.2.1).1) ((fX0_survey sg.2.1).2.1) ((fX0_survey sg.2.1).2.2) sg.2.2.1) ((fX0_survey sg.2.1).1) ((fX0_survey sg.2.1).2.1) ((fX0_survey sg.2.1).2.2) z2 sg.2.2.2)) else (nI ((fX6_take (fX5_byHeights ((fX0_survey sg.2.1).1) ((fX0_survey sg.2.1).2.1) ((fX0_survey sg.2.1).2.2) fu sg.2.2.1) ((fX0_survey sg.2.1).1) ((fX0_survey sg.2.1).2.1) ((fX0_survey sg.2.1).2.2) z2 sg.2.2.2).1), (1, fX0_survey sg.2.1, fX5_byHeights ((fX0_survey sg.2.1).1) ((fX0_survey sg.2.1).2.1) ((fX0_survey sg.2.1).2.2) fu sg.2.2.1, fX6_take (fX5_byHeights ((fX0_survey sg.2.1).1) ((fX0_survey sg.2.1).2.1) ((fX0_survey sg.2.1).2.2) fu sg.2.2.1) ((fX0_survey sg.2.1).1) ((fX0_survey sg.2.1).2.1) ((fX0_survey sg.2.1).2.2) z2 sg.2.2.2))
set_option maxHeartbeats 4000000 in
set_option maxRecDepth 100000 in
theorem kX8_schedule (l : Launch) (dC : Nat → ClassId) (dI : Nat → Nat → Nat) (cI cJ cZ : ClassId) (fa : Nat) (qa oa ba : Nat → Nat) (sz : Nat) (z1 z2 : Int32) (fu : Nat) (hfu : 1641 ≤ fu) (sg : FS) (hn : sg.2.1.1 ≤ 40) (hk : ∀ q, q < 40 → vp_in (sg.2.1.2.1 3 q) 9) (hp0 : okP sg.2.2.1) (hq0 : okQ sg.2.2.2.2.2.2.2) : Met l yX8_schedule wsX8_schedule ({ frames := 6, cells := 0, slots := 0, locals := 142 }) (md_Pc (dC, dI) (wF cI cJ cZ fa qa oa ba sg) (tyA cI cJ cZ) [.ref fa, .int (z1), .int (z2)] sz) (md_Qi (fX8_schedule z1 z2 fu sg).1 (dC, dI) (wF cI cJ cZ fa qa oa ba ((fX8_schedule z1 z2 fu sg).2)) (va_A (wF cI cJ cZ fa qa oa ba sg) sz)) 0 0 (va_A (wF cI cJ cZ fa qa oa ba sg) sz) := by
  refine Met.ofW (cc := cX8_schedule) (maxL := 3) (ret := (some .int)) (by decide) rfl ?_
  intro p e s m args below meth c s₁ B0 hml hv
  obtain ⟨rfl, hsz, hP, hK, hD0⟩ := hv
  have hx := B0.exec
  have hb := B0.bytes
  have hr := B0.returns
  have hts := atoms_spec (ws := wsX8_schedule) B0.pre
  have hown : s.vm.findClass RX8 = some m.cls := findClass_of_methodNamed B0.named
  have hlocks := B0.notSynchronized
  have hinX8 : ∀ w ∈ wsX80, w ∈ wsX8_schedule := fun w h => List.mem_cons_of_mem _ (List.mem_append_left _ (List.mem_append_left _ (List.mem_append_left _ (List.mem_append_right _ (h)))))
  have hinX6 : ∀ w ∈ wsX60, w ∈ wsX8_schedule := fun w h => List.mem_cons_of_mem _ (List.mem_append_left _ (List.mem_append_left _ (List.mem_append_right _ (h))))
  have hinX5 : ∀ w ∈ wsX50, w ∈ wsX8_schedule := fun w h => List.mem_cons_of_mem _ (List.mem_append_right _ (h))
  have hinX0 : ∀ w ∈ wsX00, w ∈ wsX8_schedule := fun w h => List.mem_cons_of_mem _ (List.mem_append_left _ (List.mem_append_right _ (h)))
  subst hsz
  have hD := hD0.self (sz := s.heap.size)
  generalize hAe : va_A (wF cI cJ cZ fa qa oa ba sg) s.heap.size = A at hD ⊢
  have hA : ∀ q : Nat, s.heap.size ≤ q → A q := fun q h => by rw [← hAe]; exact Or.inr h
  have hS : va_S A s.heap s.heap [] := va_S.rf
  have hl := lv_entry ([.ref fa, .int (z1), .int (z2)]) (n := 3) (Nat.le_of_ble_eq_true rfl)
  rw [lg_entry_eq]
  generalize (lg_sl ([.ref fa, .int (z1), .int (z2)]) ++ List.replicate (3 - (lg_sl ([.ref fa, .int (z1), .int (z2)])).length) Slot.unset).toArray = ls at hl ⊢
  have hl : lv_has ls 3 [(0, .ref fa), (1, .int (z1)), (2, .int (z2))] := hl
  have hv : (fX8_schedule z1 z2 fu sg) = (fX8_schedule z1 z2 fu sg) := rfl
  refine lv_aload_n hx hb dX8_schedule_0 rfl (lv_at hl 0 rfl) ?_
  refine lv_iconst (v := 1) hx hb dX8_schedule_1 (by decide) ?_
  refine va_put (D := (dC, dI)) (ci := 3) (v := .int (1)) (ty := .boolean) (C := RX8) (T := TX8) (N := 4) hx hb hts hinX8 tyX8 tyX8_ok nmX8 hown hK hP hD hS 0 rfl rfl 3 (by decide) (hts (.fieldLink RX8 30 "SlotFiller" "through" "Z") (by decide +kernel)) (fun _ h9 => h9) rfl (by decide +kernel) (by decide) (by decide) (Nat.le_of_ble_eq_true rfl) dX8_schedule_2 (fun H locs hP hD hS => ?_)
  have hP : va_P (dC, dI) vwCl [(fa, .inr (3, [.ref (ba 1), .ref (oa 0), .ref (qa 0), .int (1)])), ((qa 0), .inr (2, [.int (nI sg.2.2.2.1), .ref (qa 1), .ref (qa 2), .int (sg.2.2.2.2.1), .int (sg.2.2.2.2.2.1), .int (sg.2.2.2.2.2.2.1), .ref (qa 6)])), ((qa 1), .inl (cI, 41, .inl (sg.2.2.2.2.2.2.2 1))), ((qa 2), .inl (cI, 41, .inl (sg.2.2.2.2.2.2.2 2))), ((qa 6), .inl (cI, 41, .inl (sg.2.2.2.2.2.2.2 6))), ((oa 0), .inr (1, [.int (nI sg.2.2.1.1), .ref (oa 1), .ref (oa 2), .ref (oa 3), .ref (oa 4)])), ((oa 1), .inl (cI, 40, .inl (sg.2.2.1.2 1))), ((oa 2), .inl (cZ, 40, .inl (sg.2.2.1.2 2))), ((oa 3), .inl (cI, 40, .inl (sg.2.2.1.2 3))), ((oa 4), .inl (cI, 40, .inl (sg.2.2.1.2 4))), ((ba 1), .inr (0, [.ref (ba 0), .int (nI sg.2.1.1), .ref (ba 2), .ref (ba 3), .ref (ba 4), .ref (ba 5), .ref (ba 6), .ref (ba 7), .ref (ba 8), .ref (ba 9), .ref (ba 10), .ref (ba 11), .ref (ba 12), .ref (ba 13), .ref (ba 14)])), ((ba 0), .inl (cI, 9, .inl (sg.2.1.2.1 0))), ((ba 2), .inl (cI, 40, .inl (sg.2.1.2.1 2))), ((ba 3), .inl (cI, 40, .inl (sg.2.1.2.1 3))), ((ba 4), .inl (cZ, 40, .inl (sg.2.1.2.1 4))), ((ba 5), .inl (cJ, 40, .inr (.inl (sg.2.1.2.2 5)))), ((ba 6), .inl (cJ, 40, .inr (.inl (sg.2.1.2.2 6)))), ((ba 7), .inl (cI, 40, .inl (sg.2.1.2.1 7))), ((ba 8), .inl (cI, 40, .inl (sg.2.1.2.1 8))), ((ba 9), .inl (cI, 40, .inl (sg.2.1.2.1 9))), ((ba 10), .inl (cI, 40, .inl (sg.2.1.2.1 10))), ((ba 11), .inl (cI, 40, .inl (sg.2.1.2.1 11))), ((ba 12), .inl (cI, 40, .inl (sg.2.1.2.1 12))), ((ba 13), .inl (cI, 40, .inl (sg.2.1.2.1 13))), ((ba 14), .inl (cZ, 40, .inl (sg.2.1.2.1 14)))] H := hP
  have hD : va_D A [(fa, .inr (3, [.ref (ba 1), .ref (oa 0), .ref (qa 0), .int (1)])), ((qa 0), .inr (2, [.int (nI sg.2.2.2.1), .ref (qa 1), .ref (qa 2), .int (sg.2.2.2.2.1), .int (sg.2.2.2.2.2.1), .int (sg.2.2.2.2.2.2.1), .ref (qa 6)])), ((qa 1), .inl (cI, 41, .inl (sg.2.2.2.2.2.2.2 1))), ((qa 2), .inl (cI, 41, .inl (sg.2.2.2.2.2.2.2 2))), ((qa 6), .inl (cI, 41, .inl (sg.2.2.2.2.2.2.2 6))), ((oa 0), .inr (1, [.int (nI sg.2.2.1.1), .ref (oa 1), .ref (oa 2), .ref (oa 3), .ref (oa 4)])), ((oa 1), .inl (cI, 40, .inl (sg.2.2.1.2 1))), ((oa 2), .inl (cZ, 40, .inl (sg.2.2.1.2 2))), ((oa 3), .inl (cI, 40, .inl (sg.2.2.1.2 3))), ((oa 4), .inl (cI, 40, .inl (sg.2.2.1.2 4))), ((ba 1), .inr (0, [.ref (ba 0), .int (nI sg.2.1.1), .ref (ba 2), .ref (ba 3), .ref (ba 4), .ref (ba 5), .ref (ba 6), .ref (ba 7), .ref (ba 8), .ref (ba 9), .ref (ba 10), .ref (ba 11), .ref (ba 12), .ref (ba 13), .ref (ba 14)])), ((ba 0), .inl (cI, 9, .inl (sg.2.1.2.1 0))), ((ba 2), .inl (cI, 40, .inl (sg.2.1.2.1 2))), ((ba 3), .inl (cI, 40, .inl (sg.2.1.2.1 3))), ((ba 4), .inl (cZ, 40, .inl (sg.2.1.2.1 4))), ((ba 5), .inl (cJ, 40, .inr (.inl (sg.2.1.2.2 5)))), ((ba 6), .inl (cJ, 40, .inr (.inl (sg.2.1.2.2 6)))), ((ba 7), .inl (cI, 40, .inl (sg.2.1.2.1 7))), ((ba 8), .inl (cI, 40, .inl (sg.2.1.2.1 8))), ((ba 9), .inl (cI, 40, .inl (sg.2.1.2.1 9))), ((ba 10), .inl (cI, 40, .inl (sg.2.1.2.1 10))), ((ba 11), .inl (cI, 40, .inl (sg.2.1.2.1 11))), ((ba 12), .inl (cI, 40, .inl (sg.2.1.2.1 12))), ((ba 13), .inl (cI, 40, .inl (sg.2.1.2.1 13))), ((ba 14), .inl (cZ, 40, .inl (sg.2.1.2.1 14)))] := hD
  refine lv_aload_n hx hb dX8_schedule_5 rfl (lv_at hl 0 rfl) ?_
  refine va_get (D := (dC, dI)) (ci := 3) (v := .ref (ba 1)) (C := RX8) (T := TX8) (N := 4) hx hb hts hinX8 hown hK hP 0 rfl rfl 0 (by decide) (hts (.fieldLink RX8 12 "SlotFiller" "block" "LSlotFiller$Block;") (by decide +kernel)) (fun _ h9 => h9) rfl dX8_schedule_6 ?_
  refine md_callv (wr := [(fa, .inr (3, [.ref (ba 1), .ref (oa 0), .ref (qa 0), .int (1)])), ((qa 0), .inr (2, [.int (nI sg.2.2.2.1), .ref (qa 1), .ref (qa 2), .int (sg.2.2.2.2.1), .int (sg.2.2.2.2.2.1), .int (sg.2.2.2.2.2.2.1), .ref (qa 6)])), ((qa 1), .inl (cI, 41, .inl (sg.2.2.2.2.2.2.2 1))), ((qa 2), .inl (cI, 41, .inl (sg.2.2.2.2.2.2.2 2))), ((qa 6), .inl (cI, 41, .inl (sg.2.2.2.2.2.2.2 6))), ((oa 0), .inr (1, [.int (nI sg.2.2.1.1), .ref (oa 1), .ref (oa 2), .ref (oa 3), .ref (oa 4)])), ((oa 1), .inl (cI, 40, .inl (sg.2.2.1.2 1))), ((oa 2), .inl (cZ, 40, .inl (sg.2.2.1.2 2))), ((oa 3), .inl (cI, 40, .inl (sg.2.2.1.2 3))), ((oa 4), .inl (cI, 40, .inl (sg.2.2.1.2 4)))]) (va_runV (As := []) (rest := []) ⟨hx, hb, hml, hown, hts⟩ (kX0_survey l dC dI cI cJ cZ ba H.size  sg.2.1 hn hk) (cwV 0 hts gX8_schedule_X0_survey rfl rfl rfl (by decide +kernel) ⟨Nat.le_of_ble_eq_true rfl, Nat.le_of_ble_eq_true rfl⟩) (md_preV 0 0 (q := (RX0, TX0, 15)) rfl rfl (hP.sub [10, 11, 12, 13, 14, 15, 16, 17, 18, 19, 20, 21, 22, 23, 24] rfl) hK (hD.sub [10, 11, 12, 13, 14, 15, 16, 17, 18, 19, 20, 21, 22, 23, 24] (by decide) rfl)) rfl rfl hl.1 rfl (lv_room (Nat.le_of_ble_eq_true rfl)) dX8_schedule_9 ⟨Nat.zero_le _, Nat.zero_le _⟩) hS hA hP hD [10, 11, 12, 13, 14, 15, 16, 17, 18, 19, 20, 21, 22, 23, 24] [0, 1, 2, 3, 4, 5, 6, 7, 8, 9] rfl rfl (by decide) (by decide) (fun H locs hP hD hS => ?_)
  have hP : va_P (dC, dI) vwCl (wF cI cJ cZ fa qa oa ba (1, (fX0_survey sg.2.1), sg.2.2.1, sg.2.2.2)) H := hP
  have hD : va_D A (wF cI cJ cZ fa qa oa ba (1, (fX0_survey sg.2.1), sg.2.2.1, sg.2.2.2)) := hD
  have hn2 : (fX0_survey sg.2.1).1 ≤ 40 := (by obtain ⟨f, g, h⟩ := survey_fr sg.2.1; rw [h]; exact hn); have hk2 : ∀ q, q < 40 → vp_in ((fX0_survey sg.2.1).2.1 3 q) 9 := (by obtain ⟨f, g, h⟩ := survey_fr sg.2.1; rw [h]; exact hk)
  refine lv_iload_n hx hb dX8_schedule_12 rfl (lv_at hl 1 rfl) ?_
  refine lv_if_eq (tgt := 30) hx hb dX8_schedule_13 (by decide) (fun c_1 => ?_) (fun c_1 => ?_)
  · refine lv_aload_n hx hb dX8_schedule_30 rfl (lv_at hl 0 rfl) ?_
    refine va_get (D := (dC, dI)) (ci := 3) (v := .ref (oa 0)) (C := RX8) (T := TX8) (N := 4) hx hb hts hinX8 hown hK hP 0 rfl rfl 1 (by decide) (hts (.fieldLink RX8 19 "SlotFiller" "order" "LSlotFiller$Order;") (by decide +kernel)) (fun _ h9 => h9) rfl dX8_schedule_31 ?_
    refine lv_aload_n hx hb dX8_schedule_34 rfl (lv_at hl 0 rfl) ?_
    refine va_get (D := (dC, dI)) (ci := 3) (v := .ref (ba 1)) (C := RX8) (T := TX8) (N := 4) hx hb hts hinX8 hown hK hP 0 rfl rfl 0 (by decide) (hts (.fieldLink RX8 12 "SlotFiller" "block" "LSlotFiller$Block;") (by decide +kernel)) (fun _ h9 => h9) rfl dX8_schedule_35 ?_
    refine md_callv (wr := [(fa, .inr (3, [.ref (ba 1), .ref (oa 0), .ref (qa 0), .int (1)])), ((qa 0), .inr (2, [.int (nI sg.2.2.2.1), .ref (qa 1), .ref (qa 2), .int (sg.2.2.2.2.1), .int (sg.2.2.2.2.2.1), .int (sg.2.2.2.2.2.2.1), .ref (qa 6)])), ((qa 1), .inl (cI, 41, .inl (sg.2.2.2.2.2.2.2 1))), ((qa 2), .inl (cI, 41, .inl (sg.2.2.2.2.2.2.2 2))), ((qa 6), .inl (cI, 41, .inl (sg.2.2.2.2.2.2.2 6)))]) (va_runV (As := [.ref (ba 1)]) (rest := []) ⟨hx, hb, hml, hown, hts⟩ (kX5_asInBlock l dC dI cI cJ cZ oa ba ((fX0_survey sg.2.1).1) ((fX0_survey sg.2.1).2.1) ((fX0_survey sg.2.1).2.2) H.size hn2 hk2 sg.2.2.1) (cwV 1 hts gX8_schedule_X5_asInBlock rfl rfl rfl (by decide +kernel) ⟨Nat.le_of_ble_eq_true rfl, Nat.le_of_ble_eq_true rfl⟩) (md_preV 0 1 (q := (RX5, TX5, 5)) rfl rfl (hP.sub [5, 6, 7, 8, 9, 10, 11, 12, 13, 14, 15, 16, 17, 18, 19, 20, 21, 22, 23, 24] rfl) hK (hD.sub [5, 6, 7, 8, 9, 10, 11, 12, 13, 14, 15, 16, 17, 18, 19, 20, 21, 22, 23, 24] (by decide) rfl)) rfl rfl hl.1 rfl (lv_room (Nat.le_of_ble_eq_true rfl)) dX8_schedule_38 ⟨Nat.zero_le _, Nat.zero_le _⟩) hS hA hP hD [5, 6, 7, 8, 9, 10, 11, 12, 13, 14, 15, 16, 17, 18, 19, 20, 21, 22, 23, 24] [0, 1, 2, 3, 4] rfl rfl (by decide) (by decide) (fun H locs hP hD hS => ?_)
    have hP : va_P (dC, dI) vwCl (wF cI cJ cZ fa qa oa ba (1, fX0_survey sg.2.1, (fX5_asInBlock ((fX0_survey sg.2.1).1) ((fX0_survey sg.2.1).2.1) ((fX0_survey sg.2.1).2.2) sg.2.2.1), sg.2.2.2)) H := hP
    have hD : va_D A (wF cI cJ cZ fa qa oa ba (1, fX0_survey sg.2.1, (fX5_asInBlock ((fX0_survey sg.2.1).1) ((fX0_survey sg.2.1).2.1) ((fX0_survey sg.2.1).2.2) sg.2.2.1), sg.2.2.2)) := hD
    refine lv_aload_n hx hb dX8_schedule_41 rfl (lv_at hl 0 rfl) ?_
    refine va_get (D := (dC, dI)) (ci := 3) (v := .ref (qa 0)) (C := RX8) (T := TX8) (N := 4) hx hb hts hinX8 hown hK hP 0 rfl rfl 2 (by decide) (hts (.fieldLink RX8 26 "SlotFiller" "outcome" "LSlotFiller$Outcome;") (by decide +kernel)) (fun _ h9 => h9) rfl dX8_schedule_42 ?_
    refine lv_aload_n hx hb dX8_schedule_45 rfl (lv_at hl 0 rfl) ?_
    refine va_get (D := (dC, dI)) (ci := 3) (v := .ref (ba 1)) (C := RX8) (T := TX8) (N := 4) hx hb hts hinX8 hown hK hP 0 rfl rfl 0 (by decide) (hts (.fieldLink RX8 12 "SlotFiller" "block" "LSlotFiller$Block;") (by decide +kernel)) (fun _ h9 => h9) rfl dX8_schedule_46 ?_
    refine lv_aload_n hx hb dX8_schedule_49 rfl (lv_at hl 0 rfl) ?_
    refine va_get (D := (dC, dI)) (ci := 3) (v := .ref (oa 0)) (C := RX8) (T := TX8) (N := 4) hx hb hts hinX8 hown hK hP 0 rfl rfl 1 (by decide) (hts (.fieldLink RX8 19 "SlotFiller" "order" "LSlotFiller$Order;") (by decide +kernel)) (fun _ h9 => h9) rfl dX8_schedule_50 ?_
    refine lv_iload_n hx hb dX8_schedule_53 rfl (lv_at hl 2 rfl) ?_
    refine md_callv (wr := [(fa, .inr (3, [.ref (ba 1), .ref (oa 0), .ref (qa 0), .int (1)]))]) (va_runV (As := [.ref (ba 1), .ref (oa 0), .int (z2)]) (rest := []) ⟨hx, hb, hml, hown, hts⟩ (kX6_take l dC dI cI cJ cZ qa oa ba (fX5_asInBlock ((fX0_survey sg.2.1).1) ((fX0_survey sg.2.1).2.1) ((fX0_survey sg.2.1).2.2) sg.2.2.1) ((fX0_survey sg.2.1).1) ((fX0_survey sg.2.1).2.1) ((fX0_survey sg.2.1).2.2) H.size z2 (asIn_ok _ _ _ hn2 _ hp0).2 (asIn_ok _ _ _ hn2 _ hp0).1 hn2 hk2 sg.2.2.2 hq0) (cwV 3 hts gX8_schedule_X6_take rfl rfl rfl (by decide +kernel) ⟨Nat.le_of_ble_eq_true rfl, Nat.le_of_ble_eq_true rfl⟩) (md_preV 0 2 (q := (RX6, TX6, 7)) rfl rfl (hP.sub [1, 2, 3, 4, 5, 6, 7, 8, 9, 10, 11, 12, 13, 14, 15, 16, 17, 18, 19, 20, 21, 22, 23, 24] rfl) hK (hD.sub [1, 2, 3, 4, 5, 6, 7, 8, 9, 10, 11, 12, 13, 14, 15, 16, 17, 18, 19, 20, 21, 22, 23, 24] (by decide) rfl)) rfl rfl hl.1 rfl (lv_room (Nat.le_of_ble_eq_true rfl)) dX8_schedule_54 ⟨Nat.zero_le _, Nat.zero_le _⟩) hS hA hP hD [1, 2, 3, 4, 5, 6, 7, 8, 9, 10, 11, 12, 13, 14, 15, 16, 17, 18, 19, 20, 21, 22, 23, 24] [0] rfl rfl (by decide) (by decide) (fun H locs hP hD hS => ?_)
    have hP : va_P (dC, dI) vwCl (wF cI cJ cZ fa qa oa ba (1, fX0_survey sg.2.1, fX5_asInBlock ((fX0_survey sg.2.1).1) ((fX0_survey sg.2.1).2.1) ((fX0_survey sg.2.1).2.2) sg.2.2.1, (fX6_take (fX5_asInBlock ((fX0_survey sg.2.1).1) ((fX0_survey sg.2.1).2.1) ((fX0_survey sg.2.1).2.2) sg.2.2.1) ((fX0_survey sg.2.1).1) ((fX0_survey sg.2.1).2.1) ((fX0_survey sg.2.1).2.2) z2 sg.2.2.2))) H := hP
    have hD : va_D A (wF cI cJ cZ fa qa oa ba (1, fX0_survey sg.2.1, fX5_asInBlock ((fX0_survey sg.2.1).1) ((fX0_survey sg.2.1).2.1) ((fX0_survey sg.2.1).2.2) sg.2.2.1, (fX6_take (fX5_asInBlock ((fX0_survey sg.2.1).1) ((fX0_survey sg.2.1).2.1) ((fX0_survey sg.2.1).2.2) sg.2.2.1) ((fX0_survey sg.2.1).1) ((fX0_survey sg.2.1).2.1) ((fX0_survey sg.2.1).2.2) z2 sg.2.2.2))) := hD
    refine lv_aload_n hx hb dX8_schedule_57 rfl (lv_at hl 0 rfl) ?_
    refine va_get (D := (dC, dI)) (ci := 3) (v := .ref (qa 0)) (C := RX8) (T := TX8) (N := 4) hx hb hts hinX8 hown hK hP 0 rfl rfl 2 (by decide) (hts (.fieldLink RX8 26 "SlotFiller" "outcome" "LSlotFiller$Outcome;") (by decide +kernel)) (fun _ h9 => h9) rfl dX8_schedule_58 ?_
    refine va_get (D := (dC, dI)) (ci := 2) (v := .int (nI ((fX6_take (fX5_asInBlock ((fX0_survey sg.2.1).1) ((fX0_survey sg.2.1).2.1) ((fX0_survey sg.2.1).2.2) sg.2.2.1) ((fX0_survey sg.2.1).1) ((fX0_survey sg.2.1).2.1) ((fX0_survey sg.2.1).2.2) z2 sg.2.2.2).1))) (C := RX6) (T := TX6) (N := 7) hx hb hts hinX6 hown hK hP 1 rfl rfl 0 (by decide) (hts (.fieldLink RX8 90 "SlotFiller$Outcome" "size" "I") (by decide +kernel)) (fun _ h9 => h9) rfl dX8_schedule_61 ?_
    have e7 : (nI ((fX6_take (fX5_asInBlock ((fX0_survey sg.2.1).1) ((fX0_survey sg.2.1).2.1) ((fX0_survey sg.2.1).2.2) sg.2.2.1) ((fX0_survey sg.2.1).1) ((fX0_survey sg.2.1).2.1) ((fX0_survey sg.2.1).2.2) z2 sg.2.2.2).1), (1, fX0_survey sg.2.1, fX5_asInBlock ((fX0_survey sg.2.1).1) ((fX0_survey sg.2.1).2.1) ((fX0_survey sg.2.1).2.2) sg.2.2.1, fX6_take (fX5_asInBlock ((fX0_survey sg.2.1).1) ((fX0_survey sg.2.1).2.1) ((fX0_survey sg.2.1).2.2) sg.2.2.1) ((fX0_survey sg.2.1).1) ((fX0_survey sg.2.1).2.1) ((fX0_survey sg.2.1).2.2) z2 sg.2.2.2)) = (fX8_schedule z1 z2 fu sg) := ((show (nI ((fX6_take (fX5_asInBlock ((fX0_survey sg.2.1).1) ((fX0_survey sg.2.1).2.1) ((fX0_survey sg.2.1).2.2) sg.2.2.1) ((fX0_survey sg.2.1).1) ((fX0_survey sg.2.1).2.1) ((fX0_survey sg.2.1).2.2) z2 sg.2.2.2).1), (1, fX0_survey sg.2.1, fX5_asInBlock ((fX0_survey sg.2.1).1) ((fX0_survey sg.2.1).2.1) ((fX0_survey sg.2.1).2.2) sg.2.2.1, fX6_take (fX5_asInBlock ((fX0_survey sg.2.1).1) ((fX0_survey sg.2.1).2.1) ((fX0_survey sg.2.1).2.2) sg.2.2.1) ((fX0_survey sg.2.1).1) ((fX0_survey sg.2.1).2.1) ((fX0_survey sg.2.1).2.2) z2 sg.2.2.2)) = (fX8_schedule z1 z2 fu sg) by unfold fX8_schedule; rw [if_pos c_1]).trans hv)
    have hP : va_P (dC, dI) vwCl (wF cI cJ cZ fa qa oa ba ((fX8_schedule z1 z2 fu sg).2)) H := by rw [← e7]; exact hP
    have hD : va_D A (wF cI cJ cZ fa qa oa ba ((fX8_schedule z1 z2 fu sg).2)) := by rw [← e7]; exact hD
    have e8 : nI ((fX6_take (fX5_asInBlock ((fX0_survey sg.2.1).1) ((fX0_survey sg.2.1).2.1) ((fX0_survey sg.2.1).2.2) sg.2.2.1) ((fX0_survey sg.2.1).1) ((fX0_survey sg.2.1).2.1) ((fX0_survey sg.2.1).2.2) z2 sg.2.2.2).1) = (fX8_schedule z1 z2 fu sg).1 := by rw [← e7]
    exact W.iret (v := nI ((fX6_take (fX5_asInBlock ((fX0_survey sg.2.1).1) ((fX0_survey sg.2.1).2.1) ((fX0_survey sg.2.1).2.2) sg.2.2.1) ((fX0_survey sg.2.1).1) ((fX0_survey sg.2.1).2.1) ((fX0_survey sg.2.1).2.2) z2 sg.2.2.2).1)) hx hb hr (fun t ht hW => ⟨⟨_, (), rfl, e8, by rw [ht]; exact hP, hD⟩, hS.F ht⟩) hS.2.2 dX8_schedule_64
  · refine lv_aload_n hx hb dX8_schedule_16 rfl (lv_at hl 0 rfl) ?_
    refine va_get (D := (dC, dI)) (ci := 3) (v := .ref (oa 0)) (C := RX8) (T := TX8) (N := 4) hx hb hts hinX8 hown hK hP 0 rfl rfl 1 (by decide) (hts (.fieldLink RX8 19 "SlotFiller" "order" "LSlotFiller$Order;") (by decide +kernel)) (fun _ h9 => h9) rfl dX8_schedule_17 ?_
    refine lv_aload_n hx hb dX8_schedule_20 rfl (lv_at hl 0 rfl) ?_
    refine va_get (D := (dC, dI)) (ci := 3) (v := .ref (ba 1)) (C := RX8) (T := TX8) (N := 4) hx hb hts hinX8 hown hK hP 0 rfl rfl 0 (by decide) (hts (.fieldLink RX8 12 "SlotFiller" "block" "LSlotFiller$Block;") (by decide +kernel)) (fun _ h9 => h9) rfl dX8_schedule_21 ?_
    refine md_callv (wr := [(fa, .inr (3, [.ref (ba 1), .ref (oa 0), .ref (qa 0), .int (1)])), ((qa 0), .inr (2, [.int (nI sg.2.2.2.1), .ref (qa 1), .ref (qa 2), .int (sg.2.2.2.2.1), .int (sg.2.2.2.2.2.1), .int (sg.2.2.2.2.2.2.1), .ref (qa 6)])), ((qa 1), .inl (cI, 41, .inl (sg.2.2.2.2.2.2.2 1))), ((qa 2), .inl (cI, 41, .inl (sg.2.2.2.2.2.2.2 2))), ((qa 6), .inl (cI, 41, .inl (sg.2.2.2.2.2.2.2 6)))]) (va_runV (As := [.ref (ba 1)]) (rest := []) ⟨hx, hb, hml, hown, hts⟩ (kX5_byHeights l dC dI cI cJ cZ oa ba ((fX0_survey sg.2.1).1) ((fX0_survey sg.2.1).2.1) ((fX0_survey sg.2.1).2.2) H.size fu hfu hn2 hk2 sg.2.2.1) (cwV 1 hts gX8_schedule_X5_byHeights rfl rfl rfl (by decide +kernel) ⟨Nat.le_of_ble_eq_true rfl, Nat.le_of_ble_eq_true rfl⟩) (md_preV 0 1 (q := (RX5, TX5, 5)) rfl rfl (hP.sub [5, 6, 7, 8, 9, 10, 11, 12, 13, 14, 15, 16, 17, 18, 19, 20, 21, 22, 23, 24] rfl) hK (hD.sub [5, 6, 7, 8, 9, 10, 11, 12, 13, 14, 15, 16, 17, 18, 19, 20, 21, 22, 23, 24] (by decide) rfl)) rfl rfl hl.1 rfl (lv_room (Nat.le_of_ble_eq_true rfl)) dX8_schedule_24 ⟨Nat.zero_le _, Nat.zero_le _⟩) hS hA hP hD [5, 6, 7, 8, 9, 10, 11, 12, 13, 14, 15, 16, 17, 18, 19, 20, 21, 22, 23, 24] [0, 1, 2, 3, 4] rfl rfl (by decide) (by decide) (fun H locs hP hD hS => ?_)
    have hP : va_P (dC, dI) vwCl (wF cI cJ cZ fa qa oa ba (1, fX0_survey sg.2.1, (fX5_byHeights ((fX0_survey sg.2.1).1) ((fX0_survey sg.2.1).2.1) ((fX0_survey sg.2.1).2.2) fu sg.2.2.1), sg.2.2.2)) H := hP
    have hD : va_D A (wF cI cJ cZ fa qa oa ba (1, fX0_survey sg.2.1, (fX5_byHeights ((fX0_survey sg.2.1).1) ((fX0_survey sg.2.1).2.1) ((fX0_survey sg.2.1).2.2) fu sg.2.2.1), sg.2.2.2)) := hD
    refine lv_goto (tgt := 41) hx hb dX8_schedule_27 (by decide) ?_
    refine lv_aload_n hx hb dX8_schedule_41 rfl (lv_at hl 0 rfl) ?_
    refine va_get (D := (dC, dI)) (ci := 3) (v := .ref (qa 0)) (C := RX8) (T := TX8) (N := 4) hx hb hts hinX8 hown hK hP 0 rfl rfl 2 (by decide) (hts (.fieldLink RX8 26 "SlotFiller" "outcome" "LSlotFiller$Outcome;") (by decide +kernel)) (fun _ h9 => h9) rfl dX8_schedule_42 ?_
    refine lv_aload_n hx hb dX8_schedule_45 rfl (lv_at hl 0 rfl) ?_
    refine va_get (D := (dC, dI)) (ci := 3) (v := .ref (ba 1)) (C := RX8) (T := TX8) (N := 4) hx hb hts hinX8 hown hK hP 0 rfl rfl 0 (by decide) (hts (.fieldLink RX8 12 "SlotFiller" "block" "LSlotFiller$Block;") (by decide +kernel)) (fun _ h9 => h9) rfl dX8_schedule_46 ?_
    refine lv_aload_n hx hb dX8_schedule_49 rfl (lv_at hl 0 rfl) ?_
    refine va_get (D := (dC, dI)) (ci := 3) (v := .ref (oa 0)) (C := RX8) (T := TX8) (N := 4) hx hb hts hinX8 hown hK hP 0 rfl rfl 1 (by decide) (hts (.fieldLink RX8 19 "SlotFiller" "order" "LSlotFiller$Order;") (by decide +kernel)) (fun _ h9 => h9) rfl dX8_schedule_50 ?_
    refine lv_iload_n hx hb dX8_schedule_53 rfl (lv_at hl 2 rfl) ?_
    refine md_callv (wr := [(fa, .inr (3, [.ref (ba 1), .ref (oa 0), .ref (qa 0), .int (1)]))]) (va_runV (As := [.ref (ba 1), .ref (oa 0), .int (z2)]) (rest := []) ⟨hx, hb, hml, hown, hts⟩ (kX6_take l dC dI cI cJ cZ qa oa ba (fX5_byHeights ((fX0_survey sg.2.1).1) ((fX0_survey sg.2.1).2.1) ((fX0_survey sg.2.1).2.2) fu sg.2.2.1) ((fX0_survey sg.2.1).1) ((fX0_survey sg.2.1).2.1) ((fX0_survey sg.2.1).2.2) H.size z2 (byH_ok _ _ _ fu hn2 _ hp0).2 (byH_ok _ _ _ fu hn2 _ hp0).1 hn2 hk2 sg.2.2.2 hq0) (cwV 3 hts gX8_schedule_X6_take rfl rfl rfl (by decide +kernel) ⟨Nat.le_of_ble_eq_true rfl, Nat.le_of_ble_eq_true rfl⟩) (md_preV 0 2 (q := (RX6, TX6, 7)) rfl rfl (hP.sub [1, 2, 3, 4, 5, 6, 7, 8, 9, 10, 11, 12, 13, 14, 15, 16, 17, 18, 19, 20, 21, 22, 23, 24] rfl) hK (hD.sub [1, 2, 3, 4, 5, 6, 7, 8, 9, 10, 11, 12, 13, 14, 15, 16, 17, 18, 19, 20, 21, 22, 23, 24] (by decide) rfl)) rfl rfl hl.1 rfl (lv_room (Nat.le_of_ble_eq_true rfl)) dX8_schedule_54 ⟨Nat.zero_le _, Nat.zero_le _⟩) hS hA hP hD [1, 2, 3, 4, 5, 6, 7, 8, 9, 10, 11, 12, 13, 14, 15, 16, 17, 18, 19, 20, 21, 22, 23, 24] [0] rfl rfl (by decide) (by decide) (fun H locs hP hD hS => ?_)
    have hP : va_P (dC, dI) vwCl (wF cI cJ cZ fa qa oa ba (1, fX0_survey sg.2.1, fX5_byHeights ((fX0_survey sg.2.1).1) ((fX0_survey sg.2.1).2.1) ((fX0_survey sg.2.1).2.2) fu sg.2.2.1, (fX6_take (fX5_byHeights ((fX0_survey sg.2.1).1) ((fX0_survey sg.2.1).2.1) ((fX0_survey sg.2.1).2.2) fu sg.2.2.1) ((fX0_survey sg.2.1).1) ((fX0_survey sg.2.1).2.1) ((fX0_survey sg.2.1).2.2) z2 sg.2.2.2))) H := hP
    have hD : va_D A (wF cI cJ cZ fa qa oa ba (1, fX0_survey sg.2.1, fX5_byHeights ((fX0_survey sg.2.1).1) ((fX0_survey sg.2.1).2.1) ((fX0_survey sg.2.1).2.2) fu sg.2.2.1, (fX6_take (fX5_byHeights ((fX0_survey sg.2.1).1) ((fX0_survey sg.2.1).2.1) ((fX0_survey sg.2.1).2.2) fu sg.2.2.1) ((fX0_survey sg.2.1).1) ((fX0_survey sg.2.1).2.1) ((fX0_survey sg.2.1).2.2) z2 sg.2.2.2))) := hD
    refine lv_aload_n hx hb dX8_schedule_57 rfl (lv_at hl 0 rfl) ?_
    refine va_get (D := (dC, dI)) (ci := 3) (v := .ref (qa 0)) (C := RX8) (T := TX8) (N := 4) hx hb hts hinX8 hown hK hP 0 rfl rfl 2 (by decide) (hts (.fieldLink RX8 26 "SlotFiller" "outcome" "LSlotFiller$Outcome;") (by decide +kernel)) (fun _ h9 => h9) rfl dX8_schedule_58 ?_
    refine va_get (D := (dC, dI)) (ci := 2) (v := .int (nI ((fX6_take (fX5_byHeights ((fX0_survey sg.2.1).1) ((fX0_survey sg.2.1).2.1) ((fX0_survey sg.2.1).2.2) fu sg.2.2.1) ((fX0_survey sg.2.1).1) ((fX0_survey sg.2.1).2.1) ((fX0_survey sg.2.1).2.2) z2 sg.2.2.2).1))) (C := RX6) (T := TX6) (N := 7) hx hb hts hinX6 hown hK hP 1 rfl rfl 0 (by decide) (hts (.fieldLink RX8 90 "SlotFiller$Outcome" "size" "I") (by decide +kernel)) (fun _ h9 => h9) rfl dX8_schedule_61 ?_
    have e7 : (nI ((fX6_take (fX5_byHeights ((fX0_survey sg.2.1).1) ((fX0_survey sg.2.1).2.1) ((fX0_survey sg.2.1).2.2) fu sg.2.2.1) ((fX0_survey sg.2.1).1) ((fX0_survey sg.2.1).2.1) ((fX0_survey sg.2.1).2.2) z2 sg.2.2.2).1), (1, fX0_survey sg.2.1, fX5_byHeights ((fX0_survey sg.2.1).1) ((fX0_survey sg.2.1).2.1) ((fX0_survey sg.2.1).2.2) fu sg.2.2.1, fX6_take (fX5_byHeights ((fX0_survey sg.2.1).1) ((fX0_survey sg.2.1).2.1) ((fX0_survey sg.2.1).2.2) fu sg.2.2.1) ((fX0_survey sg.2.1).1) ((fX0_survey sg.2.1).2.1) ((fX0_survey sg.2.1).2.2) z2 sg.2.2.2)) = (fX8_schedule z1 z2 fu sg) := ((show (nI ((fX6_take (fX5_byHeights ((fX0_survey sg.2.1).1) ((fX0_survey sg.2.1).2.1) ((fX0_survey sg.2.1).2.2) fu sg.2.2.1) ((fX0_survey sg.2.1).1) ((fX0_survey sg.2.1).2.1) ((fX0_survey sg.2.1).2.2) z2 sg.2.2.2).1), (1, fX0_survey sg.2.1, fX5_byHeights ((fX0_survey sg.2.1).1) ((fX0_survey sg.2.1).2.1) ((fX0_survey sg.2.1).2.2) fu sg.2.2.1, fX6_take (fX5_byHeights ((fX0_survey sg.2.1).1) ((fX0_survey sg.2.1).2.1) ((fX0_survey sg.2.1).2.2) fu sg.2.2.1) ((fX0_survey sg.2.1).1) ((fX0_survey sg.2.1).2.1) ((fX0_survey sg.2.1).2.2) z2 sg.2.2.2)) = (fX8_schedule z1 z2 fu sg) by unfold fX8_schedule; rw [if_neg c_1]).trans hv)
    have hP : va_P (dC, dI) vwCl (wF cI cJ cZ fa qa oa ba ((fX8_schedule z1 z2 fu sg).2)) H := by rw [← e7]; exact hP
    have hD : va_D A (wF cI cJ cZ fa qa oa ba ((fX8_schedule z1 z2 fu sg).2)) := by rw [← e7]; exact hD
    have e8 : nI ((fX6_take (fX5_byHeights ((fX0_survey sg.2.1).1) ((fX0_survey sg.2.1).2.1) ((fX0_survey sg.2.1).2.2) fu sg.2.2.1) ((fX0_survey sg.2.1).1) ((fX0_survey sg.2.1).2.1) ((fX0_survey sg.2.1).2.2) z2 sg.2.2.2).1) = (fX8_schedule z1 z2 fu sg).1 := by rw [← e7]
    exact W.iret (v := nI ((fX6_take (fX5_byHeights ((fX0_survey sg.2.1).1) ((fX0_survey sg.2.1).2.1) ((fX0_survey sg.2.1).2.2) fu sg.2.2.1) ((fX0_survey sg.2.1).1) ((fX0_survey sg.2.1).2.1) ((fX0_survey sg.2.1).2.2) z2 sg.2.2.2).1)) hx hb hr (fun t ht hW => ⟨⟨_, (), rfl, e8, by rw [ht]; exact hP, hD⟩, hS.F ht⟩) hS.2.2 dX8_schedule_64
def fX8_cycles (t0 : FS) : Int32 := t0.2.2.2.2.1
set_option maxHeartbeats 4000000 in
set_option maxRecDepth 100000 in
theorem kX8_cycles (l : Launch) (dC : Nat → ClassId) (dI : Nat → Nat → Nat) (cI cJ cZ : ClassId) (fa : Nat) (qa oa ba : Nat → Nat) (t0 : FS) (sz : Nat)  : Met l yX8_cycles wsX8_cycles ({ frames := 0, cells := 0, slots := 0, locals := 0 }) (ro_Pc (dC, dI) (wF cI cJ cZ fa qa oa ba t0) (tyA cI cJ cZ) [.ref fa] sz) (ro_Qi (fX8_cycles t0) sz) 0 0 (ro sz) := by
  refine Met.ofW (cc := cX8_cycles) (maxL := 1) (ret := (some .int)) (by decide) rfl ?_
  intro p e s m args below meth c s₁ B0 hml hv
  obtain ⟨rfl, hsz, hP, hK⟩ := hv
  have hx := B0.exec
  have hb := B0.bytes
  have hr := B0.returns
  have hts := atoms_spec (ws := wsX8_cycles) B0.pre
  have hown : s.vm.findClass RX8 = some m.cls := findClass_of_methodNamed B0.named
  have hlocks := B0.notSynchronized
  have hinX8 : ∀ w ∈ wsX80, w ∈ wsX8_cycles := fun w h => List.mem_cons_of_mem _ (List.mem_append_left _ (List.mem_append_right _ (h)))
  have hinX6 : ∀ w ∈ wsX60, w ∈ wsX8_cycles := fun w h => List.mem_cons_of_mem _ (List.mem_append_right _ (h))
  subst hsz
  have hA : ∀ q : Nat, s.heap.size ≤ q → ro s.heap.size q := fun _ h => h
  have hS : va_S (ro s.heap.size) s.heap s.heap [] := va_S.rf
  have hl := lv_entry ([.ref fa]) (n := 1) (Nat.le_of_ble_eq_true rfl)
  rw [lg_entry_eq]
  generalize (lg_sl ([.ref fa]) ++ List.replicate (1 - (lg_sl ([.ref fa])).length) Slot.unset).toArray = ls at hl ⊢
  have hl : lv_has ls 1 [(0, .ref fa)] := hl
  have hv : (fX8_cycles t0) = (fX8_cycles t0) := rfl
  refine lv_aload_n hx hb dX8_cycles_0 rfl (lv_at hl 0 rfl) ?_
  refine va_get (D := (dC, dI)) (ci := 3) (v := .ref (qa 0)) (C := RX8) (T := TX8) (N := 4) hx hb hts hinX8 hown hK hP 0 rfl rfl 2 (by decide) (hts (.fieldLink RX8 26 "SlotFiller" "outcome" "LSlotFiller$Outcome;") (by decide +kernel)) (fun _ h9 => h9) rfl dX8_cycles_1 ?_
  refine va_get (D := (dC, dI)) (ci := 2) (v := .int (t0.2.2.2.2.1)) (C := RX6) (T := TX6) (N := 7) hx hb hts hinX6 hown hK hP 1 rfl rfl 3 (by decide) (hts (.fieldLink RX8 118 "SlotFiller$Outcome" "duration" "I") (by decide +kernel)) (fun _ h9 => h9) rfl dX8_cycles_4 ?_
  exact W.iret (v := t0.2.2.2.2.1) hx hb hr (fun t ht hW => ⟨⟨_, (), rfl, ((show t0.2.2.2.2.1 = (fX8_cycles t0) by unfold fX8_cycles; rfl).trans hv), trivial⟩, hS.F ht⟩) hS.2.2 dX8_cycles_7
def swX8_count_1 (x : Int32) : Int := swT 0 3 [31, 39, 47, 55] 63 x
theorem swX8_count_1_c (x : Int32) : swX8_count_1 x = 31 ∨ swX8_count_1 x = 39 ∨ swX8_count_1 x = 47 ∨ swX8_count_1 x = 55 ∨ swX8_count_1 x = 63 := (show ∀ v ∈ ([63, 31, 39, 47, 55] : List Int), v = 31 ∨ v = 39 ∨ v = 47 ∨ v = 55 ∨ v = 63 by decide) _ (swT_mem _ _ _ _ _)
def fX8_count (t0 : FS) (x : Int32) : Int32 := if swX8_count_1 (x) = 31 then nI t0.2.1.1 else if swX8_count_1 (x) = 39 then nI t0.2.2.2.1 else if swX8_count_1 (x) = 47 then t0.2.2.2.2.2.1 else if swX8_count_1 (x) = 55 then t0.2.2.2.2.2.2.1 else (-1)
set_option maxHeartbeats 4000000 in
set_option maxRecDepth 100000 in
theorem kX8_count (l : Launch) (dC : Nat → ClassId) (dI : Nat → Nat → Nat) (cI cJ cZ : ClassId) (fa : Nat) (qa oa ba : Nat → Nat) (t0 : FS) (sz : Nat) (x : Int32) : Met l yX8_count wsX8_count ({ frames := 0, cells := 0, slots := 0, locals := 0 }) (ro_Pc (dC, dI) (wF cI cJ cZ fa qa oa ba t0) (tyA cI cJ cZ) [.ref fa, .int (x)] sz) (ro_Qi (fX8_count t0 x) sz) 0 0 (ro sz) := by
  refine Met.ofW (cc := cX8_count) (maxL := 2) (ret := (some .int)) (by decide) rfl ?_
  intro p e s m args below meth c s₁ B0 hml hv
  obtain ⟨rfl, hsz, hP, hK⟩ := hv
  have hx := B0.exec
  have hb := B0.bytes
  have hr := B0.returns
  have hts := atoms_spec (ws := wsX8_count) B0.pre
  have hown : s.vm.findClass RX8 = some m.cls := findClass_of_methodNamed B0.named
  have hlocks := B0.notSynchronized
  have hinX8 : ∀ w ∈ wsX80, w ∈ wsX8_count := fun w h => List.mem_cons_of_mem _ (List.mem_append_left _ (List.mem_append_left _ (List.mem_append_right _ (h))))
  have hinX6 : ∀ w ∈ wsX60, w ∈ wsX8_count := fun w h => List.mem_cons_of_mem _ (List.mem_append_right _ (h))
  have hinX0 : ∀ w ∈ wsX00, w ∈ wsX8_count := fun w h => List.mem_cons_of_mem _ (List.mem_append_left _ (List.mem_append_right _ (h)))
  subst hsz
  have hA : ∀ q : Nat, s.heap.size ≤ q → ro s.heap.size q := fun _ h => h
  have hS : va_S (ro s.heap.size) s.heap s.heap [] := va_S.rf
  have hl := lv_entry ([.ref fa, .int (x)]) (n := 2) (Nat.le_of_ble_eq_true rfl)
  rw [lg_entry_eq]
  generalize (lg_sl ([.ref fa, .int (x)]) ++ List.replicate (2 - (lg_sl ([.ref fa, .int (x)])).length) Slot.unset).toArray = ls at hl ⊢
  have hl : lv_has ls 2 [(0, .ref fa), (1, .int (x))] := hl
  have hv : (fX8_count t0 x) = (fX8_count t0 x) := rfl
  refine lv_iload_n hx hb dX8_count_0 rfl (lv_at hl 1 rfl) ?_
  rcases swX8_count_1_c (x) with c_1 | c_1 | c_1 | c_1 | c_1
  · refine my_table (tgt := 32) hx hb dX8_count_1 (by decide) c_1 (by decide) ?_
    refine lv_aload_n hx hb dX8_count_32 rfl (lv_at hl 0 rfl) ?_
    refine va_get (D := (dC, dI)) (ci := 3) (v := .ref (ba 1)) (C := RX8) (T := TX8) (N := 4) hx hb hts hinX8 hown hK hP 0 rfl rfl 0 (by decide) (hts (.fieldLink RX8 12 "SlotFiller" "block" "LSlotFiller$Block;") (by decide +kernel)) (fun _ h9 => h9) rfl dX8_count_33 ?_
    refine va_get (D := (dC, dI)) (ci := 0) (v := .int (nI t0.2.1.1)) (C := RX0) (T := TX0) (N := 15) hx hb hts hinX0 hown hK hP 10 rfl rfl 1 (by decide) (hts (.fieldLink RX8 121 "SlotFiller$Block" "size" "I") (by decide +kernel)) (fun _ h9 => h9) rfl dX8_count_36 ?_
    exact W.iret (v := nI t0.2.1.1) hx hb hr (fun t ht hW => ⟨⟨_, (), rfl, ((show nI t0.2.1.1 = (fX8_count t0 x) by unfold fX8_count; rw [if_pos c_1]).trans hv), trivial⟩, hS.F ht⟩) hS.2.2 dX8_count_39
  · refine my_table (tgt := 40) hx hb dX8_count_1 (by decide) c_1 (by decide) ?_
    refine lv_aload_n hx hb dX8_count_40 rfl (lv_at hl 0 rfl) ?_
    refine va_get (D := (dC, dI)) (ci := 3) (v := .ref (qa 0)) (C := RX8) (T := TX8) (N := 4) hx hb hts hinX8 hown hK hP 0 rfl rfl 2 (by decide) (hts (.fieldLink RX8 26 "SlotFiller" "outcome" "LSlotFiller$Outcome;") (by decide +kernel)) (fun _ h9 => h9) rfl dX8_count_41 ?_
    refine va_get (D := (dC, dI)) (ci := 2) (v := .int (nI t0.2.2.2.1)) (C := RX6) (T := TX6) (N := 7) hx hb hts hinX6 hown hK hP 1 rfl rfl 0 (by decide) (hts (.fieldLink RX8 90 "SlotFiller$Outcome" "size" "I") (by decide +kernel)) (fun _ h9 => h9) rfl dX8_count_44 ?_
    exact W.iret (v := nI t0.2.2.2.1) hx hb hr (fun t ht hW => ⟨⟨_, (), rfl, ((show nI t0.2.2.2.1 = (fX8_count t0 x) by unfold fX8_count; rw [if_neg (show ¬ (swX8_count_1 (x) = 31) by rw [c_1]; decide), if_pos c_1]).trans hv), trivial⟩, hS.F ht⟩) hS.2.2 dX8_count_47
  · refine my_table (tgt := 48) hx hb dX8_count_1 (by decide) c_1 (by decide) ?_
    refine lv_aload_n hx hb dX8_count_48 rfl (lv_at hl 0 rfl) ?_
    refine va_get (D := (dC, dI)) (ci := 3) (v := .ref (qa 0)) (C := RX8) (T := TX8) (N := 4) hx hb hts hinX8 hown hK hP 0 rfl rfl 2 (by decide) (hts (.fieldLink RX8 26 "SlotFiller" "outcome" "LSlotFiller$Outcome;") (by decide +kernel)) (fun _ h9 => h9) rfl dX8_count_49 ?_
    refine va_get (D := (dC, dI)) (ci := 2) (v := .int (t0.2.2.2.2.2.1)) (C := RX6) (T := TX6) (N := 7) hx hb hts hinX6 hown hK hP 1 rfl rfl 4 (by decide) (hts (.fieldLink RX8 122 "SlotFiller$Outcome" "ownNops" "I") (by decide +kernel)) (fun _ h9 => h9) rfl dX8_count_52 ?_
    exact W.iret (v := t0.2.2.2.2.2.1) hx hb hr (fun t ht hW => ⟨⟨_, (), rfl, ((show t0.2.2.2.2.2.1 = (fX8_count t0 x) by unfold fX8_count; rw [if_neg (show ¬ (swX8_count_1 (x) = 31) by rw [c_1]; decide), if_neg (show ¬ (swX8_count_1 (x) = 39) by rw [c_1]; decide), if_pos c_1]).trans hv), trivial⟩, hS.F ht⟩) hS.2.2 dX8_count_55
  · refine my_table (tgt := 56) hx hb dX8_count_1 (by decide) c_1 (by decide) ?_
    refine lv_aload_n hx hb dX8_count_56 rfl (lv_at hl 0 rfl) ?_
    refine va_get (D := (dC, dI)) (ci := 3) (v := .ref (qa 0)) (C := RX8) (T := TX8) (N := 4) hx hb hts hinX8 hown hK hP 0 rfl rfl 2 (by decide) (hts (.fieldLink RX8 26 "SlotFiller" "outcome" "LSlotFiller$Outcome;") (by decide +kernel)) (fun _ h9 => h9) rfl dX8_count_57 ?_
    refine va_get (D := (dC, dI)) (ci := 2) (v := .int (t0.2.2.2.2.2.2.1)) (C := RX6) (T := TX6) (N := 7) hx hb hts hinX6 hown hK hP 1 rfl rfl 5 (by decide) (hts (.fieldLink RX8 125 "SlotFiller$Outcome" "filled" "I") (by decide +kernel)) (fun _ h9 => h9) rfl dX8_count_60 ?_
    exact W.iret (v := t0.2.2.2.2.2.2.1) hx hb hr (fun t ht hW => ⟨⟨_, (), rfl, ((show t0.2.2.2.2.2.2.1 = (fX8_count t0 x) by unfold fX8_count; rw [if_neg (show ¬ (swX8_count_1 (x) = 31) by rw [c_1]; decide), if_neg (show ¬ (swX8_count_1 (x) = 39) by rw [c_1]; decide), if_neg (show ¬ (swX8_count_1 (x) = 47) by rw [c_1]; decide), if_pos c_1]).trans hv), trivial⟩, hS.F ht⟩) hS.2.2 dX8_count_63
  · refine my_table (tgt := 64) hx hb dX8_count_1 (by decide) c_1 (by decide) ?_
    refine lv_iconst (v := (-1)) hx hb dX8_count_64 (by decide) ?_
    exact W.iret (v := (-1)) hx hb hr (fun t ht hW => ⟨⟨_, (), rfl, ((show (-1) = (fX8_count t0 x) by unfold fX8_count; rw [if_neg (show ¬ (swX8_count_1 (x) = 31) by rw [c_1]; decide), if_neg (show ¬ (swX8_count_1 (x) = 39) by rw [c_1]; decide), if_neg (show ¬ (swX8_count_1 (x) = 47) by rw [c_1]; decide), if_neg (show ¬ (swX8_count_1 (x) = 55) by rw [c_1]; decide)]).trans hv), trivial⟩, hS.F ht⟩) hS.2.2 dX8_count_65
