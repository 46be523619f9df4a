/-! ===== Outcome.run and take ===== -/
theorem put_sz (o : OS) (n : Nat) (B : Nat → Nat → Int32) (BL : Nat → Nat → Int64) (x : Int32) (t : QS) (h : t.1 ≤ 41) : (fX6_put o n B BL x t).1 ≤ 41 := by
  unfold fX6_put
  by_cases c : nI t.1 < 41
  · have := nI_lt41 h c
    rw [if_pos c]
    split <;> (show t.1 + 1 ≤ 41; omega)
  · rw [if_neg c]; exact h
theorem okQ_up {Q : Nat → Nat → Int32} (h : okQ Q) {x : Int32} (hx : okI x) (f : Nat → Int32) (k : Nat) : okQ (upB (upB Q 1 f) 2 (upd (Q 2) k x)) := by
  intro q hq
  show okI (upd (Q 2) k x q)
  by_cases e : q = k
  · subst e; rw [pk_us]; exact hx
  · rw [pk_un e]; exact h q hq
theorem put_ok (o : OS) (n : Nat) (B : Nat → Nat → Int32) (BL : Nat → Nat → Int64) (x : Int32) (hx : okI x) (t : QS) (h : okQ t.2.2.2.2) : okQ (fX6_put o n B BL x t).2.2.2.2 := by
  unfold fX6_put
  split
  · split
    · exact okQ_up h hx _ _
    · exact okQ_up h hx _ _
  · exact h
theorem fill_sz (o : OS) (n : Nat) (B : Nat → Nat → Int32) (BL : Nat → Nat → Int64) (x : Int32) (t : QS) (h : t.1 ≤ 41) : (fX6_fillSlot o n B BL x t).1 ≤ 41 := by
  unfold fX6_fillSlot
  split <;> exact put_sz o n B BL x t h
theorem fill_ok (o : OS) (n : Nat) (B : Nat → Nat → Int32) (BL : Nat → Nat → Int64) (x : Int32) (hx : okI x) (t : QS) (h : okQ t.2.2.2.2) : okQ (fX6_fillSlot o n B BL x t).2.2.2.2 := by
  unfold fX6_fillSlot
  split <;> exact put_ok o n B BL x hx t h
theorem spare_ok30 (o : OS) (n : Nat) (B : Nat → Nat → Int32) (BL : Nat → Nat → Int64) (hp : ∀ q, q < 40 → vp_in (o.2 1 q) 40) : ∀ (q k : Nat), k ≤ 40 → okI (fX6_spare_30 o n B BL q k) := by
  intro q
  induction q with
  | zero => intro k _; exact Or.inr (by rw [fX6_spare_30]; exact vp_in_nI (n := 0) (N := 40) (by decide) (by decide))
  | succ q ih =>
    intro k hk
    rw [fX6_spare_30]
    by_cases h : dn k < 0
    · rw [if_pos h]; exact Or.inl rfl
    · rw [if_neg h]
      have := dn_pos h
      repeat' split
      all_goals first | exact ih _ (by omega) | exact Or.inr (hp _ (by omega))
theorem spare_ok (o : OS) (n : Nat) (B : Nat → Nat → Int32) (BL : Nat → Nat → Int64) (hp : ∀ q, q < 40 → vp_in (o.2 1 q) 40) (ho : o.1 ≤ 40) : okI (fX6_spare o n B BL) := by
  unfold fX6_spare
  repeat' split
  all_goals first | exact Or.inl rfl | exact spare_ok30 o n B BL hp _ _ ho
def fX6_run_32 (o : OS) (n : Nat) (B : Nat → Nat → Int32) (BL : Nat → Nat → Int64) (tg : QS) (k : Nat) : Nat → Nat → Int32 → Nat × Int32
  | 0, m9, v => (m9, v)
  | q32 + 1, m9, v => if nI k ≤ nI m9 then (m9, v) else (fX6_run_32 o n B BL tg k q32 (m9 + 1) (mx v (((tg.2.2.2.2 6) (m9)) + (fX6_distanceOf tg n B BL k m9))))
def fX6_run_2 (o : OS) (n : Nat) (B : Nat → Nat → Int32) (BL : Nat → Nat → Int64) : Nat → Nat → QS → Int32 × QS
  | 0, k, tg => (0, tg)
  | q2 + 1, k, tg => if nI tg.1 ≤ nI k then if nI tg.1 = 0 then (0, tg) else ((((tg.2.2.2.2 6) (tg.1 - 1)) + 1), tg) else if nI k = 0 then (fX6_run_2 o n B BL q2 (k + 1) (tg.1, tg.2.1, tg.2.2.1, tg.2.2.2.1, (upB tg.2.2.2.2 6 (upd (tg.2.2.2.2 6) (k) ((fX6_run_32 o n B BL tg k 42 0 0).2))))) else (fX6_run_2 o n B BL q2 (k + 1) (tg.1, tg.2.1, tg.2.2.1, tg.2.2.2.1, (upB tg.2.2.2.2 6 (upd (tg.2.2.2.2 6) (k) ((fX6_run_32 o n B BL tg k 42 0 (((tg.2.2.2.2 6) (k - 1)) + 1)).2)))))
def fX6_run (o : OS) (n : Nat) (B : Nat → Nat → Int32) (BL : Nat → Nat → Int64) (sg : QS) : Int32 × QS := (fX6_run_2 o n B BL 42 0 sg)
set_option maxHeartbeats 4000000 in
set_option maxRecDepth 100000 in
theorem kX6_run (l : Launch) (dC : Nat → ClassId) (dI : Nat → Nat → Nat) (cI cJ cZ : ClassId) (qa oa ba : Nat → Nat) (o : OS) (n : Nat) (B : Nat → Nat → Int32) (BL : Nat → Nat → Int64) (sz : Nat) (hn : n ≤ 40) (hk : ∀ q, q < 40 → vp_in (B 3 q) 9)  (sg : QS) (hs41 : sg.1 ≤ 41) (hq0 : okQ sg.2.2.2.2) : Met l yX6_run wsX6_run ({ frames := 4, cells := 0, slots := 0, locals := 93 }) (md_Pc (dC, dI) (wQ cI qa sg ++ (wO cI cZ oa o ++ wB cI cJ cZ ba n B BL)) (tyA cI cJ cZ) [.ref (qa 0), .ref (ba 1)] sz) (md_Qi (fX6_run o n B BL sg).1 (dC, dI) (wQ cI qa ((fX6_run o n B BL sg).2) ++ (wO cI cZ oa o ++ wB cI cJ cZ ba n B BL)) (va_A (wQ cI qa sg ++ (wO cI cZ oa o ++ wB cI cJ cZ ba n B BL)) sz)) 0 0 (va_A (wQ cI qa sg ++ (wO cI cZ oa o ++ wB cI cJ cZ ba n B BL)) sz) := by
  refine Met.ofW (cc := cX6_run) (maxL := 5) (ret := (some .int)) (by decide) rfl ?_
  intro p e s m args below meth c s₁ B0 hml hv
  obtain ⟨rfl, hsz, hP, hK, hD0⟩ := hv
  have hx := B0.exec
  have hb := B0.bytes
  have hr := B0.returns
  have hts := atoms_spec (ws := wsX6_run) B0.pre
  have hown : s.vm.findClass RX6 = some m.cls := findClass_of_methodNamed B0.named
  have hlocks := B0.notSynchronized
  have hinX6 : ∀ w ∈ wsX60, w ∈ wsX6_run := fun w h => List.mem_cons_of_mem _ (List.mem_append_left _ (List.mem_append_right _ (h)))
  have hinX0 : ∀ w ∈ wsX00, w ∈ wsX6_run := fun w h => List.mem_cons_of_mem _ (List.mem_append_right _ (h))
  subst hsz
  have hD := hD0.self (sz := s.heap.size)
  generalize hAe : va_A (wQ cI qa sg ++ (wO cI cZ oa o ++ wB cI cJ cZ ba n B BL)) s.heap.size = A at hD ⊢
  have hA : ∀ q : Nat, s.heap.size ≤ q → A q := fun q h => by rw [← hAe]; exact Or.inr h
  have hS : va_S A s.heap s.heap [] := va_S.rf
  have hl := lv_entry ([.ref (qa 0), .ref (ba 1)]) (n := 5) (Nat.le_of_ble_eq_true rfl)
  rw [lg_entry_eq]
  generalize (lg_sl ([.ref (qa 0), .ref (ba 1)]) ++ List.replicate (5 - (lg_sl ([.ref (qa 0), .ref (ba 1)])).length) Slot.unset).toArray = ls at hl ⊢
  have hl : lv_has ls 5 [(0, .ref (qa 0)), (1, .ref (ba 1))] := hl
  have hv : (fX6_run o n B BL sg) = (fX6_run o n B BL sg) := rfl
  have J2 : ∀ (q2 : Nat) (k : Nat) (tg : QS) (H : Heap) (locs : List Loc) (ls : Array Slot), ((k ≤ tg.1 ∧ tg.1 ≤ 41) ∧ 42 ≤ k + q2 ∧ okQ tg.2.2.2.2) → va_P (dC, dI) vwCl (wQ cI qa tg ++ (wO cI cZ oa o ++ wB cI cJ cZ ba n B BL)) H → va_D A (wQ cI qa tg ++ (wO cI cZ oa o ++ wB cI cJ cZ ba n B BL)) → va_S A s.heap H locs → lv_has ls 5 [(2, .int (nI k)), (0, .ref (qa 0)), (1, .ref (ba 1))] → (fX6_run_2 o n B BL q2 k tg) = (fX6_run o n B BL sg) → W p l e (headSpec wsX6_run ({ frames := 4, cells := 0, slots := 0, locals := 93 })).room s m ([.ref (qa 0), .ref (ba 1)] : List Value).toArray below meth c H locs 0 0 (MQ below (md_Qi (fX6_run o n B BL sg).1 (dC, dI) (wQ cI qa ((fX6_run o n B BL sg).2) ++ (wO cI cZ oa o ++ wB cI cJ cZ ba n B BL)) (A)) ([.ref (qa 0), .ref (ba 1)] : List Value).toArray s 0 0 (A)) (F0 m 2 ls []) := by
    intro q2
    induction q2 with
    | zero => intro k tg H locs ls hm2 hP hD hS hl hv; exact absurd hm2 (fun h => absurd h.2.1 (by have := h.1; omega))
    | succ q2 ih2 =>
      intro k tg H locs ls hm2 hP hD hS hl hv
      have hkt := hm2.1.1; have ht41 := hm2.1.2; have hq := hm2.2.2; have hq42 := hm2.2.1
      have J32 : ∀ (q32 : Nat) (m9 : Nat) (v : Int32) (H : Heap) (locs : List Loc) (ls : Array Slot), ((m9 ≤ k ∧ k < 41) ∧ 42 ≤ m9 + q32) → va_P (dC, dI) vwCl (wQ cI qa tg ++ (wO cI cZ oa o ++ wB cI cJ cZ ba n B BL)) H → va_D A (wQ cI qa tg ++ (wO cI cZ oa o ++ wB cI cJ cZ ba n B BL)) → va_S A s.heap H locs → lv_has ls 5 [(4, .int (nI m9)), (3, .int (v)), (2, .int (nI k)), (0, .ref (qa 0)), (1, .ref (ba 1))] → (∀ (H : Heap) (locs : List Loc) (ls : Array Slot), va_P (dC, dI) vwCl (wQ cI qa tg ++ (wO cI cZ oa o ++ wB cI cJ cZ ba n B BL)) H → va_D A (wQ cI qa tg ++ (wO cI cZ oa o ++ wB cI cJ cZ ba n B BL)) → va_S A s.heap H locs → lv_has ls 5 [(4, .int (nI ((fX6_run_32 o n B BL tg k q32 m9 v).1))), (3, .int ((fX6_run_32 o n B BL tg k q32 m9 v).2)), (2, .int (nI k)), (0, .ref (qa 0)), (1, .ref (ba 1))] → W p l e (headSpec wsX6_run ({ frames := 4, cells := 0, slots := 0, locals := 93 })).room s m ([.ref (qa 0), .ref (ba 1)] : List Value).toArray below meth c H locs 0 0 (MQ below (md_Qi (fX6_run o n B BL sg).1 (dC, dI) (wQ cI qa ((fX6_run o n B BL sg).2) ++ (wO cI cZ oa o ++ wB cI cJ cZ ba n B BL)) (A)) ([.ref (qa 0), .ref (ba 1)] : List Value).toArray s 0 0 (A)) (F0 m 65 ls [])) → W p l e (headSpec wsX6_run ({ frames := 4, cells := 0, slots := 0, locals := 93 })).room s m ([.ref (qa 0), .ref (ba 1)] : List Value).toArray below meth c H locs 0 0 (MQ below (md_Qi (fX6_run o n B BL sg).1 (dC, dI) (wQ cI qa ((fX6_run o n B BL sg).2) ++ (wO cI cZ oa o ++ wB cI cJ cZ ba n B BL)) (A)) ([.ref (qa 0), .ref (ba 1)] : List Value).toArray s 0 0 (A)) (F0 m 32 ls []) := by
        intro q32
        induction q32 with
        | zero => intro m9 v H locs ls hm32 hP hD hS hl kx; exact absurd hm32 (by omega)
        | succ q32 ih32 =>
          intro m9 v H locs ls hm32 hP hD hS hl kx
          have hmk := hm32.1.1; have hk1 := hm32.1.2
          refine lv_iload hx hb dX6_run_32 (lv_at hl 0 rfl) ?_
          refine lv_iload_n hx hb dX6_run_34 rfl (lv_at hl 2 rfl) ?_
          refine lv_icmp_ge (tgt := 65) hx hb dX6_run_35 (by decide) (fun c_1 => ?_) (fun c_1 => ?_)
          · rw [show (fX6_run_32 o n B BL tg k (q32 + 1) m9 v) = (m9, v) by rw [fX6_run_32, if_pos c_1]] at kx
            exact kx H _ ls hP hD hS (lv_sub hl [0, 1, 2, 3, 4] rfl)
          · have hm1 : m9 < 41 := by have := nI_geN (by omega) (by omega) c_1; omega
            refine lv_iload_n hx hb dX6_run_38 rfl (lv_at hl 1 rfl) ?_
            refine lv_aload_n hx hb dX6_run_39 rfl (lv_at hl 3 rfl) ?_
            refine va_get (D := (dC, dI)) (ci := 2) (v := .ref (qa 6)) (C := RX6) (T := TX6) (N := 7) hx hb hts hinX6 hown hK hP 0 rfl rfl 6 (by decide) (hts (.fieldLink RX6 31 "SlotFiller$Outcome" "starts" "[I") (by decide +kernel)) (fun _ h9 => h9) rfl dX6_run_40 ?_
            refine lv_iload hx hb dX6_run_43 (lv_at hl 0 rfl) ?_
            refine my_iald (j := m9) hx hb hK hP 3 0 rfl rfl (hm1) (by decide) dX6_run_45 ?_
            refine lv_aload_n hx hb dX6_run_46 rfl (lv_at hl 3 rfl) ?_
            refine lv_aload_n hx hb dX6_run_47 rfl (lv_at hl 4 rfl) ?_
            refine lv_iload_n hx hb dX6_run_48 rfl (lv_at hl 2 rfl) ?_
            refine lv_iload hx hb dX6_run_49 (lv_at hl 0 rfl) ?_
            refine ro_calli (va_runV (As := [.ref (ba 1), .int (nI k), .int (nI m9)]) (rest := [.int (((tg.2.2.2.2 6) (m9))), .int (v)]) ⟨hx, hb, hml, hown, hts⟩ (kX6_distanceOf l dC dI cI cJ cZ tg qa oa ba o n B BL H.size k m9 hk1 hm1 hq hn hk) (cwV 3 hts gX6_run_X6_distanceOf rfl rfl rfl (by decide +kernel) ⟨Nat.le_of_ble_eq_true rfl, Nat.le_of_ble_eq_true rfl⟩) (ro_preV 0 2 (q := (RX6, TX6, 7)) rfl rfl hP hK) rfl rfl hl.1 rfl (lv_room (Nat.le_of_ble_eq_true rfl)) dX6_run_51 ⟨Nat.zero_le _, Nat.zero_le _⟩) hS hA (fun H locs kP hS => ?_)
            have hP := kP _ _ _ hP
            refine lv_iadd hx hb dX6_run_54 ?_
            refine va_mmax hx hb (hml.trans hl.1.symm) hown (hts (.methodLink RX6 79 Lib.Math.max.name) (by decide +kernel)) (hts (.static Lib.Math.max.name) (by decide +kernel)) (hts (.initialized "java/lang/Math") (by decide +kernel)) (hts (.code Lib.Math.max.name Lib.Math.max.code 2 (some .int)) (by decide +kernel)) (Nat.le_of_ble_eq_true rfl) (Nat.le_of_ble_eq_true rfl) (Nat.zero_le _) (Nat.zero_le _) dX6_run_55 ?_
            refine lv_istore_n (lv' := [(3, .int ((mx v (((tg.2.2.2.2 6) (m9)) + (fX6_distanceOf tg n B BL k m9))))), (4, .int (nI m9)), (2, .int (nI k)), (0, .ref (qa 0)), (1, .ref (ba 1))]) hx hb dX6_run_58 rfl hl (by decide) rfl (fun ls hl => ?_)
            refine lv_iinc (v := nI (m9 + 1)) (lv' := [(4, .int (nI (m9 + 1))), (3, .int ((mx v (((tg.2.2.2.2 6) (m9)) + (fX6_distanceOf tg n B BL k m9))))), (2, .int (nI k)), (0, .ref (qa 0)), (1, .ref (ba 1))]) hx hb dX6_run_59 hl (k := 1) rfl (nI_1 m9) (by decide) rfl (fun ls hl => ?_)
            refine lv_goto (tgt := 32) hx hb dX6_run_62 (by decide) ?_
            rw [show (fX6_run_32 o n B BL tg k (q32 + 1) m9 v) = (fX6_run_32 o n B BL tg k q32 (m9 + 1) (mx v (((tg.2.2.2.2 6) (m9)) + (fX6_distanceOf tg n B BL k m9)))) by rw [fX6_run_32, if_neg c_1]] at kx
            exact ih32 (m9 + 1) (mx v (((tg.2.2.2.2 6) (m9)) + (fX6_distanceOf tg n B BL k m9))) H _ ls (⟨⟨nI_geN (by omega) (by omega) c_1, hk1⟩, by omega⟩) hP hD hS (lv_sub hl [0, 1, 2, 3, 4] rfl) kx
      refine lv_iload_n hx hb dX6_run_2 rfl (lv_at hl 0 rfl) ?_
      refine lv_aload_n hx hb dX6_run_3 rfl (lv_at hl 1 rfl) ?_
      refine va_get (D := (dC, dI)) (ci := 2) (v := .int (nI tg.1)) (C := RX6) (T := TX6) (N := 7) hx hb hts hinX6 hown hK hP 0 rfl rfl 0 (by decide) (hts (.fieldLink RX6 9 "SlotFiller$Outcome" "size" "I") (by decide +kernel)) (fun _ h9 => h9) rfl dX6_run_4 ?_
      refine lv_icmp_ge (tgt := 78) hx hb dX6_run_7 (by decide) (fun c_2 => ?_) (fun c_2 => ?_)
      · refine lv_aload_n hx hb dX6_run_78 rfl (lv_at hl 1 rfl) ?_
        refine va_get (D := (dC, dI)) (ci := 2) (v := .int (nI tg.1)) (C := RX6) (T := TX6) (N := 7) hx hb hts hinX6 hown hK hP 0 rfl rfl 0 (by decide) (hts (.fieldLink RX6 9 "SlotFiller$Outcome" "size" "I") (by decide +kernel)) (fun _ h9 => h9) rfl dX6_run_79 ?_
        refine lv_if_ne (tgt := 89) hx hb dX6_run_82 (by decide) (fun c_3 => ?_) (fun c_3 => ?_)
        · have hz0 : 0 < tg.1 := Nat.pos_of_ne_zero (fun z => c_3 (by rw [z]; exact nI_0))
          refine lv_aload_n hx hb dX6_run_89 rfl (lv_at hl 1 rfl) ?_
          refine va_get (D := (dC, dI)) (ci := 2) (v := .ref (qa 6)) (C := RX6) (T := TX6) (N := 7) hx hb hts hinX6 hown hK hP 0 rfl rfl 6 (by decide) (hts (.fieldLink RX6 31 "SlotFiller$Outcome" "starts" "[I") (by decide +kernel)) (fun _ h9 => h9) rfl dX6_run_90 ?_
          refine lv_aload_n hx hb dX6_run_93 rfl (lv_at hl 1 rfl) ?_
          refine va_get (D := (dC, dI)) (ci := 2) (v := .int (nI tg.1)) (C := RX6) (T := TX6) (N := 7) hx hb hts hinX6 hown hK hP 0 rfl rfl 0 (by decide) (hts (.fieldLink RX6 9 "SlotFiller$Outcome" "size" "I") (by decide +kernel)) (fun _ h9 => h9) rfl dX6_run_94 ?_
          refine lv_iconst (v := 1) hx hb dX6_run_97 (by decide) ?_
          refine lv_isub hx hb dX6_run_98 ?_
          refine top_i (y := nI (tg.1 - 1)) (nI_sub1 hz0) ?_
          refine my_iald (j := tg.1 - 1) hx hb hK hP 3 0 rfl rfl (by omega) (by decide) dX6_run_99 ?_
          refine lv_iconst (v := 1) hx hb dX6_run_100 (by decide) ?_
          refine lv_iadd hx hb dX6_run_101 ?_
          have e7 : ((((tg.2.2.2.2 6) (tg.1 - 1)) + 1), tg) = (fX6_run o n B BL sg) := ((show ((((tg.2.2.2.2 6) (tg.1 - 1)) + 1), tg) = (fX6_run_2 o n B BL (q2 + 1) k tg) by rw [fX6_run_2, if_pos c_2, if_neg c_3]).trans hv)
          have hP : va_P (dC, dI) vwCl (wQ cI qa ((fX6_run o n B BL sg).2) ++ (wO cI cZ oa o ++ wB cI cJ cZ ba n B BL)) H := by rw [← e7]; exact hP
          have hD : va_D A (wQ cI qa ((fX6_run o n B BL sg).2) ++ (wO cI cZ oa o ++ wB cI cJ cZ ba n B BL)) := by rw [← e7]; exact hD
          have e8 : (((tg.2.2.2.2 6) (tg.1 - 1)) + 1) = (fX6_run o n B BL sg).1 := by rw [← e7]
          exact W.iret (v := (((tg.2.2.2.2 6) (tg.1 - 1)) + 1)) hx hb hr (fun t ht hW => ⟨⟨_, (), rfl, e8, by rw [ht]; exact hP, hD⟩, hS.F ht⟩) hS.2.2 dX6_run_102
        · refine lv_iconst (v := 0) hx hb dX6_run_85 (by decide) ?_
          refine lv_goto (tgt := 102) hx hb dX6_run_86 (by decide) ?_
          have e7 : (0, tg) = (fX6_run o n B BL sg) := ((show (0, tg) = (fX6_run_2 o n B BL (q2 + 1) k tg) by rw [fX6_run_2, if_pos c_2, if_pos c_3]).trans hv)
          have hP : va_P (dC, dI) vwCl (wQ cI qa ((fX6_run o n B BL sg).2) ++ (wO cI cZ oa o ++ wB cI cJ cZ ba n B BL)) H := by rw [← e7]; exact hP
          have hD : va_D A (wQ cI qa ((fX6_run o n B BL sg).2) ++ (wO cI cZ oa o ++ wB cI cJ cZ ba n B BL)) := by rw [← e7]; exact hD
          have e8 : 0 = (fX6_run o n B BL sg).1 := by rw [← e7]
          exact W.iret (v := 0) hx hb hr (fun t ht hW => ⟨⟨_, (), rfl, e8, by rw [ht]; exact hP, hD⟩, hS.F ht⟩) hS.2.2 dX6_run_102
      · have hk1 : k < 41 := Nat.lt_of_lt_of_le (nI_geN (by omega) (by omega) c_2) ht41
        refine lv_iload_n hx hb dX6_run_10 rfl (lv_at hl 0 rfl) ?_
        refine lv_if_ne (tgt := 18) hx hb dX6_run_11 (by decide) (fun c_4 => ?_) (fun c_4 => ?_)
        · have hk0 : 0 < k := Nat.pos_of_ne_zero (fun z => c_4 (by rw [z]; exact nI_0))
          refine lv_aload_n hx hb dX6_run_18 rfl (lv_at hl 1 rfl) ?_
          refine va_get (D := (dC, dI)) (ci := 2) (v := .ref (qa 6)) (C := RX6) (T := TX6) (N := 7) hx hb hts hinX6 hown hK hP 0 rfl rfl 6 (by decide) (hts (.fieldLink RX6 31 "SlotFiller$Outcome" "starts" "[I") (by decide +kernel)) (fun _ h9 => h9) rfl dX6_run_19 ?_
          refine lv_iload_n hx hb dX6_run_22 rfl (lv_at hl 0 rfl) ?_
          refine lv_iconst (v := 1) hx hb dX6_run_23 (by decide) ?_
          refine lv_isub hx hb dX6_run_24 ?_
          refine top_i (y := nI (k - 1)) (nI_sub1 hk0) ?_
          refine my_iald (j := k - 1) hx hb hK hP 3 0 rfl rfl (by omega) (by decide) dX6_run_25 ?_
          refine lv_iconst (v := 1) hx hb dX6_run_26 (by decide) ?_
          refine lv_iadd hx hb dX6_run_27 ?_
          refine lv_istore_n (lv' := [(3, .int ((((tg.2.2.2.2 6) (k - 1)) + 1))), (2, .int (nI k)), (0, .ref (qa 0)), (1, .ref (ba 1))]) hx hb dX6_run_28 rfl hl (by decide) rfl (fun ls hl => ?_)
          refine lv_iconst (v := 0) hx hb dX6_run_29 (by decide) ?_
          refine top_i (y := nI 0) (nI_0.symm) ?_
          refine lv_istore (lv' := [(4, .int (nI 0)), (3, .int ((((tg.2.2.2.2 6) (k - 1)) + 1))), (2, .int (nI k)), (0, .ref (qa 0)), (1, .ref (ba 1))]) hx hb dX6_run_30 hl (by decide) rfl (fun ls hl => ?_)
          refine J32 42 0 (((tg.2.2.2.2 6) (k - 1)) + 1) H _ ls (⟨⟨Nat.zero_le _, hk1⟩, by omega⟩) hP hD hS (lv_sub hl [0, 1, 2, 3, 4] rfl) (fun H locs ls hP hD hS hl => ?_)
          refine lv_aload_n hx hb dX6_run_65 rfl (lv_at hl 3 rfl) ?_
          refine va_get (D := (dC, dI)) (ci := 2) (v := .ref (qa 6)) (C := RX6) (T := TX6) (N := 7) hx hb hts hinX6 hown hK hP 0 rfl rfl 6 (by decide) (hts (.fieldLink RX6 31 "SlotFiller$Outcome" "starts" "[I") (by decide +kernel)) (fun _ h9 => h9) rfl dX6_run_66 ?_
          refine lv_iload_n hx hb dX6_run_69 rfl (lv_at hl 2 rfl) ?_
          refine lv_iload_n hx hb dX6_run_70 rfl (lv_at hl 1 rfl) ?_
          refine my_iast (j := k) hx hb hK hP hD hS 3 0 rfl rfl (hk1) (by decide) dX6_run_71 (fun H locs hP hD hS => ?_)
          have hP : va_P (dC, dI) vwCl ([((qa 0), .inr (2, [.int (nI tg.1), .ref (qa 1), .ref (qa 2), .int (tg.2.1), .int (tg.2.2.1), .int (tg.2.2.2.1), .ref (qa 6)])), ((qa 1), .inl (cI, 41, .inl (tg.2.2.2.2 1))), ((qa 2), .inl (cI, 41, .inl (tg.2.2.2.2 2))), ((qa 6), .inl (cI, 41, .inl (upd (tg.2.2.2.2 6) (k) ((fX6_run_32 o n B BL tg k 42 0 (((tg.2.2.2.2 6) (k - 1)) + 1)).2))))] ++ (wO cI cZ oa o ++ wB cI cJ cZ ba n B BL)) H := hP
          have hD : va_D A ([((qa 0), .inr (2, [.int (nI tg.1), .ref (qa 1), .ref (qa 2), .int (tg.2.1), .int (tg.2.2.1), .int (tg.2.2.2.1), .ref (qa 6)])), ((qa 1), .inl (cI, 41, .inl (tg.2.2.2.2 1))), ((qa 2), .inl (cI, 41, .inl (tg.2.2.2.2 2))), ((qa 6), .inl (cI, 41, .inl (upd (tg.2.2.2.2 6) (k) ((fX6_run_32 o n B BL tg k 42 0 (((tg.2.2.2.2 6) (k - 1)) + 1)).2))))] ++ (wO cI cZ oa o ++ wB cI cJ cZ ba n B BL)) := hD
          refine lv_iinc (v := nI (k + 1)) (lv' := [(2, .int (nI (k + 1))), (4, .int (nI ((fX6_run_32 o n B BL tg k 42 0 (((tg.2.2.2.2 6) (k - 1)) + 1)).1))), (3, .int ((fX6_run_32 o n B BL tg k 42 0 (((tg.2.2.2.2 6) (k - 1)) + 1)).2)), (0, .ref (qa 0)), (1, .ref (ba 1))]) hx hb dX6_run_72 hl (k := 2) rfl (nI_1 k) (by decide) rfl (fun ls hl => ?_)
          refine lv_goto (tgt := 2) hx hb dX6_run_75 (by decide) ?_
          exact ih2 (k + 1) (tg.1, tg.2.1, tg.2.2.1, tg.2.2.2.1, (upB tg.2.2.2.2 6 (upd (tg.2.2.2.2 6) (k) ((fX6_run_32 o n B BL tg k 42 0 (((tg.2.2.2.2 6) (k - 1)) + 1)).2)))) H _ ls (⟨⟨nI_geN (by omega) (by omega) c_2, ht41⟩, by omega, hq⟩) hP hD hS (lv_sub hl [0, 3, 4] rfl) ((show (fX6_run_2 o n B BL q2 (k + 1) (tg.1, tg.2.1, tg.2.2.1, tg.2.2.2.1, (upB tg.2.2.2.2 6 (upd (tg.2.2.2.2 6) (k) ((fX6_run_32 o n B BL tg k 42 0 (((tg.2.2.2.2 6) (k - 1)) + 1)).2))))) = (fX6_run_2 o n B BL (q2 + 1) k tg) by rw [fX6_run_2, if_neg c_2, if_neg c_4]).trans hv)
        · refine lv_iconst (v := 0) hx hb dX6_run_14 (by decide) ?_
          refine lv_goto (tgt := 28) hx hb dX6_run_15 (by decide) ?_
          refine lv_istore_n (lv' := [(3, .int (0)), (2, .int (nI k)), (0, .ref (qa 0)), (1, .ref (ba 1))]) hx hb dX6_run_28 rfl hl (by decide) rfl (fun ls hl => ?_)
          refine lv_iconst (v := 0) hx hb dX6_run_29 (by decide) ?_
          refine top_i (y := nI 0) (nI_0.symm) ?_
          refine lv_istore (lv' := [(4, .int (nI 0)), (3, .int (0)), (2, .int (nI k)), (0, .ref (qa 0)), (1, .ref (ba 1))]) hx hb dX6_run_30 hl (by decide) rfl (fun ls hl => ?_)
          refine J32 42 0 0 H _ ls (⟨⟨Nat.zero_le _, hk1⟩, by omega⟩) hP hD hS (lv_sub hl [0, 1, 2, 3, 4] rfl) (fun H locs ls hP hD hS hl => ?_)
          refine lv_aload_n hx hb dX6_run_65 rfl (lv_at hl 3 rfl) ?_
          refine va_get (D := (dC, dI)) (ci := 2) (v := .ref (qa 6)) (C := RX6) (T := TX6) (N := 7) hx hb hts hinX6 hown hK hP 0 rfl rfl 6 (by decide) (hts (.fieldLink RX6 31 "SlotFiller$Outcome" "starts" "[I") (by decide +kernel)) (fun _ h9 => h9) rfl dX6_run_66 ?_
          refine lv_iload_n hx hb dX6_run_69 rfl (lv_at hl 2 rfl) ?_
          refine lv_iload_n hx hb dX6_run_70 rfl (lv_at hl 1 rfl) ?_
          refine my_iast (j := k) hx hb hK hP hD hS 3 0 rfl rfl (hk1) (by decide) dX6_run_71 (fun H locs hP hD hS => ?_)
          have hP : va_P (dC, dI) vwCl ([((qa 0), .inr (2, [.int (nI tg.1), .ref (qa 1), .ref (qa 2), .int (tg.2.1), .int (tg.2.2.1), .int (tg.2.2.2.1), .ref (qa 6)])), ((qa 1), .inl (cI, 41, .inl (tg.2.2.2.2 1))), ((qa 2), .inl (cI, 41, .inl (tg.2.2.2.2 2))), ((qa 6), .inl (cI, 41, .inl (upd (tg.2.2.2.2 6) (k) ((fX6_run_32 o n B BL tg k 42 0 0).2))))] ++ (wO cI cZ oa o ++ wB cI cJ cZ ba n B BL)) H := hP
          have hD : va_D A ([((qa 0), .inr (2, [.int (nI tg.1), .ref (qa 1), .ref (qa 2), .int (tg.2.1), .int (tg.2.2.1), .int (tg.2.2.2.1), .ref (qa 6)])), ((qa 1), .inl (cI, 41, .inl (tg.2.2.2.2 1))), ((qa 2), .inl (cI, 41, .inl (tg.2.2.2.2 2))), ((qa 6), .inl (cI, 41, .inl (upd (tg.2.2.2.2 6) (k) ((fX6_run_32 o n B BL tg k 42 0 0).2))))] ++ (wO cI cZ oa o ++ wB cI cJ cZ ba n B BL)) := hD
          refine lv_iinc (v := nI (k + 1)) (lv' := [(2, .int (nI (k + 1))), (4, .int (nI ((fX6_run_32 o n B BL tg k 42 0 0).1))), (3, .int ((fX6_run_32 o n B BL tg k 42 0 0).2)), (0, .ref (qa 0)), (1, .ref (ba 1))]) hx hb dX6_run_72 hl (k := 2) rfl (nI_1 k) (by decide) rfl (fun ls hl => ?_)
          refine lv_goto (tgt := 2) hx hb dX6_run_75 (by decide) ?_
          exact ih2 (k + 1) (tg.1, tg.2.1, tg.2.2.1, tg.2.2.2.1, (upB tg.2.2.2.2 6 (upd (tg.2.2.2.2 6) (k) ((fX6_run_32 o n B BL tg k 42 0 0).2)))) H _ ls (⟨⟨nI_geN (by omega) (by omega) c_2, ht41⟩, by omega, hq⟩) hP hD hS (lv_sub hl [0, 3, 4] rfl) ((show (fX6_run_2 o n B BL q2 (k + 1) (tg.1, tg.2.1, tg.2.2.1, tg.2.2.2.1, (upB tg.2.2.2.2 6 (upd (tg.2.2.2.2 6) (k) ((fX6_run_32 o n B BL tg k 42 0 0).2))))) = (fX6_run_2 o n B BL (q2 + 1) k tg) by rw [fX6_run_2, if_neg c_2, if_pos c_4]).trans hv)
  refine lv_iconst (v := 0) hx hb dX6_run_0 (by decide) ?_
  refine top_i (y := nI 0) (nI_0.symm) ?_
  refine lv_istore_n (lv' := [(2, .int (nI 0)), (0, .ref (qa 0)), (1, .ref (ba 1))]) hx hb dX6_run_1 rfl hl (by decide) rfl (fun ls hl => ?_)
  exact J2 42 0 sg s.heap _ ls (⟨⟨Nat.zero_le _, hs41⟩, by omega, hq0⟩) hP hD hS (lv_sub hl [0, 1, 2] rfl) ((show (fX6_run_2 o n B BL 42 0 sg) = (fX6_run o n B BL sg) by unfold fX6_run; rfl).trans hv)
def fX6_take_33 (o : OS) (n : Nat) (B : Nat → Nat → Int32) (BL : Nat → Nat → Int64) (z : Int32) : Nat → Nat → Int32 → QS → QS
  | 0, k, sp, tg => tg
  | q33 + 1, k, sp, tg => if nI o.1 ≤ nI k then if (fX0_endsInBranch n B BL) = 0 then (((fX6_run o n B BL tg).2).1, (fX6_run o n B BL tg).1, ((fX6_run o n B BL tg).2).2.2.1, ((fX6_run o n B BL tg).2).2.2.2.1, ((fX6_run o n B BL tg).2).2.2.2.2) else (((fX6_run o n B BL (fX6_fillSlot o n B BL sp (fX6_put o n B BL (nI (n - 1)) tg))).2).1, (fX6_run o n B BL (fX6_fillSlot o n B BL sp (fX6_put o n B BL (nI (n - 1)) tg))).1, ((fX6_run o n B BL (fX6_fillSlot o n B BL sp (fX6_put o n B BL (nI (n - 1)) tg))).2).2.2.1, ((fX6_run o n B BL (fX6_fillSlot o n B BL sp (fX6_put o n B BL (nI (n - 1)) tg))).2).2.2.2.1, ((fX6_run o n B BL (fX6_fillSlot o n B BL sp (fX6_put o n B BL (nI (n - 1)) tg))).2).2.2.2.2) else if ((o.2 1) (k)) = sp then (fX6_take_33 o n B BL z q33 (k + 1) sp tg) else (fX6_take_33 o n B BL z q33 (k + 1) sp (fX6_put o n B BL ((o.2 1) (k)) tg))
def fX6_take (o : OS) (n : Nat) (B : Nat → Nat → Int32) (BL : Nat → Nat → Int64) (z : Int32) (sg : QS) : QS := if z = 0 then (fX6_take_33 o n B BL z 41 0 (-1) (0, sg.2.1, 0, 0, sg.2.2.2.2)) else (fX6_take_33 o n B BL z 41 0 (fX6_spare o n B BL) (0, sg.2.1, 0, 0, sg.2.2.2.2))
set_option maxHeartbeats 4000000 in
set_option maxRecDepth 100000 in
theorem kX6_take (l : Launch) (dC : Nat → ClassId) (dI : Nat → Nat → Nat) (cI cJ cZ : ClassId) (qa oa ba : Nat → Nat) (o : OS) (n : Nat) (B : Nat → Nat → Int32) (BL : Nat → Nat → Int64) (sz : Nat) (z : Int32) (hp : ∀ q, q < 40 → vp_in (o.2 1 q) 40) (ho : o.1 ≤ 40) (hn : n ≤ 40) (hk : ∀ q, q < 40 → vp_in (B 3 q) 9)  (sg : QS) (hq0 : okQ sg.2.2.2.2) : Met l yX6_take wsX6_take ({ frames := 5, cells := 0, slots := 0, locals := 117 }) (md_Pc (dC, dI) (wQ cI qa sg ++ (wO cI cZ oa o ++ wB cI cJ cZ ba n B BL)) (tyA cI cJ cZ) [.ref (qa 0), .ref (ba 1), .ref (oa 0), .int (z)] sz) (md_Qv (dC, dI) (wQ cI qa (fX6_take o n B BL z sg) ++ (wO cI cZ oa o ++ wB cI cJ cZ ba n B BL)) (va_A (wQ cI qa sg ++ (wO cI cZ oa o ++ wB cI cJ cZ ba n B BL)) sz)) 0 0 (va_A (wQ cI qa sg ++ (wO cI cZ oa o ++ wB cI cJ cZ ba n B BL)) sz) := by
  refine Met.ofW (cc := cX6_take) (maxL := 6) (ret := none) (by decide) rfl ?_
  intro p e s m args below meth c s₁ B0 hml hv
  obtain ⟨rfl, hsz, hP, hK, hD0⟩ := hv
  have hx := B0.exec
  have hb := B0.bytes
  have hr := B0.returns
  have hts := atoms_spec (ws := wsX6_take) B0.pre
  have hown : s.vm.findClass RX6 = some m.cls := findClass_of_methodNamed B0.named
  have hlocks := B0.notSynchronized
  have hinX6 : ∀ w ∈ wsX60, w ∈ wsX6_take := fun w h => List.mem_cons_of_mem _ (List.mem_append_left _ (List.mem_append_left _ (List.mem_append_right _ (h))))
  have hinX5 : ∀ w ∈ wsX50, w ∈ wsX6_take := fun w h => List.mem_cons_of_mem _ (List.mem_append_left _ (List.mem_append_right _ (h)))
  have hinX0 : ∀ w ∈ wsX00, w ∈ wsX6_take := fun w h => List.mem_cons_of_mem _ (List.mem_append_right _ (h))
  subst hsz
  have hD := hD0.self (sz := s.heap.size)
  generalize hAe : va_A (wQ cI qa sg ++ (wO cI cZ oa o ++ wB cI cJ cZ ba n B BL)) s.heap.size = A at hD ⊢
  have hA : ∀ q : Nat, s.heap.size ≤ q → A q := fun q h => by rw [← hAe]; exact Or.inr h
  have hS : va_S A s.heap s.heap [] := va_S.rf
  have hl := lv_entry ([.ref (qa 0), .ref (ba 1), .ref (oa 0), .int (z)]) (n := 6) (Nat.le_of_ble_eq_true rfl)
  rw [lg_entry_eq]
  generalize (lg_sl ([.ref (qa 0), .ref (ba 1), .ref (oa 0), .int (z)]) ++ List.replicate (6 - (lg_sl ([.ref (qa 0), .ref (ba 1), .ref (oa 0), .int (z)])).length) Slot.unset).toArray = ls at hl ⊢
  have hl : lv_has ls 6 [(0, .ref (qa 0)), (1, .ref (ba 1)), (2, .ref (oa 0)), (3, .int (z))] := hl
  have hv : (fX6_take o n B BL z sg) = (fX6_take o n B BL z sg) := rfl
  have J33 : ∀ (q33 : Nat) (k : Nat) (sp : Int32) (tg : QS) (H : Heap) (locs : List Loc) (ls : Array Slot), ((k ≤ o.1 ∧ 41 ≤ k + q33) ∧ okI sp ∧ tg.1 ≤ 41 ∧ okQ tg.2.2.2.2) → va_P (dC, dI) vwCl (wQ cI qa tg ++ (wO cI cZ oa o ++ wB cI cJ cZ ba n B BL)) H → va_D A (wQ cI qa tg ++ (wO cI cZ oa o ++ wB cI cJ cZ ba n B BL)) → va_S A s.heap H locs → lv_has ls 6 [(5, .int (nI k)), (4, .int (sp)), (0, .ref (qa 0)), (1, .ref (ba 1)), (2, .ref (oa 0)), (3, .int (z))] → (fX6_take_33 o n B BL z q33 k sp tg) = (fX6_take o n B BL z sg) → W p l e (headSpec wsX6_take ({ frames := 5, cells := 0, slots := 0, locals := 117 })).room s m ([.ref (qa 0), .ref (ba 1), .ref (oa 0), .int (z)] : List Value).toArray below meth c H locs 0 0 (MQ below (md_Qv (dC, dI) (wQ cI qa (fX6_take o n B BL z sg) ++ (wO cI cZ oa o ++ wB cI cJ cZ ba n B BL)) (A)) ([.ref (qa 0), .ref (ba 1), .ref (oa 0), .int (z)] : List Value).toArray s 0 0 (A)) (F0 m 33 ls []) := by
    intro q33
    induction q33 with
    | zero => intro k sp tg H locs ls hm33 hP hD hS hl hv; exact absurd hm33 (fun h => absurd h.1 (by omega))
    | succ q33 ih33 =>
      intro k sp tg H locs ls hm33 hP hD hS hl hv
      have hko := hm33.1.1; have hkq := hm33.1.2; have hsp := hm33.2.1; have ht41 := hm33.2.2.1; have hq := hm33.2.2.2
      refine lv_iload hx hb dX6_take_33 (lv_at hl 0 rfl) ?_
      refine lv_aload_n hx hb dX6_take_35 rfl (lv_at hl 4 rfl) ?_
      refine va_get (D := (dC, dI)) (ci := 1) (v := .int (nI o.1)) (C := RX5) (T := TX5) (N := 5) hx hb hts hinX5 hown hK hP 4 rfl rfl 0 (by decide) (hts (.fieldLink RX6 38 "SlotFiller$Order" "size" "I") (by decide +kernel)) (fun _ h9 => h9) rfl dX6_take_36 ?_
      refine lv_icmp_ge (tgt := 72) hx hb dX6_take_39 (by decide) (fun c_1 => ?_) (fun c_1 => ?_)
      · refine lv_aload_n hx hb dX6_take_72 rfl (lv_at hl 3 rfl) ?_
        refine ro_calli (va_runV (As := []) (rest := []) ⟨hx, hb, hml, hown, hts⟩ (kX0_endsInBranch l dC dI cI cJ cZ ba n B BL H.size hn) (cwV 0 hts gX6_take_X0_endsInBranch rfl rfl rfl (by decide +kernel) ⟨Nat.le_of_ble_eq_true rfl, Nat.le_of_ble_eq_true rfl⟩) (ro_preV 0 0 (q := (RX0, TX0, 15)) rfl rfl (hP.sub [9, 10, 11, 12, 13, 14, 15, 16, 17, 18, 19, 20, 21, 22, 23] rfl) hK) rfl rfl hl.1 rfl (lv_room (Nat.le_of_ble_eq_true rfl)) dX6_take_73 ⟨Nat.zero_le _, Nat.zero_le _⟩) hS hA (fun H locs kP hS => ?_)
        have hP := kP _ _ _ hP
        refine lv_if_eq (tgt := 97) hx hb dX6_take_76 (by decide) (fun c_2 => ?_) (fun c_2 => ?_)
        · refine lv_aload_n hx hb dX6_take_97 rfl (lv_at hl 2 rfl) ?_
          refine lv_aload_n hx hb dX6_take_98 rfl (lv_at hl 2 rfl) ?_
          refine lv_aload_n hx hb dX6_take_99 rfl (lv_at hl 3 rfl) ?_
          refine md_calli (wr := []) (va_runV (As := [.ref (ba 1)]) (rest := [.ref (qa 0)]) ⟨hx, hb, hml, hown, hts⟩ (kX6_run l dC dI cI cJ cZ qa oa ba o n B BL H.size hn hk tg ht41 hq) (cwV 1 hts gX6_take_X6_run rfl rfl rfl (by decide +kernel) ⟨Nat.le_of_ble_eq_true rfl, Nat.le_of_ble_eq_true rfl⟩) (md_preV 0 2 (q := (RX6, TX6, 7)) rfl rfl hP hK hD) rfl rfl hl.1 rfl (lv_room (Nat.le_of_ble_eq_true rfl)) dX6_take_100 ⟨Nat.zero_le _, Nat.zero_le _⟩) hS hA hP hD [0, 1, 2, 3, 4, 5, 6, 7, 8, 9, 10, 11, 12, 13, 14, 15, 16, 17, 18, 19, 20, 21, 22, 23] [] rfl rfl (by decide) (by decide) (fun H locs hP hD hS => ?_)
          have hP : va_P (dC, dI) vwCl (wQ cI qa ((fX6_run o n B BL tg).2) ++ (wO cI cZ oa o ++ wB cI cJ cZ ba n B BL)) H := hP
          have hD : va_D A (wQ cI qa ((fX6_run o n B BL tg).2) ++ (wO cI cZ oa o ++ wB cI cJ cZ ba n B BL)) := hD
          refine va_put (D := (dC, dI)) (ci := 2) (v := .int ((fX6_run o n B BL tg).1)) (ty := .int) (C := RX6) (T := TX6) (N := 7) hx hb hts hinX6 tyX6 tyX6_ok nmX6 hown hK hP hD hS 0 rfl rfl 3 (by decide) (hts (.fieldLink RX6 22 "SlotFiller$Outcome" "duration" "I") (by decide +kernel)) (fun _ h9 => h9) rfl (by decide +kernel) rfl rfl (Nat.le_of_ble_eq_true rfl) dX6_take_103 (fun H locs hP hD hS => ?_)
          have hP : va_P (dC, dI) vwCl ([((qa 0), .inr (2, [.int (nI (((fX6_run o n B BL tg).2).1)), .ref (qa 1), .ref (qa 2), .int ((fX6_run o n B BL tg).1), .int (((fX6_run o n B BL tg).2).2.2.1), .int (((fX6_run o n B BL tg).2).2.2.2.1), .ref (qa 6)])), ((qa 1), .inl (cI, 41, .inl ((((fX6_run o n B BL tg).2).2.2.2.2) 1))), ((qa 2), .inl (cI, 41, .inl ((((fX6_run o n B BL tg).2).2.2.2.2) 2))), ((qa 6), .inl (cI, 41, .inl ((((fX6_run o n B BL tg).2).2.2.2.2) 6)))] ++ (wO cI cZ oa o ++ wB cI cJ cZ ba n B BL)) H := hP
          have hD : va_D A ([((qa 0), .inr (2, [.int (nI (((fX6_run o n B BL tg).2).1)), .ref (qa 1), .ref (qa 2), .int ((fX6_run o n B BL tg).1), .int (((fX6_run o n B BL tg).2).2.2.1), .int (((fX6_run o n B BL tg).2).2.2.2.1), .ref (qa 6)])), ((qa 1), .inl (cI, 41, .inl ((((fX6_run o n B BL tg).2).2.2.2.2) 1))), ((qa 2), .inl (cI, 41, .inl ((((fX6_run o n B BL tg).2).2.2.2.2) 2))), ((qa 6), .inl (cI, 41, .inl ((((fX6_run o n B BL tg).2).2.2.2.2) 6)))] ++ (wO cI cZ oa o ++ wB cI cJ cZ ba n B BL)) := hD
          have e9 : (((fX6_run o n B BL tg).2).1, (fX6_run o n B BL tg).1, ((fX6_run o n B BL tg).2).2.2.1, ((fX6_run o n B BL tg).2).2.2.2.1, ((fX6_run o n B BL tg).2).2.2.2.2) = (fX6_take o n B BL z sg) := ((show (((fX6_run o n B BL tg).2).1, (fX6_run o n B BL tg).1, ((fX6_run o n B BL tg).2).2.2.1, ((fX6_run o n B BL tg).2).2.2.2.1, ((fX6_run o n B BL tg).2).2.2.2.2) = (fX6_take_33 o n B BL z (q33 + 1) k sp tg) by rw [fX6_take_33, if_pos c_1, if_pos c_2]).trans hv)
          have hP : va_P (dC, dI) vwCl (wQ cI qa (fX6_take o n B BL z sg) ++ (wO cI cZ oa o ++ wB cI cJ cZ ba n B BL)) H := by rw [← e9]; exact hP
          have hD : va_D A (wQ cI qa (fX6_take o n B BL z sg) ++ (wO cI cZ oa o ++ wB cI cJ cZ ba n B BL)) := by rw [← e9]; exact hD
          exact W.vret hx hb hr (fun t ht hW => ⟨⟨(), rfl, trivial, by rw [ht]; exact hP, hD⟩, hS.F ht⟩) hS.2.2 dX6_take_106
        · have hn0 := ends_pos c_2; have hnm : okI (nI (n - 1)) := Or.inr (vp_in_nI (by omega) (by decide))
          refine lv_aload_n hx hb dX6_take_79 rfl (lv_at hl 2 rfl) ?_
          refine lv_aload_n hx hb dX6_take_80 rfl (lv_at hl 3 rfl) ?_
          refine lv_aload_n hx hb dX6_take_81 rfl (lv_at hl 3 rfl) ?_
          refine va_get (D := (dC, dI)) (ci := 0) (v := .int (nI n)) (C := RX0) (T := TX0) (N := 15) hx hb hts hinX0 hown hK hP 9 rfl rfl 1 (by decide) (hts (.fieldLink RX6 54 "SlotFiller$Block" "size" "I") (by decide +kernel)) (fun _ h9 => h9) rfl dX6_take_82 ?_
          refine lv_iconst (v := 1) hx hb dX6_take_85 (by decide) ?_
          refine lv_isub hx hb dX6_take_86 ?_
          refine top_i (y := nI (n - 1)) (nI_sub1 hn0) ?_
          refine md_callv (wr := []) (va_runV (As := [.ref (ba 1), .int (nI (n - 1))]) (rest := []) ⟨hx, hb, hml, hown, hts⟩ (kX6_put l dC dI cI cJ cZ qa oa ba o n B BL H.size (nI (n - 1)) hnm tg ht41) (cwV 2 hts gX6_take_X6_put rfl rfl rfl (by decide +kernel) ⟨Nat.le_of_ble_eq_true rfl, Nat.le_of_ble_eq_true rfl⟩) (md_preV 0 2 (q := (RX6, TX6, 7)) rfl rfl hP hK hD) rfl rfl hl.1 rfl (lv_room (Nat.le_of_ble_eq_true rfl)) dX6_take_87 ⟨Nat.zero_le _, Nat.zero_le _⟩) hS hA hP hD [0, 1, 2, 3, 4, 5, 6, 7, 8, 9, 10, 11, 12, 13, 14, 15, 16, 17, 18, 19, 20, 21, 22, 23] [] rfl rfl (by decide) (by decide) (fun H locs hP hD hS => ?_)
          have hP : va_P (dC, dI) vwCl (wQ cI qa (fX6_put o n B BL (nI (n - 1)) tg) ++ (wO cI cZ oa o ++ wB cI cJ cZ ba n B BL)) H := hP
          have hD : va_D A (wQ cI qa (fX6_put o n B BL (nI (n - 1)) tg) ++ (wO cI cZ oa o ++ wB cI cJ cZ ba n B BL)) := hD
          refine lv_aload_n hx hb dX6_take_90 rfl (lv_at hl 2 rfl) ?_
          refine lv_aload_n hx hb dX6_take_91 rfl (lv_at hl 3 rfl) ?_
          refine lv_iload hx hb dX6_take_92 (lv_at hl 1 rfl) ?_
          refine md_callv (wr := []) (va_runV (As := [.ref (ba 1), .int (sp)]) (rest := []) ⟨hx, hb, hml, hown, hts⟩ (kX6_fillSlot l dC dI cI cJ cZ qa oa ba o n B BL H.size sp hsp (fX6_put o n B BL (nI (n - 1)) tg) (put_sz o n B BL _ _ ht41)) (cwV 2 hts gX6_take_X6_fillSlot rfl rfl rfl (by decide +kernel) ⟨Nat.le_of_ble_eq_true rfl, Nat.le_of_ble_eq_true rfl⟩) (md_preV 0 2 (q := (RX6, TX6, 7)) rfl rfl hP hK hD) rfl rfl hl.1 rfl (lv_room (Nat.le_of_ble_eq_true rfl)) dX6_take_94 ⟨Nat.zero_le _, Nat.zero_le _⟩) hS hA hP hD [0, 1, 2, 3, 4, 5, 6, 7, 8, 9, 10, 11, 12, 13, 14, 15, 16, 17, 18, 19, 20, 21, 22, 23] [] rfl rfl (by decide) (by decide) (fun H locs hP hD hS => ?_)
          have hP : va_P (dC, dI) vwCl (wQ cI qa (fX6_fillSlot o n B BL sp (fX6_put o n B BL (nI (n - 1)) tg)) ++ (wO cI cZ oa o ++ wB cI cJ cZ ba n B BL)) H := hP
          have hD : va_D A (wQ cI qa (fX6_fillSlot o n B BL sp (fX6_put o n B BL (nI (n - 1)) tg)) ++ (wO cI cZ oa o ++ wB cI cJ cZ ba n B BL)) := hD
          refine lv_aload_n hx hb dX6_take_97 rfl (lv_at hl 2 rfl) ?_
          refine lv_aload_n hx hb dX6_take_98 rfl (lv_at hl 2 rfl) ?_
          refine lv_aload_n hx hb dX6_take_99 rfl (lv_at hl 3 rfl) ?_
          refine md_calli (wr := []) (va_runV (As := [.ref (ba 1)]) (rest := [.ref (qa 0)]) ⟨hx, hb, hml, hown, hts⟩ (kX6_run l dC dI cI cJ cZ qa oa ba o n B BL H.size hn hk (fX6_fillSlot o n B BL sp (fX6_put o n B BL (nI (n - 1)) tg)) (fill_sz o n B BL _ _ (put_sz o n B BL _ _ ht41)) (fill_ok o n B BL _ hsp _ (put_ok o n B BL _ hnm _ hq))) (cwV 1 hts gX6_take_X6_run rfl rfl rfl (by decide +kernel) ⟨Nat.le_of_ble_eq_true rfl, Nat.le_of_ble_eq_true rfl⟩) (md_preV 0 2 (q := (RX6, TX6, 7)) rfl rfl hP hK hD) rfl rfl hl.1 rfl (lv_room (Nat.le_of_ble_eq_true rfl)) dX6_take_100 ⟨Nat.zero_le _, Nat.zero_le _⟩) hS hA hP hD [0, 1, 2, 3, 4, 5, 6, 7, 8, 9, 10, 11, 12, 13, 14, 15, 16, 17, 18, 19, 20, 21, 22, 23] [] rfl rfl (by decide) (by decide) (fun H locs hP hD hS => ?_)
          have hP : va_P (dC, dI) vwCl (wQ cI qa ((fX6_run o n B BL (fX6_fillSlot o n B BL sp (fX6_put o n B BL (nI (n - 1)) tg))).2) ++ (wO cI cZ oa o ++ wB cI cJ cZ ba n B BL)) H := hP
          have hD : va_D A (wQ cI qa ((fX6_run o n B BL (fX6_fillSlot o n B BL sp (fX6_put o n B BL (nI (n - 1)) tg))).2) ++ (wO cI cZ oa o ++ wB cI cJ cZ ba n B BL)) := hD
          refine va_put (D := (dC, dI)) (ci := 2) (v := .int ((fX6_run o n B BL (fX6_fillSlot o n B BL sp (fX6_put o n B BL (nI (n - 1)) tg))).1)) (ty := .int) (C := RX6) (T := TX6) (N := 7) hx hb hts hinX6 tyX6 tyX6_ok nmX6 hown hK hP hD hS 0 rfl rfl 3 (by decide) (hts (.fieldLink RX6 22 "SlotFiller$Outcome" "duration" "I") (by decide +kernel)) (fun _ h9 => h9) rfl (by decide +kernel) rfl rfl (Nat.le_of_ble_eq_true rfl) dX6_take_103 (fun H locs hP hD hS => ?_)
          have hP : va_P (dC, dI) vwCl ([((qa 0), .inr (2, [.int (nI (((fX6_run o n B BL (fX6_fillSlot o n B BL sp (fX6_put o n B BL (nI (n - 1)) tg))).2).1)), .ref (qa 1), .ref (qa 2), .int ((fX6_run o n B BL (fX6_fillSlot o n B BL sp (fX6_put o n B BL (nI (n - 1)) tg))).1), .int (((fX6_run o n B BL (fX6_fillSlot o n B BL sp (fX6_put o n B BL (nI (n - 1)) tg))).2).2.2.1), .int (((fX6_run o n B BL (fX6_fillSlot o n B BL sp (fX6_put o n B BL (nI (n - 1)) tg))).2).2.2.2.1), .ref (qa 6)])), ((qa 1), .inl (cI, 41, .inl ((((fX6_run o n B BL (fX6_fillSlot o n B BL sp (fX6_put o n B BL (nI (n - 1)) tg))).2).2.2.2.2) 1))), ((qa 2), .inl (cI, 41, .inl ((((fX6_run o n B BL (fX6_fillSlot o n B BL sp (fX6_put o n B BL (nI (n - 1)) tg))).2).2.2.2.2) 2))), ((qa 6), .inl (cI, 41, .inl ((((fX6_run o n B BL (fX6_fillSlot o n B BL sp (fX6_put o n B BL (nI (n - 1)) tg))).2).2.2.2.2) 6)))] ++ (wO cI cZ oa o ++ wB cI cJ cZ ba n B BL)) H := hP
          have hD : va_D A ([((qa 0), .inr (2, [.int (nI (((fX6_run o n B BL (fX6_fillSlot o n B BL sp (fX6_put o n B BL (nI (n - 1)) tg))).2).1)), .ref (qa 1), .ref (qa 2), .int ((fX6_run o n B BL (fX6_fillSlot o n B BL sp (fX6_put o n B BL (nI (n - 1)) tg))).1), .int (((fX6_run o n B BL (fX6_fillSlot o n B BL sp (fX6_put o n B BL (nI (n - 1)) tg))).2).2.2.1), .int (((fX6_run o n B BL (fX6_fillSlot o n B BL sp (fX6_put o n B BL (nI (n - 1)) tg))).2).2.2.2.1), .ref (qa 6)])), ((qa 1), .inl (cI, 41, .inl ((((fX6_run o n B BL (fX6_fillSlot o n B BL sp (fX6_put o n B BL (nI (n - 1)) tg))).2).2.2.2.2) 1))), ((qa 2), .inl (cI, 41, .inl ((((fX6_run o n B BL (fX6_fillSlot o n B BL sp (fX6_put o n B BL (nI (n - 1)) tg))).2).2.2.2.2) 2))), ((qa 6), .inl (cI, 41, .inl ((((fX6_run o n B BL (fX6_fillSlot o n B BL sp (fX6_put o n B BL (nI (n - 1)) tg))).2).2.2.2.2) 6)))] ++ (wO cI cZ oa o ++ wB cI cJ cZ ba n B BL)) := hD
          have e9 : (((fX6_run o n B BL (fX6_fillSlot o n B BL sp (fX6_put o n B BL (nI (n - 1)) tg))).2).1, (fX6_run o n B BL (fX6_fillSlot o n B BL sp (fX6_put o n B BL (nI (n - 1)) tg))).1, ((fX6_run o n B BL (fX6_fillSlot o n B BL sp (fX6_put o n B BL (nI (n - 1)) tg))).2).2.2.1, ((fX6_run o n B BL (fX6_fillSlot o n B BL sp (fX6_put o n B BL (nI (n - 1)) tg))).2).2.2.2.1, ((fX6_run o n B BL (fX6_fillSlot o n B BL sp (fX6_put o n B BL (nI (n - 1)) tg))).2).2.2.2.2) = (fX6_take o n B BL z sg) := ((show (((fX6_run o n B BL (fX6_fillSlot o n B BL sp (fX6_put o n B BL (nI (n - 1)) tg))).2).1, (fX6_run o n B BL (fX6_fillSlot o n B BL sp (fX6_put o n B BL (nI (n - 1)) tg))).1, ((fX6_run o n B BL (fX6_fillSlot o n B BL sp (fX6_put o n B BL (nI (n - 1)) tg))).2).2.2.1, ((fX6_run o n B BL (fX6_fillSlot o n B BL sp (fX6_put o n B BL (nI (n - 1)) tg))).2).2.2.2.1, ((fX6_run o n B BL (fX6_fillSlot o n B BL sp (fX6_put o n B BL (nI (n - 1)) tg))).2).2.2.2.2) = (fX6_take_33 o n B BL z (q33 + 1) k sp tg) by rw [fX6_take_33, if_pos c_1, if_neg c_2]).trans hv)
          have hP : va_P (dC, dI) vwCl (wQ cI qa (fX6_take o n B BL z sg) ++ (wO cI cZ oa o ++ wB cI cJ cZ ba n B BL)) H := by rw [← e9]; exact hP
          have hD : va_D A (wQ cI qa (fX6_take o n B BL z sg) ++ (wO cI cZ oa o ++ wB cI cJ cZ ba n B BL)) := by rw [← e9]; exact hD
          exact W.vret hx hb hr (fun t ht hW => ⟨⟨(), rfl, trivial, by rw [ht]; exact hP, hD⟩, hS.F ht⟩) hS.2.2 dX6_take_106
      · have hk40 : k < 40 := Nat.lt_of_lt_of_le (nI_geN (by omega) (by omega) c_1) ho
        refine lv_aload_n hx hb dX6_take_42 rfl (lv_at hl 4 rfl) ?_
        refine va_get (D := (dC, dI)) (ci := 1) (v := .ref (oa 1)) (C := RX5) (T := TX5) (N := 5) hx hb hts hinX5 hown hK hP 4 rfl rfl 1 (by decide) (hts (.fieldLink RX6 41 "SlotFiller$Order" "places" "[I") (by decide +kernel)) (fun _ h9 => h9) rfl dX6_take_43 ?_
        refine lv_iload hx hb dX6_take_46 (lv_at hl 0 rfl) ?_
        refine my_iald (j := k) hx hb hK hP 5 0 rfl rfl (hk40) (by decide) dX6_take_48 ?_
        refine lv_iload hx hb dX6_take_49 (lv_at hl 1 rfl) ?_
        refine lv_icmp_eq (tgt := 66) hx hb dX6_take_51 (by decide) (fun c_3 => ?_) (fun c_3 => ?_)
        · refine lv_iinc (v := nI (k + 1)) (lv' := [(5, .int (nI (k + 1))), (4, .int (sp)), (0, .ref (qa 0)), (1, .ref (ba 1)), (2, .ref (oa 0)), (3, .int (z))]) hx hb dX6_take_66 hl (k := 0) rfl (nI_1 k) (by decide) rfl (fun ls hl => ?_)
          refine lv_goto (tgt := 33) hx hb dX6_take_69 (by decide) ?_
          exact ih33 (k + 1) sp tg H _ ls (⟨⟨nI_geN (by omega) (by omega) c_1, by omega⟩, hsp, ht41, hq⟩) hP hD hS (lv_sub hl [0, 1, 2, 3, 4, 5] rfl) ((show (fX6_take_33 o n B BL z q33 (k + 1) sp tg) = (fX6_take_33 o n B BL z (q33 + 1) k sp tg) by rw [fX6_take_33, if_neg c_1, if_pos c_3]).trans hv)
        · refine lv_aload_n hx hb dX6_take_54 rfl (lv_at hl 2 rfl) ?_
          refine lv_aload_n hx hb dX6_take_55 rfl (lv_at hl 3 rfl) ?_
          refine lv_aload_n hx hb dX6_take_56 rfl (lv_at hl 4 rfl) ?_
          refine va_get (D := (dC, dI)) (ci := 1) (v := .ref (oa 1)) (C := RX5) (T := TX5) (N := 5) hx hb hts hinX5 hown hK hP 4 rfl rfl 1 (by decide) (hts (.fieldLink RX6 41 "SlotFiller$Order" "places" "[I") (by decide +kernel)) (fun _ h9 => h9) rfl dX6_take_57 ?_
          refine lv_iload hx hb dX6_take_60 (lv_at hl 0 rfl) ?_
          refine my_iald (j := k) hx hb hK hP 5 0 rfl rfl (hk40) (by decide) dX6_take_62 ?_
          refine md_callv (wr := []) (va_runV (As := [.ref (ba 1), .int (((o.2 1) (k)))]) (rest := []) ⟨hx, hb, hml, hown, hts⟩ (kX6_put l dC dI cI cJ cZ qa oa ba o n B BL H.size ((o.2 1) (k)) (Or.inr (hp k hk40)) tg ht41) (cwV 2 hts gX6_take_X6_put rfl rfl rfl (by decide +kernel) ⟨Nat.le_of_ble_eq_true rfl, Nat.le_of_ble_eq_true rfl⟩) (md_preV 0 2 (q := (RX6, TX6, 7)) rfl rfl hP hK hD) rfl rfl hl.1 rfl (lv_room (Nat.le_of_ble_eq_true rfl)) dX6_take_63 ⟨Nat.zero_le _, Nat.zero_le _⟩) hS hA hP hD [0, 1, 2, 3, 4, 5, 6, 7, 8, 9, 10, 11, 12, 13, 14, 15, 16, 17, 18, 19, 20, 21, 22, 23] [] rfl rfl (by decide) (by decide) (fun H locs hP hD hS => ?_)
          have hP : va_P (dC, dI) vwCl (wQ cI qa (fX6_put o n B BL ((o.2 1) (k)) tg) ++ (wO cI cZ oa o ++ wB cI cJ cZ ba n B BL)) H := hP
          have hD : va_D A (wQ cI qa (fX6_put o n B BL ((o.2 1) (k)) tg) ++ (wO cI cZ oa o ++ wB cI cJ cZ ba n B BL)) := hD
          refine lv_iinc (v := nI (k + 1)) (lv' := [(5, .int (nI (k + 1))), (4, .int (sp)), (0, .ref (qa 0)), (1, .ref (ba 1)), (2, .ref (oa 0)), (3, .int (z))]) hx hb dX6_take_66 hl (k := 0) rfl (nI_1 k) (by decide) rfl (fun ls hl => ?_)
          refine lv_goto (tgt := 33) hx hb dX6_take_69 (by decide) ?_
          exact ih33 (k + 1) sp (fX6_put o n B BL ((o.2 1) (k)) tg) H _ ls (⟨⟨nI_geN (by omega) (by omega) c_1, by omega⟩, hsp, (put_sz o n B BL _ _ ht41), (put_ok o n B BL _ (Or.inr (hp k hk40)) _ hq)⟩) hP hD hS (lv_sub hl [0, 1, 2, 3, 4, 5] rfl) ((show (fX6_take_33 o n B BL z q33 (k + 1) sp (fX6_put o n B BL ((o.2 1) (k)) tg)) = (fX6_take_33 o n B BL z (q33 + 1) k sp tg) by rw [fX6_take_33, if_neg c_1, if_neg c_3]).trans hv)
  refine lv_aload_n hx hb dX6_take_0 rfl (lv_at hl 0 rfl) ?_
  refine lv_iconst (v := 0) hx hb dX6_take_1 (by decide) ?_
  refine top_i (y := nI 0) (nI_0.symm) ?_
  refine va_put (D := (dC, dI)) (ci := 2) (v := .int (nI 0)) (ty := .int) (C := RX6) (T := TX6) (N := 7) hx hb hts hinX6 tyX6 tyX6_ok nmX6 hown hK hP hD hS 0 rfl rfl 0 (by decide) (hts (.fieldLink RX6 9 "SlotFiller$Outcome" "size" "I") (by decide +kernel)) (fun _ h9 => h9) rfl (by decide +kernel) rfl rfl (Nat.le_of_ble_eq_true rfl) dX6_take_2 (fun H locs hP hD hS => ?_)
  have hP : va_P (dC, dI) vwCl ([((qa 0), .inr (2, [.int (nI 0), .ref (qa 1), .ref (qa 2), .int (sg.2.1), .int (sg.2.2.1), .int (sg.2.2.2.1), .ref (qa 6)])), ((qa 1), .inl (cI, 41, .inl (sg.2.2.2.2 1))), ((qa 2), .inl (cI, 41, .inl (sg.2.2.2.2 2))), ((qa 6), .inl (cI, 41, .inl (sg.2.2.2.2 6)))] ++ (wO cI cZ oa o ++ wB cI cJ cZ ba n B BL)) H := hP
  have hD : va_D A ([((qa 0), .inr (2, [.int (nI 0), .ref (qa 1), .ref (qa 2), .int (sg.2.1), .int (sg.2.2.1), .int (sg.2.2.2.1), .ref (qa 6)])), ((qa 1), .inl (cI, 41, .inl (sg.2.2.2.2 1))), ((qa 2), .inl (cI, 41, .inl (sg.2.2.2.2 2))), ((qa 6), .inl (cI, 41, .inl (sg.2.2.2.2 6)))] ++ (wO cI cZ oa o ++ wB cI cJ cZ ba n B BL)) := hD
  refine lv_aload_n hx hb dX6_take_5 rfl (lv_at hl 0 rfl) ?_
  refine lv_iconst (v := 0) hx hb dX6_take_6 (by decide) ?_
  refine va_put (D := (dC, dI)) (ci := 2) (v := .int (0)) (ty := .int) (C := RX6) (T := TX6) (N := 7) hx hb hts hinX6 tyX6 tyX6_ok nmX6 hown hK hP hD hS 0 rfl rfl 4 (by decide) (hts (.fieldLink RX6 25 "SlotFiller$Outcome" "ownNops" "I") (by decide +kernel)) (fun _ h9 => h9) rfl (by decide +kernel) rfl rfl (Nat.le_of_ble_eq_true rfl) dX6_take_7 (fun H locs hP hD hS => ?_)
  have hP : va_P (dC, dI) vwCl ([((qa 0), .inr (2, [.int (nI 0), .ref (qa 1), .ref (qa 2), .int (sg.2.1), .int (0), .int (sg.2.2.2.1), .ref (qa 6)])), ((qa 1), .inl (cI, 41, .inl (sg.2.2.2.2 1))), ((qa 2), .inl (cI, 41, .inl (sg.2.2.2.2 2))), ((qa 6), .inl (cI, 41, .inl (sg.2.2.2.2 6)))] ++ (wO cI cZ oa o ++ wB cI cJ cZ ba n B BL)) H := hP
  have hD : va_D A ([((qa 0), .inr (2, [.int (nI 0), .ref (qa 1), .ref (qa 2), .int (sg.2.1), .int (0), .int (sg.2.2.2.1), .ref (qa 6)])), ((qa 1), .inl (cI, 41, .inl (sg.2.2.2.2 1))), ((qa 2), .inl (cI, 41, .inl (sg.2.2.2.2 2))), ((qa 6), .inl (cI, 41, .inl (sg.2.2.2.2 6)))] ++ (wO cI cZ oa o ++ wB cI cJ cZ ba n B BL)) := hD
  refine lv_aload_n hx hb dX6_take_10 rfl (lv_at hl 0 rfl) ?_
  refine lv_iconst (v := 0) hx hb dX6_take_11 (by decide) ?_
  refine va_put (D := (dC, dI)) (ci := 2) (v := .int (0)) (ty := .int) (C := RX6) (T := TX6) (N := 7) hx hb hts hinX6 tyX6 tyX6_ok nmX6 hown hK hP hD hS 0 rfl rfl 5 (by decide) (hts (.fieldLink RX6 28 "SlotFiller$Outcome" "filled" "I") (by decide +kernel)) (fun _ h9 => h9) rfl (by decide +kernel) rfl rfl (Nat.le_of_ble_eq_true rfl) dX6_take_12 (fun H locs hP hD hS => ?_)
  have hP : va_P (dC, dI) vwCl ([((qa 0), .inr (2, [.int (nI 0), .ref (qa 1), .ref (qa 2), .int (sg.2.1), .int (0), .int (0), .ref (qa 6)])), ((qa 1), .inl (cI, 41, .inl (sg.2.2.2.2 1))), ((qa 2), .inl (cI, 41, .inl (sg.2.2.2.2 2))), ((qa 6), .inl (cI, 41, .inl (sg.2.2.2.2 6)))] ++ (wO cI cZ oa o ++ wB cI cJ cZ ba n B BL)) H := hP
  have hD : va_D A ([((qa 0), .inr (2, [.int (nI 0), .ref (qa 1), .ref (qa 2), .int (sg.2.1), .int (0), .int (0), .ref (qa 6)])), ((qa 1), .inl (cI, 41, .inl (sg.2.2.2.2 1))), ((qa 2), .inl (cI, 41, .inl (sg.2.2.2.2 2))), ((qa 6), .inl (cI, 41, .inl (sg.2.2.2.2 6)))] ++ (wO cI cZ oa o ++ wB cI cJ cZ ba n B BL)) := hD
  refine lv_iload_n hx hb dX6_take_15 rfl (lv_at hl 3 rfl) ?_
  refine lv_if_eq (tgt := 27) hx hb dX6_take_16 (by decide) (fun c_4 => ?_) (fun c_4 => ?_)
  · refine lv_iconst (v := (-1)) hx hb dX6_take_27 (by decide) ?_
    refine lv_istore (lv' := [(4, .int ((-1))), (0, .ref (qa 0)), (1, .ref (ba 1)), (2, .ref (oa 0)), (3, .int (z))]) hx hb dX6_take_28 hl (by decide) rfl (fun ls hl => ?_)
    refine lv_iconst (v := 0) hx hb dX6_take_30 (by decide) ?_
    refine top_i (y := nI 0) (nI_0.symm) ?_
    refine lv_istore (lv' := [(5, .int (nI 0)), (4, .int ((-1))), (0, .ref (qa 0)), (1, .ref (ba 1)), (2, .ref (oa 0)), (3, .int (z))]) hx hb dX6_take_31 hl (by decide) rfl (fun ls hl => ?_)
    exact J33 41 0 (-1) (0, sg.2.1, 0, 0, sg.2.2.2.2) H _ ls (⟨⟨Nat.zero_le _, by omega⟩, Or.inl rfl, Nat.zero_le _, hq0⟩) hP hD hS (lv_sub hl [0, 1, 2, 3, 4, 5] rfl) ((show (fX6_take_33 o n B BL z 41 0 (-1) (0, sg.2.1, 0, 0, sg.2.2.2.2)) = (fX6_take o n B BL z sg) by unfold fX6_take; rw [if_pos c_4]).trans hv)
  · refine lv_aload_n hx hb dX6_take_19 rfl (lv_at hl 1 rfl) ?_
    refine lv_aload_n hx hb dX6_take_20 rfl (lv_at hl 2 rfl) ?_
    refine ro_calli (va_runS (As := [.ref (ba 1), .ref (oa 0)]) (rest := []) ⟨hx, hb, hml, hown, hts⟩ (kX6_spare l dC dI cI cJ cZ oa ba o n B BL H.size hp ho hn hk) (va_cwS 2 hts gX6_take_X6_spare rfl rfl rfl (by decide +kernel) ⟨Nat.le_of_ble_eq_true rfl, Nat.le_of_ble_eq_true rfl⟩) (ro_preS (hP.sub [4, 5, 6, 7, 8, 9, 10, 11, 12, 13, 14, 15, 16, 17, 18, 19, 20, 21, 22, 23] rfl) hK) rfl rfl hl.1 rfl (lv_room (Nat.le_of_ble_eq_true rfl)) dX6_take_21 ⟨Nat.zero_le _, Nat.zero_le _⟩) hS hA (fun H locs kP hS => ?_)
    have hP := kP _ _ _ hP
    refine lv_goto (tgt := 28) hx hb dX6_take_24 (by decide) ?_
    refine lv_istore (lv' := [(4, .int ((fX6_spare o n B BL))), (0, .ref (qa 0)), (1, .ref (ba 1)), (2, .ref (oa 0)), (3, .int (z))]) hx hb dX6_take_28 hl (by decide) rfl (fun ls hl => ?_)
    refine lv_iconst (v := 0) hx hb dX6_take_30 (by decide) ?_
    refine top_i (y := nI 0) (nI_0.symm) ?_
    refine lv_istore (lv' := [(5, .int (nI 0)), (4, .int ((fX6_spare o n B BL))), (0, .ref (qa 0)), (1, .ref (ba 1)), (2, .ref (oa 0)), (3, .int (z))]) hx hb dX6_take_31 hl (by decide) rfl (fun ls hl => ?_)
    exact J33 41 0 (fX6_spare o n B BL) (0, sg.2.1, 0, 0, sg.2.2.2.2) H _ ls (⟨⟨Nat.zero_le _, by omega⟩, spare_ok o n B BL hp ho, Nat.zero_le _, hq0⟩) hP hD hS (lv_sub hl [0, 1, 2, 3, 4, 5] rfl) ((show (fX6_take_33 o n B BL z 41 0 (fX6_spare o n B BL) (0, sg.2.1, 0, 0, sg.2.2.2.2)) = (fX6_take o n B BL z sg) by unfold fX6_take; rw [if_neg c_4]).trans hv)
