def fX0_survey_17 (tg : BS) (k : Nat) : Nat → Nat → Int32 → Nat × Int32
  | 0, j, v => (j, v)
  | q17 + 1, j, v => if nI tg.1 ≤ nI j then (j, v) else if (fX0_distance tg.1 tg.2.1 tg.2.2 j (k - 1)) ≤ 0 then (fX0_survey_17 tg k q17 (j + 1) v) else (fX0_survey_17 tg k q17 (j + 1) (mx v (((tg.2.1 13) (j)) + (fX0_distance tg.1 tg.2.1 tg.2.2 j (k - 1)))))
def fX0_survey_7  : Nat → Nat → BS → BS
  | 0, k, tg => tg
  | q7 + 1, k, tg => if dn k < 0 then tg else if (fX0_survey_17 tg k 41 k 0).2 ≤ 0 then if ((upd (tg.2.1 14) (k - 1) (0)) (k - 1)) = 0 then (fX0_survey_7 q7 (k - 1) (tg.1, (upB (upB tg.2.1 13 (upd (tg.2.1 13) (k - 1) ((fX0_latencyOf tg.1 (upB tg.2.1 14 (upd (tg.2.1 14) (k - 1) (0))) tg.2.2 (k - 1))))) 14 (upd (tg.2.1 14) (k - 1) (0))), tg.2.2)) else (fX0_survey_7 q7 (k - 1) (tg.1, (upB (upB tg.2.1 13 (upd (tg.2.1 13) (k - 1) ((fX0_survey_17 tg k 41 k 0).2))) 14 (upd (tg.2.1 14) (k - 1) (0))), tg.2.2)) else if ((upd (tg.2.1 14) (k - 1) (1)) (k - 1)) = 0 then (fX0_survey_7 q7 (k - 1) (tg.1, (upB (upB tg.2.1 13 (upd (tg.2.1 13) (k - 1) ((fX0_latencyOf tg.1 (upB tg.2.1 14 (upd (tg.2.1 14) (k - 1) (1))) tg.2.2 (k - 1))))) 14 (upd (tg.2.1 14) (k - 1) (1))), tg.2.2)) else (fX0_survey_7 q7 (k - 1) (tg.1, (upB (upB tg.2.1 13 (upd (tg.2.1 13) (k - 1) ((fX0_survey_17 tg k 41 k 0).2))) 14 (upd (tg.2.1 14) (k - 1) (1))), tg.2.2))
def fX0_survey  (sg : BS) : BS := (fX0_survey_7 (sg.1 + 1) sg.1 sg)
set_option maxHeartbeats 4000000 in
set_option maxRecDepth 100000 in
theorem kX0_survey (l : Launch) (dC : Nat → ClassId) (dI : Nat → Nat → Nat) (cI cJ cZ : ClassId) (ba : Nat → Nat) (sz : Nat)  (sg : BS) (hn : sg.1 ≤ 40) (hk : ∀ q, q < 40 → vp_in (sg.2.1 3 q) 9) : Met l yX0_survey wsX0_survey ({ frames := 3, cells := 0, slots := 0, locals := 70 }) (md_Pc (dC, dI) (wB cI cJ cZ ba sg.1 sg.2.1 sg.2.2) (tyA cI cJ cZ) [.ref (ba 1)] sz) (md_Qv (dC, dI) (wB cI cJ cZ ba ((fX0_survey  sg).1) ((fX0_survey  sg).2.1) ((fX0_survey  sg).2.2)) (va_A (wB cI cJ cZ ba sg.1 sg.2.1 sg.2.2) sz)) 0 0 (va_A (wB cI cJ cZ ba sg.1 sg.2.1 sg.2.2) sz) := by
  refine Met.ofW (cc := cX0_survey) (maxL := 5) (ret := none) (by decide) rfl ?_
  intro p e s m args below meth c s₁ B0 hml hv
  obtain ⟨rfl, hsz, hP, hK, hD0⟩ := hv
  have hx := B0.exec
  have hb := B0.bytes
  have hr := B0.returns
  have hts := atoms_spec (ws := wsX0_survey) B0.pre
  have hown : s.vm.findClass RX0 = some m.cls := findClass_of_methodNamed B0.named
  have hlocks := B0.notSynchronized
  have hinX0 : ∀ w ∈ wsX00, w ∈ wsX0_survey := fun w h => List.mem_cons_of_mem _ (List.mem_append_right _ (h))
  subst hsz
  have hD := hD0.self (sz := s.heap.size)
  generalize hAe : va_A (wB cI cJ cZ ba sg.1 sg.2.1 sg.2.2) s.heap.size = A at hD ⊢
  have hA : ∀ q : Nat, s.heap.size ≤ q → A q := fun q h => by rw [← hAe]; exact Or.inr h
  have hS : va_S A s.heap s.heap [] := va_S.rf
  have hl := lv_entry ([.ref (ba 1)]) (n := 5) (Nat.le_of_ble_eq_true rfl)
  rw [lg_entry_eq]
  generalize (lg_sl ([.ref (ba 1)]) ++ List.replicate (5 - (lg_sl ([.ref (ba 1)])).length) Slot.unset).toArray = ls at hl ⊢
  have hl : lv_has ls 5 [(0, .ref (ba 1))] := hl
  have hv : (fX0_survey  sg) = (fX0_survey  sg) := rfl
  have J7 : ∀ (q7 : Nat) (k : Nat) (tg : BS) (H : Heap) (locs : List Loc) (ls : Array Slot), ((k ≤ tg.1 ∧ tg.1 ≤ 40) ∧ k < q7 ∧ ∀ q, q < 40 → vp_in (tg.2.1 3 q) 9) → va_P (dC, dI) vwCl (wB cI cJ cZ ba tg.1 tg.2.1 tg.2.2) H → va_D A (wB cI cJ cZ ba tg.1 tg.2.1 tg.2.2) → va_S A s.heap H locs → lv_has ls 5 [(1, .int (dn k)), (0, .ref (ba 1))] → (fX0_survey_7 q7 k tg) = (fX0_survey  sg) → W p l e (headSpec wsX0_survey ({ frames := 3, cells := 0, slots := 0, locals := 70 })).room s m ([.ref (ba 1)] : List Value).toArray below meth c H locs 0 0 (MQ below (md_Qv (dC, dI) (wB cI cJ cZ ba ((fX0_survey  sg).1) ((fX0_survey  sg).2.1) ((fX0_survey  sg).2.2)) (A)) ([.ref (ba 1)] : List Value).toArray s 0 0 (A)) (F0 m 7 ls []) := by
    intro q7
    induction q7 with
    | zero => intro k tg H locs ls hm7 hP hD hS hl hv; exact absurd hm7 (fun h => Nat.not_lt_zero _ h.2.1)
    | succ q7 ih7 =>
      intro k tg H locs ls hm7 hP hD hS hl hv
      have hkn := hm7.1.1; have hnn := hm7.1.2
      have J17 : ∀ (q17 : Nat) (j : Nat) (v : Int32) (H : Heap) (locs : List Loc) (ls : Array Slot), ((j ≤ tg.1 ∧ 0 < k) ∧ 41 ≤ j + q17) → va_P (dC, dI) vwCl (wB cI cJ cZ ba tg.1 tg.2.1 tg.2.2) H → va_D A (wB cI cJ cZ ba tg.1 tg.2.1 tg.2.2) → va_S A s.heap H locs → lv_has ls 5 [(3, .int (nI j)), (2, .int (v)), (1, .int (dn k)), (0, .ref (ba 1))] → (∀ (H : Heap) (locs : List Loc) (ls : Array Slot), va_P (dC, dI) vwCl (wB cI cJ cZ ba tg.1 tg.2.1 tg.2.2) H → va_D A (wB cI cJ cZ ba tg.1 tg.2.1 tg.2.2) → va_S A s.heap H locs → lv_has ls 5 [(3, .int (nI ((fX0_survey_17 tg k q17 j v).1))), (2, .int ((fX0_survey_17 tg k q17 j v).2)), (1, .int (dn k)), (0, .ref (ba 1))] → W p l e (headSpec wsX0_survey ({ frames := 3, cells := 0, slots := 0, locals := 70 })).room s m ([.ref (ba 1)] : List Value).toArray below meth c H locs 0 0 (MQ below (md_Qv (dC, dI) (wB cI cJ cZ ba ((fX0_survey  sg).1) ((fX0_survey  sg).2.1) ((fX0_survey  sg).2.2)) (A)) ([.ref (ba 1)] : List Value).toArray s 0 0 (A)) (F0 m 58 ls [])) → W p l e (headSpec wsX0_survey ({ frames := 3, cells := 0, slots := 0, locals := 70 })).room s m ([.ref (ba 1)] : List Value).toArray below meth c H locs 0 0 (MQ below (md_Qv (dC, dI) (wB cI cJ cZ ba ((fX0_survey  sg).1) ((fX0_survey  sg).2.1) ((fX0_survey  sg).2.2)) (A)) ([.ref (ba 1)] : List Value).toArray s 0 0 (A)) (F0 m 17 ls []) := by
        intro q17
        induction q17 with
        | zero => intro j v H locs ls hm17 hP hD hS hl kx; exact absurd hm17 (by have := hm7.1.2; omega)
        | succ q17 ih17 =>
          intro j v H locs ls hm17 hP hD hS hl kx
          have hjn := hm17.1.1; have hk0 := hm17.1.2; have hi : k - 1 < 40 := by omega
          refine lv_iload_n hx hb dX0_survey_17 rfl (lv_at hl 0 rfl) ?_
          refine lv_aload_n hx hb dX0_survey_18 rfl (lv_at hl 3 rfl) ?_
          refine va_get (D := (dC, dI)) (ci := 0) (v := .int (nI tg.1)) (C := RX0) (T := TX0) (N := 15) hx hb hts hinX0 hown hK hP 0 rfl rfl 1 (by decide) (hts (.fieldLink RX0 23 "SlotFiller$Block" "size" "I") (by decide +kernel)) (fun _ h9 => h9) rfl dX0_survey_19 ?_
          refine lv_icmp_ge (tgt := 58) hx hb dX0_survey_22 (by decide) (fun c_1 => ?_) (fun c_1 => ?_)
          · rw [show (fX0_survey_17 tg k (q17 + 1) j v) = (j, v) by rw [fX0_survey_17, if_pos c_1]] at kx
            exact kx H _ ls hP hD hS (lv_sub hl [0, 1, 2, 3] rfl)
          · have hj : j < 40 := Nat.lt_of_lt_of_le (nI_geN (by omega) (by omega) c_1) hnn
            refine lv_aload_n hx hb dX0_survey_25 rfl (lv_at hl 3 rfl) ?_
            refine lv_iload_n hx hb dX0_survey_26 rfl (lv_at hl 0 rfl) ?_
            refine lv_iload_n hx hb dX0_survey_27 rfl (lv_at hl 2 rfl) ?_
            refine top_i (y := nI (k - 1)) (dn_eq hk0) ?_
            refine ro_calli (va_runV (As := [.int (nI j), .int (nI (k - 1))]) (rest := []) ⟨hx, hb, hml, hown, hts⟩ (kX0_distance l dC dI cI cJ cZ ba tg.1 tg.2.1 tg.2.2 H.size j (k - 1) hj hi hm7.2.2) (cwV 2 hts gX0_survey_X0_distance rfl rfl rfl (by decide +kernel) ⟨Nat.le_of_ble_eq_true rfl, Nat.le_of_ble_eq_true rfl⟩) (ro_preV 0 0 (q := (RX0, TX0, 15)) rfl rfl hP hK) rfl rfl hl.1 rfl (lv_room (Nat.le_of_ble_eq_true rfl)) dX0_survey_28 ⟨Nat.zero_le _, Nat.zero_le _⟩) hS hA (fun H locs kP hS => ?_)
            have hP := kP _ _ _ hP
            refine lv_istore (lv' := [(4, .int ((fX0_distance tg.1 tg.2.1 tg.2.2 j (k - 1)))), (3, .int (nI j)), (2, .int (v)), (1, .int (dn k)), (0, .ref (ba 1))]) hx hb dX0_survey_31 hl (by decide) rfl (fun ls hl => ?_)
            refine lv_iload hx hb dX0_survey_33 (lv_at hl 0 rfl) ?_
            refine lv_if_le (tgt := 52) hx hb dX0_survey_35 (by decide) (fun c_2 => ?_) (fun c_2 => ?_)
            · refine lv_iinc (v := nI (j + 1)) (lv' := [(3, .int (nI (j + 1))), (4, .int ((fX0_distance tg.1 tg.2.1 tg.2.2 j (k - 1)))), (2, .int (v)), (1, .int (dn k)), (0, .ref (ba 1))]) hx hb dX0_survey_52 hl (k := 1) rfl (nI_1 j) (by decide) rfl (fun ls hl => ?_)
              refine lv_goto (tgt := 17) hx hb dX0_survey_55 (by decide) ?_
              rw [show (fX0_survey_17 tg k (q17 + 1) j v) = (fX0_survey_17 tg k q17 (j + 1) v) by rw [fX0_survey_17, if_neg c_1, if_pos c_2]] at kx
              exact ih17 (j + 1) v H _ ls (⟨⟨nI_geN (by omega) (by omega) c_1, hk0⟩, by omega⟩) hP hD hS (lv_sub hl [0, 2, 3, 4] rfl) kx
            · refine lv_iload_n hx hb dX0_survey_38 rfl (lv_at hl 2 rfl) ?_
              refine lv_aload_n hx hb dX0_survey_39 rfl (lv_at hl 4 rfl) ?_
              refine va_get (D := (dC, dI)) (ci := 0) (v := .ref (ba 13)) (C := RX0) (T := TX0) (N := 15) hx hb hts hinX0 hown hK hP 0 rfl rfl 13 (by decide) (hts (.fieldLink RX0 62 "SlotFiller$Block" "heights" "[I") (by decide +kernel)) (fun _ h9 => h9) rfl dX0_survey_40 ?_
              refine lv_iload_n hx hb dX0_survey_43 rfl (lv_at hl 1 rfl) ?_
              refine my_iald (j := j) hx hb hK hP 13 0 rfl rfl (hj) (by decide) dX0_survey_44 ?_
              refine lv_iload hx hb dX0_survey_45 (lv_at hl 0 rfl) ?_
              refine lv_iadd hx hb dX0_survey_47 ?_
              refine va_mmax hx hb (hml.trans hl.1.symm) hown (hts (.methodLink RX0 126 Lib.Math.max.name) (by decide +kernel)) (hts (.static Lib.Math.max.name) (by decide +kernel)) (hts (.initialized "java/lang/Math") (by decide +kernel)) (hts (.code Lib.Math.max.name Lib.Math.max.code 2 (some .int)) (by decide +kernel)) (Nat.le_of_ble_eq_true rfl) (Nat.le_of_ble_eq_true rfl) (Nat.zero_le _) (Nat.zero_le _) dX0_survey_48 ?_
              refine lv_istore_n (lv' := [(2, .int ((mx v (((tg.2.1 13) (j)) + (fX0_distance tg.1 tg.2.1 tg.2.2 j (k - 1)))))), (4, .int ((fX0_distance tg.1 tg.2.1 tg.2.2 j (k - 1)))), (3, .int (nI j)), (1, .int (dn k)), (0, .ref (ba 1))]) hx hb dX0_survey_51 rfl hl (by decide) rfl (fun ls hl => ?_)
              refine lv_iinc (v := nI (j + 1)) (lv' := [(3, .int (nI (j + 1))), (2, .int ((mx v (((tg.2.1 13) (j)) + (fX0_distance tg.1 tg.2.1 tg.2.2 j (k - 1)))))), (4, .int ((fX0_distance tg.1 tg.2.1 tg.2.2 j (k - 1)))), (1, .int (dn k)), (0, .ref (ba 1))]) hx hb dX0_survey_52 hl (k := 2) rfl (nI_1 j) (by decide) rfl (fun ls hl => ?_)
              refine lv_goto (tgt := 17) hx hb dX0_survey_55 (by decide) ?_
              rw [show (fX0_survey_17 tg k (q17 + 1) j v) = (fX0_survey_17 tg k q17 (j + 1) (mx v (((tg.2.1 13) (j)) + (fX0_distance tg.1 tg.2.1 tg.2.2 j (k - 1))))) by rw [fX0_survey_17, if_neg c_1, if_neg c_2]] at kx
              exact ih17 (j + 1) (mx v (((tg.2.1 13) (j)) + (fX0_distance tg.1 tg.2.1 tg.2.2 j (k - 1)))) H _ ls (⟨⟨nI_geN (by omega) (by omega) c_1, hk0⟩, by omega⟩) hP hD hS (lv_sub hl [0, 1, 3, 4] rfl) kx
      refine lv_iload_n hx hb dX0_survey_7 rfl (lv_at hl 0 rfl) ?_
      refine lv_if_lt (tgt := 103) hx hb dX0_survey_8 (by decide) (fun c_3 => ?_) (fun c_3 => ?_)
      · have e9 : tg = (fX0_survey  sg) := ((show tg = (fX0_survey_7 (q7 + 1) k tg) by rw [fX0_survey_7, if_pos c_3]).trans hv)
        have hP : va_P (dC, dI) vwCl (wB cI cJ cZ ba ((fX0_survey  sg).1) ((fX0_survey  sg).2.1) ((fX0_survey  sg).2.2)) H := by rw [← e9]; exact hP
        have hD : va_D A (wB cI cJ cZ ba ((fX0_survey  sg).1) ((fX0_survey  sg).2.1) ((fX0_survey  sg).2.2)) := by rw [← e9]; exact hD
        exact W.vret hx hb hr (fun t ht hW => ⟨⟨(), rfl, trivial, by rw [ht]; exact hP, hD⟩, hS.F ht⟩) hS.2.2 dX0_survey_103
      · have hk0 : 0 < k := dn_pos c_3; have hi : k - 1 < 40 := by omega
        refine lv_iconst (v := 0) hx hb dX0_survey_11 (by decide) ?_
        refine lv_istore_n (lv' := [(2, .int (0)), (1, .int (dn k)), (0, .ref (ba 1))]) hx hb dX0_survey_12 rfl hl (by decide) rfl (fun ls hl => ?_)
        refine lv_iload_n hx hb dX0_survey_13 rfl (lv_at hl 1 rfl) ?_
        refine lv_iconst (v := 1) hx hb dX0_survey_14 (by decide) ?_
        refine lv_iadd hx hb dX0_survey_15 ?_
        refine top_i (y := nI k) (dn_succ k) ?_
        refine lv_istore_n (lv' := [(3, .int (nI k)), (2, .int (0)), (1, .int (dn k)), (0, .ref (ba 1))]) hx hb dX0_survey_16 rfl hl (by decide) rfl (fun ls hl => ?_)
        refine J17 41 k 0 H _ ls (⟨⟨hkn, hk0⟩, by omega⟩) hP hD hS (lv_sub hl [0, 1, 2, 3] rfl) (fun H locs ls hP hD hS hl => ?_)
        refine lv_aload_n hx hb dX0_survey_58 rfl (lv_at hl 3 rfl) ?_
        refine va_get (D := (dC, dI)) (ci := 0) (v := .ref (ba 14)) (C := RX0) (T := TX0) (N := 15) hx hb hts hinX0 hown hK hP 0 rfl rfl 14 (by decide) (hts (.fieldLink RX0 65 "SlotFiller$Block" "needed" "[Z") (by decide +kernel)) (fun _ h9 => h9) rfl dX0_survey_59 ?_
        refine lv_iload_n hx hb dX0_survey_62 rfl (lv_at hl 2 rfl) ?_
        refine top_i (y := nI (k - 1)) (dn_eq hk0) ?_
        refine lv_iload_n hx hb dX0_survey_63 rfl (lv_at hl 1 rfl) ?_
        refine lv_if_le (tgt := 71) hx hb dX0_survey_64 (by decide) (fun c_4 => ?_) (fun c_4 => ?_)
        · refine lv_iconst (v := 0) hx hb dX0_survey_71 (by decide) ?_
          refine my_zast (j := k - 1) hx hb hK hP hD hS 14 2 rfl rfl (hi) (by decide) (by decide) dX0_survey_72 (fun H locs hP hD hS => ?_)
          have hP : va_P (dC, dI) vwCl [((ba 1), .inr (0, [.ref (ba 0), .int (nI tg.1), .ref (ba 2), .ref (ba 3), .ref (ba 4), .ref (ba 5), .ref (ba 6), .ref (ba 7), .ref (ba 8), .ref (ba 9), .ref (ba 10), .ref (ba 11), .ref (ba 12), .ref (ba 13), .ref (ba 14)])), ((ba 0), .inl (cI, 9, .inl (tg.2.1 0))), ((ba 2), .inl (cI, 40, .inl (tg.2.1 2))), ((ba 3), .inl (cI, 40, .inl (tg.2.1 3))), ((ba 4), .inl (cZ, 40, .inl (tg.2.1 4))), ((ba 5), .inl (cJ, 40, .inr (.inl (tg.2.2 5)))), ((ba 6), .inl (cJ, 40, .inr (.inl (tg.2.2 6)))), ((ba 7), .inl (cI, 40, .inl (tg.2.1 7))), ((ba 8), .inl (cI, 40, .inl (tg.2.1 8))), ((ba 9), .inl (cI, 40, .inl (tg.2.1 9))), ((ba 10), .inl (cI, 40, .inl (tg.2.1 10))), ((ba 11), .inl (cI, 40, .inl (tg.2.1 11))), ((ba 12), .inl (cI, 40, .inl (tg.2.1 12))), ((ba 13), .inl (cI, 40, .inl (tg.2.1 13))), ((ba 14), .inl (cZ, 40, .inl (upd (tg.2.1 14) (k - 1) (0))))] H := hP
          have hD : va_D A [((ba 1), .inr (0, [.ref (ba 0), .int (nI tg.1), .ref (ba 2), .ref (ba 3), .ref (ba 4), .ref (ba 5), .ref (ba 6), .ref (ba 7), .ref (ba 8), .ref (ba 9), .ref (ba 10), .ref (ba 11), .ref (ba 12), .ref (ba 13), .ref (ba 14)])), ((ba 0), .inl (cI, 9, .inl (tg.2.1 0))), ((ba 2), .inl (cI, 40, .inl (tg.2.1 2))), ((ba 3), .inl (cI, 40, .inl (tg.2.1 3))), ((ba 4), .inl (cZ, 40, .inl (tg.2.1 4))), ((ba 5), .inl (cJ, 40, .inr (.inl (tg.2.2 5)))), ((ba 6), .inl (cJ, 40, .inr (.inl (tg.2.2 6)))), ((ba 7), .inl (cI, 40, .inl (tg.2.1 7))), ((ba 8), .inl (cI, 40, .inl (tg.2.1 8))), ((ba 9), .inl (cI, 40, .inl (tg.2.1 9))), ((ba 10), .inl (cI, 40, .inl (tg.2.1 10))), ((ba 11), .inl (cI, 40, .inl (tg.2.1 11))), ((ba 12), .inl (cI, 40, .inl (tg.2.1 12))), ((ba 13), .inl (cI, 40, .inl (tg.2.1 13))), ((ba 14), .inl (cZ, 40, .inl (upd (tg.2.1 14) (k - 1) (0))))] := hD
          refine lv_aload_n hx hb dX0_survey_73 rfl (lv_at hl 3 rfl) ?_
          refine va_get (D := (dC, dI)) (ci := 0) (v := .ref (ba 13)) (C := RX0) (T := TX0) (N := 15) hx hb hts hinX0 hown hK hP 0 rfl rfl 13 (by decide) (hts (.fieldLink RX0 62 "SlotFiller$Block" "heights" "[I") (by decide +kernel)) (fun _ h9 => h9) rfl dX0_survey_74 ?_
          refine lv_iload_n hx hb dX0_survey_77 rfl (lv_at hl 2 rfl) ?_
          refine top_i (y := nI (k - 1)) (dn_eq hk0) ?_
          refine lv_aload_n hx hb dX0_survey_78 rfl (lv_at hl 3 rfl) ?_
          refine va_get (D := (dC, dI)) (ci := 0) (v := .ref (ba 14)) (C := RX0) (T := TX0) (N := 15) hx hb hts hinX0 hown hK hP 0 rfl rfl 14 (by decide) (hts (.fieldLink RX0 65 "SlotFiller$Block" "needed" "[Z") (by decide +kernel)) (fun _ h9 => h9) rfl dX0_survey_79 ?_
          refine lv_iload_n hx hb dX0_survey_82 rfl (lv_at hl 2 rfl) ?_
          refine top_i (y := nI (k - 1)) (dn_eq hk0) ?_
          refine my_zald (j := k - 1) hx hb hK hP 14 2 rfl rfl (hi) (by decide) dX0_survey_83 ?_
          refine lv_if_eq (tgt := 91) hx hb dX0_survey_84 (by decide) (fun c_5 => ?_) (fun c_5 => ?_)
          · refine lv_aload_n hx hb dX0_survey_91 rfl (lv_at hl 3 rfl) ?_
            refine lv_iload_n hx hb dX0_survey_92 rfl (lv_at hl 2 rfl) ?_
            refine top_i (y := nI (k - 1)) (dn_eq hk0) ?_
            refine ro_calli (va_runV (As := [.int (nI (k - 1))]) (rest := [.int (nI (k - 1)), .ref (ba 13)]) ⟨hx, hb, hml, hown, hts⟩ (kX0_latencyOf l dC dI cI cJ cZ ba tg.1 (upB tg.2.1 14 (upd (tg.2.1 14) (k - 1) (0))) tg.2.2 H.size (k - 1) hi hm7.2.2) (cwV 1 hts gX0_survey_X0_latencyOf rfl rfl rfl (by decide +kernel) ⟨Nat.le_of_ble_eq_true rfl, Nat.le_of_ble_eq_true rfl⟩) (ro_preV 0 0 (q := (RX0, TX0, 15)) rfl rfl hP hK) rfl rfl hl.1 rfl (lv_room (Nat.le_of_ble_eq_true rfl)) dX0_survey_93 ⟨Nat.zero_le _, Nat.zero_le _⟩) hS hA (fun H locs kP hS => ?_)
            have hP := kP _ _ _ hP
            refine my_iast (j := k - 1) hx hb hK hP hD hS 13 0 rfl rfl (hi) (by decide) dX0_survey_96 (fun H locs hP hD hS => ?_)
            have hP : va_P (dC, dI) vwCl [((ba 1), .inr (0, [.ref (ba 0), .int (nI tg.1), .ref (ba 2), .ref (ba 3), .ref (ba 4), .ref (ba 5), .ref (ba 6), .ref (ba 7), .ref (ba 8), .ref (ba 9), .ref (ba 10), .ref (ba 11), .ref (ba 12), .ref (ba 13), .ref (ba 14)])), ((ba 0), .inl (cI, 9, .inl (tg.2.1 0))), ((ba 2), .inl (cI, 40, .inl (tg.2.1 2))), ((ba 3), .inl (cI, 40, .inl (tg.2.1 3))), ((ba 4), .inl (cZ, 40, .inl (tg.2.1 4))), ((ba 5), .inl (cJ, 40, .inr (.inl (tg.2.2 5)))), ((ba 6), .inl (cJ, 40, .inr (.inl (tg.2.2 6)))), ((ba 7), .inl (cI, 40, .inl (tg.2.1 7))), ((ba 8), .inl (cI, 40, .inl (tg.2.1 8))), ((ba 9), .inl (cI, 40, .inl (tg.2.1 9))), ((ba 10), .inl (cI, 40, .inl (tg.2.1 10))), ((ba 11), .inl (cI, 40, .inl (tg.2.1 11))), ((ba 12), .inl (cI, 40, .inl (tg.2.1 12))), ((ba 13), .inl (cI, 40, .inl (upd (tg.2.1 13) (k - 1) ((fX0_latencyOf tg.1 (upB tg.2.1 14 (upd (tg.2.1 14) (k - 1) (0))) tg.2.2 (k - 1)))))), ((ba 14), .inl (cZ, 40, .inl (upd (tg.2.1 14) (k - 1) (0))))] H := hP
            have hD : va_D A [((ba 1), .inr (0, [.ref (ba 0), .int (nI tg.1), .ref (ba 2), .ref (ba 3), .ref (ba 4), .ref (ba 5), .ref (ba 6), .ref (ba 7), .ref (ba 8), .ref (ba 9), .ref (ba 10), .ref (ba 11), .ref (ba 12), .ref (ba 13), .ref (ba 14)])), ((ba 0), .inl (cI, 9, .inl (tg.2.1 0))), ((ba 2), .inl (cI, 40, .inl (tg.2.1 2))), ((ba 3), .inl (cI, 40, .inl (tg.2.1 3))), ((ba 4), .inl (cZ, 40, .inl (tg.2.1 4))), ((ba 5), .inl (cJ, 40, .inr (.inl (tg.2.2 5)))), ((ba 6), .inl (cJ, 40, .inr (.inl (tg.2.2 6)))), ((ba 7), .inl (cI, 40, .inl (tg.2.1 7))), ((ba 8), .inl (cI, 40, .inl (tg.2.1 8))), ((ba 9), .inl (cI, 40, .inl (tg.2.1 9))), ((ba 10), .inl (cI, 40, .inl (tg.2.1 10))), ((ba 11), .inl (cI, 40, .inl (tg.2.1 11))), ((ba 12), .inl (cI, 40, .inl (tg.2.1 12))), ((ba 13), .inl (cI, 40, .inl (upd (tg.2.1 13) (k - 1) ((fX0_latencyOf tg.1 (upB tg.2.1 14 (upd (tg.2.1 14) (k - 1) (0))) tg.2.2 (k - 1)))))), ((ba 14), .inl (cZ, 40, .inl (upd (tg.2.1 14) (k - 1) (0))))] := hD
            refine lv_iinc (v := dn (k - 1)) (lv' := [(1, .int (dn (k - 1))), (3, .int (nI ((fX0_survey_17 tg k 41 k 0).1))), (2, .int ((fX0_survey_17 tg k 41 k 0).2)), (0, .ref (ba 1))]) hx hb dX0_survey_97 hl (k := 2) rfl (dn_step hk0) (by decide) rfl (fun ls hl => ?_)
            refine lv_goto (tgt := 7) hx hb dX0_survey_100 (by decide) ?_
            exact ih7 (k - 1) (tg.1, (upB (upB tg.2.1 13 (upd (tg.2.1 13) (k - 1) ((fX0_latencyOf tg.1 (upB tg.2.1 14 (upd (tg.2.1 14) (k - 1) (0))) tg.2.2 (k - 1))))) 14 (upd (tg.2.1 14) (k - 1) (0))), tg.2.2) H _ ls (⟨⟨by show k - 1 ≤ tg.1; omega, hnn⟩, by have := hm7.2.1; omega, hm7.2.2⟩) hP hD hS (lv_sub hl [0, 3] rfl) ((show (fX0_survey_7 q7 (k - 1) (tg.1, (upB (upB tg.2.1 13 (upd (tg.2.1 13) (k - 1) ((fX0_latencyOf tg.1 (upB tg.2.1 14 (upd (tg.2.1 14) (k - 1) (0))) tg.2.2 (k - 1))))) 14 (upd (tg.2.1 14) (k - 1) (0))), tg.2.2)) = (fX0_survey_7 (q7 + 1) k tg) by rw [fX0_survey_7, if_neg c_3, if_pos c_4, if_pos c_5]).trans hv)
          · refine lv_iload_n hx hb dX0_survey_87 rfl (lv_at hl 1 rfl) ?_
            refine lv_goto (tgt := 96) hx hb dX0_survey_88 (by decide) ?_
            refine my_iast (j := k - 1) hx hb hK hP hD hS 13 0 rfl rfl (hi) (by decide) dX0_survey_96 (fun H locs hP hD hS => ?_)
            have hP : va_P (dC, dI) vwCl [((ba 1), .inr (0, [.ref (ba 0), .int (nI tg.1), .ref (ba 2), .ref (ba 3), .ref (ba 4), .ref (ba 5), .ref (ba 6), .ref (ba 7), .ref (ba 8), .ref (ba 9), .ref (ba 10), .ref (ba 11), .ref (ba 12), .ref (ba 13), .ref (ba 14)])), ((ba 0), .inl (cI, 9, .inl (tg.2.1 0))), ((ba 2), .inl (cI, 40, .inl (tg.2.1 2))), ((ba 3), .inl (cI, 40, .inl (tg.2.1 3))), ((ba 4), .inl (cZ, 40, .inl (tg.2.1 4))), ((ba 5), .inl (cJ, 40, .inr (.inl (tg.2.2 5)))), ((ba 6), .inl (cJ, 40, .inr (.inl (tg.2.2 6)))), ((ba 7), .inl (cI, 40, .inl (tg.2.1 7))), ((ba 8), .inl (cI, 40, .inl (tg.2.1 8))), ((ba 9), .inl (cI, 40, .inl (tg.2.1 9))), ((ba 10), .inl (cI, 40, .inl (tg.2.1 10))), ((ba 11), .inl (cI, 40, .inl (tg.2.1 11))), ((ba 12), .inl (cI, 40, .inl (tg.2.1 12))), ((ba 13), .inl (cI, 40, .inl (upd (tg.2.1 13) (k - 1) ((fX0_survey_17 tg k 41 k 0).2)))), ((ba 14), .inl (cZ, 40, .inl (upd (tg.2.1 14) (k - 1) (0))))] H := hP
            have hD : va_D A [((ba 1), .inr (0, [.ref (ba 0), .int (nI tg.1), .ref (ba 2), .ref (ba 3), .ref (ba 4), .ref (ba 5), .ref (ba 6), .ref (ba 7), .ref (ba 8), .ref (ba 9), .ref (ba 10), .ref (ba 11), .ref (ba 12), .ref (ba 13), .ref (ba 14)])), ((ba 0), .inl (cI, 9, .inl (tg.2.1 0))), ((ba 2), .inl (cI, 40, .inl (tg.2.1 2))), ((ba 3), .inl (cI, 40, .inl (tg.2.1 3))), ((ba 4), .inl (cZ, 40, .inl (tg.2.1 4))), ((ba 5), .inl (cJ, 40, .inr (.inl (tg.2.2 5)))), ((ba 6), .inl (cJ, 40, .inr (.inl (tg.2.2 6)))), ((ba 7), .inl (cI, 40, .inl (tg.2.1 7))), ((ba 8), .inl (cI, 40, .inl (tg.2.1 8))), ((ba 9), .inl (cI, 40, .inl (tg.2.1 9))), ((ba 10), .inl (cI, 40, .inl (tg.2.1 10))), ((ba 11), .inl (cI, 40, .inl (tg.2.1 11))), ((ba 12), .inl (cI, 40, .inl (tg.2.1 12))), ((ba 13), .inl (cI, 40, .inl (upd (tg.2.1 13) (k - 1) ((fX0_survey_17 tg k 41 k 0).2)))), ((ba 14), .inl (cZ, 40, .inl (upd (tg.2.1 14) (k - 1) (0))))] := hD
            refine lv_iinc (v := dn (k - 1)) (lv' := [(1, .int (dn (k - 1))), (3, .int (nI ((fX0_survey_17 tg k 41 k 0).1))), (2, .int ((fX0_survey_17 tg k 41 k 0).2)), (0, .ref (ba 1))]) hx hb dX0_survey_97 hl (k := 2) rfl (dn_step hk0) (by decide) rfl (fun ls hl => ?_)
            refine lv_goto (tgt := 7) hx hb dX0_survey_100 (by decide) ?_
            exact ih7 (k - 1) (tg.1, (upB (upB tg.2.1 13 (upd (tg.2.1 13) (k - 1) ((fX0_survey_17 tg k 41 k 0).2))) 14 (upd (tg.2.1 14) (k - 1) (0))), tg.2.2) H _ ls (⟨⟨by show k - 1 ≤ tg.1; omega, hnn⟩, by have := hm7.2.1; omega, hm7.2.2⟩) hP hD hS (lv_sub hl [0, 3] rfl) ((show (fX0_survey_7 q7 (k - 1) (tg.1, (upB (upB tg.2.1 13 (upd (tg.2.1 13) (k - 1) ((fX0_survey_17 tg k 41 k 0).2))) 14 (upd (tg.2.1 14) (k - 1) (0))), tg.2.2)) = (fX0_survey_7 (q7 + 1) k tg) by rw [fX0_survey_7, if_neg c_3, if_pos c_4, if_neg c_5]).trans hv)
        · refine lv_iconst (v := 1) hx hb dX0_survey_67 (by decide) ?_
          refine lv_goto (tgt := 72) hx hb dX0_survey_68 (by decide) ?_
          refine my_zast (j := k - 1) hx hb hK hP hD hS 14 2 rfl rfl (hi) (by decide) (by decide) dX0_survey_72 (fun H locs hP hD hS => ?_)
          have hP : va_P (dC, dI) vwCl [((ba 1), .inr (0, [.ref (ba 0), .int (nI tg.1), .ref (ba 2), .ref (ba 3), .ref (ba 4), .ref (ba 5), .ref (ba 6), .ref (ba 7), .ref (ba 8), .ref (ba 9), .ref (ba 10), .ref (ba 11), .ref (ba 12), .ref (ba 13), .ref (ba 14)])), ((ba 0), .inl (cI, 9, .inl (tg.2.1 0))), ((ba 2), .inl (cI, 40, .inl (tg.2.1 2))), ((ba 3), .inl (cI, 40, .inl (tg.2.1 3))), ((ba 4), .inl (cZ, 40, .inl (tg.2.1 4))), ((ba 5), .inl (cJ, 40, .inr (.inl (tg.2.2 5)))), ((ba 6), .inl (cJ, 40, .inr (.inl (tg.2.2 6)))), ((ba 7), .inl (cI, 40, .inl (tg.2.1 7))), ((ba 8), .inl (cI, 40, .inl (tg.2.1 8))), ((ba 9), .inl (cI, 40, .inl (tg.2.1 9))), ((ba 10), .inl (cI, 40, .inl (tg.2.1 10))), ((ba 11), .inl (cI, 40, .inl (tg.2.1 11))), ((ba 12), .inl (cI, 40, .inl (tg.2.1 12))), ((ba 13), .inl (cI, 40, .inl (tg.2.1 13))), ((ba 14), .inl (cZ, 40, .inl (upd (tg.2.1 14) (k - 1) (1))))] H := hP
          have hD : va_D A [((ba 1), .inr (0, [.ref (ba 0), .int (nI tg.1), .ref (ba 2), .ref (ba 3), .ref (ba 4), .ref (ba 5), .ref (ba 6), .ref (ba 7), .ref (ba 8), .ref (ba 9), .ref (ba 10), .ref (ba 11), .ref (ba 12), .ref (ba 13), .ref (ba 14)])), ((ba 0), .inl (cI, 9, .inl (tg.2.1 0))), ((ba 2), .inl (cI, 40, .inl (tg.2.1 2))), ((ba 3), .inl (cI, 40, .inl (tg.2.1 3))), ((ba 4), .inl (cZ, 40, .inl (tg.2.1 4))), ((ba 5), .inl (cJ, 40, .inr (.inl (tg.2.2 5)))), ((ba 6), .inl (cJ, 40, .inr (.inl (tg.2.2 6)))), ((ba 7), .inl (cI, 40, .inl (tg.2.1 7))), ((ba 8), .inl (cI, 40, .inl (tg.2.1 8))), ((ba 9), .inl (cI, 40, .inl (tg.2.1 9))), ((ba 10), .inl (cI, 40, .inl (tg.2.1 10))), ((ba 11), .inl (cI, 40, .inl (tg.2.1 11))), ((ba 12), .inl (cI, 40, .inl (tg.2.1 12))), ((ba 13), .inl (cI, 40, .inl (tg.2.1 13))), ((ba 14), .inl (cZ, 40, .inl (upd (tg.2.1 14) (k - 1) (1))))] := hD
          refine lv_aload_n hx hb dX0_survey_73 rfl (lv_at hl 3 rfl) ?_
          refine va_get (D := (dC, dI)) (ci := 0) (v := .ref (ba 13)) (C := RX0) (T := TX0) (N := 15) hx hb hts hinX0 hown hK hP 0 rfl rfl 13 (by decide) (hts (.fieldLink RX0 62 "SlotFiller$Block" "heights" "[I") (by decide +kernel)) (fun _ h9 => h9) rfl dX0_survey_74 ?_
          refine lv_iload_n hx hb dX0_survey_77 rfl (lv_at hl 2 rfl) ?_
          refine top_i (y := nI (k - 1)) (dn_eq hk0) ?_
          refine lv_aload_n hx hb dX0_survey_78 rfl (lv_at hl 3 rfl) ?_
          refine va_get (D := (dC, dI)) (ci := 0) (v := .ref (ba 14)) (C := RX0) (T := TX0) (N := 15) hx hb hts hinX0 hown hK hP 0 rfl rfl 14 (by decide) (hts (.fieldLink RX0 65 "SlotFiller$Block" "needed" "[Z") (by decide +kernel)) (fun _ h9 => h9) rfl dX0_survey_79 ?_
          refine lv_iload_n hx hb dX0_survey_82 rfl (lv_at hl 2 rfl) ?_
          refine top_i (y := nI (k - 1)) (dn_eq hk0) ?_
          refine my_zald (j := k - 1) hx hb hK hP 14 2 rfl rfl (hi) (by decide) dX0_survey_83 ?_
          refine lv_if_eq (tgt := 91) hx hb dX0_survey_84 (by decide) (fun c_6 => ?_) (fun c_6 => ?_)
          · refine lv_aload_n hx hb dX0_survey_91 rfl (lv_at hl 3 rfl) ?_
            refine lv_iload_n hx hb dX0_survey_92 rfl (lv_at hl 2 rfl) ?_
            refine top_i (y := nI (k - 1)) (dn_eq hk0) ?_
            refine ro_calli (va_runV (As := [.int (nI (k - 1))]) (rest := [.int (nI (k - 1)), .ref (ba 13)]) ⟨hx, hb, hml, hown, hts⟩ (kX0_latencyOf l dC dI cI cJ cZ ba tg.1 (upB tg.2.1 14 (upd (tg.2.1 14) (k - 1) (1))) tg.2.2 H.size (k - 1) hi hm7.2.2) (cwV 1 hts gX0_survey_X0_latencyOf rfl rfl rfl (by decide +kernel) ⟨Nat.le_of_ble_eq_true rfl, Nat.le_of_ble_eq_true rfl⟩) (ro_preV 0 0 (q := (RX0, TX0, 15)) rfl rfl hP hK) rfl rfl hl.1 rfl (lv_room (Nat.le_of_ble_eq_true rfl)) dX0_survey_93 ⟨Nat.zero_le _, Nat.zero_le _⟩) hS hA (fun H locs kP hS => ?_)
            have hP := kP _ _ _ hP
            refine my_iast (j := k - 1) hx hb hK hP hD hS 13 0 rfl rfl (hi) (by decide) dX0_survey_96 (fun H locs hP hD hS => ?_)
            have hP : va_P (dC, dI) vwCl [((ba 1), .inr (0, [.ref (ba 0), .int (nI tg.1), .ref (ba 2), .ref (ba 3), .ref (ba 4), .ref (ba 5), .ref (ba 6), .ref (ba 7), .ref (ba 8), .ref (ba 9), .ref (ba 10), .ref (ba 11), .ref (ba 12), .ref (ba 13), .ref (ba 14)])), ((ba 0), .inl (cI, 9, .inl (tg.2.1 0))), ((ba 2), .inl (cI, 40, .inl (tg.2.1 2))), ((ba 3), .inl (cI, 40, .inl (tg.2.1 3))), ((ba 4), .inl (cZ, 40, .inl (tg.2.1 4))), ((ba 5), .inl (cJ, 40, .inr (.inl (tg.2.2 5)))), ((ba 6), .inl (cJ, 40, .inr (.inl (tg.2.2 6)))), ((ba 7), .inl (cI, 40, .inl (tg.2.1 7))), ((ba 8), .inl (cI, 40, .inl (tg.2.1 8))), ((ba 9), .inl (cI, 40, .inl (tg.2.1 9))), ((ba 10), .inl (cI, 40, .inl (tg.2.1 10))), ((ba 11), .inl (cI, 40, .inl (tg.2.1 11))), ((ba 12), .inl (cI, 40, .inl (tg.2.1 12))), ((ba 13), .inl (cI, 40, .inl (upd (tg.2.1 13) (k - 1) ((fX0_latencyOf tg.1 (upB tg.2.1 14 (upd (tg.2.1 14) (k - 1) (1))) tg.2.2 (k - 1)))))), ((ba 14), .inl (cZ, 40, .inl (upd (tg.2.1 14) (k - 1) (1))))] H := hP
            have hD : va_D A [((ba 1), .inr (0, [.ref (ba 0), .int (nI tg.1), .ref (ba 2), .ref (ba 3), .ref (ba 4), .ref (ba 5), .ref (ba 6), .ref (ba 7), .ref (ba 8), .ref (ba 9), .ref (ba 10), .ref (ba 11), .ref (ba 12), .ref (ba 13), .ref (ba 14)])), ((ba 0), .inl (cI, 9, .inl (tg.2.1 0))), ((ba 2), .inl (cI, 40, .inl (tg.2.1 2))), ((ba 3), .inl (cI, 40, .inl (tg.2.1 3))), ((ba 4), .inl (cZ, 40, .inl (tg.2.1 4))), ((ba 5), .inl (cJ, 40, .inr (.inl (tg.2.2 5)))), ((ba 6), .inl (cJ, 40, .inr (.inl (tg.2.2 6)))), ((ba 7), .inl (cI, 40, .inl (tg.2.1 7))), ((ba 8), .inl (cI, 40, .inl (tg.2.1 8))), ((ba 9), .inl (cI, 40, .inl (tg.2.1 9))), ((ba 10), .inl (cI, 40, .inl (tg.2.1 10))), ((ba 11), .inl (cI, 40, .inl (tg.2.1 11))), ((ba 12), .inl (cI, 40, .inl (tg.2.1 12))), ((ba 13), .inl (cI, 40, .inl (upd (tg.2.1 13) (k - 1) ((fX0_latencyOf tg.1 (upB tg.2.1 14 (upd (tg.2.1 14) (k - 1) (1))) tg.2.2 (k - 1)))))), ((ba 14), .inl (cZ, 40, .inl (upd (tg.2.1 14) (k - 1) (1))))] := hD
            refine lv_iinc (v := dn (k - 1)) (lv' := [(1, .int (dn (k - 1))), (3, .int (nI ((fX0_survey_17 tg k 41 k 0).1))), (2, .int ((fX0_survey_17 tg k 41 k 0).2)), (0, .ref (ba 1))]) hx hb dX0_survey_97 hl (k := 2) rfl (dn_step hk0) (by decide) rfl (fun ls hl => ?_)
            refine lv_goto (tgt := 7) hx hb dX0_survey_100 (by decide) ?_
            exact ih7 (k - 1) (tg.1, (upB (upB tg.2.1 13 (upd (tg.2.1 13) (k - 1) ((fX0_latencyOf tg.1 (upB tg.2.1 14 (upd (tg.2.1 14) (k - 1) (1))) tg.2.2 (k - 1))))) 14 (upd (tg.2.1 14) (k - 1) (1))), tg.2.2) H _ ls (⟨⟨by show k - 1 ≤ tg.1; omega, hnn⟩, by have := hm7.2.1; omega, hm7.2.2⟩) hP hD hS (lv_sub hl [0, 3] rfl) ((show (fX0_survey_7 q7 (k - 1) (tg.1, (upB (upB tg.2.1 13 (upd (tg.2.1 13) (k - 1) ((fX0_latencyOf tg.1 (upB tg.2.1 14 (upd (tg.2.1 14) (k - 1) (1))) tg.2.2 (k - 1))))) 14 (upd (tg.2.1 14) (k - 1) (1))), tg.2.2)) = (fX0_survey_7 (q7 + 1) k tg) by rw [fX0_survey_7, if_neg c_3, if_neg c_4, if_pos c_6]).trans hv)
          · refine lv_iload_n hx hb dX0_survey_87 rfl (lv_at hl 1 rfl) ?_
            refine lv_goto (tgt := 96) hx hb dX0_survey_88 (by decide) ?_
            refine my_iast (j := k - 1) hx hb hK hP hD hS 13 0 rfl rfl (hi) (by decide) dX0_survey_96 (fun H locs hP hD hS => ?_)
            have hP : va_P (dC, dI) vwCl [((ba 1), .inr (0, [.ref (ba 0), .int (nI tg.1), .ref (ba 2), .ref (ba 3), .ref (ba 4), .ref (ba 5), .ref (ba 6), .ref (ba 7), .ref (ba 8), .ref (ba 9), .ref (ba 10), .ref (ba 11), .ref (ba 12), .ref (ba 13), .ref (ba 14)])), ((ba 0), .inl (cI, 9, .inl (tg.2.1 0))), ((ba 2), .inl (cI, 40, .inl (tg.2.1 2))), ((ba 3), .inl (cI, 40, .inl (tg.2.1 3))), ((ba 4), .inl (cZ, 40, .inl (tg.2.1 4))), ((ba 5), .inl (cJ, 40, .inr (.inl (tg.2.2 5)))), ((ba 6), .inl (cJ, 40, .inr (.inl (tg.2.2 6)))), ((ba 7), .inl (cI, 40, .inl (tg.2.1 7))), ((ba 8), .inl (cI, 40, .inl (tg.2.1 8))), ((ba 9), .inl (cI, 40, .inl (tg.2.1 9))), ((ba 10), .inl (cI, 40, .inl (tg.2.1 10))), ((ba 11), .inl (cI, 40, .inl (tg.2.1 11))), ((ba 12), .inl (cI, 40, .inl (tg.2.1 12))), ((ba 13), .inl (cI, 40, .inl (upd (tg.2.1 13) (k - 1) ((fX0_survey_17 tg k 41 k 0).2)))), ((ba 14), .inl (cZ, 40, .inl (upd (tg.2.1 14) (k - 1) (1))))] H := hP
            have hD : va_D A [((ba 1), .inr (0, [.ref (ba 0), .int (nI tg.1), .ref (ba 2), .ref (ba 3), .ref (ba 4), .ref (ba 5), .ref (ba 6), .ref (ba 7), .ref (ba 8), .ref (ba 9), .ref (ba 10), .ref (ba 11), .ref (ba 12), .ref (ba 13), .ref (ba 14)])), ((ba 0), .inl (cI, 9, .inl (tg.2.1 0))), ((ba 2), .inl (cI, 40, .inl (tg.2.1 2))), ((ba 3), .inl (cI, 40, .inl (tg.2.1 3))), ((ba 4), .inl (cZ, 40, .inl (tg.2.1 4))), ((ba 5), .inl (cJ, 40, .inr (.inl (tg.2.2 5)))), ((ba 6), .inl (cJ, 40, .inr (.inl (tg.2.2 6)))), ((ba 7), .inl (cI, 40, .inl (tg.2.1 7))), ((ba 8), .inl (cI, 40, .inl (tg.2.1 8))), ((ba 9), .inl (cI, 40, .inl (tg.2.1 9))), ((ba 10), .inl (cI, 40, .inl (tg.2.1 10))), ((ba 11), .inl (cI, 40, .inl (tg.2.1 11))), ((ba 12), .inl (cI, 40, .inl (tg.2.1 12))), ((ba 13), .inl (cI, 40, .inl (upd (tg.2.1 13) (k - 1) ((fX0_survey_17 tg k 41 k 0).2)))), ((ba 14), .inl (cZ, 40, .inl (upd (tg.2.1 14) (k - 1) (1))))] := hD
            refine lv_iinc (v := dn (k - 1)) (lv' := [(1, .int (dn (k - 1))), (3, .int (nI ((fX0_survey_17 tg k 41 k 0).1))), (2, .int ((fX0_survey_17 tg k 41 k 0).2)), (0, .ref (ba 1))]) hx hb dX0_survey_97 hl (k := 2) rfl (dn_step hk0) (by decide) rfl (fun ls hl => ?_)
            refine lv_goto (tgt := 7) hx hb dX0_survey_100 (by decide) ?_
            exact ih7 (k - 1) (tg.1, (upB (upB tg.2.1 13 (upd (tg.2.1 13) (k - 1) ((fX0_survey_17 tg k 41 k 0).2))) 14 (upd (tg.2.1 14) (k - 1) (1))), tg.2.2) H _ ls (⟨⟨by show k - 1 ≤ tg.1; omega, hnn⟩, by have := hm7.2.1; omega, hm7.2.2⟩) hP hD hS (lv_sub hl [0, 3] rfl) ((show (fX0_survey_7 q7 (k - 1) (tg.1, (upB (upB tg.2.1 13 (upd (tg.2.1 13) (k - 1) ((fX0_survey_17 tg k 41 k 0).2))) 14 (upd (tg.2.1 14) (k - 1) (1))), tg.2.2)) = (fX0_survey_7 (q7 + 1) k tg) by rw [fX0_survey_7, if_neg c_3, if_neg c_4, if_neg c_6]).trans hv)
  refine lv_aload_n hx hb dX0_survey_0 rfl (lv_at hl 0 rfl) ?_
  refine va_get (D := (dC, dI)) (ci := 0) (v := .int (nI sg.1)) (C := RX0) (T := TX0) (N := 15) hx hb hts hinX0 hown hK hP 0 rfl rfl 1 (by decide) (hts (.fieldLink RX0 23 "SlotFiller$Block" "size" "I") (by decide +kernel)) (fun _ h9 => h9) rfl dX0_survey_1 ?_
  refine lv_iconst (v := 1) hx hb dX0_survey_4 (by decide) ?_
  refine lv_isub hx hb dX0_survey_5 ?_
  refine top_i (y := dn sg.1) (rfl) ?_
  refine lv_istore_n (lv' := [(1, .int (dn sg.1)), (0, .ref (ba 1))]) hx hb dX0_survey_6 rfl hl (by decide) rfl (fun ls hl => ?_)
  exact J7 (sg.1 + 1) sg.1 sg s.heap _ ls (⟨⟨Nat.le_refl _, hn⟩, Nat.lt_succ_self _, hk⟩) hP hD hS (lv_sub hl [0, 1] rfl) ((show (fX0_survey_7 (sg.1 + 1) sg.1 sg) = (fX0_survey  sg) by unfold fX0_survey; rfl).trans hv)
