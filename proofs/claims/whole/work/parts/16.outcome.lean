/-! ===== Outcome ===== -/
/-- size, duration, ownNops, filled, the arrays -/
abbrev QS : Type := Nat × Int32 × Int32 × Int32 × (Nat → Nat → Int32)
def wQ (cI : ClassId) (qa : Nat → Nat) (t : QS) : va_W := [((qa 0), .inr (2, [.int (nI t.1), .ref (qa 1), .ref (qa 2), .int (t.2.1), .int (t.2.2.1), .int (t.2.2.2.1), .ref (qa 6)])), ((qa 1), .inl (cI, 41, .inl (t.2.2.2.2 1))), ((qa 2), .inl (cI, 41, .inl (t.2.2.2.2 2))), ((qa 6), .inl (cI, 41, .inl (t.2.2.2.2 6)))]
/-- a place in the block, or none -/
def okI (x : Int32) : Prop := x = (-1) ∨ vp_in x 40
def okQ (Q : Nat → Nat → Int32) : Prop := ∀ q, q < 41 → okI (Q 2 q)
theorem nI_lt41 {n : Nat} (hn : n ≤ 41) (h : nI n < 41) : n < 41 := (nI_ltI (b := 41) (by omega) (by omega)).mp h
def fX6_spare_30 (o : OS) (n : Nat) (B : Nat → Nat → Int32) (BL : Nat → Nat → Int64) : Nat → Nat → Int32
  | 0, _ => 0
  | q30 + 1, k => if dn k < 0 then (-1) else if ((B 14) (((o.2 1) (k - 1))).toNatClampNeg) = 0 then if ((B 3) (((o.2 1) (k - 1))).toNatClampNeg) = 8 then (fX6_spare_30 o n B BL q30 (k - 1)) else ((o.2 1) (k - 1)) else (fX6_spare_30 o n B BL q30 (k - 1))
def fX6_spare (o : OS) (n : Nat) (B : Nat → Nat → Int32) (BL : Nat → Nat → Int64) : Int32 := if (fX0_endsInBranch n B BL) = 0 then (-1) else if ((B 4) (n - 1)) = 0 then (fX6_spare_30 o n B BL 41 o.1) else (-1)
set_option maxHeartbeats 4000000 in
set_option maxRecDepth 100000 in
theorem kX6_spare (l : Launch) (dC : Nat → ClassId) (dI : Nat → Nat → Nat) (cI cJ cZ : ClassId) (oa ba : Nat → Nat) (o : OS) (n : Nat) (B : Nat → Nat → Int32) (BL : Nat → Nat → Int64) (sz : Nat) (hp : ∀ q, q < 40 → vp_in (o.2 1 q) 40) (ho : o.1 ≤ 40) (hn : n ≤ 40) (hk : ∀ q, q < 40 → vp_in (B 3 q) 9)  : Met l yX6_spare wsX6_spare ({ frames := 1, cells := 0, slots := 0, locals := 20 }) (ro_Pc (dC, dI) (wO cI cZ oa o ++ wB cI cJ cZ ba n B BL) (tyA cI cJ cZ) [.ref (ba 1), .ref (oa 0)] sz) (ro_Qi (fX6_spare o n B BL) sz) 0 0 (ro sz) := by
  refine Met.ofW (cc := cX6_spare) (maxL := 4) (ret := (some .int)) (by decide) rfl ?_
  intro p e s m args below meth c s₁ B0 hml hv
  obtain ⟨rfl, hsz, hP, hK⟩ := hv
  have hx := B0.exec
  have hb := B0.bytes
  have hr := B0.returns
  have hts := atoms_spec (ws := wsX6_spare) B0.pre
  have hown : s.vm.findClass RX6 = some m.cls := findClass_of_methodNamed B0.named
  have hlocks := B0.notSynchronized
  have hinX5 : ∀ w ∈ wsX50, w ∈ wsX6_spare := fun w h => List.mem_cons_of_mem _ (List.mem_append_right _ (h))
  have hinX0 : ∀ w ∈ wsX00, w ∈ wsX6_spare := fun w h => List.mem_cons_of_mem _ (List.mem_append_left _ (List.mem_append_right _ (h)))
  subst hsz
  have hA : ∀ q : Nat, s.heap.size ≤ q → ro s.heap.size q := fun _ h => h
  have hS : va_S (ro s.heap.size) s.heap s.heap [] := va_S.rf
  have hl := lv_entry ([.ref (ba 1), .ref (oa 0)]) (n := 4) (Nat.le_of_ble_eq_true rfl)
  rw [lg_entry_eq]
  generalize (lg_sl ([.ref (ba 1), .ref (oa 0)]) ++ List.replicate (4 - (lg_sl ([.ref (ba 1), .ref (oa 0)])).length) Slot.unset).toArray = ls at hl ⊢
  have hl : lv_has ls 4 [(0, .ref (ba 1)), (1, .ref (oa 0))] := hl
  have hv : (fX6_spare o n B BL) = (fX6_spare o n B BL) := rfl
  have J30 : ∀ (q30 : Nat) (k : Nat) (H : Heap) (locs : List Loc) (ls : Array Slot), (k ≤ 40 ∧ k < q30) → va_P (dC, dI) vwCl (wO cI cZ oa o ++ wB cI cJ cZ ba n B BL) H → va_S (ro s.heap.size) s.heap H locs → lv_has ls 4 [(2, .int (dn k)), (0, .ref (ba 1)), (1, .ref (oa 0))] → (fX6_spare_30 o n B BL q30 k) = (fX6_spare o n B BL) → W p l e (headSpec wsX6_spare ({ frames := 1, cells := 0, slots := 0, locals := 20 })).room s m ([.ref (ba 1), .ref (oa 0)] : List Value).toArray below meth c H locs 0 0 (MQ below (ro_Qi (fX6_spare o n B BL) s.heap.size) ([.ref (ba 1), .ref (oa 0)] : List Value).toArray s 0 0 ((ro s.heap.size))) (F0 m 30 ls []) := by
    intro q30
    induction q30 with
    | zero => intro k H locs ls hm30 hP hS hl hv; exact absurd hm30 (by omega)
    | succ q30 ih30 =>
      intro k H locs ls hm30 hP hS hl hv
      have hko := hm30.1
      refine lv_iload_n hx hb dX6_spare_30 rfl (lv_at hl 0 rfl) ?_
      refine lv_if_lt (tgt := 69) hx hb dX6_spare_31 (by decide) (fun c_1 => ?_) (fun c_1 => ?_)
      · refine lv_iconst (v := (-1)) hx hb dX6_spare_69 (by decide) ?_
        exact W.iret (v := (-1)) hx hb hr (fun t ht hW => ⟨⟨_, (), rfl, ((show (-1) = (fX6_spare_30 o n B BL (q30 + 1) k) by rw [fX6_spare_30, if_pos c_1]).trans hv), trivial⟩, hS.F ht⟩) hS.2.2 dX6_spare_70
      · have hk0 : 0 < k := dn_pos c_1; have hi : k - 1 < 40 := by omega
        refine lv_aload_n hx hb dX6_spare_34 rfl (lv_at hl 2 rfl) ?_
        refine va_get (D := (dC, dI)) (ci := 1) (v := .ref (oa 1)) (C := RX5) (T := TX5) (N := 5) hx hb hts hinX5 hown hK hP 0 rfl rfl 1 (by decide) (hts (.fieldLink RX6 41 "SlotFiller$Order" "places" "[I") (by decide +kernel)) (fun _ h9 => h9) rfl dX6_spare_35 ?_
        refine lv_iload_n hx hb dX6_spare_38 rfl (lv_at hl 0 rfl) ?_
        refine top_i (y := nI (k - 1)) (dn_eq hk0) ?_
        refine my_iald (j := k - 1) hx hb hK hP 1 0 rfl rfl (hi) (by decide) dX6_spare_39 ?_
        refine lv_istore_n (lv' := [(3, .int (((o.2 1) (k - 1)))), (2, .int (dn k)), (0, .ref (ba 1)), (1, .ref (oa 0))]) hx hb dX6_spare_40 rfl hl (by decide) rfl (fun ls hl => ?_)
        refine lv_aload_n hx hb dX6_spare_41 rfl (lv_at hl 2 rfl) ?_
        refine va_get (D := (dC, dI)) (ci := 0) (v := .ref (ba 14)) (C := RX0) (T := TX0) (N := 15) hx hb hts hinX0 hown hK hP 5 rfl rfl 14 (by decide) (hts (.fieldLink RX6 66 "SlotFiller$Block" "needed" "[Z") (by decide +kernel)) (fun _ h9 => h9) rfl dX6_spare_42 ?_
        refine lv_iload_n hx hb dX6_spare_45 rfl (lv_at hl 0 rfl) ?_
        refine va_zald hx hb hK hP 19 2 rfl rfl (hp _ hi) dX6_spare_46 ?_
        refine lv_if_ne (tgt := 63) hx hb dX6_spare_47 (by decide) (fun c_2 => ?_) (fun c_2 => ?_)
        · refine lv_iinc (v := dn (k - 1)) (lv' := [(2, .int (dn (k - 1))), (3, .int (((o.2 1) (k - 1)))), (0, .ref (ba 1)), (1, .ref (oa 0))]) hx hb dX6_spare_63 hl (k := 1) rfl (dn_step hk0) (by decide) rfl (fun ls hl => ?_)
          refine lv_goto (tgt := 30) hx hb dX6_spare_66 (by decide) ?_
          exact ih30 (k - 1) H _ ls (⟨by omega, by omega⟩) hP hS (lv_sub hl [0, 2, 3] rfl) ((show (fX6_spare_30 o n B BL q30 (k - 1)) = (fX6_spare_30 o n B BL (q30 + 1) k) by rw [fX6_spare_30, if_neg c_1, if_neg c_2]).trans hv)
        · refine lv_aload_n hx hb dX6_spare_50 rfl (lv_at hl 2 rfl) ?_
          refine va_get (D := (dC, dI)) (ci := 0) (v := .ref (ba 3)) (C := RX0) (T := TX0) (N := 15) hx hb hts hinX0 hown hK hP 5 rfl rfl 3 (by decide) (hts (.fieldLink RX6 69 "SlotFiller$Block" "kinds" "[I") (by decide +kernel)) (fun _ h9 => h9) rfl dX6_spare_51 ?_
          refine lv_iload_n hx hb dX6_spare_54 rfl (lv_at hl 0 rfl) ?_
          refine va_iald hx hb hK hP 8 0 rfl rfl (hp _ hi) dX6_spare_55 ?_
          refine lv_bipush (v := 8) hx hb dX6_spare_56 (by decide) ?_
          refine lv_icmp_eq (tgt := 63) hx hb dX6_spare_58 (by decide) (fun c_3 => ?_) (fun c_3 => ?_)
          · refine lv_iinc (v := dn (k - 1)) (lv' := [(2, .int (dn (k - 1))), (3, .int (((o.2 1) (k - 1)))), (0, .ref (ba 1)), (1, .ref (oa 0))]) hx hb dX6_spare_63 hl (k := 1) rfl (dn_step hk0) (by decide) rfl (fun ls hl => ?_)
            refine lv_goto (tgt := 30) hx hb dX6_spare_66 (by decide) ?_
            exact ih30 (k - 1) H _ ls (⟨by omega, by omega⟩) hP hS (lv_sub hl [0, 2, 3] rfl) ((show (fX6_spare_30 o n B BL q30 (k - 1)) = (fX6_spare_30 o n B BL (q30 + 1) k) by rw [fX6_spare_30, if_neg c_1, if_pos c_2, if_pos c_3]).trans hv)
          · refine lv_iload_n hx hb dX6_spare_61 rfl (lv_at hl 0 rfl) ?_
            exact W.iret (v := ((o.2 1) (k - 1))) hx hb hr (fun t ht hW => ⟨⟨_, (), rfl, ((show ((o.2 1) (k - 1)) = (fX6_spare_30 o n B BL (q30 + 1) k) by rw [fX6_spare_30, if_neg c_1, if_pos c_2, if_neg c_3]).trans hv), trivial⟩, hS.F ht⟩) hS.2.2 dX6_spare_62
  refine lv_aload_n hx hb dX6_spare_0 rfl (lv_at hl 0 rfl) ?_
  refine ro_calli (va_runV (As := []) (rest := []) ⟨hx, hb, hml, hown, hts⟩ (kX0_endsInBranch l dC dI cI cJ cZ ba n B BL s.heap.size hn) (cwV 0 hts gX6_spare_X0_endsInBranch rfl rfl rfl (by decide +kernel) ⟨Nat.le_of_ble_eq_true rfl, Nat.le_of_ble_eq_true rfl⟩) (ro_preV 0 0 (q := (RX0, TX0, 15)) rfl rfl (hP.sub [5, 6, 7, 8, 9, 10, 11, 12, 13, 14, 15, 16, 17, 18, 19] rfl) hK) rfl rfl hl.1 rfl (lv_room (Nat.le_of_ble_eq_true rfl)) dX6_spare_1 ⟨Nat.zero_le _, Nat.zero_le _⟩) hS hA (fun H locs kP hS => ?_)
  have hP := kP _ _ _ hP
  refine lv_if_eq (tgt := 21) hx hb dX6_spare_4 (by decide) (fun c_4 => ?_) (fun c_4 => ?_)
  · refine lv_iconst (v := (-1)) hx hb dX6_spare_21 (by decide) ?_
    exact W.iret (v := (-1)) hx hb hr (fun t ht hW => ⟨⟨_, (), rfl, ((show (-1) = (fX6_spare o n B BL) by unfold fX6_spare; rw [if_pos c_4]).trans hv), trivial⟩, hS.F ht⟩) hS.2.2 dX6_spare_22
  · refine lv_aload_n hx hb dX6_spare_7 rfl (lv_at hl 0 rfl) ?_
    refine va_get (D := (dC, dI)) (ci := 0) (v := .ref (ba 4)) (C := RX0) (T := TX0) (N := 15) hx hb hts hinX0 hown hK hP 5 rfl rfl 4 (by decide) (hts (.fieldLink RX6 62 "SlotFiller$Block" "likely" "[Z") (by decide +kernel)) (fun _ h9 => h9) rfl dX6_spare_8 ?_
    refine lv_aload_n hx hb dX6_spare_11 rfl (lv_at hl 0 rfl) ?_
    refine va_get (D := (dC, dI)) (ci := 0) (v := .int (nI n)) (C := RX0) (T := TX0) (N := 15) hx hb hts hinX0 hown hK hP 5 rfl rfl 1 (by decide) (hts (.fieldLink RX6 54 "SlotFiller$Block" "size" "I") (by decide +kernel)) (fun _ h9 => h9) rfl dX6_spare_12 ?_
    refine lv_iconst (v := 1) hx hb dX6_spare_15 (by decide) ?_
    refine lv_isub hx hb dX6_spare_16 ?_
    refine top_i (y := nI (n - 1)) (nI_sub1 (ends_pos c_4)) ?_
    refine my_zald (j := n - 1) hx hb hK hP 9 2 rfl rfl (by have := ends_pos c_4; omega) (by decide) dX6_spare_17 ?_
    refine lv_if_eq (tgt := 23) hx hb dX6_spare_18 (by decide) (fun c_5 => ?_) (fun c_5 => ?_)
    · refine lv_aload_n hx hb dX6_spare_23 rfl (lv_at hl 1 rfl) ?_
      refine va_get (D := (dC, dI)) (ci := 1) (v := .int (nI o.1)) (C := RX5) (T := TX5) (N := 5) hx hb hts hinX5 hown hK hP 0 rfl rfl 0 (by decide) (hts (.fieldLink RX6 38 "SlotFiller$Order" "size" "I") (by decide +kernel)) (fun _ h9 => h9) rfl dX6_spare_24 ?_
      refine lv_iconst (v := 1) hx hb dX6_spare_27 (by decide) ?_
      refine lv_isub hx hb dX6_spare_28 ?_
      refine top_i (y := dn o.1) (rfl) ?_
      refine lv_istore_n (lv' := [(2, .int (dn o.1)), (0, .ref (ba 1)), (1, .ref (oa 0))]) hx hb dX6_spare_29 rfl hl (by decide) rfl (fun ls hl => ?_)
      exact J30 41 o.1 H _ ls (⟨ho, by omega⟩) hP hS (lv_sub hl [0, 1, 2] rfl) ((show (fX6_spare_30 o n B BL 41 o.1) = (fX6_spare o n B BL) by unfold fX6_spare; rw [if_neg c_4, if_pos c_5]).trans hv)
    · refine lv_iconst (v := (-1)) hx hb dX6_spare_21 (by decide) ?_
      exact W.iret (v := (-1)) hx hb hr (fun t ht hW => ⟨⟨_, (), rfl, ((show (-1) = (fX6_spare o n B BL) by unfold fX6_spare; rw [if_neg c_4, if_neg c_5]).trans hv), trivial⟩, hS.F ht⟩) hS.2.2 dX6_spare_22
def fX6_put (o : OS) (n : Nat) (B : Nat → Nat → Int32) (BL : Nat → Nat → Int64) (x : Int32) (sg : QS) : QS := if nI sg.1 < 41 then if x = (-1) then (sg.1 + 1, sg.2.1, sg.2.2.1, sg.2.2.2.1, (upB (upB sg.2.2.2.2 1 (upd (sg.2.2.2.2 1) (sg.1) (0))) 2 (upd (sg.2.2.2.2 2) (sg.1) (x)))) else (sg.1 + 1, sg.2.1, sg.2.2.1, sg.2.2.2.1, (upB (upB sg.2.2.2.2 1 (upd (sg.2.2.2.2 1) (sg.1) (((B 2) (x).toNatClampNeg)))) 2 (upd (sg.2.2.2.2 2) (sg.1) (x)))) else sg
set_option maxHeartbeats 4000000 in
set_option maxRecDepth 100000 in
theorem kX6_put (l : Launch) (dC : Nat → ClassId) (dI : Nat → Nat → Nat) (cI cJ cZ : ClassId) (qa oa ba : Nat → Nat) (o : OS) (n : Nat) (B : Nat → Nat → Int32) (BL : Nat → Nat → Int64) (sz : Nat) (x : Int32) (hx9 : okI x)  (sg : QS) (hq : sg.1 ≤ 41) : Met l yX6_put wsX6_put ({ frames := 0, cells := 0, slots := 0, locals := 0 }) (md_Pc (dC, dI) (wQ cI qa sg ++ (wO cI cZ oa o ++ wB cI cJ cZ ba n B BL)) (tyA cI cJ cZ) [.ref (qa 0), .ref (ba 1), .int (x)] sz) (md_Qv (dC, dI) (wQ cI qa (fX6_put o n B BL x sg) ++ (wO cI cZ oa o ++ wB cI cJ cZ ba n B BL)) (va_A (wQ cI qa sg ++ (wO cI cZ oa o ++ wB cI cJ cZ ba n B BL)) sz)) 0 0 (va_A (wQ cI qa sg ++ (wO cI cZ oa o ++ wB cI cJ cZ ba n B BL)) sz) := by
  refine Met.ofW (cc := cX6_put) (maxL := 3) (ret := none) (by decide) rfl ?_
  intro p e s m args below meth c s₁ B0 hml hv
  obtain ⟨rfl, hsz, hP, hK, hD0⟩ := hv
  have hx := B0.exec
  have hb := B0.bytes
  have hr := B0.returns
  have hts := atoms_spec (ws := wsX6_put) B0.pre
  have hown : s.vm.findClass RX6 = some m.cls := findClass_of_methodNamed B0.named
  have hlocks := B0.notSynchronized
  have hinX6 : ∀ w ∈ wsX60, w ∈ wsX6_put := fun w h => List.mem_cons_of_mem _ (List.mem_append_left _ (List.mem_append_right _ (h)))
  have hinX0 : ∀ w ∈ wsX00, w ∈ wsX6_put := fun w h => List.mem_cons_of_mem _ (List.mem_append_right _ (h))
  subst hsz
  have hD := hD0.self (sz := s.heap.size)
  generalize hAe : va_A (wQ cI qa sg ++ (wO cI cZ oa o ++ wB cI cJ cZ ba n B BL)) s.heap.size = A at hD ⊢
  have hA : ∀ q : Nat, s.heap.size ≤ q → A q := fun q h => by rw [← hAe]; exact Or.inr h
  have hS : va_S A s.heap s.heap [] := va_S.rf
  have hl := lv_entry ([.ref (qa 0), .ref (ba 1), .int (x)]) (n := 3) (Nat.le_of_ble_eq_true rfl)
  rw [lg_entry_eq]
  generalize (lg_sl ([.ref (qa 0), .ref (ba 1), .int (x)]) ++ List.replicate (3 - (lg_sl ([.ref (qa 0), .ref (ba 1), .int (x)])).length) Slot.unset).toArray = ls at hl ⊢
  have hl : lv_has ls 3 [(0, .ref (qa 0)), (1, .ref (ba 1)), (2, .int (x))] := hl
  have hv : (fX6_put o n B BL x sg) = (fX6_put o n B BL x sg) := rfl
  refine lv_aload_n hx hb dX6_put_0 rfl (lv_at hl 0 rfl) ?_
  refine va_get (D := (dC, dI)) (ci := 2) (v := .int (nI sg.1)) (C := RX6) (T := TX6) (N := 7) hx hb hts hinX6 hown hK hP 0 rfl rfl 0 (by decide) (hts (.fieldLink RX6 9 "SlotFiller$Outcome" "size" "I") (by decide +kernel)) (fun _ h9 => h9) rfl dX6_put_1 ?_
  refine lv_bipush (v := 41) hx hb dX6_put_4 (by decide) ?_
  refine lv_icmp_lt (tgt := 10) hx hb dX6_put_6 (by decide) (fun c_1 => ?_) (fun c_1 => ?_)
  · refine lv_aload_n hx hb dX6_put_10 rfl (lv_at hl 0 rfl) ?_
    refine va_get (D := (dC, dI)) (ci := 2) (v := .ref (qa 1)) (C := RX6) (T := TX6) (N := 7) hx hb hts hinX6 hown hK hP 0 rfl rfl 1 (by decide) (hts (.fieldLink RX6 15 "SlotFiller$Outcome" "words" "[I") (by decide +kernel)) (fun _ h9 => h9) rfl dX6_put_11 ?_
    refine lv_aload_n hx hb dX6_put_14 rfl (lv_at hl 0 rfl) ?_
    refine va_get (D := (dC, dI)) (ci := 2) (v := .int (nI sg.1)) (C := RX6) (T := TX6) (N := 7) hx hb hts hinX6 hown hK hP 0 rfl rfl 0 (by decide) (hts (.fieldLink RX6 9 "SlotFiller$Outcome" "size" "I") (by decide +kernel)) (fun _ h9 => h9) rfl dX6_put_15 ?_
    refine lv_iload_n hx hb dX6_put_18 rfl (lv_at hl 2 rfl) ?_
    refine lv_iconst (v := (-1)) hx hb dX6_put_19 (by decide) ?_
    refine lv_icmp_ne (tgt := 27) hx hb dX6_put_20 (by decide) (fun c_2 => ?_) (fun c_2 => ?_)
    · refine lv_aload_n hx hb dX6_put_27 rfl (lv_at hl 1 rfl) ?_
      refine va_get (D := (dC, dI)) (ci := 0) (v := .ref (ba 2)) (C := RX0) (T := TX0) (N := 15) hx hb hts hinX0 hown hK hP 9 rfl rfl 2 (by decide) (hts (.fieldLink RX6 74 "SlotFiller$Block" "words" "[I") (by decide +kernel)) (fun _ h9 => h9) rfl dX6_put_28 ?_
      refine lv_iload_n hx hb dX6_put_31 rfl (lv_at hl 2 rfl) ?_
      refine va_iald hx hb hK hP 11 0 rfl rfl (hx9.resolve_left c_2) dX6_put_32 ?_
      refine my_iast (j := sg.1) hx hb hK hP hD hS 1 0 rfl rfl (nI_lt41 hq c_1) (by decide) dX6_put_33 (fun H locs hP hD hS => ?_)
      have hP : va_P (dC, dI) vwCl ([((qa 0), .inr (2, [.int (nI sg.1), .ref (qa 1), .ref (qa 2), .int (sg.2.1), .int (sg.2.2.1), .int (sg.2.2.2.1), .ref (qa 6)])), ((qa 1), .inl (cI, 41, .inl (upd (sg.2.2.2.2 1) (sg.1) (((B 2) (x).toNatClampNeg))))), ((qa 2), .inl (cI, 41, .inl (sg.2.2.2.2 2))), ((qa 6), .inl (cI, 41, .inl (sg.2.2.2.2 6)))] ++ (wO cI cZ oa o ++ wB cI cJ cZ ba n B BL)) H := hP
      have hD : va_D A ([((qa 0), .inr (2, [.int (nI sg.1), .ref (qa 1), .ref (qa 2), .int (sg.2.1), .int (sg.2.2.1), .int (sg.2.2.2.1), .ref (qa 6)])), ((qa 1), .inl (cI, 41, .inl (upd (sg.2.2.2.2 1) (sg.1) (((B 2) (x).toNatClampNeg))))), ((qa 2), .inl (cI, 41, .inl (sg.2.2.2.2 2))), ((qa 6), .inl (cI, 41, .inl (sg.2.2.2.2 6)))] ++ (wO cI cZ oa o ++ wB cI cJ cZ ba n B BL)) := hD
      refine lv_aload_n hx hb dX6_put_34 rfl (lv_at hl 0 rfl) ?_
      refine va_get (D := (dC, dI)) (ci := 2) (v := .ref (qa 2)) (C := RX6) (T := TX6) (N := 7) hx hb hts hinX6 hown hK hP 0 rfl rfl 2 (by decide) (hts (.fieldLink RX6 19 "SlotFiller$Outcome" "origins" "[I") (by decide +kernel)) (fun _ h9 => h9) rfl dX6_put_35 ?_
      refine lv_aload_n hx hb dX6_put_38 rfl (lv_at hl 0 rfl) ?_
      refine va_get (D := (dC, dI)) (ci := 2) (v := .int (nI sg.1)) (C := RX6) (T := TX6) (N := 7) hx hb hts hinX6 hown hK hP 0 rfl rfl 0 (by decide) (hts (.fieldLink RX6 9 "SlotFiller$Outcome" "size" "I") (by decide +kernel)) (fun _ h9 => h9) rfl dX6_put_39 ?_
      refine lv_iload_n hx hb dX6_put_42 rfl (lv_at hl 2 rfl) ?_
      refine my_iast (j := sg.1) hx hb hK hP hD hS 2 0 rfl rfl (nI_lt41 hq c_1) (by decide) dX6_put_43 (fun H locs hP hD hS => ?_)
      have hP : va_P (dC, dI) vwCl ([((qa 0), .inr (2, [.int (nI sg.1), .ref (qa 1), .ref (qa 2), .int (sg.2.1), .int (sg.2.2.1), .int (sg.2.2.2.1), .ref (qa 6)])), ((qa 1), .inl (cI, 41, .inl (upd (sg.2.2.2.2 1) (sg.1) (((B 2) (x).toNatClampNeg))))), ((qa 2), .inl (cI, 41, .inl (upd (sg.2.2.2.2 2) (sg.1) (x)))), ((qa 6), .inl (cI, 41, .inl (sg.2.2.2.2 6)))] ++ (wO cI cZ oa o ++ wB cI cJ cZ ba n B BL)) H := hP
      have hD : va_D A ([((qa 0), .inr (2, [.int (nI sg.1), .ref (qa 1), .ref (qa 2), .int (sg.2.1), .int (sg.2.2.1), .int (sg.2.2.2.1), .ref (qa 6)])), ((qa 1), .inl (cI, 41, .inl (upd (sg.2.2.2.2 1) (sg.1) (((B 2) (x).toNatClampNeg))))), ((qa 2), .inl (cI, 41, .inl (upd (sg.2.2.2.2 2) (sg.1) (x)))), ((qa 6), .inl (cI, 41, .inl (sg.2.2.2.2 6)))] ++ (wO cI cZ oa o ++ wB cI cJ cZ ba n B BL)) := hD
      refine lv_aload_n hx hb dX6_put_44 rfl (lv_at hl 0 rfl) ?_
      refine lv_dup hx hb dX6_put_45 rfl ?_
      refine va_get (D := (dC, dI)) (ci := 2) (v := .int (nI sg.1)) (C := RX6) (T := TX6) (N := 7) hx hb hts hinX6 hown hK hP 0 rfl rfl 0 (by decide) (hts (.fieldLink RX6 9 "SlotFiller$Outcome" "size" "I") (by decide +kernel)) (fun _ h9 => h9) rfl dX6_put_46 ?_
      refine lv_iconst (v := 1) hx hb dX6_put_49 (by decide) ?_
      refine lv_iadd hx hb dX6_put_50 ?_
      refine top_i (y := nI (sg.1 + 1)) (nI_1 _) ?_
      refine va_put (D := (dC, dI)) (ci := 2) (v := .int (nI (sg.1 + 1))) (ty := .int) (C := RX6) (T := TX6) (N := 7) hx hb hts hinX6 tyX6 tyX6_ok nmX6 hown hK hP hD hS 0 rfl rfl 0 (by decide) (hts (.fieldLink RX6 9 "SlotFiller$Outcome" "size" "I") (by decide +kernel)) (fun _ h9 => h9) rfl (by decide +kernel) rfl rfl (Nat.le_of_ble_eq_true rfl) dX6_put_51 (fun H locs hP hD hS => ?_)
      have hP : va_P (dC, dI) vwCl ([((qa 0), .inr (2, [.int (nI (sg.1 + 1)), .ref (qa 1), .ref (qa 2), .int (sg.2.1), .int (sg.2.2.1), .int (sg.2.2.2.1), .ref (qa 6)])), ((qa 1), .inl (cI, 41, .inl (upd (sg.2.2.2.2 1) (sg.1) (((B 2) (x).toNatClampNeg))))), ((qa 2), .inl (cI, 41, .inl (upd (sg.2.2.2.2 2) (sg.1) (x)))), ((qa 6), .inl (cI, 41, .inl (sg.2.2.2.2 6)))] ++ (wO cI cZ oa o ++ wB cI cJ cZ ba n B BL)) H := hP
      have hD : va_D A ([((qa 0), .inr (2, [.int (nI (sg.1 + 1)), .ref (qa 1), .ref (qa 2), .int (sg.2.1), .int (sg.2.2.1), .int (sg.2.2.2.1), .ref (qa 6)])), ((qa 1), .inl (cI, 41, .inl (upd (sg.2.2.2.2 1) (sg.1) (((B 2) (x).toNatClampNeg))))), ((qa 2), .inl (cI, 41, .inl (upd (sg.2.2.2.2 2) (sg.1) (x)))), ((qa 6), .inl (cI, 41, .inl (sg.2.2.2.2 6)))] ++ (wO cI cZ oa o ++ wB cI cJ cZ ba n B BL)) := hD
      have e9 : (sg.1 + 1, sg.2.1, sg.2.2.1, sg.2.2.2.1, (upB (upB sg.2.2.2.2 1 (upd (sg.2.2.2.2 1) (sg.1) (((B 2) (x).toNatClampNeg)))) 2 (upd (sg.2.2.2.2 2) (sg.1) (x)))) = (fX6_put o n B BL x sg) := ((show (sg.1 + 1, sg.2.1, sg.2.2.1, sg.2.2.2.1, (upB (upB sg.2.2.2.2 1 (upd (sg.2.2.2.2 1) (sg.1) (((B 2) (x).toNatClampNeg)))) 2 (upd (sg.2.2.2.2 2) (sg.1) (x)))) = (fX6_put o n B BL x sg) by unfold fX6_put; rw [if_pos c_1, if_neg c_2]).trans hv)
      have hP : va_P (dC, dI) vwCl (wQ cI qa (fX6_put o n B BL x sg) ++ (wO cI cZ oa o ++ wB cI cJ cZ ba n B BL)) H := by rw [← e9]; exact hP
      have hD : va_D A (wQ cI qa (fX6_put o n B BL x sg) ++ (wO cI cZ oa o ++ wB cI cJ cZ ba n B BL)) := by rw [← e9]; exact hD
      exact W.vret hx hb hr (fun t ht hW => ⟨⟨(), rfl, trivial, by rw [ht]; exact hP, hD⟩, hS.F ht⟩) hS.2.2 dX6_put_54
    · refine lv_iconst (v := 0) hx hb dX6_put_23 (by decide) ?_
      refine lv_goto (tgt := 33) hx hb dX6_put_24 (by decide) ?_
      refine my_iast (j := sg.1) hx hb hK hP hD hS 1 0 rfl rfl (nI_lt41 hq c_1) (by decide) dX6_put_33 (fun H locs hP hD hS => ?_)
      have hP : va_P (dC, dI) vwCl ([((qa 0), .inr (2, [.int (nI sg.1), .ref (qa 1), .ref (qa 2), .int (sg.2.1), .int (sg.2.2.1), .int (sg.2.2.2.1), .ref (qa 6)])), ((qa 1), .inl (cI, 41, .inl (upd (sg.2.2.2.2 1) (sg.1) (0)))), ((qa 2), .inl (cI, 41, .inl (sg.2.2.2.2 2))), ((qa 6), .inl (cI, 41, .inl (sg.2.2.2.2 6)))] ++ (wO cI cZ oa o ++ wB cI cJ cZ ba n B BL)) H := hP
      have hD : va_D A ([((qa 0), .inr (2, [.int (nI sg.1), .ref (qa 1), .ref (qa 2), .int (sg.2.1), .int (sg.2.2.1), .int (sg.2.2.2.1), .ref (qa 6)])), ((qa 1), .inl (cI, 41, .inl (upd (sg.2.2.2.2 1) (sg.1) (0)))), ((qa 2), .inl (cI, 41, .inl (sg.2.2.2.2 2))), ((qa 6), .inl (cI, 41, .inl (sg.2.2.2.2 6)))] ++ (wO cI cZ oa o ++ wB cI cJ cZ ba n B BL)) := hD
      refine lv_aload_n hx hb dX6_put_34 rfl (lv_at hl 0 rfl) ?_
      refine va_get (D := (dC, dI)) (ci := 2) (v := .ref (qa 2)) (C := RX6) (T := TX6) (N := 7) hx hb hts hinX6 hown hK hP 0 rfl rfl 2 (by decide) (hts (.fieldLink RX6 19 "SlotFiller$Outcome" "origins" "[I") (by decide +kernel)) (fun _ h9 => h9) rfl dX6_put_35 ?_
      refine lv_aload_n hx hb dX6_put_38 rfl (lv_at hl 0 rfl) ?_
      refine va_get (D := (dC, dI)) (ci := 2) (v := .int (nI sg.1)) (C := RX6) (T := TX6) (N := 7) hx hb hts hinX6 hown hK hP 0 rfl rfl 0 (by decide) (hts (.fieldLink RX6 9 "SlotFiller$Outcome" "size" "I") (by decide +kernel)) (fun _ h9 => h9) rfl dX6_put_39 ?_
      refine lv_iload_n hx hb dX6_put_42 rfl (lv_at hl 2 rfl) ?_
      refine my_iast (j := sg.1) hx hb hK hP hD hS 2 0 rfl rfl (nI_lt41 hq c_1) (by decide) dX6_put_43 (fun H locs hP hD hS => ?_)
      have hP : va_P (dC, dI) vwCl ([((qa 0), .inr (2, [.int (nI sg.1), .ref (qa 1), .ref (qa 2), .int (sg.2.1), .int (sg.2.2.1), .int (sg.2.2.2.1), .ref (qa 6)])), ((qa 1), .inl (cI, 41, .inl (upd (sg.2.2.2.2 1) (sg.1) (0)))), ((qa 2), .inl (cI, 41, .inl (upd (sg.2.2.2.2 2) (sg.1) (x)))), ((qa 6), .inl (cI, 41, .inl (sg.2.2.2.2 6)))] ++ (wO cI cZ oa o ++ wB cI cJ cZ ba n B BL)) H := hP
      have hD : va_D A ([((qa 0), .inr (2, [.int (nI sg.1), .ref (qa 1), .ref (qa 2), .int (sg.2.1), .int (sg.2.2.1), .int (sg.2.2.2.1), .ref (qa 6)])), ((qa 1), .inl (cI, 41, .inl (upd (sg.2.2.2.2 1) (sg.1) (0)))), ((qa 2), .inl (cI, 41, .inl (upd (sg.2.2.2.2 2) (sg.1) (x)))), ((qa 6), .inl (cI, 41, .inl (sg.2.2.2.2 6)))] ++ (wO cI cZ oa o ++ wB cI cJ cZ ba n B BL)) := hD
      refine lv_aload_n hx hb dX6_put_44 rfl (lv_at hl 0 rfl) ?_
      refine lv_dup hx hb dX6_put_45 rfl ?_
      refine va_get (D := (dC, dI)) (ci := 2) (v := .int (nI sg.1)) (C := RX6) (T := TX6) (N := 7) hx hb hts hinX6 hown hK hP 0 rfl rfl 0 (by decide) (hts (.fieldLink RX6 9 "SlotFiller$Outcome" "size" "I") (by decide +kernel)) (fun _ h9 => h9) rfl dX6_put_46 ?_
      refine lv_iconst (v := 1) hx hb dX6_put_49 (by decide) ?_
      refine lv_iadd hx hb dX6_put_50 ?_
      refine top_i (y := nI (sg.1 + 1)) (nI_1 _) ?_
      refine va_put (D := (dC, dI)) (ci := 2) (v := .int (nI (sg.1 + 1))) (ty := .int) (C := RX6) (T := TX6) (N := 7) hx hb hts hinX6 tyX6 tyX6_ok nmX6 hown hK hP hD hS 0 rfl rfl 0 (by decide) (hts (.fieldLink RX6 9 "SlotFiller$Outcome" "size" "I") (by decide +kernel)) (fun _ h9 => h9) rfl (by decide +kernel) rfl rfl (Nat.le_of_ble_eq_true rfl) dX6_put_51 (fun H locs hP hD hS => ?_)
      have hP : va_P (dC, dI) vwCl ([((qa 0), .inr (2, [.int (nI (sg.1 + 1)), .ref (qa 1), .ref (qa 2), .int (sg.2.1), .int (sg.2.2.1), .int (sg.2.2.2.1), .ref (qa 6)])), ((qa 1), .inl (cI, 41, .inl (upd (sg.2.2.2.2 1) (sg.1) (0)))), ((qa 2), .inl (cI, 41, .inl (upd (sg.2.2.2.2 2) (sg.1) (x)))), ((qa 6), .inl (cI, 41, .inl (sg.2.2.2.2 6)))] ++ (wO cI cZ oa o ++ wB cI cJ cZ ba n B BL)) H := hP
      have hD : va_D A ([((qa 0), .inr (2, [.int (nI (sg.1 + 1)), .ref (qa 1), .ref (qa 2), .int (sg.2.1), .int (sg.2.2.1), .int (sg.2.2.2.1), .ref (qa 6)])), ((qa 1), .inl (cI, 41, .inl (upd (sg.2.2.2.2 1) (sg.1) (0)))), ((qa 2), .inl (cI, 41, .inl (upd (sg.2.2.2.2 2) (sg.1) (x)))), ((qa 6), .inl (cI, 41, .inl (sg.2.2.2.2 6)))] ++ (wO cI cZ oa o ++ wB cI cJ cZ ba n B BL)) := hD
      have e9 : (sg.1 + 1, sg.2.1, sg.2.2.1, sg.2.2.2.1, (upB (upB sg.2.2.2.2 1 (upd (sg.2.2.2.2 1) (sg.1) (0))) 2 (upd (sg.2.2.2.2 2) (sg.1) (x)))) = (fX6_put o n B BL x sg) := ((show (sg.1 + 1, sg.2.1, sg.2.2.1, sg.2.2.2.1, (upB (upB sg.2.2.2.2 1 (upd (sg.2.2.2.2 1) (sg.1) (0))) 2 (upd (sg.2.2.2.2 2) (sg.1) (x)))) = (fX6_put o n B BL x sg) by unfold fX6_put; rw [if_pos c_1, if_pos c_2]).trans hv)
      have hP : va_P (dC, dI) vwCl (wQ cI qa (fX6_put o n B BL x sg) ++ (wO cI cZ oa o ++ wB cI cJ cZ ba n B BL)) H := by rw [← e9]; exact hP
      have hD : va_D A (wQ cI qa (fX6_put o n B BL x sg) ++ (wO cI cZ oa o ++ wB cI cJ cZ ba n B BL)) := by rw [← e9]; exact hD
      exact W.vret hx hb hr (fun t ht hW => ⟨⟨(), rfl, trivial, by rw [ht]; exact hP, hD⟩, hS.F ht⟩) hS.2.2 dX6_put_54
  · have e9 : sg = (fX6_put o n B BL x sg) := ((show sg = (fX6_put o n B BL x sg) by unfold fX6_put; rw [if_neg c_1]).trans hv)
    have hP : va_P (dC, dI) vwCl (wQ cI qa (fX6_put o n B BL x sg) ++ (wO cI cZ oa o ++ wB cI cJ cZ ba n B BL)) s.heap := by rw [← e9]; exact hP
    have hD : va_D A (wQ cI qa (fX6_put o n B BL x sg) ++ (wO cI cZ oa o ++ wB cI cJ cZ ba n B BL)) := by rw [← e9]; exact hD
    exact W.vret hx hb hr (fun t ht hW => ⟨⟨(), rfl, trivial, by rw [ht]; exact hP, hD⟩, hS.F ht⟩) hS.2.2 dX6_put_9
def fX6_fillSlot (o : OS) (n : Nat) (B : Nat → Nat → Int32) (BL : Nat → Nat → Int64) (x : Int32) (sg : QS) : QS := if x = (-1) then ((fX6_put o n B BL x sg).1, (fX6_put o n B BL x sg).2.1, ((fX6_put o n B BL x sg).2.2.1 + 1), (fX6_put o n B BL x sg).2.2.2.1, (fX6_put o n B BL x sg).2.2.2.2) else ((fX6_put o n B BL x sg).1, (fX6_put o n B BL x sg).2.1, (fX6_put o n B BL x sg).2.2.1, 1, (fX6_put o n B BL x sg).2.2.2.2)
set_option maxHeartbeats 4000000 in
set_option maxRecDepth 100000 in
theorem kX6_fillSlot (l : Launch) (dC : Nat → ClassId) (dI : Nat → Nat → Nat) (cI cJ cZ : ClassId) (qa oa ba : Nat → Nat) (o : OS) (n : Nat) (B : Nat → Nat → Int32) (BL : Nat → Nat → Int64) (sz : Nat) (x : Int32) (hx9 : okI x)  (sg : QS) (hq : sg.1 ≤ 41) : Met l yX6_fillSlot wsX6_fillSlot ({ frames := 1, cells := 0, slots := 0, locals := 22 }) (md_Pc (dC, dI) (wQ cI qa sg ++ (wO cI cZ oa o ++ wB cI cJ cZ ba n B BL)) (tyA cI cJ cZ) [.ref (qa 0), .ref (ba 1), .int (x)] sz) (md_Qv (dC, dI) (wQ cI qa (fX6_fillSlot o n B BL x sg) ++ (wO cI cZ oa o ++ wB cI cJ cZ ba n B BL)) (va_A (wQ cI qa sg ++ (wO cI cZ oa o ++ wB cI cJ cZ ba n B BL)) sz)) 0 0 (va_A (wQ cI qa sg ++ (wO cI cZ oa o ++ wB cI cJ cZ ba n B BL)) sz) := by
  refine Met.ofW (cc := cX6_fillSlot) (maxL := 3) (ret := none) (by decide) rfl ?_
  intro p e s m args below meth c s₁ B0 hml hv
  obtain ⟨rfl, hsz, hP, hK, hD0⟩ := hv
  have hx := B0.exec
  have hb := B0.bytes
  have hr := B0.returns
  have hts := atoms_spec (ws := wsX6_fillSlot) B0.pre
  have hown : s.vm.findClass RX6 = some m.cls := findClass_of_methodNamed B0.named
  have hlocks := B0.notSynchronized
  have hinX6 : ∀ w ∈ wsX60, w ∈ wsX6_fillSlot := fun w h => List.mem_cons_of_mem _ (List.mem_append_left _ (List.mem_append_right _ (h)))
  have hinX0 : ∀ w ∈ wsX00, w ∈ wsX6_fillSlot := fun w h => List.mem_cons_of_mem _ (List.mem_append_right _ (h))
  subst hsz
  have hD := hD0.self (sz := s.heap.size)
  generalize hAe : va_A (wQ cI qa sg ++ (wO cI cZ oa o ++ wB cI cJ cZ ba n B BL)) s.heap.size = A at hD ⊢
  have hA : ∀ q : Nat, s.heap.size ≤ q → A q := fun q h => by rw [← hAe]; exact Or.inr h
  have hS : va_S A s.heap s.heap [] := va_S.rf
  have hl := lv_entry ([.ref (qa 0), .ref (ba 1), .int (x)]) (n := 3) (Nat.le_of_ble_eq_true rfl)
  rw [lg_entry_eq]
  generalize (lg_sl ([.ref (qa 0), .ref (ba 1), .int (x)]) ++ List.replicate (3 - (lg_sl ([.ref (qa 0), .ref (ba 1), .int (x)])).length) Slot.unset).toArray = ls at hl ⊢
  have hl : lv_has ls 3 [(0, .ref (qa 0)), (1, .ref (ba 1)), (2, .int (x))] := hl
  have hv : (fX6_fillSlot o n B BL x sg) = (fX6_fillSlot o n B BL x sg) := rfl
  refine lv_aload_n hx hb dX6_fillSlot_0 rfl (lv_at hl 0 rfl) ?_
  refine lv_aload_n hx hb dX6_fillSlot_1 rfl (lv_at hl 1 rfl) ?_
  refine lv_iload_n hx hb dX6_fillSlot_2 rfl (lv_at hl 2 rfl) ?_
  refine md_callv (wr := []) (va_runV (As := [.ref (ba 1), .int (x)]) (rest := []) ⟨hx, hb, hml, hown, hts⟩ (kX6_put l dC dI cI cJ cZ qa oa ba o n B BL s.heap.size x hx9 sg hq) (cwV 2 hts gX6_fillSlot_X6_put rfl rfl rfl (by decide +kernel) ⟨Nat.le_of_ble_eq_true rfl, Nat.le_of_ble_eq_true rfl⟩) (md_preV 0 2 (q := (RX6, TX6, 7)) rfl rfl hP hK hD) rfl rfl hl.1 rfl (lv_room (Nat.le_of_ble_eq_true rfl)) dX6_fillSlot_3 ⟨Nat.zero_le _, Nat.zero_le _⟩) hS hA hP hD [0, 1, 2, 3, 4, 5, 6, 7, 8, 9, 10, 11, 12, 13, 14, 15, 16, 17, 18, 19, 20, 21, 22, 23] [] rfl rfl (by decide) (by decide) (fun H locs hP hD hS => ?_)
  have hP : va_P (dC, dI) vwCl (wQ cI qa (fX6_put o n B BL x sg) ++ (wO cI cZ oa o ++ wB cI cJ cZ ba n B BL)) H := hP
  have hD : va_D A (wQ cI qa (fX6_put o n B BL x sg) ++ (wO cI cZ oa o ++ wB cI cJ cZ ba n B BL)) := hD
  refine lv_iload_n hx hb dX6_fillSlot_6 rfl (lv_at hl 2 rfl) ?_
  refine lv_iconst (v := (-1)) hx hb dX6_fillSlot_7 (by decide) ?_
  refine lv_icmp_ne (tgt := 24) hx hb dX6_fillSlot_8 (by decide) (fun c_1 => ?_) (fun c_1 => ?_)
  · refine lv_aload_n hx hb dX6_fillSlot_24 rfl (lv_at hl 0 rfl) ?_
    refine lv_iconst (v := 1) hx hb dX6_fillSlot_25 (by decide) ?_
    refine va_put (D := (dC, dI)) (ci := 2) (v := .int (1)) (ty := .int) (C := RX6) (T := TX6) (N := 7) hx hb hts hinX6 tyX6 tyX6_ok nmX6 hown hK hP hD hS 0 rfl rfl 5 (by decide) (hts (.fieldLink RX6 28 "SlotFiller$Outcome" "filled" "I") (by decide +kernel)) (fun _ h9 => h9) rfl (by decide +kernel) rfl rfl (Nat.le_of_ble_eq_true rfl) dX6_fillSlot_26 (fun H locs hP hD hS => ?_)
    have hP : va_P (dC, dI) vwCl ([((qa 0), .inr (2, [.int (nI ((fX6_put o n B BL x sg).1)), .ref (qa 1), .ref (qa 2), .int ((fX6_put o n B BL x sg).2.1), .int ((fX6_put o n B BL x sg).2.2.1), .int (1), .ref (qa 6)])), ((qa 1), .inl (cI, 41, .inl (((fX6_put o n B BL x sg).2.2.2.2) 1))), ((qa 2), .inl (cI, 41, .inl (((fX6_put o n B BL x sg).2.2.2.2) 2))), ((qa 6), .inl (cI, 41, .inl (((fX6_put o n B BL x sg).2.2.2.2) 6)))] ++ (wO cI cZ oa o ++ wB cI cJ cZ ba n B BL)) H := hP
    have hD : va_D A ([((qa 0), .inr (2, [.int (nI ((fX6_put o n B BL x sg).1)), .ref (qa 1), .ref (qa 2), .int ((fX6_put o n B BL x sg).2.1), .int ((fX6_put o n B BL x sg).2.2.1), .int (1), .ref (qa 6)])), ((qa 1), .inl (cI, 41, .inl (((fX6_put o n B BL x sg).2.2.2.2) 1))), ((qa 2), .inl (cI, 41, .inl (((fX6_put o n B BL x sg).2.2.2.2) 2))), ((qa 6), .inl (cI, 41, .inl (((fX6_put o n B BL x sg).2.2.2.2) 6)))] ++ (wO cI cZ oa o ++ wB cI cJ cZ ba n B BL)) := hD
    have e9 : ((fX6_put o n B BL x sg).1, (fX6_put o n B BL x sg).2.1, (fX6_put o n B BL x sg).2.2.1, 1, (fX6_put o n B BL x sg).2.2.2.2) = (fX6_fillSlot o n B BL x sg) := ((show ((fX6_put o n B BL x sg).1, (fX6_put o n B BL x sg).2.1, (fX6_put o n B BL x sg).2.2.1, 1, (fX6_put o n B BL x sg).2.2.2.2) = (fX6_fillSlot o n B BL x sg) by unfold fX6_fillSlot; rw [if_neg c_1]).trans hv)
    have hP : va_P (dC, dI) vwCl (wQ cI qa (fX6_fillSlot o n B BL x sg) ++ (wO cI cZ oa o ++ wB cI cJ cZ ba n B BL)) H := by rw [← e9]; exact hP
    have hD : va_D A (wQ cI qa (fX6_fillSlot o n B BL x sg) ++ (wO cI cZ oa o ++ wB cI cJ cZ ba n B BL)) := by rw [← e9]; exact hD
    exact W.vret hx hb hr (fun t ht hW => ⟨⟨(), rfl, trivial, by rw [ht]; exact hP, hD⟩, hS.F ht⟩) hS.2.2 dX6_fillSlot_29
  · refine lv_aload_n hx hb dX6_fillSlot_11 rfl (lv_at hl 0 rfl) ?_
    refine lv_dup hx hb dX6_fillSlot_12 rfl ?_
    refine va_get (D := (dC, dI)) (ci := 2) (v := .int ((fX6_put o n B BL x sg).2.2.1)) (C := RX6) (T := TX6) (N := 7) hx hb hts hinX6 hown hK hP 0 rfl rfl 4 (by decide) (hts (.fieldLink RX6 25 "SlotFiller$Outcome" "ownNops" "I") (by decide +kernel)) (fun _ h9 => h9) rfl dX6_fillSlot_13 ?_
    refine lv_iconst (v := 1) hx hb dX6_fillSlot_16 (by decide) ?_
    refine lv_iadd hx hb dX6_fillSlot_17 ?_
    refine va_put (D := (dC, dI)) (ci := 2) (v := .int (((fX6_put o n B BL x sg).2.2.1 + 1))) (ty := .int) (C := RX6) (T := TX6) (N := 7) hx hb hts hinX6 tyX6 tyX6_ok nmX6 hown hK hP hD hS 0 rfl rfl 4 (by decide) (hts (.fieldLink RX6 25 "SlotFiller$Outcome" "ownNops" "I") (by decide +kernel)) (fun _ h9 => h9) rfl (by decide +kernel) rfl rfl (Nat.le_of_ble_eq_true rfl) dX6_fillSlot_18 (fun H locs hP hD hS => ?_)
    have hP : va_P (dC, dI) vwCl ([((qa 0), .inr (2, [.int (nI ((fX6_put o n B BL x sg).1)), .ref (qa 1), .ref (qa 2), .int ((fX6_put o n B BL x sg).2.1), .int (((fX6_put o n B BL x sg).2.2.1 + 1)), .int ((fX6_put o n B BL x sg).2.2.2.1), .ref (qa 6)])), ((qa 1), .inl (cI, 41, .inl (((fX6_put o n B BL x sg).2.2.2.2) 1))), ((qa 2), .inl (cI, 41, .inl (((fX6_put o n B BL x sg).2.2.2.2) 2))), ((qa 6), .inl (cI, 41, .inl (((fX6_put o n B BL x sg).2.2.2.2) 6)))] ++ (wO cI cZ oa o ++ wB cI cJ cZ ba n B BL)) H := hP
    have hD : va_D A ([((qa 0), .inr (2, [.int (nI ((fX6_put o n B BL x sg).1)), .ref (qa 1), .ref (qa 2), .int ((fX6_put o n B BL x sg).2.1), .int (((fX6_put o n B BL x sg).2.2.1 + 1)), .int ((fX6_put o n B BL x sg).2.2.2.1), .ref (qa 6)])), ((qa 1), .inl (cI, 41, .inl (((fX6_put o n B BL x sg).2.2.2.2) 1))), ((qa 2), .inl (cI, 41, .inl (((fX6_put o n B BL x sg).2.2.2.2) 2))), ((qa 6), .inl (cI, 41, .inl (((fX6_put o n B BL x sg).2.2.2.2) 6)))] ++ (wO cI cZ oa o ++ wB cI cJ cZ ba n B BL)) := hD
    refine lv_goto (tgt := 29) hx hb dX6_fillSlot_21 (by decide) ?_
    have e9 : ((fX6_put o n B BL x sg).1, (fX6_put o n B BL x sg).2.1, ((fX6_put o n B BL x sg).2.2.1 + 1), (fX6_put o n B BL x sg).2.2.2.1, (fX6_put o n B BL x sg).2.2.2.2) = (fX6_fillSlot o n B BL x sg) := ((show ((fX6_put o n B BL x sg).1, (fX6_put o n B BL x sg).2.1, ((fX6_put o n B BL x sg).2.2.1 + 1), (fX6_put o n B BL x sg).2.2.2.1, (fX6_put o n B BL x sg).2.2.2.2) = (fX6_fillSlot o n B BL x sg) by unfold fX6_fillSlot; rw [if_pos c_1]).trans hv)
    have hP : va_P (dC, dI) vwCl (wQ cI qa (fX6_fillSlot o n B BL x sg) ++ (wO cI cZ oa o ++ wB cI cJ cZ ba n B BL)) H := by rw [← e9]; exact hP
    have hD : va_D A (wQ cI qa (fX6_fillSlot o n B BL x sg) ++ (wO cI cZ oa o ++ wB cI cJ cZ ba n B BL)) := by rw [← e9]; exact hD
    exact W.vret hx hb hr (fun t ht hW => ⟨⟨(), rfl, trivial, by rw [ht]; exact hP, hD⟩, hS.F ht⟩) hS.2.2 dX6_fillSlot_29
def fX6_distanceOf (t0 : QS) (n : Nat) (B : Nat → Nat → Int32) (BL : Nat → Nat → Int64) (k : Nat) (m9 : Nat) : Int32 := if ((t0.2.2.2.2 2) (k)) = (-1) then 0 else if ((t0.2.2.2.2 2) (m9)) = (-1) then 0 else (fX0_distance n B BL ((t0.2.2.2.2 2 k).toNatClampNeg) ((t0.2.2.2.2 2 m9).toNatClampNeg))
set_option maxHeartbeats 4000000 in
set_option maxRecDepth 100000 in
theorem kX6_distanceOf (l : Launch) (dC : Nat → ClassId) (dI : Nat → Nat → Nat) (cI cJ cZ : ClassId) (t0 : QS) (qa oa ba : Nat → Nat) (o : OS) (n : Nat) (B : Nat → Nat → Int32) (BL : Nat → Nat → Int64) (sz : Nat) (k m9 : Nat) (hk1 : k < 41) (hm1 : m9 < 41) (hq : okQ t0.2.2.2.2) (hn : n ≤ 40) (hk : ∀ q, q < 40 → vp_in (B 3 q) 9)  : Met l yX6_distanceOf wsX6_distanceOf ({ frames := 3, cells := 0, slots := 0, locals := 70 }) (ro_Pc (dC, dI) (wQ cI qa t0 ++ (wO cI cZ oa o ++ wB cI cJ cZ ba n B BL)) (tyA cI cJ cZ) [.ref (qa 0), .ref (ba 1), .int (nI k), .int (nI m9)] sz) (ro_Qi (fX6_distanceOf t0 n B BL k m9) sz) 0 0 (ro sz) := by
  refine Met.ofW (cc := cX6_distanceOf) (maxL := 4) (ret := (some .int)) (by decide) rfl ?_
  intro p e s m args below meth c s₁ B0 hml hv
  obtain ⟨rfl, hsz, hP, hK⟩ := hv
  have hx := B0.exec
  have hb := B0.bytes
  have hr := B0.returns
  have hts := atoms_spec (ws := wsX6_distanceOf) B0.pre
  have hown : s.vm.findClass RX6 = some m.cls := findClass_of_methodNamed B0.named
  have hlocks := B0.notSynchronized
  have hinX6 : ∀ w ∈ wsX60, w ∈ wsX6_distanceOf := fun w h => List.mem_cons_of_mem _ (List.mem_append_left _ (List.mem_append_right _ (h)))
  have hinX0 : ∀ w ∈ wsX00, w ∈ wsX6_distanceOf := fun w h => List.mem_cons_of_mem _ (List.mem_append_right _ (h))
  subst hsz
  have hA : ∀ q : Nat, s.heap.size ≤ q → ro s.heap.size q := fun _ h => h
  have hS : va_S (ro s.heap.size) s.heap s.heap [] := va_S.rf
  have hl := lv_entry ([.ref (qa 0), .ref (ba 1), .int (nI k), .int (nI m9)]) (n := 4) (Nat.le_of_ble_eq_true rfl)
  rw [lg_entry_eq]
  generalize (lg_sl ([.ref (qa 0), .ref (ba 1), .int (nI k), .int (nI m9)]) ++ List.replicate (4 - (lg_sl ([.ref (qa 0), .ref (ba 1), .int (nI k), .int (nI m9)])).length) Slot.unset).toArray = ls at hl ⊢
  have hl : lv_has ls 4 [(0, .ref (qa 0)), (1, .ref (ba 1)), (2, .int (nI k)), (3, .int (nI m9))] := hl
  have hv : (fX6_distanceOf t0 n B BL k m9) = (fX6_distanceOf t0 n B BL k m9) := rfl
  refine lv_aload_n hx hb dX6_distanceOf_0 rfl (lv_at hl 0 rfl) ?_
  refine va_get (D := (dC, dI)) (ci := 2) (v := .ref (qa 2)) (C := RX6) (T := TX6) (N := 7) hx hb hts hinX6 hown hK hP 0 rfl rfl 2 (by decide) (hts (.fieldLink RX6 19 "SlotFiller$Outcome" "origins" "[I") (by decide +kernel)) (fun _ h9 => h9) rfl dX6_distanceOf_1 ?_
  refine lv_iload_n hx hb dX6_distanceOf_4 rfl (lv_at hl 2 rfl) ?_
  refine my_iald (j := k) hx hb hK hP 2 0 rfl rfl (hk1) (by decide) dX6_distanceOf_5 ?_
  refine lv_iconst (v := (-1)) hx hb dX6_distanceOf_6 (by decide) ?_
  refine lv_icmp_eq (tgt := 20) hx hb dX6_distanceOf_7 (by decide) (fun c_1 => ?_) (fun c_1 => ?_)
  · refine lv_iconst (v := 0) hx hb dX6_distanceOf_20 (by decide) ?_
    exact W.iret (v := 0) hx hb hr (fun t ht hW => ⟨⟨_, (), rfl, ((show 0 = (fX6_distanceOf t0 n B BL k m9) by unfold fX6_distanceOf; rw [if_pos c_1]).trans hv), trivial⟩, hS.F ht⟩) hS.2.2 dX6_distanceOf_21
  · refine lv_aload_n hx hb dX6_distanceOf_10 rfl (lv_at hl 0 rfl) ?_
    refine va_get (D := (dC, dI)) (ci := 2) (v := .ref (qa 2)) (C := RX6) (T := TX6) (N := 7) hx hb hts hinX6 hown hK hP 0 rfl rfl 2 (by decide) (hts (.fieldLink RX6 19 "SlotFiller$Outcome" "origins" "[I") (by decide +kernel)) (fun _ h9 => h9) rfl dX6_distanceOf_11 ?_
    refine lv_iload_n hx hb dX6_distanceOf_14 rfl (lv_at hl 3 rfl) ?_
    refine my_iald (j := m9) hx hb hK hP 2 0 rfl rfl (hm1) (by decide) dX6_distanceOf_15 ?_
    refine lv_iconst (v := (-1)) hx hb dX6_distanceOf_16 (by decide) ?_
    refine lv_icmp_ne (tgt := 22) hx hb dX6_distanceOf_17 (by decide) (fun c_2 => ?_) (fun c_2 => ?_)
    · refine lv_aload_n hx hb dX6_distanceOf_22 rfl (lv_at hl 1 rfl) ?_
      refine lv_aload_n hx hb dX6_distanceOf_23 rfl (lv_at hl 0 rfl) ?_
      refine va_get (D := (dC, dI)) (ci := 2) (v := .ref (qa 2)) (C := RX6) (T := TX6) (N := 7) hx hb hts hinX6 hown hK hP 0 rfl rfl 2 (by decide) (hts (.fieldLink RX6 19 "SlotFiller$Outcome" "origins" "[I") (by decide +kernel)) (fun _ h9 => h9) rfl dX6_distanceOf_24 ?_
      refine lv_iload_n hx hb dX6_distanceOf_27 rfl (lv_at hl 2 rfl) ?_
      refine my_iald (j := k) hx hb hK hP 2 0 rfl rfl (hk1) (by decide) dX6_distanceOf_28 ?_
      refine top_i (y := nI (t0.2.2.2.2 2 k).toNatClampNeg) ((vp_nI ((hq _ hk1).resolve_left c_1) (by decide)).1) ?_
      refine lv_aload_n hx hb dX6_distanceOf_29 rfl (lv_at hl 0 rfl) ?_
      refine va_get (D := (dC, dI)) (ci := 2) (v := .ref (qa 2)) (C := RX6) (T := TX6) (N := 7) hx hb hts hinX6 hown hK hP 0 rfl rfl 2 (by decide) (hts (.fieldLink RX6 19 "SlotFiller$Outcome" "origins" "[I") (by decide +kernel)) (fun _ h9 => h9) rfl dX6_distanceOf_30 ?_
      refine lv_iload_n hx hb dX6_distanceOf_33 rfl (lv_at hl 3 rfl) ?_
      refine my_iald (j := m9) hx hb hK hP 2 0 rfl rfl (hm1) (by decide) dX6_distanceOf_34 ?_
      refine top_i (y := nI (t0.2.2.2.2 2 m9).toNatClampNeg) ((vp_nI ((hq _ hm1).resolve_left c_2) (by decide)).1) ?_
      refine ro_calli (va_runV (As := [.int (nI (t0.2.2.2.2 2 k).toNatClampNeg), .int (nI (t0.2.2.2.2 2 m9).toNatClampNeg)]) (rest := []) ⟨hx, hb, hml, hown, hts⟩ (kX0_distance l dC dI cI cJ cZ ba n B BL s.heap.size ((t0.2.2.2.2 2 k).toNatClampNeg) ((t0.2.2.2.2 2 m9).toNatClampNeg) (vp_nI ((hq _ hk1).resolve_left c_1) (by decide)).2 (vp_nI ((hq _ hm1).resolve_left c_2) (by decide)).2 hk) (cwV 2 hts gX6_distanceOf_X0_distance rfl rfl rfl (by decide +kernel) ⟨Nat.le_of_ble_eq_true rfl, Nat.le_of_ble_eq_true rfl⟩) (ro_preV 0 0 (q := (RX0, TX0, 15)) rfl rfl (hP.sub [9, 10, 11, 12, 13, 14, 15, 16, 17, 18, 19, 20, 21, 22, 23] rfl) hK) rfl rfl hl.1 rfl (lv_room (Nat.le_of_ble_eq_true rfl)) dX6_distanceOf_35 ⟨Nat.zero_le _, Nat.zero_le _⟩) hS hA (fun H locs kP hS => ?_)
      have hP := kP _ _ _ hP
      exact W.iret (v := (fX0_distance n B BL ((t0.2.2.2.2 2 k).toNatClampNeg) ((t0.2.2.2.2 2 m9).toNatClampNeg))) hx hb hr (fun t ht hW => ⟨⟨_, (), rfl, ((show (fX0_distance n B BL ((t0.2.2.2.2 2 k).toNatClampNeg) ((t0.2.2.2.2 2 m9).toNatClampNeg)) = (fX6_distanceOf t0 n B BL k m9) by unfold fX6_distanceOf; rw [if_neg c_1, if_neg c_2]).trans hv), trivial⟩, hS.F ht⟩) hS.2.2 dX6_distanceOf_38
    · refine lv_iconst (v := 0) hx hb dX6_distanceOf_20 (by decide) ?_
      exact W.iret (v := 0) hx hb hr (fun t ht hW => ⟨⟨_, (), rfl, ((show 0 = (fX6_distanceOf t0 n B BL k m9) by unfold fX6_distanceOf; rw [if_neg c_1, if_pos c_2]).trans hv), trivial⟩, hS.F ht⟩) hS.2.2 dX6_distanceOf_21
