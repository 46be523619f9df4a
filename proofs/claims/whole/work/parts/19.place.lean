theorem upB_same (B : Nat → Nat → Int32) (k : Nat) : upB B k (B k) = B := by
  funext x; unfold upB; split
  · next h => rw [h]
  · rfl
theorem upB_twice (B : Nat → Nat → Int32) (k : Nat) (f g : Nat → Int32) : upB (upB B k f) k g = upB B k g := by
  funext x; unfold upB; split <;> rfl
theorem fh_fr7 : ∀ (q k : Nat) (t : XS), ∃ f, fX9_findHeights_7 q k t = (t.1, t.2.1, t.2.2.1, t.2.2.2.1, t.2.2.2.2.1, t.2.2.2.2.2.1, upB t.2.2.2.2.2.2.1 22 f, t.2.2.2.2.2.2.2) := by
  intro q
  induction q with
  | zero => intro k t; exact ⟨t.2.2.2.2.2.2.1 22, by rw [fX9_findHeights_7, upB_same]⟩
  | succ q ih =>
    intro k t
    rw [fX9_findHeights_7]
    repeat' split
    · exact ⟨t.2.2.2.2.2.2.1 22, by rw [upB_same]⟩
    all_goals
      obtain ⟨f, hf⟩ := ih (k - 1) _
      exact ⟨f, by rw [hf]; simp only [upB_twice]⟩
/-- findHeights changes the heights alone -/
theorem fh_fr (t : XS) : ∃ f, fX9_findHeights t = (t.1, t.2.1, t.2.2.1, t.2.2.2.1, t.2.2.2.2.1, t.2.2.2.2.2.1, upB t.2.2.2.2.2.2.1 22 f, t.2.2.2.2.2.2.2) := fh_fr7 _ _ t
def fX9_filler_38 (t0 : XS) (mm : Nat) (k : Nat) : Nat → Nat → Int32 → Nat × Int32
  | 0, j, v => (j, v)
  | q38 + 1, j, v => if nI t0.2.1 ≤ nI j then (j, v) else if v = 0 then (j, v) else if (fX9_after t0.2.2.2.2.2.2.1 t0.2.2.2.2.2.2.2 j ((t0.2.2.2.2.2.2.1 23 (k - 1)).toNatClampNeg)) = (-1) then (fX9_filler_38 t0 mm k q38 (j + 1) 1) else (fX9_filler_38 t0 mm k q38 (j + 1) 0)
def fX9_filler_4 (t0 : XS) (mm : Nat) : Nat → Nat → Int32
  | 0, _ => 0
  | q4 + 1, k => if dn k < 0 then (-1) else if ((t0.2.2.2.2.2.2.1 5) ((t0.2.2.2.2.2.2.1 23 (k - 1)).toNatClampNeg)) = 8 then if (fX9_filler_38 t0 mm k 42 ((t0.2.2.2.2.2.2.1 23 (k - 1)).toNatClampNeg + 1) 0).2 = 0 then (fX9_filler_4 t0 mm q4 (k - 1)) else dn k else if (fX9_filler_38 t0 mm k 42 ((t0.2.2.2.2.2.2.1 23 (k - 1)).toNatClampNeg + 1) 1).2 = 0 then (fX9_filler_4 t0 mm q4 (k - 1)) else dn k
def fX9_filler (t0 : XS) (mm : Nat) : Int32 := (fX9_filler_4 t0 mm 41 mm)
set_option maxHeartbeats 4000000 in
set_option maxRecDepth 100000 in
theorem kX9_filler (l : Launch) (dC : Nat → ClassId) (dI : Nat → Nat → Nat) (cI cJ cZ : ClassId) (ma : Nat → Nat) (t0 : XS) (sz : Nat) (mm : Nat) (hmm : mm ≤ 40) (hn : t0.2.1 ≤ 40) (hc : okC t0) (ho : okO t0) : Met l yX9_filler wsX9_filler ({ frames := 4, cells := 0, slots := 0, locals := 98 }) (ro_Pc (dC, dI) (wX cI cJ cZ ma t0) (tyA cI cJ cZ) [.ref (ma 0), .int (nI mm)] sz) (ro_Qi (fX9_filler t0 mm) sz) 0 0 (ro sz) := by
  refine Met.ofW (cc := cX9_filler) (maxL := 6) (ret := (some .int)) (by decide) rfl ?_
  intro p e s m args below meth c s₁ B0 hml hv
  obtain ⟨rfl, hsz, hP, hK⟩ := hv
  have hx := B0.exec
  have hb := B0.bytes
  have hr := B0.returns
  have hts := atoms_spec (ws := wsX9_filler) B0.pre
  have hown : s.vm.findClass RX9 = some m.cls := findClass_of_methodNamed B0.named
  have hlocks := B0.notSynchronized
  have hinX9 : ∀ w ∈ wsX90, w ∈ wsX9_filler := fun w h => List.mem_cons_of_mem _ (List.mem_append_right _ (h))
  subst hsz
  have hA : ∀ q : Nat, s.heap.size ≤ q → ro s.heap.size q := fun _ h => h
  have hS : va_S (ro s.heap.size) s.heap s.heap [] := va_S.rf
  have hl := lv_entry ([.ref (ma 0), .int (nI mm)]) (n := 6) (Nat.le_of_ble_eq_true rfl)
  rw [lg_entry_eq]
  generalize (lg_sl ([.ref (ma 0), .int (nI mm)]) ++ List.replicate (6 - (lg_sl ([.ref (ma 0), .int (nI mm)])).length) Slot.unset).toArray = ls at hl ⊢
  have hl : lv_has ls 6 [(0, .ref (ma 0)), (1, .int (nI mm))] := hl
  have hv : (fX9_filler t0 mm) = (fX9_filler t0 mm) := rfl
  have J4 : ∀ (q4 : Nat) (k : Nat) (H : Heap) (locs : List Loc) (ls : Array Slot), (k ≤ 40 ∧ k < q4) → va_P (dC, dI) vwCl (wX cI cJ cZ ma t0) H → va_S (ro s.heap.size) s.heap H locs → lv_has ls 6 [(2, .int (dn k)), (0, .ref (ma 0)), (1, .int (nI mm))] → (fX9_filler_4 t0 mm q4 k) = (fX9_filler t0 mm) → W p l e (headSpec wsX9_filler ({ frames := 4, cells := 0, slots := 0, locals := 98 })).room s m ([.ref (ma 0), .int (nI mm)] : List Value).toArray below meth c H locs 0 0 (MQ below (ro_Qi (fX9_filler t0 mm) s.heap.size) ([.ref (ma 0), .int (nI mm)] : List Value).toArray s 0 0 ((ro s.heap.size))) (F0 m 4 ls []) := by
    intro q4
    induction q4 with
    | zero => intro k H locs ls hm4 hP hS hl hv; exact absurd hm4 (by omega)
    | succ q4 ih4 =>
      intro k H locs ls hm4 hP hS hl hv
      have hk40 := hm4.1; have hkq := hm4.2
      have J38 : ∀ (q38 : Nat) (j : Nat) (v : Int32) (H : Heap) (locs : List Loc) (ls : Array Slot), ((j ≤ 40 ∧ 0 < k) ∧ 42 ≤ j + q38) → va_P (dC, dI) vwCl (wX cI cJ cZ ma t0) H → va_S (ro s.heap.size) s.heap H locs → lv_has ls 6 [(5, .int (nI j)), (4, .int (v)), (3, .int (nI (t0.2.2.2.2.2.2.1 23 (k - 1)).toNatClampNeg)), (2, .int (dn k)), (0, .ref (ma 0)), (1, .int (nI mm))] → (∀ (H : Heap) (locs : List Loc) (ls : Array Slot), va_P (dC, dI) vwCl (wX cI cJ cZ ma t0) H → va_S (ro s.heap.size) s.heap H locs → lv_has ls 6 [(5, .int (nI ((fX9_filler_38 t0 mm k q38 j v).1))), (4, .int ((fX9_filler_38 t0 mm k q38 j v).2)), (3, .int (nI (t0.2.2.2.2.2.2.1 23 (k - 1)).toNatClampNeg)), (2, .int (dn k)), (0, .ref (ma 0)), (1, .int (nI mm))] → W p l e (headSpec wsX9_filler ({ frames := 4, cells := 0, slots := 0, locals := 98 })).room s m ([.ref (ma 0), .int (nI mm)] : List Value).toArray below meth c H locs 0 0 (MQ below (ro_Qi (fX9_filler t0 mm) s.heap.size) ([.ref (ma 0), .int (nI mm)] : List Value).toArray s 0 0 ((ro s.heap.size))) (F0 m 76 ls [])) → W p l e (headSpec wsX9_filler ({ frames := 4, cells := 0, slots := 0, locals := 98 })).room s m ([.ref (ma 0), .int (nI mm)] : List Value).toArray below meth c H locs 0 0 (MQ below (ro_Qi (fX9_filler t0 mm) s.heap.size) ([.ref (ma 0), .int (nI mm)] : List Value).toArray s 0 0 ((ro s.heap.size))) (F0 m 38 ls []) := by
        intro q38
        induction q38 with
        | zero => intro j v H locs ls hm38 hP hS hl kx; exact absurd hm38 (by omega)
        | succ q38 ih38 =>
          intro j v H locs ls hm38 hP hS hl kx
          have hjn := hm38.1.1; have hk0 := hm38.1.2; have hii := vp_nI (ho (k - 1) (by omega)) (by decide)
          refine lv_iload hx hb dX9_filler_38 (lv_at hl 0 rfl) ?_
          refine lv_aload_n hx hb dX9_filler_40 rfl (lv_at hl 4 rfl) ?_
          refine va_get (D := (dC, dI)) (ci := 4) (v := .int (nI t0.2.1)) (C := RX9) (T := TX9) (N := 26) hx hb hts hinX9 hown hK hP 0 rfl rfl 2 (by decide) (hts (.fieldLink RX9 148 "SlotFillerModel" "many" "I") (by decide +kernel)) (fun _ h9 => h9) rfl dX9_filler_41 ?_
          refine lv_icmp_ge (tgt := 76) hx hb dX9_filler_44 (by decide) (fun c_1 => ?_) (fun c_1 => ?_)
          · rw [show (fX9_filler_38 t0 mm k (q38 + 1) j v) = (j, v) by rw [fX9_filler_38, if_pos c_1]] at kx
            exact kx H _ ls hP hS (lv_sub hl [0, 1, 2, 3, 4, 5] rfl)
          · refine lv_iload hx hb dX9_filler_47 (lv_at hl 1 rfl) ?_
            refine lv_if_eq (tgt := 76) hx hb dX9_filler_49 (by decide) (fun c_2 => ?_) (fun c_2 => ?_)
            · rw [show (fX9_filler_38 t0 mm k (q38 + 1) j v) = (j, v) by rw [fX9_filler_38, if_neg c_1, if_pos c_2]] at kx
              exact kx H _ ls hP hS (lv_sub hl [0, 1, 2, 3, 4, 5] rfl)
            · have hj : j < 40 := Nat.lt_of_lt_of_le (nI_geN (by omega) (by omega) c_1) hn
              refine lv_aload_n hx hb dX9_filler_52 rfl (lv_at hl 4 rfl) ?_
              refine lv_iload hx hb dX9_filler_53 (lv_at hl 0 rfl) ?_
              refine lv_iload_n hx hb dX9_filler_55 rfl (lv_at hl 2 rfl) ?_
              refine ro_calli (va_runV (As := [.int (nI j), .int (nI (t0.2.2.2.2.2.2.1 23 (k - 1)).toNatClampNeg)]) (rest := []) ⟨hx, hb, hml, hown, hts⟩ (kX9_after l dC dI cI cJ cZ ma (svX t0) t0.2.2.2.2.2.2.1 t0.2.2.2.2.2.2.2 H.size j ((t0.2.2.2.2.2.2.1 23 (k - 1)).toNatClampNeg) hj hii.2 hc) (cwV 2 hts gX9_filler_X9_after rfl rfl rfl (by decide +kernel) ⟨Nat.le_of_ble_eq_true rfl, Nat.le_of_ble_eq_true rfl⟩) (ro_preV 0 4 (q := (RX9, TX9, 26)) rfl rfl hP hK) rfl rfl hl.1 rfl (lv_room (Nat.le_of_ble_eq_true rfl)) dX9_filler_56 ⟨Nat.zero_le _, Nat.zero_le _⟩) hS hA (fun H locs kP hS => ?_)
              have hP := kP _ _ _ hP
              refine lv_iconst (v := (-1)) hx hb dX9_filler_59 (by decide) ?_
              refine lv_icmp_ne (tgt := 67) hx hb dX9_filler_60 (by decide) (fun c_3 => ?_) (fun c_3 => ?_)
              · refine lv_iconst (v := 0) hx hb dX9_filler_67 (by decide) ?_
                refine lv_istore (lv' := [(4, .int (0)), (5, .int (nI j)), (3, .int (nI (t0.2.2.2.2.2.2.1 23 (k - 1)).toNatClampNeg)), (2, .int (dn k)), (0, .ref (ma 0)), (1, .int (nI mm))]) hx hb dX9_filler_68 hl (by decide) rfl (fun ls hl => ?_)
                refine lv_iinc (v := nI (j + 1)) (lv' := [(5, .int (nI (j + 1))), (4, .int (0)), (3, .int (nI (t0.2.2.2.2.2.2.1 23 (k - 1)).toNatClampNeg)), (2, .int (dn k)), (0, .ref (ma 0)), (1, .int (nI mm))]) hx hb dX9_filler_70 hl (k := 1) rfl (nI_1 j) (by decide) rfl (fun ls hl => ?_)
                refine lv_goto (tgt := 38) hx hb dX9_filler_73 (by decide) ?_
                rw [show (fX9_filler_38 t0 mm k (q38 + 1) j v) = (fX9_filler_38 t0 mm k q38 (j + 1) 0) by rw [fX9_filler_38, if_neg c_1, if_neg c_2, if_neg c_3]] at kx
                exact ih38 (j + 1) 0 H _ ls (⟨⟨hj, hk0⟩, by omega⟩) hP hS (lv_sub hl [0, 1, 2, 3, 4, 5] rfl) kx
              · refine lv_iconst (v := 1) hx hb dX9_filler_63 (by decide) ?_
                refine lv_goto (tgt := 68) hx hb dX9_filler_64 (by decide) ?_
                refine lv_istore (lv' := [(4, .int (1)), (5, .int (nI j)), (3, .int (nI (t0.2.2.2.2.2.2.1 23 (k - 1)).toNatClampNeg)), (2, .int (dn k)), (0, .ref (ma 0)), (1, .int (nI mm))]) hx hb dX9_filler_68 hl (by decide) rfl (fun ls hl => ?_)
                refine lv_iinc (v := nI (j + 1)) (lv' := [(5, .int (nI (j + 1))), (4, .int (1)), (3, .int (nI (t0.2.2.2.2.2.2.1 23 (k - 1)).toNatClampNeg)), (2, .int (dn k)), (0, .ref (ma 0)), (1, .int (nI mm))]) hx hb dX9_filler_70 hl (k := 1) rfl (nI_1 j) (by decide) rfl (fun ls hl => ?_)
                refine lv_goto (tgt := 38) hx hb dX9_filler_73 (by decide) ?_
                rw [show (fX9_filler_38 t0 mm k (q38 + 1) j v) = (fX9_filler_38 t0 mm k q38 (j + 1) 1) by rw [fX9_filler_38, if_neg c_1, if_neg c_2, if_pos c_3]] at kx
                exact ih38 (j + 1) 1 H _ ls (⟨⟨hj, hk0⟩, by omega⟩) hP hS (lv_sub hl [0, 1, 2, 3, 4, 5] rfl) kx
      refine lv_iload_n hx hb dX9_filler_4 rfl (lv_at hl 0 rfl) ?_
      refine lv_if_lt (tgt := 89) hx hb dX9_filler_5 (by decide) (fun c_4 => ?_) (fun c_4 => ?_)
      · refine lv_iconst (v := (-1)) hx hb dX9_filler_89 (by decide) ?_
        exact W.iret (v := (-1)) hx hb hr (fun t ht hW => ⟨⟨_, (), rfl, ((show (-1) = (fX9_filler_4 t0 mm (q4 + 1) k) by rw [fX9_filler_4, if_pos c_4]).trans hv), trivial⟩, hS.F ht⟩) hS.2.2 dX9_filler_90
      · have hk0 : 0 < k := dn_pos c_4; have hi : k - 1 < 41 := (by omega); have hii := vp_nI (ho _ hi) (by decide)
        refine lv_aload_n hx hb dX9_filler_8 rfl (lv_at hl 1 rfl) ?_
        refine va_get (D := (dC, dI)) (ci := 4) (v := .ref (ma 23)) (C := RX9) (T := TX9) (N := 26) hx hb hts hinX9 hown hK hP 0 rfl rfl 23 (by decide) (hts (.fieldLink RX9 45 "SlotFillerModel" "order" "[I") (by decide +kernel)) (fun _ h9 => h9) rfl dX9_filler_9 ?_
        refine lv_iload_n hx hb dX9_filler_12 rfl (lv_at hl 0 rfl) ?_
        refine top_i (y := nI (k - 1)) (dn_eq hk0) ?_
        refine my_iald (j := k - 1) hx hb hK hP 12 0 rfl rfl (hi) (by decide) dX9_filler_13 ?_
        refine top_i (y := nI (t0.2.2.2.2.2.2.1 23 (k - 1)).toNatClampNeg) (hii.1) ?_
        refine lv_istore_n (lv' := [(3, .int (nI (t0.2.2.2.2.2.2.1 23 (k - 1)).toNatClampNeg)), (2, .int (dn k)), (0, .ref (ma 0)), (1, .int (nI mm))]) hx hb dX9_filler_14 rfl hl (by decide) rfl (fun ls hl => ?_)
        refine lv_aload_n hx hb dX9_filler_15 rfl (lv_at hl 2 rfl) ?_
        refine va_get (D := (dC, dI)) (ci := 4) (v := .ref (ma 5)) (C := RX9) (T := TX9) (N := 26) hx hb hts hinX9 hown hK hP 0 rfl rfl 5 (by decide) (hts (.fieldLink RX9 16 "SlotFillerModel" "classes" "[I") (by decide +kernel)) (fun _ h9 => h9) rfl dX9_filler_16 ?_
        refine lv_iload_n hx hb dX9_filler_19 rfl (lv_at hl 0 rfl) ?_
        refine my_iald (j := (t0.2.2.2.2.2.2.1 23 (k - 1)).toNatClampNeg) hx hb hK hP 3 0 rfl rfl (hii.2) (by decide) dX9_filler_20 ?_
        refine lv_bipush (v := 8) hx hb dX9_filler_21 (by decide) ?_
        refine lv_icmp_eq (tgt := 30) hx hb dX9_filler_23 (by decide) (fun c_5 => ?_) (fun c_5 => ?_)
        · refine lv_iconst (v := 0) hx hb dX9_filler_30 (by decide) ?_
          refine lv_istore (lv' := [(4, .int (0)), (3, .int (nI (t0.2.2.2.2.2.2.1 23 (k - 1)).toNatClampNeg)), (2, .int (dn k)), (0, .ref (ma 0)), (1, .int (nI mm))]) hx hb dX9_filler_31 hl (by decide) rfl (fun ls hl => ?_)
          refine lv_iload_n hx hb dX9_filler_33 rfl (lv_at hl 1 rfl) ?_
          refine lv_iconst (v := 1) hx hb dX9_filler_34 (by decide) ?_
          refine lv_iadd hx hb dX9_filler_35 ?_
          refine top_i (y := nI ((t0.2.2.2.2.2.2.1 23 (k - 1)).toNatClampNeg + 1)) (nI_1 _) ?_
          refine lv_istore (lv' := [(5, .int (nI ((t0.2.2.2.2.2.2.1 23 (k - 1)).toNatClampNeg + 1))), (4, .int (0)), (3, .int (nI (t0.2.2.2.2.2.2.1 23 (k - 1)).toNatClampNeg)), (2, .int (dn k)), (0, .ref (ma 0)), (1, .int (nI mm))]) hx hb dX9_filler_36 hl (by decide) rfl (fun ls hl => ?_)
          refine J38 42 ((t0.2.2.2.2.2.2.1 23 (k - 1)).toNatClampNeg + 1) 0 H _ ls (⟨⟨hii.2, hk0⟩, by omega⟩) hP hS (lv_sub hl [0, 1, 2, 3, 4, 5] rfl) (fun H locs ls hP hS hl => ?_)
          refine lv_iload hx hb dX9_filler_76 (lv_at hl 1 rfl) ?_
          refine lv_if_eq (tgt := 83) hx hb dX9_filler_78 (by decide) (fun c_6 => ?_) (fun c_6 => ?_)
          · refine lv_iinc (v := dn (k - 1)) (lv' := [(2, .int (dn (k - 1))), (5, .int (nI ((fX9_filler_38 t0 mm k 42 ((t0.2.2.2.2.2.2.1 23 (k - 1)).toNatClampNeg + 1) 0).1))), (4, .int ((fX9_filler_38 t0 mm k 42 ((t0.2.2.2.2.2.2.1 23 (k - 1)).toNatClampNeg + 1) 0).2)), (3, .int (nI (t0.2.2.2.2.2.2.1 23 (k - 1)).toNatClampNeg)), (0, .ref (ma 0)), (1, .int (nI mm))]) hx hb dX9_filler_83 hl (k := 3) rfl (dn_step hk0) (by decide) rfl (fun ls hl => ?_)
            refine lv_goto (tgt := 4) hx hb dX9_filler_86 (by decide) ?_
            exact ih4 (k - 1) H _ ls (⟨by omega, by omega⟩) hP hS (lv_sub hl [0, 4, 5] rfl) ((show (fX9_filler_4 t0 mm q4 (k - 1)) = (fX9_filler_4 t0 mm (q4 + 1) k) by rw [fX9_filler_4, if_neg c_4, if_pos c_5, if_pos c_6]).trans hv)
          · refine lv_iload_n hx hb dX9_filler_81 rfl (lv_at hl 3 rfl) ?_
            exact W.iret (v := dn k) hx hb hr (fun t ht hW => ⟨⟨_, (), rfl, ((show dn k = (fX9_filler_4 t0 mm (q4 + 1) k) by rw [fX9_filler_4, if_neg c_4, if_pos c_5, if_neg c_6]).trans hv), trivial⟩, hS.F ht⟩) hS.2.2 dX9_filler_82
        · refine lv_iconst (v := 1) hx hb dX9_filler_26 (by decide) ?_
          refine lv_goto (tgt := 31) hx hb dX9_filler_27 (by decide) ?_
          refine lv_istore (lv' := [(4, .int (1)), (3, .int (nI (t0.2.2.2.2.2.2.1 23 (k - 1)).toNatClampNeg)), (2, .int (dn k)), (0, .ref (ma 0)), (1, .int (nI mm))]) hx hb dX9_filler_31 hl (by decide) rfl (fun ls hl => ?_)
          refine lv_iload_n hx hb dX9_filler_33 rfl (lv_at hl 1 rfl) ?_
          refine lv_iconst (v := 1) hx hb dX9_filler_34 (by decide) ?_
          refine lv_iadd hx hb dX9_filler_35 ?_
          refine top_i (y := nI ((t0.2.2.2.2.2.2.1 23 (k - 1)).toNatClampNeg + 1)) (nI_1 _) ?_
          refine lv_istore (lv' := [(5, .int (nI ((t0.2.2.2.2.2.2.1 23 (k - 1)).toNatClampNeg + 1))), (4, .int (1)), (3, .int (nI (t0.2.2.2.2.2.2.1 23 (k - 1)).toNatClampNeg)), (2, .int (dn k)), (0, .ref (ma 0)), (1, .int (nI mm))]) hx hb dX9_filler_36 hl (by decide) rfl (fun ls hl => ?_)
          refine J38 42 ((t0.2.2.2.2.2.2.1 23 (k - 1)).toNatClampNeg + 1) 1 H _ ls (⟨⟨hii.2, hk0⟩, by omega⟩) hP hS (lv_sub hl [0, 1, 2, 3, 4, 5] rfl) (fun H locs ls hP hS hl => ?_)
          refine lv_iload hx hb dX9_filler_76 (lv_at hl 1 rfl) ?_
          refine lv_if_eq (tgt := 83) hx hb dX9_filler_78 (by decide) (fun c_7 => ?_) (fun c_7 => ?_)
          · refine lv_iinc (v := dn (k - 1)) (lv' := [(2, .int (dn (k - 1))), (5, .int (nI ((fX9_filler_38 t0 mm k 42 ((t0.2.2.2.2.2.2.1 23 (k - 1)).toNatClampNeg + 1) 1).1))), (4, .int ((fX9_filler_38 t0 mm k 42 ((t0.2.2.2.2.2.2.1 23 (k - 1)).toNatClampNeg + 1) 1).2)), (3, .int (nI (t0.2.2.2.2.2.2.1 23 (k - 1)).toNatClampNeg)), (0, .ref (ma 0)), (1, .int (nI mm))]) hx hb dX9_filler_83 hl (k := 3) rfl (dn_step hk0) (by decide) rfl (fun ls hl => ?_)
            refine lv_goto (tgt := 4) hx hb dX9_filler_86 (by decide) ?_
            exact ih4 (k - 1) H _ ls (⟨by omega, by omega⟩) hP hS (lv_sub hl [0, 4, 5] rfl) ((show (fX9_filler_4 t0 mm q4 (k - 1)) = (fX9_filler_4 t0 mm (q4 + 1) k) by rw [fX9_filler_4, if_neg c_4, if_neg c_5, if_pos c_7]).trans hv)
          · refine lv_iload_n hx hb dX9_filler_81 rfl (lv_at hl 3 rfl) ?_
            exact W.iret (v := dn k) hx hb hr (fun t ht hW => ⟨⟨_, (), rfl, ((show dn k = (fX9_filler_4 t0 mm (q4 + 1) k) by rw [fX9_filler_4, if_neg c_4, if_neg c_5, if_neg c_7]).trans hv), trivial⟩, hS.F ht⟩) hS.2.2 dX9_filler_82
  refine lv_iload_n hx hb dX9_filler_0 rfl (lv_at hl 1 rfl) ?_
  refine lv_iconst (v := 1) hx hb dX9_filler_1 (by decide) ?_
  refine lv_isub hx hb dX9_filler_2 ?_
  refine top_i (y := dn mm) (rfl) ?_
  refine lv_istore_n (lv' := [(2, .int (dn mm)), (0, .ref (ma 0)), (1, .int (nI mm))]) hx hb dX9_filler_3 rfl hl (by decide) rfl (fun ls hl => ?_)
  exact J4 41 mm s.heap _ ls (⟨hmm, by omega⟩) hP hS (lv_sub hl [0, 1, 2] rfl) ((show (fX9_filler_4 t0 mm 41 mm) = (fX9_filler t0 mm) by unfold fX9_filler; rfl).trans hv)
def fX9_place_39 (mm : Nat) (fu : Nat) (tg : XS) (cy : Nat) : Nat → Nat → Int32 → Nat × Int32
  | 0, k, v => (k, v)
  | q39 + 1, k, v => if nI mm ≤ nI k then (k, v) else if ((tg.2.2.2.2.2.2.1 24) (k)) = (-1) then if v = (-1) then if (fX9_canCome tg.2.2.2.2.2.2.1 tg.2.2.2.2.2.2.2 k (nI cy)) = 0 then (fX9_place_39 mm fu tg cy q39 (k + 1) v) else (fX9_place_39 mm fu tg cy q39 (k + 1) (nI k)) else if ((tg.2.2.2.2.2.2.1 22) (k)) ≤ ((tg.2.2.2.2.2.2.1 22) (v).toNatClampNeg) then (fX9_place_39 mm fu tg cy q39 (k + 1) v) else if (fX9_canCome tg.2.2.2.2.2.2.1 tg.2.2.2.2.2.2.2 k (nI cy)) = 0 then (fX9_place_39 mm fu tg cy q39 (k + 1) v) else (fX9_place_39 mm fu tg cy q39 (k + 1) (nI k)) else (fX9_place_39 mm fu tg cy q39 (k + 1) v)
def fX9_place_28 (mm : Nat) (fu : Nat) : Nat → Nat → Nat → XS → XS
  | 0, dd, cy, tg => tg
  | q28 + 1, dd, cy, tg => if nI mm ≤ nI dd then tg else if (fX9_place_39 mm fu tg cy 41 0 (-1)).2 = (-1) then (fX9_place_28 mm fu q28 dd (cy + 1) tg) else (fX9_place_28 mm fu q28 (dd + 1) (cy + 1) (tg.1, tg.2.1, tg.2.2.1, tg.2.2.2.1, tg.2.2.2.2.1, tg.2.2.2.2.2.1, (upB (upB tg.2.2.2.2.2.2.1 23 (upd (tg.2.2.2.2.2.2.1 23) (dd) ((fX9_place_39 mm fu tg cy 41 0 (-1)).2))) 24 (upd (tg.2.2.2.2.2.2.1 24) ((fX9_place_39 mm fu tg cy 41 0 (-1)).2.toNatClampNeg) (nI cy))), tg.2.2.2.2.2.2.2))
def fX9_place_6 (mm : Nat) (fu : Nat) : Nat → Nat → XS → Nat × XS
  | 0, k, ug => (k, ug)
  | q6 + 1, k, ug => if nI mm ≤ nI k then (k, ug) else (fX9_place_6 mm fu q6 (k + 1) (ug.1, ug.2.1, ug.2.2.1, ug.2.2.2.1, ug.2.2.2.2.1, ug.2.2.2.2.2.1, (upB ug.2.2.2.2.2.2.1 24 (upd (ug.2.2.2.2.2.2.1 24) (k) ((-1)))), ug.2.2.2.2.2.2.2))
def hX9_place_28 (mm : Nat) (fu : Nat) : Nat → Nat → Nat → XS → Bool
  | 0, _, _, _ => false
  | q28 + 1, dd, cy, tg => if nI mm ≤ nI dd then true else if (fX9_place_39 mm fu tg cy 41 0 (-1)).2 = (-1) then (hX9_place_28 mm fu q28 dd (cy + 1) tg) else (hX9_place_28 mm fu q28 (dd + 1) (cy + 1) (tg.1, tg.2.1, tg.2.2.1, tg.2.2.2.1, tg.2.2.2.2.1, tg.2.2.2.2.2.1, (upB (upB tg.2.2.2.2.2.2.1 23 (upd (tg.2.2.2.2.2.2.1 23) (dd) ((fX9_place_39 mm fu tg cy 41 0 (-1)).2))) 24 (upd (tg.2.2.2.2.2.2.1 24) ((fX9_place_39 mm fu tg cy 41 0 (-1)).2.toNatClampNeg) (nI cy))), tg.2.2.2.2.2.2.2))
def fX9_place (mm : Nat) (fu : Nat) (sg : XS) : XS := (fX9_place_28 mm fu fu 0 0 ((fX9_place_6 mm fu 41 0 (fX9_findHeights sg)).2))
def hX9_place (mm : Nat) (fu : Nat) (sg : XS) : Bool := (hX9_place_28 mm fu fu 0 0 ((fX9_place_6 mm fu 41 0 (fX9_findHeights sg)).2))
theorem pl_fr6 (mm fu : Nat) : ∀ (q k : Nat) (t : XS), ∃ f, (fX9_place_6 mm fu q k t).2 = (t.1, t.2.1, t.2.2.1, t.2.2.2.1, t.2.2.2.2.1, t.2.2.2.2.2.1, upB t.2.2.2.2.2.2.1 24 f, t.2.2.2.2.2.2.2) := by
  intro q
  induction q with
  | zero => intro k t; exact ⟨t.2.2.2.2.2.2.1 24, by rw [fX9_place_6, upB_same]⟩
  | succ q ih =>
    intro k t
    rw [fX9_place_6]
    split
    · exact ⟨t.2.2.2.2.2.2.1 24, by rw [upB_same]⟩
    · obtain ⟨f, hf⟩ := ih (k + 1) _
      exact ⟨f, by rw [hf]; simp only [upB_twice]⟩
theorem pl_okC (mm fu : Nat) (t : XS) (h : okC t) : okC (fX9_place_6 mm fu 41 0 (fX9_findHeights t)).2 := by
  obtain ⟨f, hf⟩ := fh_fr t
  obtain ⟨g, hg⟩ := pl_fr6 mm fu 41 0 (fX9_findHeights t)
  rw [hg, hf]
  exact h
theorem placeX_in39 (mm : Nat) (fu : Nat) (tg : XS) (cy : Nat) (hmm : mm ≤ 40) : ∀ (q k : Nat) (v : Int32), k + q ≤ 41 → okI v → okI (fX9_place_39 mm fu tg cy q k v).2 := by
  intro q
  induction q with
  | zero => intro k v _ hv; rw [fX9_place_39]; exact hv
  | succ q ih =>
    intro k v hi hv
    rw [fX9_place_39]
    by_cases h : nI mm ≤ nI k
    · rw [if_pos h]; exact hv
    · rw [if_neg h]
      have hlt : k < 40 := Nat.lt_of_lt_of_le (nI_geN (by omega) (by omega) h) hmm
      have hin : okI (nI k) := Or.inr (vp_in_nI hlt (by decide))
      repeat' split
      all_goals first | exact ih _ _ (by omega) hv | exact ih _ _ (by omega) hin
set_option maxHeartbeats 4000000 in
set_option maxRecDepth 100000 in
theorem kX9_place (l : Launch) (dC : Nat → ClassId) (dI : Nat → Nat → Nat) (cI cJ cZ : ClassId) (ma : Nat → Nat) (sz : Nat) (mm : Nat) (hmm : mm ≤ 40) (fu : Nat)  (sg : XS) (hn : sg.2.1 ≤ 40) (hc0 : okC sg) (hh : hX9_place mm fu sg = true) : Met l yX9_place wsX9_place ({ frames := 5, cells := 0, slots := 0, locals := 122 }) (md_Pc (dC, dI) (wX cI cJ cZ ma sg) (tyA cI cJ cZ) [.ref (ma 0), .int (nI mm)] sz) (md_Qv (dC, dI) (wX cI cJ cZ ma (fX9_place mm fu sg)) (va_A (wX cI cJ cZ ma sg) sz)) 0 0 (va_A (wX cI cJ cZ ma sg) sz) := by
  refine Met.ofW (cc := cX9_place) (maxL := 6) (ret := none) (by decide) rfl ?_
  intro p e s m args below meth c s₁ B0 hml hv
  obtain ⟨rfl, hsz, hP, hK, hD0⟩ := hv
  have hx := B0.exec
  have hb := B0.bytes
  have hr := B0.returns
  have hts := atoms_spec (ws := wsX9_place) B0.pre
  have hown : s.vm.findClass RX9 = some m.cls := findClass_of_methodNamed B0.named
  have hlocks := B0.notSynchronized
  have hinX9 : ∀ w ∈ wsX90, w ∈ wsX9_place := fun w h => List.mem_cons_of_mem _ (List.mem_append_right _ (h))
  subst hsz
  have hD := hD0.self (sz := s.heap.size)
  generalize hAe : va_A (wX cI cJ cZ ma sg) s.heap.size = A at hD ⊢
  have hA : ∀ q : Nat, s.heap.size ≤ q → A q := fun q h => by rw [← hAe]; exact Or.inr h
  have hS : va_S A s.heap s.heap [] := va_S.rf
  have hl := lv_entry ([.ref (ma 0), .int (nI mm)]) (n := 6) (Nat.le_of_ble_eq_true rfl)
  rw [lg_entry_eq]
  generalize (lg_sl ([.ref (ma 0), .int (nI mm)]) ++ List.replicate (6 - (lg_sl ([.ref (ma 0), .int (nI mm)])).length) Slot.unset).toArray = ls at hl ⊢
  have hl : lv_has ls 6 [(0, .ref (ma 0)), (1, .int (nI mm))] := hl
  have hv : (fX9_place mm fu sg) = (fX9_place mm fu sg) := rfl
  have J28 : ∀ (q28 : Nat) (dd : Nat) (cy : Nat) (tg : XS) (H : Heap) (locs : List Loc) (ls : Array Slot), (hX9_place_28 mm fu q28 dd cy tg = true ∧ dd ≤ mm ∧ okC tg) → va_P (dC, dI) vwCl (wX cI cJ cZ ma tg) H → va_D A (wX cI cJ cZ ma tg) → va_S A s.heap H locs → lv_has ls 6 [(2, .int (nI dd)), (3, .int (nI cy)), (0, .ref (ma 0)), (1, .int (nI mm))] → (fX9_place_28 mm fu q28 dd cy tg) = (fX9_place mm fu sg) → W p l e (headSpec wsX9_place ({ frames := 5, cells := 0, slots := 0, locals := 122 })).room s m ([.ref (ma 0), .int (nI mm)] : List Value).toArray below meth c H locs 0 0 (MQ below (md_Qv (dC, dI) (wX cI cJ cZ ma (fX9_place mm fu sg)) (A)) ([.ref (ma 0), .int (nI mm)] : List Value).toArray s 0 0 (A)) (F0 m 28 ls []) := by
    intro q28
    induction q28 with
    | zero => intro dd cy tg H locs ls hm28 hP hD hS hl hv; exact absurd hm28 (fun h => absurd h.1 (by simp [hX9_place_28]))
    | succ q28 ih28 =>
      intro dd cy tg H locs ls hm28 hP hD hS hl hv
      have hdd := hm28.2.1; have hc := hm28.2.2
      have J39 : ∀ (q39 : Nat) (k : Nat) (v : Int32) (H : Heap) (locs : List Loc) (ls : Array Slot), ((k ≤ 40 ∧ 41 ≤ k + q39) ∧ okI v) → va_P (dC, dI) vwCl (wX cI cJ cZ ma tg) H → va_D A (wX cI cJ cZ ma tg) → va_S A s.heap H locs → lv_has ls 6 [(5, .int (nI k)), (4, .int (v)), (2, .int (nI dd)), (3, .int (nI cy)), (0, .ref (ma 0)), (1, .int (nI mm))] → (∀ (H : Heap) (locs : List Loc) (ls : Array Slot), va_P (dC, dI) vwCl (wX cI cJ cZ ma tg) H → va_D A (wX cI cJ cZ ma tg) → va_S A s.heap H locs → lv_has ls 6 [(5, .int (nI ((fX9_place_39 mm fu tg cy q39 k v).1))), (4, .int ((fX9_place_39 mm fu tg cy q39 k v).2)), (2, .int (nI dd)), (3, .int (nI cy)), (0, .ref (ma 0)), (1, .int (nI mm))] → W p l e (headSpec wsX9_place ({ frames := 5, cells := 0, slots := 0, locals := 122 })).room s m ([.ref (ma 0), .int (nI mm)] : List Value).toArray below meth c H locs 0 0 (MQ below (md_Qv (dC, dI) (wX cI cJ cZ ma (fX9_place mm fu sg)) (A)) ([.ref (ma 0), .int (nI mm)] : List Value).toArray s 0 0 (A)) (F0 m 99 ls [])) → W p l e (headSpec wsX9_place ({ frames := 5, cells := 0, slots := 0, locals := 122 })).room s m ([.ref (ma 0), .int (nI mm)] : List Value).toArray below meth c H locs 0 0 (MQ below (md_Qv (dC, dI) (wX cI cJ cZ ma (fX9_place mm fu sg)) (A)) ([.ref (ma 0), .int (nI mm)] : List Value).toArray s 0 0 (A)) (F0 m 39 ls []) := by
        intro q39
        induction q39 with
        | zero => intro k v H locs ls hm39 hP hD hS hl kx; exact absurd hm39 (fun h => absurd h.1 (by omega))
        | succ q39 ih39 =>
          intro k v H locs ls hm39 hP hD hS hl kx
          have hkm := hm39.1.1
          refine lv_iload hx hb dX9_place_39 (lv_at hl 0 rfl) ?_
          refine lv_iload_n hx hb dX9_place_41 rfl (lv_at hl 5 rfl) ?_
          refine lv_icmp_ge (tgt := 99) hx hb dX9_place_42 (by decide) (fun c_1 => ?_) (fun c_1 => ?_)
          · rw [show (fX9_place_39 mm fu tg cy (q39 + 1) k v) = (k, v) by rw [fX9_place_39, if_pos c_1]] at kx
            exact kx H _ ls hP hD hS (lv_sub hl [0, 1, 2, 3, 4, 5] rfl)
          · have hk40 : k < 40 := Nat.lt_of_lt_of_le (nI_geN (by omega) (by omega) c_1) hmm
            refine lv_aload_n hx hb dX9_place_45 rfl (lv_at hl 4 rfl) ?_
            refine va_get (D := (dC, dI)) (ci := 4) (v := .ref (ma 24)) (C := RX9) (T := TX9) (N := 26) hx hb hts hinX9 hown hK hP 0 rfl rfl 24 (by decide) (hts (.fieldLink RX9 48 "SlotFillerModel" "placed" "[I") (by decide +kernel)) (fun _ h9 => h9) rfl dX9_place_46 ?_
            refine lv_iload hx hb dX9_place_49 (lv_at hl 0 rfl) ?_
            refine my_iald (j := k) hx hb hK hP 13 0 rfl rfl (hk40) (by decide) dX9_place_51 ?_
            refine lv_iconst (v := (-1)) hx hb dX9_place_52 (by decide) ?_
            refine lv_icmp_ne (tgt := 93) hx hb dX9_place_53 (by decide) (fun c_2 => ?_) (fun c_2 => ?_)
            · refine lv_iinc (v := nI (k + 1)) (lv' := [(5, .int (nI (k + 1))), (4, .int (v)), (2, .int (nI dd)), (3, .int (nI cy)), (0, .ref (ma 0)), (1, .int (nI mm))]) hx hb dX9_place_93 hl (k := 0) rfl (nI_1 k) (by decide) rfl (fun ls hl => ?_)
              refine lv_goto (tgt := 39) hx hb dX9_place_96 (by decide) ?_
              rw [show (fX9_place_39 mm fu tg cy (q39 + 1) k v) = (fX9_place_39 mm fu tg cy q39 (k + 1) v) by rw [fX9_place_39, if_neg c_1, if_neg c_2]] at kx
              exact ih39 (k + 1) v H _ ls (⟨⟨hk40, by have := hm39.1.2; omega⟩, hm39.2⟩) hP hD hS (lv_sub hl [0, 1, 2, 3, 4, 5] rfl) kx
            · refine lv_iload hx hb dX9_place_56 (lv_at hl 1 rfl) ?_
              refine lv_iconst (v := (-1)) hx hb dX9_place_58 (by decide) ?_
              refine lv_icmp_eq (tgt := 79) hx hb dX9_place_59 (by decide) (fun c_3 => ?_) (fun c_3 => ?_)
              · refine lv_aload_n hx hb dX9_place_79 rfl (lv_at hl 4 rfl) ?_
                refine lv_iload hx hb dX9_place_80 (lv_at hl 0 rfl) ?_
                refine lv_iload_n hx hb dX9_place_82 rfl (lv_at hl 3 rfl) ?_
                refine ro_calli (va_runV (As := [.int (nI k), .int (nI cy)]) (rest := []) ⟨hx, hb, hml, hown, hts⟩ (kX9_canCome l dC dI cI cJ cZ ma (svX tg) tg.2.2.2.2.2.2.1 tg.2.2.2.2.2.2.2 H.size k hk40 (nI cy) hc) (cwV 2 hts gX9_place_X9_canCome rfl rfl rfl (by decide +kernel) ⟨Nat.le_of_ble_eq_true rfl, Nat.le_of_ble_eq_true rfl⟩) (ro_preV 0 4 (q := (RX9, TX9, 26)) rfl rfl hP hK) rfl rfl hl.1 rfl (lv_room (Nat.le_of_ble_eq_true rfl)) dX9_place_83 ⟨Nat.zero_le _, Nat.zero_le _⟩) hS hA (fun H locs kP hS => ?_)
                have hP := kP _ _ _ hP
                refine lv_if_eq (tgt := 93) hx hb dX9_place_86 (by decide) (fun c_4 => ?_) (fun c_4 => ?_)
                · refine lv_iinc (v := nI (k + 1)) (lv' := [(5, .int (nI (k + 1))), (4, .int (v)), (2, .int (nI dd)), (3, .int (nI cy)), (0, .ref (ma 0)), (1, .int (nI mm))]) hx hb dX9_place_93 hl (k := 0) rfl (nI_1 k) (by decide) rfl (fun ls hl => ?_)
                  refine lv_goto (tgt := 39) hx hb dX9_place_96 (by decide) ?_
                  rw [show (fX9_place_39 mm fu tg cy (q39 + 1) k v) = (fX9_place_39 mm fu tg cy q39 (k + 1) v) by rw [fX9_place_39, if_neg c_1, if_pos c_2, if_pos c_3, if_pos c_4]] at kx
                  exact ih39 (k + 1) v H _ ls (⟨⟨hk40, by have := hm39.1.2; omega⟩, hm39.2⟩) hP hD hS (lv_sub hl [0, 1, 2, 3, 4, 5] rfl) kx
                · refine lv_iload hx hb dX9_place_89 (lv_at hl 0 rfl) ?_
                  refine lv_istore (lv' := [(4, .int (nI k)), (5, .int (nI k)), (2, .int (nI dd)), (3, .int (nI cy)), (0, .ref (ma 0)), (1, .int (nI mm))]) hx hb dX9_place_91 hl (by decide) rfl (fun ls hl => ?_)
                  refine lv_iinc (v := nI (k + 1)) (lv' := [(5, .int (nI (k + 1))), (4, .int (nI k)), (2, .int (nI dd)), (3, .int (nI cy)), (0, .ref (ma 0)), (1, .int (nI mm))]) hx hb dX9_place_93 hl (k := 1) rfl (nI_1 k) (by decide) rfl (fun ls hl => ?_)
                  refine lv_goto (tgt := 39) hx hb dX9_place_96 (by decide) ?_
                  rw [show (fX9_place_39 mm fu tg cy (q39 + 1) k v) = (fX9_place_39 mm fu tg cy q39 (k + 1) (nI k)) by rw [fX9_place_39, if_neg c_1, if_pos c_2, if_pos c_3, if_neg c_4]] at kx
                  exact ih39 (k + 1) (nI k) H _ ls (⟨⟨hk40, by have := hm39.1.2; omega⟩, Or.inr (vp_in_nI hk40 (by decide))⟩) hP hD hS (lv_sub hl [0, 1, 2, 3, 4, 5] rfl) kx
              · refine lv_aload_n hx hb dX9_place_62 rfl (lv_at hl 4 rfl) ?_
                refine va_get (D := (dC, dI)) (ci := 4) (v := .ref (ma 22)) (C := RX9) (T := TX9) (N := 26) hx hb hts hinX9 hown hK hP 0 rfl rfl 22 (by decide) (hts (.fieldLink RX9 42 "SlotFillerModel" "heights" "[I") (by decide +kernel)) (fun _ h9 => h9) rfl dX9_place_63 ?_
                refine lv_iload hx hb dX9_place_66 (lv_at hl 0 rfl) ?_
                refine my_iald (j := k) hx hb hK hP 11 0 rfl rfl (hk40) (by decide) dX9_place_68 ?_
                refine lv_aload_n hx hb dX9_place_69 rfl (lv_at hl 4 rfl) ?_
                refine va_get (D := (dC, dI)) (ci := 4) (v := .ref (ma 22)) (C := RX9) (T := TX9) (N := 26) hx hb hts hinX9 hown hK hP 0 rfl rfl 22 (by decide) (hts (.fieldLink RX9 42 "SlotFillerModel" "heights" "[I") (by decide +kernel)) (fun _ h9 => h9) rfl dX9_place_70 ?_
                refine lv_iload hx hb dX9_place_73 (lv_at hl 1 rfl) ?_
                refine va_iald hx hb hK hP 11 0 rfl rfl (hm39.2.resolve_left c_3) dX9_place_75 ?_
                refine lv_icmp_le (tgt := 93) hx hb dX9_place_76 (by decide) (fun c_5 => ?_) (fun c_5 => ?_)
                · refine lv_iinc (v := nI (k + 1)) (lv' := [(5, .int (nI (k + 1))), (4, .int (v)), (2, .int (nI dd)), (3, .int (nI cy)), (0, .ref (ma 0)), (1, .int (nI mm))]) hx hb dX9_place_93 hl (k := 0) rfl (nI_1 k) (by decide) rfl (fun ls hl => ?_)
                  refine lv_goto (tgt := 39) hx hb dX9_place_96 (by decide) ?_
                  rw [show (fX9_place_39 mm fu tg cy (q39 + 1) k v) = (fX9_place_39 mm fu tg cy q39 (k + 1) v) by rw [fX9_place_39, if_neg c_1, if_pos c_2, if_neg c_3, if_pos c_5]] at kx
                  exact ih39 (k + 1) v H _ ls (⟨⟨hk40, by have := hm39.1.2; omega⟩, hm39.2⟩) hP hD hS (lv_sub hl [0, 1, 2, 3, 4, 5] rfl) kx
                · refine lv_aload_n hx hb dX9_place_79 rfl (lv_at hl 4 rfl) ?_
                  refine lv_iload hx hb dX9_place_80 (lv_at hl 0 rfl) ?_
                  refine lv_iload_n hx hb dX9_place_82 rfl (lv_at hl 3 rfl) ?_
                  refine ro_calli (va_runV (As := [.int (nI k), .int (nI cy)]) (rest := []) ⟨hx, hb, hml, hown, hts⟩ (kX9_canCome l dC dI cI cJ cZ ma (svX tg) tg.2.2.2.2.2.2.1 tg.2.2.2.2.2.2.2 H.size k hk40 (nI cy) hc) (cwV 2 hts gX9_place_X9_canCome rfl rfl rfl (by decide +kernel) ⟨Nat.le_of_ble_eq_true rfl, Nat.le_of_ble_eq_true rfl⟩) (ro_preV 0 4 (q := (RX9, TX9, 26)) rfl rfl hP hK) rfl rfl hl.1 rfl (lv_room (Nat.le_of_ble_eq_true rfl)) dX9_place_83 ⟨Nat.zero_le _, Nat.zero_le _⟩) hS hA (fun H locs kP hS => ?_)
                  have hP := kP _ _ _ hP
                  refine lv_if_eq (tgt := 93) hx hb dX9_place_86 (by decide) (fun c_6 => ?_) (fun c_6 => ?_)
                  · refine lv_iinc (v := nI (k + 1)) (lv' := [(5, .int (nI (k + 1))), (4, .int (v)), (2, .int (nI dd)), (3, .int (nI cy)), (0, .ref (ma 0)), (1, .int (nI mm))]) hx hb dX9_place_93 hl (k := 0) rfl (nI_1 k) (by decide) rfl (fun ls hl => ?_)
                    refine lv_goto (tgt := 39) hx hb dX9_place_96 (by decide) ?_
                    rw [show (fX9_place_39 mm fu tg cy (q39 + 1) k v) = (fX9_place_39 mm fu tg cy q39 (k + 1) v) by rw [fX9_place_39, if_neg c_1, if_pos c_2, if_neg c_3, if_neg c_5, if_pos c_6]] at kx
                    exact ih39 (k + 1) v H _ ls (⟨⟨hk40, by have := hm39.1.2; omega⟩, hm39.2⟩) hP hD hS (lv_sub hl [0, 1, 2, 3, 4, 5] rfl) kx
                  · refine lv_iload hx hb dX9_place_89 (lv_at hl 0 rfl) ?_
                    refine lv_istore (lv' := [(4, .int (nI k)), (5, .int (nI k)), (2, .int (nI dd)), (3, .int (nI cy)), (0, .ref (ma 0)), (1, .int (nI mm))]) hx hb dX9_place_91 hl (by decide) rfl (fun ls hl => ?_)
                    refine lv_iinc (v := nI (k + 1)) (lv' := [(5, .int (nI (k + 1))), (4, .int (nI k)), (2, .int (nI dd)), (3, .int (nI cy)), (0, .ref (ma 0)), (1, .int (nI mm))]) hx hb dX9_place_93 hl (k := 1) rfl (nI_1 k) (by decide) rfl (fun ls hl => ?_)
                    refine lv_goto (tgt := 39) hx hb dX9_place_96 (by decide) ?_
                    rw [show (fX9_place_39 mm fu tg cy (q39 + 1) k v) = (fX9_place_39 mm fu tg cy q39 (k + 1) (nI k)) by rw [fX9_place_39, if_neg c_1, if_pos c_2, if_neg c_3, if_neg c_5, if_neg c_6]] at kx
                    exact ih39 (k + 1) (nI k) H _ ls (⟨⟨hk40, by have := hm39.1.2; omega⟩, Or.inr (vp_in_nI hk40 (by decide))⟩) hP hD hS (lv_sub hl [0, 1, 2, 3, 4, 5] rfl) kx
      refine lv_iload_n hx hb dX9_place_28 rfl (lv_at hl 0 rfl) ?_
      refine lv_iload_n hx hb dX9_place_29 rfl (lv_at hl 3 rfl) ?_
      refine lv_icmp_ge (tgt := 133) hx hb dX9_place_30 (by decide) (fun c_7 => ?_) (fun c_7 => ?_)
      · have e9 : tg = (fX9_place mm fu sg) := ((show tg = (fX9_place_28 mm fu (q28 + 1) dd cy tg) by rw [fX9_place_28, if_pos c_7]).trans hv)
        have hP : va_P (dC, dI) vwCl (wX cI cJ cZ ma (fX9_place mm fu sg)) H := by rw [← e9]; exact hP
        have hD : va_D A (wX cI cJ cZ ma (fX9_place mm fu sg)) := by rw [← e9]; exact hD
        exact W.vret hx hb hr (fun t ht hW => ⟨⟨(), rfl, trivial, by rw [ht]; exact hP, hD⟩, hS.F ht⟩) hS.2.2 dX9_place_133
      · have hdm : dd < mm := nI_geN (by omega) (by omega) c_7
        refine lv_iconst (v := (-1)) hx hb dX9_place_33 (by decide) ?_
        refine lv_istore (lv' := [(4, .int ((-1))), (2, .int (nI dd)), (3, .int (nI cy)), (0, .ref (ma 0)), (1, .int (nI mm))]) hx hb dX9_place_34 hl (by decide) rfl (fun ls hl => ?_)
        refine lv_iconst (v := 0) hx hb dX9_place_36 (by decide) ?_
        refine top_i (y := nI 0) (nI_0.symm) ?_
        refine lv_istore (lv' := [(5, .int (nI 0)), (4, .int ((-1))), (2, .int (nI dd)), (3, .int (nI cy)), (0, .ref (ma 0)), (1, .int (nI mm))]) hx hb dX9_place_37 hl (by decide) rfl (fun ls hl => ?_)
        refine J39 41 0 (-1) H _ ls (⟨⟨Nat.zero_le _, by omega⟩, Or.inl rfl⟩) hP hD hS (lv_sub hl [0, 1, 2, 3, 4, 5] rfl) (fun H locs ls hP hD hS hl => ?_)
        refine lv_iload hx hb dX9_place_99 (lv_at hl 1 rfl) ?_
        refine lv_iconst (v := (-1)) hx hb dX9_place_101 (by decide) ?_
        refine lv_icmp_ne (tgt := 108) hx hb dX9_place_102 (by decide) (fun c_8 => ?_) (fun c_8 => ?_)
        · have hbb := vp_nI ((placeX_in39 mm fu tg cy hmm 41 0 (-1) (by omega) (Or.inl rfl)).resolve_left c_8) (by decide)
          refine lv_aload_n hx hb dX9_place_108 rfl (lv_at hl 4 rfl) ?_
          refine va_get (D := (dC, dI)) (ci := 4) (v := .ref (ma 24)) (C := RX9) (T := TX9) (N := 26) hx hb hts hinX9 hown hK hP 0 rfl rfl 24 (by decide) (hts (.fieldLink RX9 48 "SlotFillerModel" "placed" "[I") (by decide +kernel)) (fun _ h9 => h9) rfl dX9_place_109 ?_
          refine lv_iload hx hb dX9_place_112 (lv_at hl 1 rfl) ?_
          refine top_i (y := nI ((fX9_place_39 mm fu tg cy 41 0 (-1)).2).toNatClampNeg) (hbb.1) ?_
          refine lv_iload_n hx hb dX9_place_114 rfl (lv_at hl 3 rfl) ?_
          refine my_iast (j := (fX9_place_39 mm fu tg cy 41 0 (-1)).2.toNatClampNeg) hx hb hK hP hD hS 13 0 rfl rfl (hbb.2) (by decide) dX9_place_115 (fun H locs hP hD hS => ?_)
          have hP : va_P (dC, dI) vwCl [((ma 0), .inr (4, [.int (tg.1), .ref (ma 1), .int (nI tg.2.1), .int (tg.2.2.1), .ref (ma 4), .ref (ma 5), .ref (ma 6), .ref (ma 7), .ref (ma 8), .ref (ma 9), .ref (ma 10), .int (nI tg.2.2.2.1), .int (tg.2.2.2.2.1), .ref (ma 13), .ref (ma 14), .int (tg.2.2.2.2.2.1.1), .int (tg.2.2.2.2.2.1.2.1), .int (tg.2.2.2.2.2.1.2.2.1), .int (tg.2.2.2.2.2.1.2.2.2.1), .long (tg.2.2.2.2.2.1.2.2.2.2.1), .long (tg.2.2.2.2.2.1.2.2.2.2.2.1), .int (tg.2.2.2.2.2.1.2.2.2.2.2.2), .ref (ma 22), .ref (ma 23), .ref (ma 24), .ref (ma 25)])), ((ma 1), .inl (cI, 9, .inl (tg.2.2.2.2.2.2.1 1))), ((ma 4), .inl (cI, 40, .inl (tg.2.2.2.2.2.2.1 4))), ((ma 5), .inl (cI, 40, .inl (tg.2.2.2.2.2.2.1 5))), ((ma 6), .inl (cI, 40, .inl (tg.2.2.2.2.2.2.1 6))), ((ma 7), .inl (cI, 40, .inl (tg.2.2.2.2.2.2.1 7))), ((ma 8), .inl (cJ, 40, .inr (.inl (tg.2.2.2.2.2.2.2 8)))), ((ma 9), .inl (cJ, 40, .inr (.inl (tg.2.2.2.2.2.2.2 9)))), ((ma 10), .inl (cZ, 40, .inl (tg.2.2.2.2.2.2.1 10))), ((ma 13), .inl (cI, 41, .inl (tg.2.2.2.2.2.2.1 13))), ((ma 14), .inl (cI, 41, .inl (tg.2.2.2.2.2.2.1 14))), ((ma 22), .inl (cI, 40, .inl (tg.2.2.2.2.2.2.1 22))), ((ma 23), .inl (cI, 41, .inl (tg.2.2.2.2.2.2.1 23))), ((ma 24), .inl (cI, 40, .inl (upd (tg.2.2.2.2.2.2.1 24) ((fX9_place_39 mm fu tg cy 41 0 (-1)).2.toNatClampNeg) (nI cy)))), ((ma 25), .inl (cI, 41, .inl (tg.2.2.2.2.2.2.1 25)))] H := hP
          have hD : va_D A [((ma 0), .inr (4, [.int (tg.1), .ref (ma 1), .int (nI tg.2.1), .int (tg.2.2.1), .ref (ma 4), .ref (ma 5), .ref (ma 6), .ref (ma 7), .ref (ma 8), .ref (ma 9), .ref (ma 10), .int (nI tg.2.2.2.1), .int (tg.2.2.2.2.1), .ref (ma 13), .ref (ma 14), .int (tg.2.2.2.2.2.1.1), .int (tg.2.2.2.2.2.1.2.1), .int (tg.2.2.2.2.2.1.2.2.1), .int (tg.2.2.2.2.2.1.2.2.2.1), .long (tg.2.2.2.2.2.1.2.2.2.2.1), .long (tg.2.2.2.2.2.1.2.2.2.2.2.1), .int (tg.2.2.2.2.2.1.2.2.2.2.2.2), .ref (ma 22), .ref (ma 23), .ref (ma 24), .ref (ma 25)])), ((ma 1), .inl (cI, 9, .inl (tg.2.2.2.2.2.2.1 1))), ((ma 4), .inl (cI, 40, .inl (tg.2.2.2.2.2.2.1 4))), ((ma 5), .inl (cI, 40, .inl (tg.2.2.2.2.2.2.1 5))), ((ma 6), .inl (cI, 40, .inl (tg.2.2.2.2.2.2.1 6))), ((ma 7), .inl (cI, 40, .inl (tg.2.2.2.2.2.2.1 7))), ((ma 8), .inl (cJ, 40, .inr (.inl (tg.2.2.2.2.2.2.2 8)))), ((ma 9), .inl (cJ, 40, .inr (.inl (tg.2.2.2.2.2.2.2 9)))), ((ma 10), .inl (cZ, 40, .inl (tg.2.2.2.2.2.2.1 10))), ((ma 13), .inl (cI, 41, .inl (tg.2.2.2.2.2.2.1 13))), ((ma 14), .inl (cI, 41, .inl (tg.2.2.2.2.2.2.1 14))), ((ma 22), .inl (cI, 40, .inl (tg.2.2.2.2.2.2.1 22))), ((ma 23), .inl (cI, 41, .inl (tg.2.2.2.2.2.2.1 23))), ((ma 24), .inl (cI, 40, .inl (upd (tg.2.2.2.2.2.2.1 24) ((fX9_place_39 mm fu tg cy 41 0 (-1)).2.toNatClampNeg) (nI cy)))), ((ma 25), .inl (cI, 41, .inl (tg.2.2.2.2.2.2.1 25)))] := hD
          refine lv_aload_n hx hb dX9_place_116 rfl (lv_at hl 4 rfl) ?_
          refine va_get (D := (dC, dI)) (ci := 4) (v := .ref (ma 23)) (C := RX9) (T := TX9) (N := 26) hx hb hts hinX9 hown hK hP 0 rfl rfl 23 (by decide) (hts (.fieldLink RX9 45 "SlotFillerModel" "order" "[I") (by decide +kernel)) (fun _ h9 => h9) rfl dX9_place_117 ?_
          refine lv_iload_n hx hb dX9_place_120 rfl (lv_at hl 2 rfl) ?_
          refine lv_iload hx hb dX9_place_121 (lv_at hl 1 rfl) ?_
          refine my_iast (j := dd) hx hb hK hP hD hS 12 0 rfl rfl (by omega) (by decide) dX9_place_123 (fun H locs hP hD hS => ?_)
          have hP : va_P (dC, dI) vwCl [((ma 0), .inr (4, [.int (tg.1), .ref (ma 1), .int (nI tg.2.1), .int (tg.2.2.1), .ref (ma 4), .ref (ma 5), .ref (ma 6), .ref (ma 7), .ref (ma 8), .ref (ma 9), .ref (ma 10), .int (nI tg.2.2.2.1), .int (tg.2.2.2.2.1), .ref (ma 13), .ref (ma 14), .int (tg.2.2.2.2.2.1.1), .int (tg.2.2.2.2.2.1.2.1), .int (tg.2.2.2.2.2.1.2.2.1), .int (tg.2.2.2.2.2.1.2.2.2.1), .long (tg.2.2.2.2.2.1.2.2.2.2.1), .long (tg.2.2.2.2.2.1.2.2.2.2.2.1), .int (tg.2.2.2.2.2.1.2.2.2.2.2.2), .ref (ma 22), .ref (ma 23), .ref (ma 24), .ref (ma 25)])), ((ma 1), .inl (cI, 9, .inl (tg.2.2.2.2.2.2.1 1))), ((ma 4), .inl (cI, 40, .inl (tg.2.2.2.2.2.2.1 4))), ((ma 5), .inl (cI, 40, .inl (tg.2.2.2.2.2.2.1 5))), ((ma 6), .inl (cI, 40, .inl (tg.2.2.2.2.2.2.1 6))), ((ma 7), .inl (cI, 40, .inl (tg.2.2.2.2.2.2.1 7))), ((ma 8), .inl (cJ, 40, .inr (.inl (tg.2.2.2.2.2.2.2 8)))), ((ma 9), .inl (cJ, 40, .inr (.inl (tg.2.2.2.2.2.2.2 9)))), ((ma 10), .inl (cZ, 40, .inl (tg.2.2.2.2.2.2.1 10))), ((ma 13), .inl (cI, 41, .inl (tg.2.2.2.2.2.2.1 13))), ((ma 14), .inl (cI, 41, .inl (tg.2.2.2.2.2.2.1 14))), ((ma 22), .inl (cI, 40, .inl (tg.2.2.2.2.2.2.1 22))), ((ma 23), .inl (cI, 41, .inl (upd (tg.2.2.2.2.2.2.1 23) (dd) ((fX9_place_39 mm fu tg cy 41 0 (-1)).2)))), ((ma 24), .inl (cI, 40, .inl (upd (tg.2.2.2.2.2.2.1 24) ((fX9_place_39 mm fu tg cy 41 0 (-1)).2.toNatClampNeg) (nI cy)))), ((ma 25), .inl (cI, 41, .inl (tg.2.2.2.2.2.2.1 25)))] H := hP
          have hD : va_D A [((ma 0), .inr (4, [.int (tg.1), .ref (ma 1), .int (nI tg.2.1), .int (tg.2.2.1), .ref (ma 4), .ref (ma 5), .ref (ma 6), .ref (ma 7), .ref (ma 8), .ref (ma 9), .ref (ma 10), .int (nI tg.2.2.2.1), .int (tg.2.2.2.2.1), .ref (ma 13), .ref (ma 14), .int (tg.2.2.2.2.2.1.1), .int (tg.2.2.2.2.2.1.2.1), .int (tg.2.2.2.2.2.1.2.2.1), .int (tg.2.2.2.2.2.1.2.2.2.1), .long (tg.2.2.2.2.2.1.2.2.2.2.1), .long (tg.2.2.2.2.2.1.2.2.2.2.2.1), .int (tg.2.2.2.2.2.1.2.2.2.2.2.2), .ref (ma 22), .ref (ma 23), .ref (ma 24), .ref (ma 25)])), ((ma 1), .inl (cI, 9, .inl (tg.2.2.2.2.2.2.1 1))), ((ma 4), .inl (cI, 40, .inl (tg.2.2.2.2.2.2.1 4))), ((ma 5), .inl (cI, 40, .inl (tg.2.2.2.2.2.2.1 5))), ((ma 6), .inl (cI, 40, .inl (tg.2.2.2.2.2.2.1 6))), ((ma 7), .inl (cI, 40, .inl (tg.2.2.2.2.2.2.1 7))), ((ma 8), .inl (cJ, 40, .inr (.inl (tg.2.2.2.2.2.2.2 8)))), ((ma 9), .inl (cJ, 40, .inr (.inl (tg.2.2.2.2.2.2.2 9)))), ((ma 10), .inl (cZ, 40, .inl (tg.2.2.2.2.2.2.1 10))), ((ma 13), .inl (cI, 41, .inl (tg.2.2.2.2.2.2.1 13))), ((ma 14), .inl (cI, 41, .inl (tg.2.2.2.2.2.2.1 14))), ((ma 22), .inl (cI, 40, .inl (tg.2.2.2.2.2.2.1 22))), ((ma 23), .inl (cI, 41, .inl (upd (tg.2.2.2.2.2.2.1 23) (dd) ((fX9_place_39 mm fu tg cy 41 0 (-1)).2)))), ((ma 24), .inl (cI, 40, .inl (upd (tg.2.2.2.2.2.2.1 24) ((fX9_place_39 mm fu tg cy 41 0 (-1)).2.toNatClampNeg) (nI cy)))), ((ma 25), .inl (cI, 41, .inl (tg.2.2.2.2.2.2.1 25)))] := hD
          refine lv_iinc (v := nI (dd + 1)) (lv' := [(2, .int (nI (dd + 1))), (5, .int (nI ((fX9_place_39 mm fu tg cy 41 0 (-1)).1))), (4, .int ((fX9_place_39 mm fu tg cy 41 0 (-1)).2)), (3, .int (nI cy)), (0, .ref (ma 0)), (1, .int (nI mm))]) hx hb dX9_place_124 hl (k := 2) rfl (nI_1 dd) (by decide) rfl (fun ls hl => ?_)
          refine lv_iinc (v := nI (cy + 1)) (lv' := [(3, .int (nI (cy + 1))), (2, .int (nI (dd + 1))), (5, .int (nI ((fX9_place_39 mm fu tg cy 41 0 (-1)).1))), (4, .int ((fX9_place_39 mm fu tg cy 41 0 (-1)).2)), (0, .ref (ma 0)), (1, .int (nI mm))]) hx hb dX9_place_127 hl (k := 3) rfl (nI_1 cy) (by decide) rfl (fun ls hl => ?_)
          refine lv_goto (tgt := 28) hx hb dX9_place_130 (by decide) ?_
          exact ih28 (dd + 1) (cy + 1) (tg.1, tg.2.1, tg.2.2.1, tg.2.2.2.1, tg.2.2.2.2.1, tg.2.2.2.2.2.1, (upB (upB tg.2.2.2.2.2.2.1 23 (upd (tg.2.2.2.2.2.2.1 23) (dd) ((fX9_place_39 mm fu tg cy 41 0 (-1)).2))) 24 (upd (tg.2.2.2.2.2.2.1 24) ((fX9_place_39 mm fu tg cy 41 0 (-1)).2.toNatClampNeg) (nI cy))), tg.2.2.2.2.2.2.2) H _ ls (⟨by have z := hm28.1; rw [hX9_place_28, if_neg c_7, if_neg c_8] at z; exact z, hdm, hc⟩) hP hD hS (lv_sub hl [1, 0, 4, 5] rfl) ((show (fX9_place_28 mm fu q28 (dd + 1) (cy + 1) (tg.1, tg.2.1, tg.2.2.1, tg.2.2.2.1, tg.2.2.2.2.1, tg.2.2.2.2.2.1, (upB (upB tg.2.2.2.2.2.2.1 23 (upd (tg.2.2.2.2.2.2.1 23) (dd) ((fX9_place_39 mm fu tg cy 41 0 (-1)).2))) 24 (upd (tg.2.2.2.2.2.2.1 24) ((fX9_place_39 mm fu tg cy 41 0 (-1)).2.toNatClampNeg) (nI cy))), tg.2.2.2.2.2.2.2)) = (fX9_place_28 mm fu (q28 + 1) dd cy tg) by rw [fX9_place_28, if_neg c_7, if_neg c_8]).trans hv)
        · refine lv_goto (tgt := 127) hx hb dX9_place_105 (by decide) ?_
          refine lv_iinc (v := nI (cy + 1)) (lv' := [(3, .int (nI (cy + 1))), (5, .int (nI ((fX9_place_39 mm fu tg cy 41 0 (-1)).1))), (4, .int ((fX9_place_39 mm fu tg cy 41 0 (-1)).2)), (2, .int (nI dd)), (0, .ref (ma 0)), (1, .int (nI mm))]) hx hb dX9_place_127 hl (k := 3) rfl (nI_1 cy) (by decide) rfl (fun ls hl => ?_)
          refine lv_goto (tgt := 28) hx hb dX9_place_130 (by decide) ?_
          exact ih28 dd (cy + 1) tg H _ ls (⟨by have z := hm28.1; rw [hX9_place_28, if_neg c_7, if_pos c_8] at z; exact z, hdd, hc⟩) hP hD hS (lv_sub hl [3, 0, 4, 5] rfl) ((show (fX9_place_28 mm fu q28 dd (cy + 1) tg) = (fX9_place_28 mm fu (q28 + 1) dd cy tg) by rw [fX9_place_28, if_neg c_7, if_pos c_8]).trans hv)
  have J6 : ∀ (q6 : Nat) (k : Nat) (ug : XS) (H : Heap) (locs : List Loc) (ls : Array Slot), (k ≤ 40 ∧ 41 ≤ k + q6) → va_P (dC, dI) vwCl (wX cI cJ cZ ma ug) H → va_D A (wX cI cJ cZ ma ug) → va_S A s.heap H locs → lv_has ls 6 [(2, .int (nI k)), (0, .ref (ma 0)), (1, .int (nI mm))] → (∀ (H : Heap) (locs : List Loc) (ls : Array Slot), va_P (dC, dI) vwCl (wX cI cJ cZ ma ((fX9_place_6 mm fu q6 k ug).2)) H → va_D A (wX cI cJ cZ ma ((fX9_place_6 mm fu q6 k ug).2)) → va_S A s.heap H locs → lv_has ls 6 [(2, .int (nI ((fX9_place_6 mm fu q6 k ug).1))), (0, .ref (ma 0)), (1, .int (nI mm))] → W p l e (headSpec wsX9_place ({ frames := 5, cells := 0, slots := 0, locals := 122 })).room s m ([.ref (ma 0), .int (nI mm)] : List Value).toArray below meth c H locs 0 0 (MQ below (md_Qv (dC, dI) (wX cI cJ cZ ma (fX9_place mm fu sg)) (A)) ([.ref (ma 0), .int (nI mm)] : List Value).toArray s 0 0 (A)) (F0 m 24 ls [])) → W p l e (headSpec wsX9_place ({ frames := 5, cells := 0, slots := 0, locals := 122 })).room s m ([.ref (ma 0), .int (nI mm)] : List Value).toArray below meth c H locs 0 0 (MQ below (md_Qv (dC, dI) (wX cI cJ cZ ma (fX9_place mm fu sg)) (A)) ([.ref (ma 0), .int (nI mm)] : List Value).toArray s 0 0 (A)) (F0 m 6 ls []) := by
    intro q6
    induction q6 with
    | zero => intro k ug H locs ls hm6 hP hD hS hl kx; exact absurd hm6 (by omega)
    | succ q6 ih6 =>
      intro k ug H locs ls hm6 hP hD hS hl kx
      have hkm := hm6.1
      refine lv_iload_n hx hb dX9_place_6 rfl (lv_at hl 0 rfl) ?_
      refine lv_iload_n hx hb dX9_place_7 rfl (lv_at hl 2 rfl) ?_
      refine lv_icmp_ge (tgt := 24) hx hb dX9_place_8 (by decide) (fun c_9 => ?_) (fun c_9 => ?_)
      · rw [show (fX9_place_6 mm fu (q6 + 1) k ug) = (k, ug) by rw [fX9_place_6, if_pos c_9]] at kx
        exact kx H _ ls hP hD hS (lv_sub hl [0, 1, 2] rfl)
      · have hk40 : k < 40 := Nat.lt_of_lt_of_le (nI_geN (by omega) (by omega) c_9) hmm
        refine lv_aload_n hx hb dX9_place_11 rfl (lv_at hl 1 rfl) ?_
        refine va_get (D := (dC, dI)) (ci := 4) (v := .ref (ma 24)) (C := RX9) (T := TX9) (N := 26) hx hb hts hinX9 hown hK hP 0 rfl rfl 24 (by decide) (hts (.fieldLink RX9 48 "SlotFillerModel" "placed" "[I") (by decide +kernel)) (fun _ h9 => h9) rfl dX9_place_12 ?_
        refine lv_iload_n hx hb dX9_place_15 rfl (lv_at hl 0 rfl) ?_
        refine lv_iconst (v := (-1)) hx hb dX9_place_16 (by decide) ?_
        refine my_iast (j := k) hx hb hK hP hD hS 13 0 rfl rfl (hk40) (by decide) dX9_place_17 (fun H locs hP hD hS => ?_)
        have hP : va_P (dC, dI) vwCl [((ma 0), .inr (4, [.int (ug.1), .ref (ma 1), .int (nI ug.2.1), .int (ug.2.2.1), .ref (ma 4), .ref (ma 5), .ref (ma 6), .ref (ma 7), .ref (ma 8), .ref (ma 9), .ref (ma 10), .int (nI ug.2.2.2.1), .int (ug.2.2.2.2.1), .ref (ma 13), .ref (ma 14), .int (ug.2.2.2.2.2.1.1), .int (ug.2.2.2.2.2.1.2.1), .int (ug.2.2.2.2.2.1.2.2.1), .int (ug.2.2.2.2.2.1.2.2.2.1), .long (ug.2.2.2.2.2.1.2.2.2.2.1), .long (ug.2.2.2.2.2.1.2.2.2.2.2.1), .int (ug.2.2.2.2.2.1.2.2.2.2.2.2), .ref (ma 22), .ref (ma 23), .ref (ma 24), .ref (ma 25)])), ((ma 1), .inl (cI, 9, .inl (ug.2.2.2.2.2.2.1 1))), ((ma 4), .inl (cI, 40, .inl (ug.2.2.2.2.2.2.1 4))), ((ma 5), .inl (cI, 40, .inl (ug.2.2.2.2.2.2.1 5))), ((ma 6), .inl (cI, 40, .inl (ug.2.2.2.2.2.2.1 6))), ((ma 7), .inl (cI, 40, .inl (ug.2.2.2.2.2.2.1 7))), ((ma 8), .inl (cJ, 40, .inr (.inl (ug.2.2.2.2.2.2.2 8)))), ((ma 9), .inl (cJ, 40, .inr (.inl (ug.2.2.2.2.2.2.2 9)))), ((ma 10), .inl (cZ, 40, .inl (ug.2.2.2.2.2.2.1 10))), ((ma 13), .inl (cI, 41, .inl (ug.2.2.2.2.2.2.1 13))), ((ma 14), .inl (cI, 41, .inl (ug.2.2.2.2.2.2.1 14))), ((ma 22), .inl (cI, 40, .inl (ug.2.2.2.2.2.2.1 22))), ((ma 23), .inl (cI, 41, .inl (ug.2.2.2.2.2.2.1 23))), ((ma 24), .inl (cI, 40, .inl (upd (ug.2.2.2.2.2.2.1 24) (k) ((-1))))), ((ma 25), .inl (cI, 41, .inl (ug.2.2.2.2.2.2.1 25)))] H := hP
        have hD : va_D A [((ma 0), .inr (4, [.int (ug.1), .ref (ma 1), .int (nI ug.2.1), .int (ug.2.2.1), .ref (ma 4), .ref (ma 5), .ref (ma 6), .ref (ma 7), .ref (ma 8), .ref (ma 9), .ref (ma 10), .int (nI ug.2.2.2.1), .int (ug.2.2.2.2.1), .ref (ma 13), .ref (ma 14), .int (ug.2.2.2.2.2.1.1), .int (ug.2.2.2.2.2.1.2.1), .int (ug.2.2.2.2.2.1.2.2.1), .int (ug.2.2.2.2.2.1.2.2.2.1), .long (ug.2.2.2.2.2.1.2.2.2.2.1), .long (ug.2.2.2.2.2.1.2.2.2.2.2.1), .int (ug.2.2.2.2.2.1.2.2.2.2.2.2), .ref (ma 22), .ref (ma 23), .ref (ma 24), .ref (ma 25)])), ((ma 1), .inl (cI, 9, .inl (ug.2.2.2.2.2.2.1 1))), ((ma 4), .inl (cI, 40, .inl (ug.2.2.2.2.2.2.1 4))), ((ma 5), .inl (cI, 40, .inl (ug.2.2.2.2.2.2.1 5))), ((ma 6), .inl (cI, 40, .inl (ug.2.2.2.2.2.2.1 6))), ((ma 7), .inl (cI, 40, .inl (ug.2.2.2.2.2.2.1 7))), ((ma 8), .inl (cJ, 40, .inr (.inl (ug.2.2.2.2.2.2.2 8)))), ((ma 9), .inl (cJ, 40, .inr (.inl (ug.2.2.2.2.2.2.2 9)))), ((ma 10), .inl (cZ, 40, .inl (ug.2.2.2.2.2.2.1 10))), ((ma 13), .inl (cI, 41, .inl (ug.2.2.2.2.2.2.1 13))), ((ma 14), .inl (cI, 41, .inl (ug.2.2.2.2.2.2.1 14))), ((ma 22), .inl (cI, 40, .inl (ug.2.2.2.2.2.2.1 22))), ((ma 23), .inl (cI, 41, .inl (ug.2.2.2.2.2.2.1 23))), ((ma 24), .inl (cI, 40, .inl (upd (ug.2.2.2.2.2.2.1 24) (k) ((-1))))), ((ma 25), .inl (cI, 41, .inl (ug.2.2.2.2.2.2.1 25)))] := hD
        refine lv_iinc (v := nI (k + 1)) (lv' := [(2, .int (nI (k + 1))), (0, .ref (ma 0)), (1, .int (nI mm))]) hx hb dX9_place_18 hl (k := 0) rfl (nI_1 k) (by decide) rfl (fun ls hl => ?_)
        refine lv_goto (tgt := 6) hx hb dX9_place_21 (by decide) ?_
        rw [show (fX9_place_6 mm fu (q6 + 1) k ug) = (fX9_place_6 mm fu q6 (k + 1) (ug.1, ug.2.1, ug.2.2.1, ug.2.2.2.1, ug.2.2.2.2.1, ug.2.2.2.2.2.1, (upB ug.2.2.2.2.2.2.1 24 (upd (ug.2.2.2.2.2.2.1 24) (k) ((-1)))), ug.2.2.2.2.2.2.2)) by rw [fX9_place_6, if_neg c_9]] at kx
        exact ih6 (k + 1) (ug.1, ug.2.1, ug.2.2.1, ug.2.2.2.1, ug.2.2.2.2.1, ug.2.2.2.2.2.1, (upB ug.2.2.2.2.2.2.1 24 (upd (ug.2.2.2.2.2.2.1 24) (k) ((-1)))), ug.2.2.2.2.2.2.2) H _ ls (⟨hk40, by omega⟩) hP hD hS (lv_sub hl [0, 1, 2] rfl) kx
  refine lv_aload_n hx hb dX9_place_0 rfl (lv_at hl 0 rfl) ?_
  refine md_callv (wr := []) (va_runV (As := []) (rest := []) ⟨hx, hb, hml, hown, hts⟩ (kX9_findHeights l dC dI cI cJ cZ ma s.heap.size  sg hn hc0) (cwV 0 hts gX9_place_X9_findHeights rfl rfl rfl (by decide +kernel) ⟨Nat.le_of_ble_eq_true rfl, Nat.le_of_ble_eq_true rfl⟩) (md_preV 0 4 (q := (RX9, TX9, 26)) rfl rfl hP hK hD) rfl rfl hl.1 rfl (lv_room (Nat.le_of_ble_eq_true rfl)) dX9_place_1 ⟨Nat.zero_le _, Nat.zero_le _⟩) hS hA hP hD [0, 1, 2, 3, 4, 5, 6, 7, 8, 9, 10, 11, 12, 13, 14] [] rfl rfl (by decide) (by decide) (fun H locs hP hD hS => ?_)
  have hP : va_P (dC, dI) vwCl (wX cI cJ cZ ma (fX9_findHeights sg)) H := hP
  have hD : va_D A (wX cI cJ cZ ma (fX9_findHeights sg)) := hD
  refine lv_iconst (v := 0) hx hb dX9_place_4 (by decide) ?_
  refine top_i (y := nI 0) (nI_0.symm) ?_
  refine lv_istore_n (lv' := [(2, .int (nI 0)), (0, .ref (ma 0)), (1, .int (nI mm))]) hx hb dX9_place_5 rfl hl (by decide) rfl (fun ls hl => ?_)
  refine J6 41 0 (fX9_findHeights sg) H _ ls (⟨Nat.zero_le _, by omega⟩) hP hD hS (lv_sub hl [0, 1, 2] rfl) (fun H locs ls hP hD hS hl => ?_)
  refine lv_iconst (v := 0) hx hb dX9_place_24 (by decide) ?_
  refine top_i (y := nI 0) (nI_0.symm) ?_
  refine lv_istore_n (lv' := [(2, .int (nI 0)), (0, .ref (ma 0)), (1, .int (nI mm))]) hx hb dX9_place_25 rfl hl (by decide) rfl (fun ls hl => ?_)
  refine lv_iconst (v := 0) hx hb dX9_place_26 (by decide) ?_
  refine top_i (y := nI 0) (nI_0.symm) ?_
  refine lv_istore_n (lv' := [(3, .int (nI 0)), (2, .int (nI 0)), (0, .ref (ma 0)), (1, .int (nI mm))]) hx hb dX9_place_27 rfl hl (by decide) rfl (fun ls hl => ?_)
  exact J28 fu 0 0 ((fX9_place_6 mm fu 41 0 (fX9_findHeights sg)).2) H _ ls (⟨hh, Nat.zero_le _, pl_okC mm fu sg hc0⟩) hP hD hS (lv_sub hl [1, 0, 2, 3] rfl) ((show (fX9_place_28 mm fu fu 0 0 ((fX9_place_6 mm fu 41 0 (fX9_findHeights sg)).2)) = (fX9_place mm fu sg) by unfold fX9_place; rfl).trans hv)
