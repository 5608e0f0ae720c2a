set_option maxHeartbeats 4000000 in
set_option maxRecDepth 100000 in
theorem k_X8_take (l : Launch) (D : va_G) (cs : Nat → ClassId) (A : Nat → Prop) (ad fa fq rv : Nat → Nat) (v : Nat → Int32) (a : Nat → Nat → Int32) (w : Nat → Nat → Int64) (fv fp : Nat → Nat → Int32)  (p1 : Int32)  : Met l yX8_take (Cond.code yX8_take cX8_take 2 none :: gw) ({ frames := 1, cells := 0, slots := 0, locals := 60 }) (va_Pc [.ref (ad 4), .int p1] (XPre D (TY cs) (CW cs ad fa fq rv v a w fv fp) A)) (va_Qv (fun (z : Int32 × (Nat → Int32) × Int32) => True) (XPo D (fun (z : Int32 × (Nat → Int32) × Int32) => CW cs ad fa fq rv (va_up (va_up v 7 z.1) 8 z.2.2) (va_up a 22 z.2.1) w fv fp) A) A) 0 0 A := by
  refine Met.ofW (cc := cX8_take) (maxL := 2) (ret := none) (by decide) rfl ?_
  intro p e s m args below meth c s₁ B hml hv
  obtain ⟨rfl, hP, hK, hD, hZ⟩ := hv
  have hx := B.exec
  have hb := B.bytes
  have hr := B.returns
  have hts := atoms_spec (ws := (Cond.code yX8_take cX8_take 2 none :: gw)) B.pre
  have hg : ∀ w ∈ gw, w.before ([.ref (ad 4), .int p1] : List Value).toArray s = true := fun w h => hts w (List.mem_cons_of_mem _ h)
  have hown : s.vm.findClass RX8 = some m.cls := findClass_of_methodNamed B.named
  have hlocks := B.notSynchronized
  have hS : va_S A s.heap s.heap [] := va_S.rf
  have hP : va_P D vwCl (CW cs ad fa fq rv v a w fv fp) s.heap := hP
  have hl := lv_entry ([.ref (ad 4), .int p1]) (n := 2) (Nat.le_of_ble_eq_true rfl)
  rw [lg_entry_eq]
  generalize (lg_sl ([.ref (ad 4), .int p1]) ++ List.replicate (2 - (lg_sl ([.ref (ad 4), .int p1])).length) Slot.unset).toArray = ls at hl ⊢
  have hl : lv_has ls 2 [(0, .ref (ad 4)), (1, .int p1)] := hl
  refine lv_iload_n hx hb dX8_take_0 rfl (lv_at hl 1 rfl) ?_
  refine lv_if_ne (tgt := 14) hx hb dX8_take_1 (by decide) (fun c_1 => ?_) (fun c_1 => ?_)
  ·
    have kc_1 : p1.toInt ≠ (0 : Int) := i_ne c_1
    refine lv_iload_n hx hb dX8_take_14 rfl (lv_at hl 1 rfl) ?_
    refine lv_aload_n hx hb dX8_take_15 rfl (lv_at hl 0 rfl) ?_
    refine gf_arranging_fewest hx hb hg hown hK hP (x := (v 7)) rfl (hg _ q2_41) dX8_take_16 ?_
    refine lv_icmp_ge (tgt := 42) hx hb dX8_take_19 (by decide) (fun c_2 => ?_) (fun c_2 => ?_)
    ·
      have kc_2 : (v 7).toInt ≤ p1.toInt := i_le c_2
      have hP : va_P D vwCl (CW cs ad fa fq rv (va_up (va_up v 7 (v 7)) 8 (v 8)) (va_up a 22 (a 22)) w fv fp) _ := hP
      have hD : va_D A (CW cs ad fa fq rv (va_up (va_up v 7 (v 7)) 8 (v 8)) (va_up a 22 (a 22)) w fv fp) := hD
      exact W.vret hx hb hr (fun tt ht hW => ⟨⟨⟨(v 7), (a 22), (v 8)⟩, rfl, trivial, by rw [ht]; exact hP, hD⟩, hS.F ht⟩) hS.2.2 dX8_take_42
    ·
      have kc_2 : p1.toInt < (v 7).toInt := i_nle c_2
      refine lv_aload_n hx hb dX8_take_22 rfl (lv_at hl 0 rfl) ?_
      refine lv_iload_n hx hb dX8_take_23 rfl (lv_at hl 1 rfl) ?_
      refine pf_arranging_fewest hx hb hg hown hK hP hD hS (hg _ q2_41) dX8_take_24 (fun H locs hP hD hS => ?_)
      refine lv_aload_n hx hb dX8_take_27 rfl (lv_at hl 0 rfl) ?_
      refine gf_arranging_tried hx hb hg hown hK hP rfl (hg _ q2_39) dX8_take_28 ?_
      refine lv_iconst (v := 0) hx hb dX8_take_31 (by decide) ?_
      refine lv_aload_n hx hb dX8_take_32 rfl (lv_at hl 0 rfl) ?_
      refine gf_arranging_best hx hb hg hown hK hP rfl (hg _ q2_40) dX8_take_33 ?_
      refine lv_iconst (v := 0) hx hb dX8_take_36 (by decide) ?_
      refine lv_bipush (v := 7) hx hb dX8_take_37 (by decide) ?_
      refine va_copyi hx hb (hml.trans hl.1.symm) hown (hg _ q3_230) (hg _ q3_23) (hg _ q3_22) (hg _ q1_15) hK hP hD hS 21 22 0 0 rfl rfl rfl rfl rfl (fun q => absurd q (by decide)) (fun q => absurd q (by decide)) (fun q => absurd q (by decide)) (by show 0 + 7 ≤ 7; omega) (by show 0 + 7 ≤ 7; omega) (fun _ _ => rfl) (Nat.le_of_ble_eq_true rfl) (Nat.le_of_ble_eq_true rfl) dX8_take_39 (fun H locs hP hD hS => ?_)
      have hP : va_P D vwCl (CW cs ad fa fq rv (va_up v 7 p1) (va_up a 22 (va_cpy (a 21) (a 22) (0 : Int32).toNatClampNeg (0 : Int32).toNatClampNeg (7 : Int32).toNatClampNeg)) w fv fp) H := hP
      have hD : va_D A (CW cs ad fa fq rv (va_up v 7 p1) (va_up a 22 (va_cpy (a 21) (a 22) (0 : Int32).toNatClampNeg (0 : Int32).toNatClampNeg (7 : Int32).toNatClampNeg)) w fv fp) := hD
      have hP : va_P D vwCl (CW cs ad fa fq rv (va_up (va_up v 7 p1) 8 (v 8)) (va_up a 22 (va_cpy (a 21) (a 22) (0 : Int32).toNatClampNeg (0 : Int32).toNatClampNeg (7 : Int32).toNatClampNeg)) w fv fp) _ := hP
      have hD : va_D A (CW cs ad fa fq rv (va_up (va_up v 7 p1) 8 (v 8)) (va_up a 22 (va_cpy (a 21) (a 22) (0 : Int32).toNatClampNeg (0 : Int32).toNatClampNeg (7 : Int32).toNatClampNeg)) w fv fp) := hD
      exact W.vret hx hb hr (fun tt ht hW => ⟨⟨⟨p1, (va_cpy (a 21) (a 22) (0 : Int32).toNatClampNeg (0 : Int32).toNatClampNeg (7 : Int32).toNatClampNeg), (v 8)⟩, rfl, trivial, by rw [ht]; exact hP, hD⟩, hS.F ht⟩) hS.2.2 dX8_take_42
  ·
    have kc_1 : p1.toInt = (0 : Int) := i_eq c_1
    refine lv_aload_n hx hb dX8_take_4 rfl (lv_at hl 0 rfl) ?_
    refine lv_dup hx hb dX8_take_5 rfl ?_
    refine gf_arranging_quiet hx hb hg hown hK hP (x := (v 8)) rfl (hg _ q2_43) dX8_take_6 ?_
    refine lv_iconst (v := 1) hx hb dX8_take_9 (by decide) ?_
    refine lv_iadd hx hb dX8_take_10 ?_
    refine lv_topi (fun x_3 ex_3 => ?_)
    refine pf_arranging_quiet hx hb hg hown hK hP hD hS (hg _ q2_43) dX8_take_11 (fun H locs hP hD hS => ?_)
    refine lv_iload_n hx hb dX8_take_14 rfl (lv_at hl 1 rfl) ?_
    refine lv_aload_n hx hb dX8_take_15 rfl (lv_at hl 0 rfl) ?_
    refine gf_arranging_fewest hx hb hg hown hK hP (x := (v 7)) rfl (hg _ q2_41) dX8_take_16 ?_
    refine lv_icmp_ge (tgt := 42) hx hb dX8_take_19 (by decide) (fun c_4 => ?_) (fun c_4 => ?_)
    ·
      have kc_4 : (v 7).toInt ≤ p1.toInt := i_le c_4
      have hP : va_P D vwCl (CW cs ad fa fq rv (va_up (va_up v 7 (v 7)) 8 x_3) (va_up a 22 (a 22)) w fv fp) _ := hP
      have hD : va_D A (CW cs ad fa fq rv (va_up (va_up v 7 (v 7)) 8 x_3) (va_up a 22 (a 22)) w fv fp) := hD
      exact W.vret hx hb hr (fun tt ht hW => ⟨⟨⟨(v 7), (a 22), x_3⟩, rfl, trivial, by rw [ht]; exact hP, hD⟩, hS.F ht⟩) hS.2.2 dX8_take_42
    ·
      have kc_4 : p1.toInt < (v 7).toInt := i_nle c_4
      refine lv_aload_n hx hb dX8_take_22 rfl (lv_at hl 0 rfl) ?_
      refine lv_iload_n hx hb dX8_take_23 rfl (lv_at hl 1 rfl) ?_
      refine pf_arranging_fewest hx hb hg hown hK hP hD hS (hg _ q2_41) dX8_take_24 (fun H locs hP hD hS => ?_)
      refine lv_aload_n hx hb dX8_take_27 rfl (lv_at hl 0 rfl) ?_
      refine gf_arranging_tried hx hb hg hown hK hP rfl (hg _ q2_39) dX8_take_28 ?_
      refine lv_iconst (v := 0) hx hb dX8_take_31 (by decide) ?_
      refine lv_aload_n hx hb dX8_take_32 rfl (lv_at hl 0 rfl) ?_
      refine gf_arranging_best hx hb hg hown hK hP rfl (hg _ q2_40) dX8_take_33 ?_
      refine lv_iconst (v := 0) hx hb dX8_take_36 (by decide) ?_
      refine lv_bipush (v := 7) hx hb dX8_take_37 (by decide) ?_
      refine va_copyi hx hb (hml.trans hl.1.symm) hown (hg _ q3_230) (hg _ q3_23) (hg _ q3_22) (hg _ q1_15) hK hP hD hS 21 22 0 0 rfl rfl rfl rfl rfl (fun q => absurd q (by decide)) (fun q => absurd q (by decide)) (fun q => absurd q (by decide)) (by show 0 + 7 ≤ 7; omega) (by show 0 + 7 ≤ 7; omega) (fun _ _ => rfl) (Nat.le_of_ble_eq_true rfl) (Nat.le_of_ble_eq_true rfl) dX8_take_39 (fun H locs hP hD hS => ?_)
      have hP : va_P D vwCl (CW cs ad fa fq rv (va_up (va_up v 8 x_3) 7 p1) (va_up a 22 (va_cpy (a 21) (a 22) (0 : Int32).toNatClampNeg (0 : Int32).toNatClampNeg (7 : Int32).toNatClampNeg)) w fv fp) H := hP
      have hD : va_D A (CW cs ad fa fq rv (va_up (va_up v 8 x_3) 7 p1) (va_up a 22 (va_cpy (a 21) (a 22) (0 : Int32).toNatClampNeg (0 : Int32).toNatClampNeg (7 : Int32).toNatClampNeg)) w fv fp) := hD
      have hP : va_P D vwCl (CW cs ad fa fq rv (va_up (va_up v 7 p1) 8 x_3) (va_up a 22 (va_cpy (a 21) (a 22) (0 : Int32).toNatClampNeg (0 : Int32).toNatClampNeg (7 : Int32).toNatClampNeg)) w fv fp) _ := hP
      have hD : va_D A (CW cs ad fa fq rv (va_up (va_up v 7 p1) 8 x_3) (va_up a 22 (va_cpy (a 21) (a 22) (0 : Int32).toNatClampNeg (0 : Int32).toNatClampNeg (7 : Int32).toNatClampNeg)) w fv fp) := hD
      exact W.vret hx hb hr (fun tt ht hW => ⟨⟨⟨p1, (va_cpy (a 21) (a 22) (0 : Int32).toNatClampNeg (0 : Int32).toNatClampNeg (7 : Int32).toNatClampNeg), x_3⟩, rfl, trivial, by rw [ht]; exact hP, hD⟩, hS.F ht⟩) hS.2.2 dX8_take_42
set_option maxHeartbeats 4000000 in
set_option maxRecDepth 100000 in
theorem k_X8_placeOf (l : Launch) (D : va_G) (cs : Nat → ClassId) (A : Nat → Prop) (ad fa fq rv : Nat → Nat) (v : Nat → Int32) (a : Nat → Nat → Int32) (w : Nat → Nat → Int64) (fv fp : Nat → Nat → Int32)  (p1 : Int32)  : Met l yX8_placeOf (Cond.code yX8_placeOf cX8_placeOf 2 (some .int) :: gw) ({ frames := 0, cells := 0, slots := 0, locals := 0 }) (va_Pc [.ref (ad 4), .int p1] (XPre D (TY cs) (CW cs ad fa fq rv v a w fv fp) A)) (vp_Si (fun (r : Int32) => True)) 0 0 (fun _ => False) := by
  refine Met.ofW (cc := cX8_placeOf) (maxL := 2) (ret := (some .int)) (by decide) rfl ?_
  intro p e s m args below meth c s₁ B hml hv
  obtain ⟨rfl, hP, hK, hD, hZ⟩ := hv
  have hx := B.exec
  have hb := B.bytes
  have hr := B.returns
  have hts := atoms_spec (ws := (Cond.code yX8_placeOf cX8_placeOf 2 (some .int) :: gw)) B.pre
  have hg : ∀ w ∈ gw, w.before ([.ref (ad 4), .int p1] : List Value).toArray s = true := fun w h => hts w (List.mem_cons_of_mem _ h)
  have hown : s.vm.findClass RX8 = some m.cls := findClass_of_methodNamed B.named
  have hlocks := B.notSynchronized
  have hS : va_S A s.heap s.heap [] := va_S.rf
  have hl := lv_entry ([.ref (ad 4), .int p1]) (n := 2) (Nat.le_of_ble_eq_true rfl)
  rw [lg_entry_eq]
  generalize (lg_sl ([.ref (ad 4), .int p1]) ++ List.replicate (2 - (lg_sl ([.ref (ad 4), .int p1])).length) Slot.unset).toArray = ls at hl ⊢
  have hl : lv_has ls 2 [(0, .ref (ad 4)), (1, .int p1)] := hl
  refine lv_iload_n hx hb dX8_placeOf_0 rfl (lv_at hl 1 rfl) ?_
  refine lv_if_lt (tgt := 19) hx hb dX8_placeOf_1 (by decide) (fun c_1 => ?_) (fun c_1 => ?_)
  ·
    have kc_1 : p1.toInt < (0 : Int) := i_lt c_1
    refine lv_bipush (v := (-2)) hx hb dX8_placeOf_19 (by decide) ?_
    have q0_m2 : ((-2) : Int32).toInt = (-2) := rfl
    exact W.iret (v := (-2)) hx hb hr (fun tt ht hW => ⟨(-2), rfl, trivial, ht⟩) (fun _ h => by cases h) dX8_placeOf_21
  ·
    have kc_1 : (0 : Int) ≤ p1.toInt := i_nlt c_1
    refine lv_iload_n hx hb dX8_placeOf_4 rfl (lv_at hl 1 rfl) ?_
    refine lv_bipush (v := 7) hx hb dX8_placeOf_5 (by decide) ?_
    refine lv_icmp_ge (tgt := 19) hx hb dX8_placeOf_7 (by decide) (fun c_2 => ?_) (fun c_2 => ?_)
    ·
      have kc_2 : (7 : Int) ≤ p1.toInt := i_le c_2
      refine lv_bipush (v := (-2)) hx hb dX8_placeOf_19 (by decide) ?_
      have q0_m2 : ((-2) : Int32).toInt = (-2) := rfl
      exact W.iret (v := (-2)) hx hb hr (fun tt ht hW => ⟨(-2), rfl, trivial, ht⟩) (fun _ h => by cases h) dX8_placeOf_21
    ·
      have kc_2 : p1.toInt < (7 : Int) := i_nle c_2
      refine lv_aload_n hx hb dX8_placeOf_10 rfl (lv_at hl 0 rfl) ?_
      refine gf_arranging_best hx hb hg hown hK hP rfl (hg _ q2_40) dX8_placeOf_11 ?_
      refine lv_iload_n hx hb dX8_placeOf_14 rfl (lv_at hl 1 rfl) ?_
      refine ld_Obest hx hb hK hP (i_in (by omega) (by omega)) dX8_placeOf_15 ?_
      refine lv_topi (fun x_3 ex_3 => ?_)
      have ex_3 : x_3 = (a 22) p1.toNatClampNeg := ex_3
      have hx_3 : x_3.toInt = ((a 22) p1.toNatClampNeg).toInt := by rw [ex_3]
      refine lv_goto (tgt := 21) hx hb dX8_placeOf_16 (by decide) ?_
      exact W.iret (v := x_3) hx hb hr (fun tt ht hW => ⟨x_3, rfl, trivial, ht⟩) (fun _ h => by cases h) dX8_placeOf_21
def C_X8_arrange (n : Nat) : Prop := ∀ (l : Launch) (D : va_G) (cs : Nat → ClassId) (A : Nat → Prop) (ad fa fq rv : Nat → Nat) (v : Nat → Int32) (a : Nat → Nat → Int32) (w : Nat → Nat → Int64) (fv fp : Nat → Nat → Int32) (d : Nat) (p2 : Int32) (p3 : Int32) (hd : p2.toInt = (d : Int)) (hdm : d ≤ 7) (hdn : 7 ≤ d + n) (iv1_0 : 0 ≤ (v 1).toInt) (iv1_1 : (v 1).toInt ≤ 8) (iv6_0 : 0 ≤ (v 6).toInt) (iv6_1 : (v 6).toInt ≤ 24) (iv6_2 : DOK (v 6) (a 20) (v 1)) (ifvd_0 : (fv d 2).toInt = -2 ∨ (0 ≤ (fv d 2).toInt ∧ (fv d 2).toInt < (v 1).toInt)) (iv5_0 : 0 ≤ (v 5).toInt) (iv5_1 : (v 5).toInt ≤ 256) (ia18_0 : AB (-1000) 20000 (a 18)), Met l yX8_arrange (Cond.code yX8_arrange cX8_arrange 7 none :: gw) ({ frames := 2 * n + 8, cells := 0, slots := 0, locals := 100 * n + 300 }) (va_Pc [.ref (ad 4), .int p2, .int p3] (XPre D (TY cs) (CW cs ad fa fq rv v a w fv fp) A)) (va_Qv (fun (z : (Nat → Nat → Int32) × (Nat → Nat → Int32) × Int32 × Int32 × (Nat → Int32) × (Nat → Int32) × (Nat → Int32) × (Nat → Int32)) => (∀ f : Nat, f ≤ d ∨ 14 ≤ f → z.1 f = fv f)) (XPo D (fun (z : (Nat → Nat → Int32) × (Nat → Nat → Int32) × Int32 × Int32 × (Nat → Int32) × (Nat → Int32) × (Nat → Int32) × (Nat → Int32)) => CW cs ad fa fq rv (va_up (va_up v 7 z.2.2.1) 8 z.2.2.2.1) (va_up (va_up (va_up (va_up a 22 z.2.2.2.2.1) 21 z.2.2.2.2.2.1) 17 z.2.2.2.2.2.2.1) 16 z.2.2.2.2.2.2.2) w z.1 z.2.1) A) A) 0 0 A
set_option maxHeartbeats 4000000 in
set_option maxRecDepth 100000 in
theorem s_X8_arrange (n : Nat) (hrec : ∀ k, k + 1 = n → C_X8_arrange k) : C_X8_arrange n := by
  intro l D cs A ad fa fq rv v a w fv fp d p2 p3 hd hdm hdn iv1_0 iv1_1 iv6_0 iv6_1 iv6_2 ifvd_0 iv5_0 iv5_1 ia18_0
  refine Met.ofW (cc := cX8_arrange) (maxL := 7) (ret := none) (by decide) rfl ?_
  intro p e s m args below meth c s₁ B hml hv
  obtain ⟨rfl, hP, hK, hD, hZ⟩ := hv
  have hx := B.exec
  have hb := B.bytes
  have hr := B.returns
  have hts := atoms_spec (ws := (Cond.code yX8_arrange cX8_arrange 7 none :: gw)) B.pre
  have hg : ∀ w ∈ gw, w.before ([.ref (ad 4), .int p2, .int p3] : List Value).toArray s = true := fun w h => hts w (List.mem_cons_of_mem _ h)
  have hown : s.vm.findClass RX8 = some m.cls := findClass_of_methodNamed B.named
  have hlocks := B.notSynchronized
  have hS : va_S A s.heap s.heap [] := va_S.rf
  have hP : va_P D vwCl (CW cs ad fa fq rv v a w fv fp) s.heap := hP
  have hl := lv_entry ([.ref (ad 4), .int p2, .int p3]) (n := 7) (Nat.le_of_ble_eq_true rfl)
  rw [lg_entry_eq]
  generalize (lg_sl ([.ref (ad 4), .int p2, .int p3]) ++ List.replicate (7 - (lg_sl ([.ref (ad 4), .int p2, .int p3])).length) Slot.unset).toArray = ls at hl ⊢
  have hl : lv_has ls 7 [(0, .ref (ad 4)), (1, .int p2), (2, .int p3)] := hl
  have hcut : ∀ nk : Nat, (∀ (x6 : Int32) (gfv : Nat → Nat → Int32) (gfp : Nat → Nat → Int32) (c69_a21 : Nat → Int32) (c69_a17 : Nat → Int32) (c69_a16 : Nat → Int32) (c69_v7 : Int32) (c69_v8 : Int32) (c69_a22 : Nat → Int32) (H : Heap) (locs : List Loc) (hgv : ∀ f : Nat, f ≤ d ∨ 14 ≤ f → gfv f = fv f) (hd6 : d < 7) (i6 : 0 ≤ x6.toInt) (hmu : ((v 6).toInt - x6.toInt).toNat < nk) (hP : va_P D vwCl (CW cs ad fa fq rv (va_up (va_up v 7 c69_v7) 8 c69_v8) (va_up (va_up (va_up (va_up a 21 c69_a21) 17 c69_a17) 16 c69_a16) 22 c69_a22) w gfv gfp) H) (hD : va_D A (CW cs ad fa fq rv (va_up (va_up v 7 c69_v7) 8 c69_v8) (va_up (va_up (va_up (va_up a 21 c69_a21) 17 c69_a17) 16 c69_a16) 22 c69_a22) w gfv gfp)) (hS : va_S A s.heap H locs) (ls : Array Slot) (hl : lv_has ls 7 [(0, .ref (ad 4)), (1, .int p2), (2, .int p3), (3, .ref (fa d)), (4, .ref (ad 3)), (5, .ref (fa (d + 1))), (6, .int x6)]), W p l e (headSpec (Cond.code yX8_arrange cX8_arrange 7 none :: gw) ({ frames := 2 * n + 8, cells := 0, slots := 0, locals := 100 * n + 300 })).room s m ([.ref (ad 4), .int p2, .int p3] : List Value).toArray below meth c H locs 0 0 (MQ below (va_Qv (fun (z : (Nat → Nat → Int32) × (Nat → Nat → Int32) × Int32 × Int32 × (Nat → Int32) × (Nat → Int32) × (Nat → Int32) × (Nat → Int32)) => (∀ f : Nat, f ≤ d ∨ 14 ≤ f → z.1 f = fv f)) (XPo D (fun (z : (Nat → Nat → Int32) × (Nat → Nat → Int32) × Int32 × Int32 × (Nat → Int32) × (Nat → Int32) × (Nat → Int32) × (Nat → Int32)) => CW cs ad fa fq rv (va_up (va_up v 7 z.2.2.1) 8 z.2.2.2.1) (va_up (va_up (va_up (va_up a 22 z.2.2.2.2.1) 21 z.2.2.2.2.2.1) 17 z.2.2.2.2.2.2.1) 16 z.2.2.2.2.2.2.2) w z.1 z.2.1) A) A) ([.ref (ad 4), .int p2, .int p3] : List Value).toArray s 0 0 A) (F0 m 69 ls [])) := by
    intro nk
    induction nk with
    | zero => exact (fun x6 gfv gfp c69_a21 c69_a17 c69_a16 c69_v7 c69_v8 c69_a22 H locs hgv hd6 i6 hmu hP hD hS ls hl => absurd hmu (Nat.not_lt_zero _))
    | succ nk ih =>
      intro x6 gfv gfp c69_a21 c69_a17 c69_a16 c69_v7 c69_v8 c69_a22 H locs hgv hd6 i6 hmu hP hD hS ls hl
      have hgd : gfv d = fv d := hgv d (Or.inl (Nat.le_refl d))
      have hlk : (gfv d 2).toInt = -2 ∨ (0 ≤ (gfv d 2).toInt ∧ (gfv d 2).toInt < (v 1).toInt) := by rw [hgd]; exact ifvd_0
      refine lv_iload hx hb dX8_arrange_69 (lv_at hl 6 rfl) ?_
      refine lv_aload hx hb dX8_arrange_71 (lv_at hl 4 rfl) ?_
      refine gf_today_size hx hb hg hown hK hP (x := (v 6)) rfl (hg _ q1_207) dX8_arrange_73 ?_
      refine lv_icmp_ge (tgt := 143) hx hb dX8_arrange_76 (by decide) (fun c_1 => ?_) (fun c_1 => ?_)
      ·
        have kc_1 : (v 6).toInt ≤ x6.toInt := i_le c_1
        have hP : va_P D vwCl (CW cs ad fa fq rv (va_up (va_up v 7 c69_v7) 8 c69_v8) (va_up (va_up (va_up (va_up a 22 c69_a22) 21 c69_a21) 17 c69_a17) 16 c69_a16) w gfv gfp) _ := hP
        have hD : va_D A (CW cs ad fa fq rv (va_up (va_up v 7 c69_v7) 8 c69_v8) (va_up (va_up (va_up (va_up a 22 c69_a22) 21 c69_a21) 17 c69_a17) 16 c69_a16) w gfv gfp) := hD
        exact W.vret hx hb hr (fun tt ht hW => ⟨⟨⟨gfv, gfp, c69_v7, c69_v8, c69_a22, c69_a21, c69_a17, c69_a16⟩, rfl, hgv, by rw [ht]; exact hP, hD⟩, hS.F ht⟩) hS.2.2 dX8_arrange_143
      ·
        have kc_1 : x6.toInt < (v 6).toInt := i_nle c_1
        refine lv_iload_n hx hb dX8_arrange_79 rfl (lv_at hl 2 rfl) ?_
        refine lv_iload hx hb dX8_arrange_80 (lv_at hl 6 rfl) ?_
        refine lv_ishr hx hb dX8_arrange_82 ?_
        refine lv_topi (fun x_2 ex_2 => ?_)
        refine lv_iconst (v := 1) hx hb dX8_arrange_83 (by decide) ?_
        refine lv_iand hx hb dX8_arrange_84 ?_
        refine lv_topi (fun x_3 ex_3 => ?_)
        refine lv_if_ne (tgt := 137) hx hb dX8_arrange_85 (by decide) (fun c_4 => ?_) (fun c_4 => ?_)
        ·
          have kc_4 : x_3.toInt ≠ (0 : Int) := i_ne c_4
          obtain ⟨x_5, ex_5⟩ : ∃ y : Int32, y = x6 + 1 := ⟨_, rfl⟩
          have fx_5 : x_5.toInt = x6.toInt + 1 := by rw [ex_5]; exact i_add (by first | omega | (show (_ : Int) ≤ x6.toInt + 1; omega)) (by first | omega | (show x6.toInt + 1 ≤ (_ : Int); omega))
          refine lv_iinc (v := x_5) (lv' := [(6, .int x_5), (0, .ref (ad 4)), (1, .int p2), (2, .int p3), (3, .ref (fa d)), (4, .ref (ad 3)), (5, .ref (fa (d + 1)))]) hx hb dX8_arrange_137 hl (k := 6) rfl (by rw [ex_5]; rfl) (by decide) rfl (fun ls hl => ?_)
          refine lv_goto (tgt := 69) hx hb dX8_arrange_140 (by decide) ?_
          exact ih x_5 gfv gfp c69_a21 c69_a17 c69_a16 c69_v7 c69_v8 c69_a22 _ _ hgv (by omega) (by omega) (by omega) hP hD hS ls (lv_sub hl [1, 2, 3, 4, 5, 6, 0] rfl)
        ·
          have kc_4 : x_3.toInt = (0 : Int) := i_eq c_4
          refine lv_aload_n hx hb dX8_arrange_88 rfl (lv_at hl 0 rfl) ?_
          refine gf_arranging_tried hx hb hg hown hK hP rfl (hg _ q2_39) dX8_arrange_89 ?_
          refine lv_iload_n hx hb dX8_arrange_92 rfl (lv_at hl 1 rfl) ?_
          refine lv_iload hx hb dX8_arrange_93 (lv_at hl 6 rfl) ?_
          refine st_Otried hx hb hK hP hD hS (i_in (by omega) (by omega)) dX8_arrange_95 (fun H locs hP hD hS => ?_)
          refine lv_aload hx hb dX8_arrange_96 (lv_at hl 5 rfl) ?_
          refine lv_aload_n hx hb dX8_arrange_98 rfl (lv_at hl 3 rfl) ?_
          refine lv_bipush (v := 8) hx hb dX8_arrange_99 (by decide) ?_
          refine cV_v (As := [.ref (fa d), .int 8]) (rest := []) ⟨hx, hb, hml, hown, hg⟩ (k_X3_follow l D cs A ad fa fq rv (va_up (va_up v 7 c69_v7) 8 c69_v8) (va_up (va_up (va_up (va_up a 17 c69_a17) 16 c69_a16) 22 c69_a22) 21 (upd c69_a21 p2.toNatClampNeg x6)) w gfv gfp (d + 1) d 8 (by omega) (by omega) (by omega) (show 0 ≤ (8 : Int) by first | omega | decide) (show (8 : Int) ≤ 8 by first | omega | decide) (show 0 ≤ (v 1).toInt by first | omega | decide) (show (v 1).toInt ≤ 8 by first | omega | decide) (show (gfv d 2).toInt = -2 ∨ (0 ≤ (gfv d 2).toInt ∧ (gfv d 2).toInt < (v 1).toInt) by first | omega | decide)) ca_X3_follow q3_231 ⟨rfl, rfl⟩ ⟨(show 1 + 1 ≤ 2 * n + 8 by omega), (show 8 + (3 + 11) + (60) ≤ 100 * n + 300 by omega)⟩ (rc_fl (f := (d + 1)) (by omega) hK hP) hK hP hD hS hZ rfl hl.1 rfl (Nat.le_of_ble_eq_true rfl) ⟨Nat.zero_le _, Nat.zero_le _⟩ dX8_arrange_101 (fun z_9 H locs wr_6 hP hD hS => ?_)
          obtain ⟨o_fvf_7, o_fpf_8⟩ := z_9
          have hP : va_P D vwCl (CW cs ad fa fq rv (va_up (va_up v 7 c69_v7) 8 c69_v8) (va_up (va_up (va_up (va_up a 17 c69_a17) 16 c69_a16) 22 c69_a22) 21 (upd c69_a21 p2.toNatClampNeg x6)) w (va_up gfv (d + 1) o_fvf_7) (va_up gfp (d + 1) o_fpf_8)) H := hP
          have hD : va_D A (CW cs ad fa fq rv (va_up (va_up v 7 c69_v7) 8 c69_v8) (va_up (va_up (va_up (va_up a 17 c69_a17) 16 c69_a16) 22 c69_a22) 21 (upd c69_a21 p2.toNatClampNeg x6)) w (va_up gfv (d + 1) o_fvf_7) (va_up gfp (d + 1) o_fpf_8)) := hD
          obtain ⟨wr_6_0, wr_6_1, wr_6_2, wr_6_3, wr_6_4, wr_6_5, wr_6_6, wr_6_7, wr_6_8⟩ : (o_fvf_7 0 = (gfv d 0)) ∧ (o_fvf_7 1 = (gfv d 1)) ∧ (o_fvf_7 2 = (gfv d 2)) ∧ (o_fvf_7 3 = (gfv d 3)) ∧ (o_fvf_7 4 = (gfv d 4)) ∧ (o_fvf_7 5 = (gfv d 5)) ∧ (o_fvf_7 6 = (gfv d 6)) ∧ (o_fvf_7 7 = (gfv d 7)) ∧ ((o_fvf_7 2).toInt = -2 ∨ (0 ≤ (o_fvf_7 2).toInt ∧ (o_fvf_7 2).toInt < (v 1).toInt)) := wr_6
          refine lv_aload hx hb dX8_arrange_104 (lv_at hl 5 rfl) ?_
          refine lv_aload hx hb dX8_arrange_106 (lv_at hl 4 rfl) ?_
          refine lv_iload hx hb dX8_arrange_108 (lv_at hl 6 rfl) ?_
          refine cV_ro (As := [.int x6]) (rest := [.ref (fa (d + 1))]) ⟨hx, hb, hml, hown, hg⟩ (k_X2_who l D cs A ad fa fq rv (va_up (va_up v 7 c69_v7) 8 c69_v8) (va_up (va_up (va_up (va_up a 17 c69_a17) 16 c69_a16) 22 c69_a22) 21 (upd c69_a21 p2.toNatClampNeg x6)) w (va_up gfv (d + 1) o_fvf_7) (va_up gfp (d + 1) o_fpf_8)  x6 (show 0 ≤ x6.toInt by first | omega | decide) (show x6.toInt < (v 6).toInt by first | omega | decide) (show 0 ≤ (v 1).toInt by first | omega | decide) (show (v 1).toInt ≤ 8 by first | omega | decide) (show 0 ≤ (v 6).toInt by first | omega | decide) (show (v 6).toInt ≤ 24 by first | omega | decide) iv6_2) ca_X2_who q3_232 ⟨rfl, rfl⟩ ⟨(show 0 + 1 ≤ 2 * n + 8 by omega), (show 8 + (2 + 11) + (0) ≤ 100 * n + 300 by omega)⟩ (rc_today hK hP) hK hP hD hS hZ rfl hl.1 rfl (Nat.le_of_ble_eq_true rfl) ⟨Nat.zero_le _, Nat.zero_le _⟩ dX8_arrange_110 (fun r_10 wr_10 => ?_)
          obtain ⟨wr_10_0, wr_10_1⟩ : (0 ≤ r_10.toInt) ∧ (r_10.toInt < (v 1).toInt) := wr_10
          refine lv_aload hx hb dX8_arrange_113 (lv_at hl 4 rfl) ?_
          refine lv_iload hx hb dX8_arrange_115 (lv_at hl 6 rfl) ?_
          refine cV_ro (As := [.int x6]) (rest := [.int r_10, .ref (fa (d + 1))]) ⟨hx, hb, hml, hown, hg⟩ (k_X2_isLie l D cs A ad fa fq rv (va_up (va_up v 7 c69_v7) 8 c69_v8) (va_up (va_up (va_up (va_up a 17 c69_a17) 16 c69_a16) 22 c69_a22) 21 (upd c69_a21 p2.toNatClampNeg x6)) w (va_up gfv (d + 1) o_fvf_7) (va_up gfp (d + 1) o_fpf_8)  x6 (show 0 ≤ x6.toInt by first | omega | decide) (show x6.toInt < (v 6).toInt by first | omega | decide) (show 0 ≤ (v 1).toInt by first | omega | decide) (show (v 1).toInt ≤ 8 by first | omega | decide) (show 0 ≤ (v 6).toInt by first | omega | decide) (show (v 6).toInt ≤ 24 by first | omega | decide) iv6_2) ca_X2_isLie q3_233 ⟨rfl, rfl⟩ ⟨(show 0 + 1 ≤ 2 * n + 8 by omega), (show 8 + (2 + 11) + (0) ≤ 100 * n + 300 by omega)⟩ (rc_today hK hP) hK hP hD hS hZ rfl hl.1 rfl (Nat.le_of_ble_eq_true rfl) ⟨Nat.zero_le _, Nat.zero_le _⟩ dX8_arrange_117 (fun r_11 wr_11 => ?_)
          obtain ⟨wr_11_0, wr_11_1⟩ : (0 ≤ r_11.toInt) ∧ (r_11.toInt ≤ 1) := wr_11
          refine cV_i (As := [.int r_10, .int r_11]) (rest := []) ⟨hx, hb, hml, hown, hg⟩ (k_X3_utter l D cs A ad fa fq rv (va_up (va_up v 7 c69_v7) 8 c69_v8) (va_up (va_up (va_up (va_up a 17 c69_a17) 16 c69_a16) 22 c69_a22) 21 (upd c69_a21 p2.toNatClampNeg x6)) w (va_up gfv (d + 1) o_fvf_7) (va_up gfp (d + 1) o_fpf_8) (d + 1) r_10 r_11 (by omega) (show 0 ≤ r_10.toInt by first | omega | decide) (show r_10.toInt < (v 1).toInt by first | omega | decide) (show 0 ≤ (v 1).toInt by first | omega | decide) (show (v 1).toInt ≤ 8 by first | omega | decide) (by (have hq : (o_fvf_7 2).toInt = -2 ∨ (0 ≤ (o_fvf_7 2).toInt ∧ (o_fvf_7 2).toInt < (v 1).toInt) := (by first | omega | decide)); first | exact hq | (simp only [va_up_self]; exact hq)) (show 0 ≤ (v 5).toInt by first | omega | decide) (show (v 5).toInt ≤ 256 by first | omega | decide) ia18_0) ca_X3_utter q3_234 ⟨rfl, rfl⟩ ⟨(show 3 + 1 ≤ 2 * n + 8 by omega), (show 8 + (3 + 11) + (70) ≤ 100 * n + 300 by omega)⟩ (rc_fl (f := (d + 1)) (by omega) hK hP) hK hP hD hS hZ rfl hl.1 rfl (Nat.le_of_ble_eq_true rfl) ⟨Nat.zero_le _, Nat.zero_le _⟩ dX8_arrange_120 (fun r_12 z_17 H locs wr_12 hP hD hS => ?_)
          obtain ⟨o_fvf_13, o_fpf_14, o_a17_15, o_a16_16⟩ := z_17
          simp only [bx_uu] at hP hD
          have hP : va_P D vwCl (CW cs ad fa fq rv (va_up (va_up v 7 c69_v7) 8 c69_v8) (va_up (va_up (va_up (va_up a 22 c69_a22) 21 (upd c69_a21 p2.toNatClampNeg x6)) 17 o_a17_15) 16 o_a16_16) w (va_up gfv (d + 1) o_fvf_13) (va_up gfp (d + 1) o_fpf_14)) H := hP
          have hD : va_D A (CW cs ad fa fq rv (va_up (va_up v 7 c69_v7) 8 c69_v8) (va_up (va_up (va_up (va_up a 22 c69_a22) 21 (upd c69_a21 p2.toNatClampNeg x6)) 17 o_a17_15) 16 o_a16_16) w (va_up gfv (d + 1) o_fvf_13) (va_up gfp (d + 1) o_fpf_14)) := hD
          simp only [va_up_self] at wr_12
          obtain ⟨wr_12_0, wr_12_1, wr_12_2⟩ : (r_12.toInt = -2 ∨ (0 ≤ r_12.toInt ∧ r_12.toInt < (v 1).toInt)) ∧ (o_fvf_13 3 = (o_fvf_7 3) + 1) ∧ ((o_fvf_13 2).toInt = -2 ∨ (0 ≤ (o_fvf_13 2).toInt ∧ (o_fvf_13 2).toInt < (v 1).toInt)) := wr_12
          refine lv_pop hx hb dX8_arrange_123 rfl ?_
          refine lv_aload_n hx hb dX8_arrange_124 rfl (lv_at hl 0 rfl) ?_
          refine lv_iload_n hx hb dX8_arrange_125 rfl (lv_at hl 1 rfl) ?_
          refine lv_iconst (v := 1) hx hb dX8_arrange_126 (by decide) ?_
          refine lv_iadd hx hb dX8_arrange_127 ?_
          refine lv_topi (fun x_18 ex_18 => ?_)
          have fx_18 : x_18.toInt = p2.toInt + (1 : Int) := by rw [ex_18]; exact i_add (by first | omega | (show (_ : Int) ≤ p2.toInt + (1 : Int); omega)) (by first | omega | (show p2.toInt + (1 : Int) ≤ (_ : Int); omega))
          refine lv_iload_n hx hb dX8_arrange_128 rfl (lv_at hl 2 rfl) ?_
          refine lv_iconst (v := 1) hx hb dX8_arrange_129 (by decide) ?_
          refine lv_iload hx hb dX8_arrange_130 (lv_at hl 6 rfl) ?_
          refine lv_ishl hx hb dX8_arrange_132 ?_
          refine lv_topi (fun x_19 ex_19 => ?_)
          refine lv_ior hx hb dX8_arrange_133 ?_
          refine lv_topi (fun x_20 ex_20 => ?_)
          refine cS_v (As := [.ref (ad 4), .int x_18, .int x_20]) (rest := []) ⟨hx, hb, hml, hown, hg⟩ ((hrec (n - 1) (by omega)) l D cs A ad fa fq rv (va_up (va_up v 7 c69_v7) 8 c69_v8) (va_up (va_up (va_up (va_up a 22 c69_a22) 21 (upd c69_a21 p2.toNatClampNeg x6)) 17 o_a17_15) 16 o_a16_16) w (va_up gfv (d + 1) o_fvf_13) (va_up gfp (d + 1) o_fpf_14) (d + 1) x_18 x_20 (show x_18.toInt = ((d + 1) : Int) by first | omega | decide) (show (d + 1) ≤ 7 by first | omega | decide) (show 7 ≤ (d + 1) + (n - 1 : Nat) by first | omega | decide) (show 0 ≤ (v 1).toInt by first | omega | decide) (show (v 1).toInt ≤ 8 by first | omega | decide) (show 0 ≤ (v 6).toInt by first | omega | decide) (show (v 6).toInt ≤ 24 by first | omega | decide) iv6_2 (by (have hq : (o_fvf_13 2).toInt = -2 ∨ (0 ≤ (o_fvf_13 2).toInt ∧ (o_fvf_13 2).toInt < (v 1).toInt) := (by first | omega | decide)); first | exact hq | (simp only [va_up_self]; exact hq)) (show 0 ≤ (v 5).toInt by first | omega | decide) (show (v 5).toInt ≤ 256 by first | omega | decide) ia18_0) ca_X8_arrange q3_223 ⟨rfl, rfl⟩ ⟨(show 2 * (n - 1) + 8 + 1 ≤ 2 * n + 8 by omega), (show 8 + (7 + 11) + (100 * (n - 1) + 300) ≤ 100 * n + 300 by omega)⟩  hK hP hD hS hZ rfl hl.1 rfl (Nat.le_of_ble_eq_true rfl) ⟨Nat.zero_le _, Nat.zero_le _⟩ dX8_arrange_134 (fun z_30 H locs wr_21 hP hD hS => ?_)
          obtain ⟨o_fv_22, o_fp_23, o_v7_24, o_v8_25, o_a22_26, o_a21_27, o_a17_28, o_a16_29⟩ := z_30
          have hP : va_P D vwCl (CW cs ad fa fq rv (va_up (va_up v 7 o_v7_24) 8 o_v8_25) (va_up (va_up (va_up (va_up a 22 o_a22_26) 21 o_a21_27) 17 o_a17_28) 16 o_a16_29) w o_fv_22 o_fp_23) H := hP
          have hD : va_D A (CW cs ad fa fq rv (va_up (va_up v 7 o_v7_24) 8 o_v8_25) (va_up (va_up (va_up (va_up a 22 o_a22_26) 21 o_a21_27) 17 o_a17_28) 16 o_a16_29) w o_fv_22 o_fp_23) := hD
          have wr_21_0 : ∀ f : Nat, f ≤ (d + 1) ∨ 14 ≤ f → o_fv_22 f = (va_up gfv (d + 1) o_fvf_13) f := wr_21
          have hg_31 : ∀ f : Nat, f ≤ d ∨ 14 ≤ f → o_fv_22 f = fv f := fun f hf => (wr_21_0 f (by omega)).trans ((fun f hf => (va_up_ne _ _ (by omega)).trans (hgv f hf)) f hf)
          have hq_32 : (o_fv_22 d 2).toInt = -2 ∨ (0 ≤ (o_fv_22 d 2).toInt ∧ (o_fv_22 d 2).toInt < (v 1).toInt) := by rw [hg_31 d (Or.inl (Nat.le_refl d))]; exact ifvd_0
          obtain ⟨x_33, ex_33⟩ : ∃ y : Int32, y = x6 + 1 := ⟨_, rfl⟩
          have fx_33 : x_33.toInt = x6.toInt + 1 := by rw [ex_33]; exact i_add (by first | omega | (show (_ : Int) ≤ x6.toInt + 1; omega)) (by first | omega | (show x6.toInt + 1 ≤ (_ : Int); omega))
          refine lv_iinc (v := x_33) (lv' := [(6, .int x_33), (0, .ref (ad 4)), (1, .int p2), (2, .int p3), (3, .ref (fa d)), (4, .ref (ad 3)), (5, .ref (fa (d + 1)))]) hx hb dX8_arrange_137 hl (k := 6) rfl (by rw [ex_33]; rfl) (by decide) rfl (fun ls hl => ?_)
          refine lv_goto (tgt := 69) hx hb dX8_arrange_140 (by decide) ?_
          exact ih x_33 o_fv_22 o_fp_23 o_a21_27 o_a17_28 o_a16_29 o_v7_24 o_v8_25 o_a22_26 _ _ hg_31 (by omega) (by omega) (by omega) hP hD hS ls (lv_sub hl [1, 2, 3, 4, 5, 6, 0] rfl)
  refine lv_aload_n hx hb dX8_arrange_0 rfl (lv_at hl 0 rfl) ?_
  refine gf_arranging_flights hx hb hg hown hK hP rfl (hg _ q2_37) dX8_arrange_1 ?_
  refine lv_iload_n hx hb dX8_arrange_4 rfl (lv_at hl 1 rfl) ?_
  refine ld_flights hx hb hK hP (i_in (by omega) (by omega)) dX8_arrange_5 ?_
  rw [show p2.toNatClampNeg = d from (by have q : p2.toNatClampNeg = p2.toInt.toNat := rfl; omega)]
  refine lv_astore_n (lv' := [(3, .ref (fa d)), (0, .ref (ad 4)), (1, .int p2), (2, .int p3)]) hx hb dX8_arrange_6 rfl hl (by decide) rfl (fun ls hl => ?_)
  refine lv_aload_n hx hb dX8_arrange_7 rfl (lv_at hl 0 rfl) ?_
  refine gf_fl_hurts (f := d) (by omega) hx hb hg hown hK hP (x := (fv d 7)) rfl (hg _ q2_6) dX8_arrange_8 ?_
  refine lv_if_le (tgt := 26) hx hb dX8_arrange_11 (by decide) (fun c_34 => ?_) (fun c_34 => ?_)
  ·
    have kc_34 : (fv d 7).toInt ≤ (0 : Int) := i_le c_34
    refine lv_aload_n hx hb dX8_arrange_26 rfl (lv_at hl 1 rfl) ?_
    refine gf_arranging_day hx hb hg hown hK hP rfl (hg _ q2_38) dX8_arrange_27 ?_
    refine lv_astore (lv' := [(4, .ref (ad 3)), (3, .ref (fa d)), (0, .ref (ad 4)), (1, .int p2), (2, .int p3)]) hx hb dX8_arrange_30 hl (by decide) rfl (fun ls hl => ?_)
    refine lv_iload_n hx hb dX8_arrange_32 rfl (lv_at hl 3 rfl) ?_
    refine lv_aload hx hb dX8_arrange_33 (lv_at hl 0 rfl) ?_
    refine gf_today_size hx hb hg hown hK hP (x := (v 6)) rfl (hg _ q1_207) dX8_arrange_35 ?_
    refine lv_icmp_ge (tgt := 47) hx hb dX8_arrange_38 (by decide) (fun c_35 => ?_) (fun c_35 => ?_)
    ·
      have kc_35 : (v 6).toInt ≤ p2.toInt := i_le c_35
      refine lv_aload_n hx hb dX8_arrange_47 rfl (lv_at hl 2 rfl) ?_
      refine lv_aload_n hx hb dX8_arrange_48 rfl (lv_at hl 1 rfl) ?_
      refine gf_fl_hurts (f := d) (by omega) hx hb hg hown hK hP (x := (fv d 7)) rfl (hg _ q2_6) dX8_arrange_49 ?_
      refine cV_v (As := [.int (fv d 7)]) (rest := []) ⟨hx, hb, hml, hown, hg⟩ (k_X8_take l D cs A ad fa fq rv v a w fv fp  (fv d 7) ) ca_X8_take q3_226 ⟨rfl, rfl⟩ ⟨(show 1 + 1 ≤ 2 * n + 8 by omega), (show 8 + (2 + 11) + (60) ≤ 100 * n + 300 by omega)⟩ (rc_arranging hK hP) hK hP hD hS hZ rfl hl.1 rfl (Nat.le_of_ble_eq_true rfl) ⟨Nat.zero_le _, Nat.zero_le _⟩ dX8_arrange_52 (fun z_40 H locs wr_36 hP hD hS => ?_)
      obtain ⟨o_v7_37, o_a22_38, o_v8_39⟩ := z_40
      have hP : va_P D vwCl (CW cs ad fa fq rv (va_up (va_up v 7 o_v7_37) 8 o_v8_39) (va_up a 22 o_a22_38) w fv fp) H := hP
      have hD : va_D A (CW cs ad fa fq rv (va_up (va_up v 7 o_v7_37) 8 o_v8_39) (va_up a 22 o_a22_38) w fv fp) := hD
      have wr_36_0 : True := wr_36
      have hP : va_P D vwCl (CW cs ad fa fq rv (va_up (va_up v 7 o_v7_37) 8 o_v8_39) (va_up (va_up (va_up (va_up a 22 o_a22_38) 21 (a 21)) 17 (a 17)) 16 (a 16)) w fv fp) _ := hP
      have hD : va_D A (CW cs ad fa fq rv (va_up (va_up v 7 o_v7_37) 8 o_v8_39) (va_up (va_up (va_up (va_up a 22 o_a22_38) 21 (a 21)) 17 (a 17)) 16 (a 16)) w fv fp) := hD
      exact W.vret hx hb hr (fun tt ht hW => ⟨⟨⟨fv, fp, o_v7_37, o_v8_39, o_a22_38, (a 21), (a 17), (a 16)⟩, rfl, (fun f hf => rfl), by rw [ht]; exact hP, hD⟩, hS.F ht⟩) hS.2.2 dX8_arrange_55
    ·
      have kc_35 : p2.toInt < (v 6).toInt := i_nle c_35
      refine lv_iload_n hx hb dX8_arrange_41 rfl (lv_at hl 3 rfl) ?_
      refine lv_bipush (v := 7) hx hb dX8_arrange_42 (by decide) ?_
      refine lv_icmp_lt (tgt := 56) hx hb dX8_arrange_44 (by decide) (fun c_41 => ?_) (fun c_41 => ?_)
      ·
        have kc_41 : p2.toInt < (7 : Int) := i_lt c_41
        refine lv_aload_n hx hb dX8_arrange_56 rfl (lv_at hl 2 rfl) ?_
        refine gf_arranging_flights hx hb hg hown hK hP rfl (hg _ q2_37) dX8_arrange_57 ?_
        refine lv_iload_n hx hb dX8_arrange_60 rfl (lv_at hl 3 rfl) ?_
        refine lv_iconst (v := 1) hx hb dX8_arrange_61 (by decide) ?_
        refine lv_iadd hx hb dX8_arrange_62 ?_
        refine lv_topi (fun x_42 ex_42 => ?_)
        have fx_42 : x_42.toInt = p2.toInt + (1 : Int) := by rw [ex_42]; exact i_add (by first | omega | (show (_ : Int) ≤ p2.toInt + (1 : Int); omega)) (by first | omega | (show p2.toInt + (1 : Int) ≤ (_ : Int); omega))
        refine ld_flights hx hb hK hP (i_in (by omega) (by omega)) dX8_arrange_63 ?_
        rw [show x_42.toNatClampNeg = (d + 1) from (by have q : x_42.toNatClampNeg = x_42.toInt.toNat := rfl; omega)]
        refine lv_astore (lv' := [(5, .ref (fa (d + 1))), (4, .ref (ad 3)), (3, .ref (fa d)), (0, .ref (ad 4)), (1, .int p2), (2, .int p3)]) hx hb dX8_arrange_64 hl (by decide) rfl (fun ls hl => ?_)
        refine lv_iconst (v := 0) hx hb dX8_arrange_66 (by decide) ?_
        refine lv_istore (lv' := [(6, .int 0), (5, .ref (fa (d + 1))), (4, .ref (ad 3)), (3, .ref (fa d)), (0, .ref (ad 4)), (1, .int p2), (2, .int p3)]) hx hb dX8_arrange_67 hl (by decide) rfl (fun ls hl => ?_)
        have q0_0 : (0 : Int32).toInt = 0 := rfl
        exact (hcut ((((v 6).toInt - (0 : Int32).toInt).toNat) + 1)) 0 fv fp (a 21) (a 17) (a 16) (v 7) (v 8) (a 22) _ _ (fun f hf => rfl) (by omega) (by omega) (Nat.lt_succ_self _) hP hD hS ls (lv_sub hl [4, 5, 6, 3, 2, 1, 0] rfl)
      ·
        have kc_41 : (7 : Int) ≤ p2.toInt := i_nlt c_41
        refine lv_aload_n hx hb dX8_arrange_47 rfl (lv_at hl 2 rfl) ?_
        refine lv_aload_n hx hb dX8_arrange_48 rfl (lv_at hl 1 rfl) ?_
        refine gf_fl_hurts (f := d) (by omega) hx hb hg hown hK hP (x := (fv d 7)) rfl (hg _ q2_6) dX8_arrange_49 ?_
        refine cV_v (As := [.int (fv d 7)]) (rest := []) ⟨hx, hb, hml, hown, hg⟩ (k_X8_take l D cs A ad fa fq rv v a w fv fp  (fv d 7) ) ca_X8_take q3_226 ⟨rfl, rfl⟩ ⟨(show 1 + 1 ≤ 2 * n + 8 by omega), (show 8 + (2 + 11) + (60) ≤ 100 * n + 300 by omega)⟩ (rc_arranging hK hP) hK hP hD hS hZ rfl hl.1 rfl (Nat.le_of_ble_eq_true rfl) ⟨Nat.zero_le _, Nat.zero_le _⟩ dX8_arrange_52 (fun z_47 H locs wr_43 hP hD hS => ?_)
        obtain ⟨o_v7_44, o_a22_45, o_v8_46⟩ := z_47
        have hP : va_P D vwCl (CW cs ad fa fq rv (va_up (va_up v 7 o_v7_44) 8 o_v8_46) (va_up a 22 o_a22_45) w fv fp) H := hP
        have hD : va_D A (CW cs ad fa fq rv (va_up (va_up v 7 o_v7_44) 8 o_v8_46) (va_up a 22 o_a22_45) w fv fp) := hD
        have wr_43_0 : True := wr_43
        have hP : va_P D vwCl (CW cs ad fa fq rv (va_up (va_up v 7 o_v7_44) 8 o_v8_46) (va_up (va_up (va_up (va_up a 22 o_a22_45) 21 (a 21)) 17 (a 17)) 16 (a 16)) w fv fp) _ := hP
        have hD : va_D A (CW cs ad fa fq rv (va_up (va_up v 7 o_v7_44) 8 o_v8_46) (va_up (va_up (va_up (va_up a 22 o_a22_45) 21 (a 21)) 17 (a 17)) 16 (a 16)) w fv fp) := hD
        exact W.vret hx hb hr (fun tt ht hW => ⟨⟨⟨fv, fp, o_v7_44, o_v8_46, o_a22_45, (a 21), (a 17), (a 16)⟩, rfl, (fun f hf => rfl), by rw [ht]; exact hP, hD⟩, hS.F ht⟩) hS.2.2 dX8_arrange_55
  ·
    have kc_34 : (0 : Int) < (fv d 7).toInt := i_nle c_34
    refine lv_aload_n hx hb dX8_arrange_14 rfl (lv_at hl 0 rfl) ?_
    refine gf_fl_hurts (f := d) (by omega) hx hb hg hown hK hP (x := (fv d 7)) rfl (hg _ q2_6) dX8_arrange_15 ?_
    refine lv_aload_n hx hb dX8_arrange_18 rfl (lv_at hl 1 rfl) ?_
    refine gf_arranging_fewest hx hb hg hown hK hP (x := (v 7)) rfl (hg _ q2_41) dX8_arrange_19 ?_
    refine lv_icmp_lt (tgt := 26) hx hb dX8_arrange_22 (by decide) (fun c_48 => ?_) (fun c_48 => ?_)
    ·
      have kc_48 : (fv d 7).toInt < (v 7).toInt := i_lt c_48
      refine lv_aload_n hx hb dX8_arrange_26 rfl (lv_at hl 1 rfl) ?_
      refine gf_arranging_day hx hb hg hown hK hP rfl (hg _ q2_38) dX8_arrange_27 ?_
      refine lv_astore (lv' := [(4, .ref (ad 3)), (3, .ref (fa d)), (0, .ref (ad 4)), (1, .int p2), (2, .int p3)]) hx hb dX8_arrange_30 hl (by decide) rfl (fun ls hl => ?_)
      refine lv_iload_n hx hb dX8_arrange_32 rfl (lv_at hl 3 rfl) ?_
      refine lv_aload hx hb dX8_arrange_33 (lv_at hl 0 rfl) ?_
      refine gf_today_size hx hb hg hown hK hP (x := (v 6)) rfl (hg _ q1_207) dX8_arrange_35 ?_
      refine lv_icmp_ge (tgt := 47) hx hb dX8_arrange_38 (by decide) (fun c_49 => ?_) (fun c_49 => ?_)
      ·
        have kc_49 : (v 6).toInt ≤ p2.toInt := i_le c_49
        refine lv_aload_n hx hb dX8_arrange_47 rfl (lv_at hl 2 rfl) ?_
        refine lv_aload_n hx hb dX8_arrange_48 rfl (lv_at hl 1 rfl) ?_
        refine gf_fl_hurts (f := d) (by omega) hx hb hg hown hK hP (x := (fv d 7)) rfl (hg _ q2_6) dX8_arrange_49 ?_
        refine cV_v (As := [.int (fv d 7)]) (rest := []) ⟨hx, hb, hml, hown, hg⟩ (k_X8_take l D cs A ad fa fq rv v a w fv fp  (fv d 7) ) ca_X8_take q3_226 ⟨rfl, rfl⟩ ⟨(show 1 + 1 ≤ 2 * n + 8 by omega), (show 8 + (2 + 11) + (60) ≤ 100 * n + 300 by omega)⟩ (rc_arranging hK hP) hK hP hD hS hZ rfl hl.1 rfl (Nat.le_of_ble_eq_true rfl) ⟨Nat.zero_le _, Nat.zero_le _⟩ dX8_arrange_52 (fun z_54 H locs wr_50 hP hD hS => ?_)
        obtain ⟨o_v7_51, o_a22_52, o_v8_53⟩ := z_54
        have hP : va_P D vwCl (CW cs ad fa fq rv (va_up (va_up v 7 o_v7_51) 8 o_v8_53) (va_up a 22 o_a22_52) w fv fp) H := hP
        have hD : va_D A (CW cs ad fa fq rv (va_up (va_up v 7 o_v7_51) 8 o_v8_53) (va_up a 22 o_a22_52) w fv fp) := hD
        have wr_50_0 : True := wr_50
        have hP : va_P D vwCl (CW cs ad fa fq rv (va_up (va_up v 7 o_v7_51) 8 o_v8_53) (va_up (va_up (va_up (va_up a 22 o_a22_52) 21 (a 21)) 17 (a 17)) 16 (a 16)) w fv fp) _ := hP
        have hD : va_D A (CW cs ad fa fq rv (va_up (va_up v 7 o_v7_51) 8 o_v8_53) (va_up (va_up (va_up (va_up a 22 o_a22_52) 21 (a 21)) 17 (a 17)) 16 (a 16)) w fv fp) := hD
        exact W.vret hx hb hr (fun tt ht hW => ⟨⟨⟨fv, fp, o_v7_51, o_v8_53, o_a22_52, (a 21), (a 17), (a 16)⟩, rfl, (fun f hf => rfl), by rw [ht]; exact hP, hD⟩, hS.F ht⟩) hS.2.2 dX8_arrange_55
      ·
        have kc_49 : p2.toInt < (v 6).toInt := i_nle c_49
        refine lv_iload_n hx hb dX8_arrange_41 rfl (lv_at hl 3 rfl) ?_
        refine lv_bipush (v := 7) hx hb dX8_arrange_42 (by decide) ?_
        refine lv_icmp_lt (tgt := 56) hx hb dX8_arrange_44 (by decide) (fun c_55 => ?_) (fun c_55 => ?_)
        ·
          have kc_55 : p2.toInt < (7 : Int) := i_lt c_55
          refine lv_aload_n hx hb dX8_arrange_56 rfl (lv_at hl 2 rfl) ?_
          refine gf_arranging_flights hx hb hg hown hK hP rfl (hg _ q2_37) dX8_arrange_57 ?_
          refine lv_iload_n hx hb dX8_arrange_60 rfl (lv_at hl 3 rfl) ?_
          refine lv_iconst (v := 1) hx hb dX8_arrange_61 (by decide) ?_
          refine lv_iadd hx hb dX8_arrange_62 ?_
          refine lv_topi (fun x_56 ex_56 => ?_)
          have fx_56 : x_56.toInt = p2.toInt + (1 : Int) := by rw [ex_56]; exact i_add (by first | omega | (show (_ : Int) ≤ p2.toInt + (1 : Int); omega)) (by first | omega | (show p2.toInt + (1 : Int) ≤ (_ : Int); omega))
          refine ld_flights hx hb hK hP (i_in (by omega) (by omega)) dX8_arrange_63 ?_
          rw [show x_56.toNatClampNeg = (d + 1) from (by have q : x_56.toNatClampNeg = x_56.toInt.toNat := rfl; omega)]
          refine lv_astore (lv' := [(5, .ref (fa (d + 1))), (4, .ref (ad 3)), (3, .ref (fa d)), (0, .ref (ad 4)), (1, .int p2), (2, .int p3)]) hx hb dX8_arrange_64 hl (by decide) rfl (fun ls hl => ?_)
          refine lv_iconst (v := 0) hx hb dX8_arrange_66 (by decide) ?_
          refine lv_istore (lv' := [(6, .int 0), (5, .ref (fa (d + 1))), (4, .ref (ad 3)), (3, .ref (fa d)), (0, .ref (ad 4)), (1, .int p2), (2, .int p3)]) hx hb dX8_arrange_67 hl (by decide) rfl (fun ls hl => ?_)
          have q0_0 : (0 : Int32).toInt = 0 := rfl
          exact (hcut ((((v 6).toInt - (0 : Int32).toInt).toNat) + 1)) 0 fv fp (a 21) (a 17) (a 16) (v 7) (v 8) (a 22) _ _ (fun f hf => rfl) (by omega) (by omega) (Nat.lt_succ_self _) hP hD hS ls (lv_sub hl [4, 5, 6, 3, 2, 1, 0] rfl)
        ·
          have kc_55 : (7 : Int) ≤ p2.toInt := i_nlt c_55
          refine lv_aload_n hx hb dX8_arrange_47 rfl (lv_at hl 2 rfl) ?_
          refine lv_aload_n hx hb dX8_arrange_48 rfl (lv_at hl 1 rfl) ?_
          refine gf_fl_hurts (f := d) (by omega) hx hb hg hown hK hP (x := (fv d 7)) rfl (hg _ q2_6) dX8_arrange_49 ?_
          refine cV_v (As := [.int (fv d 7)]) (rest := []) ⟨hx, hb, hml, hown, hg⟩ (k_X8_take l D cs A ad fa fq rv v a w fv fp  (fv d 7) ) ca_X8_take q3_226 ⟨rfl, rfl⟩ ⟨(show 1 + 1 ≤ 2 * n + 8 by omega), (show 8 + (2 + 11) + (60) ≤ 100 * n + 300 by omega)⟩ (rc_arranging hK hP) hK hP hD hS hZ rfl hl.1 rfl (Nat.le_of_ble_eq_true rfl) ⟨Nat.zero_le _, Nat.zero_le _⟩ dX8_arrange_52 (fun z_61 H locs wr_57 hP hD hS => ?_)
          obtain ⟨o_v7_58, o_a22_59, o_v8_60⟩ := z_61
          have hP : va_P D vwCl (CW cs ad fa fq rv (va_up (va_up v 7 o_v7_58) 8 o_v8_60) (va_up a 22 o_a22_59) w fv fp) H := hP
          have hD : va_D A (CW cs ad fa fq rv (va_up (va_up v 7 o_v7_58) 8 o_v8_60) (va_up a 22 o_a22_59) w fv fp) := hD
          have wr_57_0 : True := wr_57
          have hP : va_P D vwCl (CW cs ad fa fq rv (va_up (va_up v 7 o_v7_58) 8 o_v8_60) (va_up (va_up (va_up (va_up a 22 o_a22_59) 21 (a 21)) 17 (a 17)) 16 (a 16)) w fv fp) _ := hP
          have hD : va_D A (CW cs ad fa fq rv (va_up (va_up v 7 o_v7_58) 8 o_v8_60) (va_up (va_up (va_up (va_up a 22 o_a22_59) 21 (a 21)) 17 (a 17)) 16 (a 16)) w fv fp) := hD
          exact W.vret hx hb hr (fun tt ht hW => ⟨⟨⟨fv, fp, o_v7_58, o_v8_60, o_a22_59, (a 21), (a 17), (a 16)⟩, rfl, (fun f hf => rfl), by rw [ht]; exact hP, hD⟩, hS.F ht⟩) hS.2.2 dX8_arrange_55
    ·
      have kc_48 : (v 7).toInt ≤ (fv d 7).toInt := i_nlt c_48
      have hP : va_P D vwCl (CW cs ad fa fq rv (va_up (va_up v 7 (v 7)) 8 (v 8)) (va_up (va_up (va_up (va_up a 22 (a 22)) 21 (a 21)) 17 (a 17)) 16 (a 16)) w fv fp) _ := hP
      have hD : va_D A (CW cs ad fa fq rv (va_up (va_up v 7 (v 7)) 8 (v 8)) (va_up (va_up (va_up (va_up a 22 (a 22)) 21 (a 21)) 17 (a 17)) 16 (a 16)) w fv fp) := hD
      exact W.vret hx hb hr (fun tt ht hW => ⟨⟨⟨fv, fp, (v 7), (v 8), (a 22), (a 21), (a 17), (a 16)⟩, rfl, (fun f hf => rfl), by rw [ht]; exact hP, hD⟩, hS.F ht⟩) hS.2.2 dX8_arrange_25
theorem k_X8_arrange : ∀ n, C_X8_arrange n := by
  intro n
  induction n with
  | zero => exact s_X8_arrange 0 (fun k h => absurd h (by omega))
  | succ n ih => exact s_X8_arrange (n + 1) (fun k h => by (have e : k = n := by omega); subst e; exact ih)
set_option maxHeartbeats 4000000 in
set_option maxRecDepth 100000 in
theorem k_X8_tryAll (l : Launch) (D : va_G) (cs : Nat → ClassId) (A : Nat → Prop) (ad fa fq rv : Nat → Nat) (v : Nat → Int32) (a : Nat → Nat → Int32) (w : Nat → Nat → Int64) (fv fp : Nat → Nat → Int32)   (iv1_0 : 0 ≤ (v 1).toInt) (iv1_1 : (v 1).toInt ≤ 8) (ifv14_0 : (fv 14 2).toInt = -2 ∨ (0 ≤ (fv 14 2).toInt ∧ (fv 14 2).toInt < (v 1).toInt)) (iv6_0 : 0 ≤ (v 6).toInt) (iv6_1 : (v 6).toInt ≤ 24) (iv6_2 : DOK (v 6) (a 20) (v 1)) (iv5_0 : 0 ≤ (v 5).toInt) (iv5_1 : (v 5).toInt ≤ 256) (ia18_0 : AB (-1000) 20000 (a 18)) : Met l yX8_tryAll (Cond.code yX8_tryAll cX8_tryAll 2 none :: gw) ({ frames := 23, cells := 0, slots := 0, locals := 1026 }) (va_Pc [.ref (ad 4), .ref (fa 14)] (XPre D (TY cs) (CW cs ad fa fq rv v a w fv fp) A)) (va_Qv (fun (z : (Nat → Nat → Int32) × (Nat → Nat → Int32) × Int32 × Int32 × (Nat → Int32) × (Nat → Int32) × (Nat → Int32) × (Nat → Int32)) => (∀ f : Nat, 14 ≤ f → z.1 f = fv f)) (XPo D (fun (z : (Nat → Nat → Int32) × (Nat → Nat → Int32) × Int32 × Int32 × (Nat → Int32) × (Nat → Int32) × (Nat → Int32) × (Nat → Int32)) => CW cs ad fa fq rv (va_up (va_up v 7 z.2.2.1) 8 z.2.2.2.1) (va_up (va_up (va_up (va_up a 22 z.2.2.2.2.1) 21 z.2.2.2.2.2.1) 17 z.2.2.2.2.2.2.1) 16 z.2.2.2.2.2.2.2) w z.1 z.2.1) A) A) 0 0 A := by
  refine Met.ofW (cc := cX8_tryAll) (maxL := 2) (ret := none) (by decide) rfl ?_
  intro p e s m args below meth c s₁ B hml hv
  obtain ⟨rfl, hP, hK, hD, hZ⟩ := hv
  have hx := B.exec
  have hb := B.bytes
  have hr := B.returns
  have hts := atoms_spec (ws := (Cond.code yX8_tryAll cX8_tryAll 2 none :: gw)) B.pre
  have hg : ∀ w ∈ gw, w.before ([.ref (ad 4), .ref (fa 14)] : List Value).toArray s = true := fun w h => hts w (List.mem_cons_of_mem _ h)
  have hown : s.vm.findClass RX8 = some m.cls := findClass_of_methodNamed B.named
  have hlocks := B.notSynchronized
  have hS : va_S A s.heap s.heap [] := va_S.rf
  have hP : va_P D vwCl (CW cs ad fa fq rv v a w fv fp) s.heap := hP
  have hl := lv_entry ([.ref (ad 4), .ref (fa 14)]) (n := 2) (Nat.le_of_ble_eq_true rfl)
  rw [lg_entry_eq]
  generalize (lg_sl ([.ref (ad 4), .ref (fa 14)]) ++ List.replicate (2 - (lg_sl ([.ref (ad 4), .ref (fa 14)])).length) Slot.unset).toArray = ls at hl ⊢
  have hl : lv_has ls 2 [(0, .ref (ad 4)), (1, .ref (fa 14))] := hl
  refine lv_aload_n hx hb dX8_tryAll_0 rfl (lv_at hl 0 rfl) ?_
  refine lv_bipush (v := 24) hx hb dX8_tryAll_1 (by decide) ?_
  refine pf_arranging_fewest hx hb hg hown hK hP hD hS (hg _ q2_41) dX8_tryAll_3 (fun H locs hP hD hS => ?_)
  refine lv_aload_n hx hb dX8_tryAll_6 rfl (lv_at hl 0 rfl) ?_
  refine lv_iconst (v := 0) hx hb dX8_tryAll_7 (by decide) ?_
  refine pf_arranging_quiet hx hb hg hown hK hP hD hS (hg _ q2_43) dX8_tryAll_8 (fun H locs hP hD hS => ?_)
  refine lv_aload_n hx hb dX8_tryAll_11 rfl (lv_at hl 0 rfl) ?_
  refine gf_arranging_flights hx hb hg hown hK hP rfl (hg _ q2_37) dX8_tryAll_12 ?_
  refine lv_iconst (v := 0) hx hb dX8_tryAll_15 (by decide) ?_
  refine ld_flights hx hb hK hP (i_in (by decide) (by decide)) dX8_tryAll_16 ?_
  refine lv_aload_n hx hb dX8_tryAll_17 rfl (lv_at hl 1 rfl) ?_
  refine cV_v (As := [.ref (fa 14)]) (rest := []) ⟨hx, hb, hml, hown, hg⟩ (k_X3_begin l D cs A ad fa fq rv (va_up (va_up v 7 24) 8 0) a w fv fp 0 14  (by omega) (by omega) (by omega) (show 0 ≤ (v 1).toInt by first | omega | decide) (show (v 1).toInt ≤ 8 by first | omega | decide) (show (fv 14 2).toInt = -2 ∨ (0 ≤ (fv 14 2).toInt ∧ (fv 14 2).toInt < (v 1).toInt) by first | omega | decide)) ca_X3_begin q3_222 ⟨rfl, rfl⟩ ⟨Nat.le_of_ble_eq_true rfl, Nat.le_of_ble_eq_true rfl⟩ (rc_fl (f := 0) (by decide) hK hP) hK hP hD hS hZ rfl hl.1 rfl (Nat.le_of_ble_eq_true rfl) ⟨Nat.zero_le _, Nat.zero_le _⟩ dX8_tryAll_18 (fun z_4 H locs wr_1 hP hD hS => ?_)
  obtain ⟨o_fvf_2, o_fpf_3⟩ := z_4
  have hP : va_P D vwCl (CW cs ad fa fq rv (va_up (va_up v 7 24) 8 0) a w (va_up fv 0 o_fvf_2) (va_up fp 0 o_fpf_3)) H := hP
  have hD : va_D A (CW cs ad fa fq rv (va_up (va_up v 7 24) 8 0) a w (va_up fv 0 o_fvf_2) (va_up fp 0 o_fpf_3)) := hD
  obtain ⟨wr_1_0, wr_1_1, wr_1_2, wr_1_3, wr_1_4, wr_1_5, wr_1_6, wr_1_7, wr_1_8⟩ : (o_fvf_2 0 = (fv 14 0)) ∧ (o_fvf_2 1 = (fv 14 1)) ∧ (o_fvf_2 2 = (fv 14 2)) ∧ (o_fvf_2 3 = 0) ∧ (o_fvf_2 4 = 0) ∧ (o_fvf_2 5 = 0) ∧ (o_fvf_2 6 = 0) ∧ (o_fvf_2 7 = 0) ∧ ((o_fvf_2 2).toInt = -2 ∨ (0 ≤ (o_fvf_2 2).toInt ∧ (o_fvf_2 2).toInt < (v 1).toInt)) := wr_1
  refine lv_aload_n hx hb dX8_tryAll_21 rfl (lv_at hl 0 rfl) ?_
  refine lv_iconst (v := 0) hx hb dX8_tryAll_22 (by decide) ?_
  refine lv_iconst (v := 0) hx hb dX8_tryAll_23 (by decide) ?_
  refine cS_v (As := [.ref (ad 4), .int 0, .int 0]) (rest := []) ⟨hx, hb, hml, hown, hg⟩ ((k_X8_arrange 7) l D cs A ad fa fq rv (va_up (va_up v 7 24) 8 0) a w (va_up fv 0 o_fvf_2) (va_up fp 0 o_fpf_3) 0 0 0 (show (0 : Int) = (0 : Int) by first | omega | decide) (show 0 ≤ 7 by first | omega | decide) (show 7 ≤ 0 + (7 : Nat) by first | omega | decide) (show 0 ≤ (v 1).toInt by first | omega | decide) (show (v 1).toInt ≤ 8 by first | omega | decide) (show 0 ≤ (v 6).toInt by first | omega | decide) (show (v 6).toInt ≤ 24 by first | omega | decide) iv6_2 (show (o_fvf_2 2).toInt = -2 ∨ (0 ≤ (o_fvf_2 2).toInt ∧ (o_fvf_2 2).toInt < (v 1).toInt) by first | omega | decide) (show 0 ≤ (v 5).toInt by first | omega | decide) (show (v 5).toInt ≤ 256 by first | omega | decide) ia18_0) ca_X8_arrange q3_223 ⟨rfl, rfl⟩ ⟨Nat.le_of_ble_eq_true rfl, Nat.le_of_ble_eq_true rfl⟩  hK hP hD hS hZ rfl hl.1 rfl (Nat.le_of_ble_eq_true rfl) ⟨Nat.zero_le _, Nat.zero_le _⟩ dX8_tryAll_24 (fun z_14 H locs wr_5 hP hD hS => ?_)
  obtain ⟨o_fv_6, o_fp_7, o_v7_8, o_v8_9, o_a22_10, o_a21_11, o_a17_12, o_a16_13⟩ := z_14
  have hP : va_P D vwCl (CW cs ad fa fq rv (va_up (va_up v 7 o_v7_8) 8 o_v8_9) (va_up (va_up (va_up (va_up a 22 o_a22_10) 21 o_a21_11) 17 o_a17_12) 16 o_a16_13) w o_fv_6 o_fp_7) H := hP
  have hD : va_D A (CW cs ad fa fq rv (va_up (va_up v 7 o_v7_8) 8 o_v8_9) (va_up (va_up (va_up (va_up a 22 o_a22_10) 21 o_a21_11) 17 o_a17_12) 16 o_a16_13) w o_fv_6 o_fp_7) := hD
  have wr_5_0 : ∀ f : Nat, f ≤ 0 ∨ 14 ≤ f → o_fv_6 f = (va_up fv 0 o_fvf_2) f := wr_5
  have hg_15 : ∀ f : Nat, 14 ≤ f → o_fv_6 f = fv f := fun f hf => (wr_5_0 f (Or.inr hf)).trans (va_up_ne _ _ (by omega))
  exact W.vret hx hb hr (fun tt ht hW => ⟨⟨⟨o_fv_6, o_fp_7, o_v7_8, o_v8_9, o_a22_10, o_a21_11, o_a17_12, o_a16_13⟩, rfl, hg_15, by rw [ht]; exact hP, hD⟩, hS.F ht⟩) hS.2.2 dX8_tryAll_27
set_option maxHeartbeats 4000000 in
set_option maxRecDepth 100000 in
theorem k_X5_bit (l : Launch) (D : va_G) (cs : Nat → ClassId) (A : Nat → Prop) (ad fa fq rv : Nat → Nat) (v : Nat → Int32) (a : Nat → Nat → Int32) (w : Nat → Nat → Int64) (fv fp : Nat → Nat → Int32)  (p1 : Int32)  : Met l yX5_bit (Cond.code yX5_bit cX5_bit 2 (some .int) :: gw) ({ frames := 0, cells := 0, slots := 0, locals := 0 }) (va_Pc [.ref (ad 5), .int p1] (XPre D (TY cs) (CW cs ad fa fq rv v a w fv fp) A)) (vp_Si (fun (r : Int32) => True)) 0 0 (fun _ => False) := by
  refine Met.ofW (cc := cX5_bit) (maxL := 2) (ret := (some .int)) (by decide) rfl ?_
  intro p e s m args below meth c s₁ B hml hv
  obtain ⟨rfl, hP, hK, hD, hZ⟩ := hv
  have hx := B.exec
  have hb := B.bytes
  have hr := B.returns
  have hts := atoms_spec (ws := (Cond.code yX5_bit cX5_bit 2 (some .int) :: gw)) B.pre
  have hg : ∀ w ∈ gw, w.before ([.ref (ad 5), .int p1] : List Value).toArray s = true := fun w h => hts w (List.mem_cons_of_mem _ h)
  have hown : s.vm.findClass RX5 = some m.cls := findClass_of_methodNamed B.named
  have hlocks := B.notSynchronized
  have hS : va_S A s.heap s.heap [] := va_S.rf
  have hl := lv_entry ([.ref (ad 5), .int p1]) (n := 2) (Nat.le_of_ble_eq_true rfl)
  rw [lg_entry_eq]
  generalize (lg_sl ([.ref (ad 5), .int p1]) ++ List.replicate (2 - (lg_sl ([.ref (ad 5), .int p1])).length) Slot.unset).toArray = ls at hl ⊢
  have hl : lv_has ls 2 [(0, .ref (ad 5)), (1, .int p1)] := hl
  refine lv_iload_n hx hb dX5_bit_0 rfl (lv_at hl 1 rfl) ?_
  refine lv_aload_n hx hb dX5_bit_1 rfl (lv_at hl 0 rfl) ?_
  refine gf_talking_first hx hb hg hown hK hP (x := (v 9)) rfl (hg _ q2_65) dX5_bit_2 ?_
  refine lv_icmp_ne (tgt := 12) hx hb dX5_bit_5 (by decide) (fun c_1 => ?_) (fun c_1 => ?_)
  ·
    have kc_1 : p1.toInt ≠ (v 9).toInt := i_ne c_1
    refine lv_iload_n hx hb dX5_bit_12 rfl (lv_at hl 1 rfl) ?_
    refine lv_aload_n hx hb dX5_bit_13 rfl (lv_at hl 0 rfl) ?_
    refine gf_talking_other hx hb hg hown hK hP (x := (v 10)) rfl (hg _ q2_66) dX5_bit_14 ?_
    refine lv_icmp_ne (tgt := 24) hx hb dX5_bit_17 (by decide) (fun c_2 => ?_) (fun c_2 => ?_)
    ·
      have kc_2 : p1.toInt ≠ (v 10).toInt := i_ne c_2
      refine lv_iconst (v := 0) hx hb dX5_bit_24 (by decide) ?_
      have q0_0 : (0 : Int32).toInt = 0 := rfl
      exact W.iret (v := 0) hx hb hr (fun tt ht hW => ⟨0, rfl, trivial, ht⟩) (fun _ h => by cases h) dX5_bit_25
    ·
      have kc_2 : p1.toInt = (v 10).toInt := i_eq c_2
      refine lv_iconst (v := 2) hx hb dX5_bit_20 (by decide) ?_
      refine lv_goto (tgt := 25) hx hb dX5_bit_21 (by decide) ?_
      have q0_2 : (2 : Int32).toInt = 2 := rfl
      exact W.iret (v := 2) hx hb hr (fun tt ht hW => ⟨2, rfl, trivial, ht⟩) (fun _ h => by cases h) dX5_bit_25
  ·
    have kc_1 : p1.toInt = (v 9).toInt := i_eq c_1
    refine lv_iconst (v := 1) hx hb dX5_bit_8 (by decide) ?_
    refine lv_goto (tgt := 25) hx hb dX5_bit_9 (by decide) ?_
    have q0_1 : (1 : Int32).toInt = 1 := rfl
    exact W.iret (v := 1) hx hb hr (fun tt ht hW => ⟨1, rfl, trivial, ht⟩) (fun _ h => by cases h) dX5_bit_25
set_option maxHeartbeats 4000000 in
set_option maxRecDepth 100000 in
theorem k_X5_stillness (l : Launch) (D : va_G) (cs : Nat → ClassId) (A : Nat → Prop) (ad fa fq rv : Nat → Nat) (v : Nat → Int32) (a : Nat → Nat → Int32) (w : Nat → Nat → Int64) (fv fp : Nat → Nat → Int32) (f : Nat)  (hf : f < 18) (iv1_0 : 0 ≤ (v 1).toInt) (iv1_1 : (v 1).toInt ≤ 8) (ifvf_0 : (fv f 2).toInt = -2 ∨ (0 ≤ (fv f 2).toInt ∧ (fv f 2).toInt < (v 1).toInt)) : Met l yX5_stillness (Cond.code yX5_stillness cX5_stillness 4 (some .int) :: gw) ({ frames := 3, cells := 0, slots := 0, locals := 68 }) (va_Pc [.ref (ad 5), .ref (fa f)] (XPre D (TY cs) (CW cs ad fa fq rv v a w fv fp) A)) (va_Qi (fun (r : Int32) (z : (Nat → Int32) × (Nat → Int32)) => ((z.1 2).toInt = -2 ∨ (0 ≤ (z.1 2).toInt ∧ (z.1 2).toInt < (v 1).toInt))) (XPo D (fun (z : (Nat → Int32) × (Nat → Int32)) => CW cs ad fa fq rv v a w (va_up fv f z.1) (va_up fp f z.2)) A) A) 0 0 A := by
  refine Met.ofW (cc := cX5_stillness) (maxL := 4) (ret := (some .int)) (by decide) rfl ?_
  intro p e s m args below meth c s₁ B hml hv
  obtain ⟨rfl, hP, hK, hD, hZ⟩ := hv
  have hx := B.exec
  have hb := B.bytes
  have hr := B.returns
  have hts := atoms_spec (ws := (Cond.code yX5_stillness cX5_stillness 4 (some .int) :: gw)) B.pre
  have hg : ∀ w ∈ gw, w.before ([.ref (ad 5), .ref (fa f)] : List Value).toArray s = true := fun w h => hts w (List.mem_cons_of_mem _ h)
  have hown : s.vm.findClass RX5 = some m.cls := findClass_of_methodNamed B.named
  have hlocks := B.notSynchronized
  have hS : va_S A s.heap s.heap [] := va_S.rf
  have hP : va_P D vwCl (CW cs ad fa fq rv v a w fv fp) s.heap := hP
  have hl := lv_entry ([.ref (ad 5), .ref (fa f)]) (n := 4) (Nat.le_of_ble_eq_true rfl)
  rw [lg_entry_eq]
  generalize (lg_sl ([.ref (ad 5), .ref (fa f)]) ++ List.replicate (4 - (lg_sl ([.ref (ad 5), .ref (fa f)])).length) Slot.unset).toArray = ls at hl ⊢
  have hl : lv_has ls 4 [(0, .ref (ad 5)), (1, .ref (fa f))] := hl
  have hcut : ∀ nk : Nat, (∀ (x2 : Int32) (x3 : Int32) (c4_fvf : Nat → Int32) (c4_fpf : Nat → Int32) (H : Heap) (locs : List Loc) (i3 : 0 ≤ x3.toInt) (jfvf_0 : (c4_fvf 2).toInt = -2 ∨ (0 ≤ (c4_fvf 2).toInt ∧ (c4_fvf 2).toInt < (v 1).toInt)) (hmu : (4 - x3.toInt).toNat < nk) (hP : va_P D vwCl (CW cs ad fa fq rv v a w (va_up fv f c4_fvf) (va_up fp f c4_fpf)) H) (hD : va_D A (CW cs ad fa fq rv v a w (va_up fv f c4_fvf) (va_up fp f c4_fpf))) (hS : va_S A s.heap H locs) (ls : Array Slot) (hl : lv_has ls 4 [(0, .ref (ad 5)), (1, .ref (fa f)), (2, .int x2), (3, .int x3)]), W p l e (headSpec (Cond.code yX5_stillness cX5_stillness 4 (some .int) :: gw) ({ frames := 3, cells := 0, slots := 0, locals := 68 })).room s m ([.ref (ad 5), .ref (fa f)] : List Value).toArray below meth c H locs 0 0 (MQ below (va_Qi (fun (r : Int32) (z : (Nat → Int32) × (Nat → Int32)) => ((z.1 2).toInt = -2 ∨ (0 ≤ (z.1 2).toInt ∧ (z.1 2).toInt < (v 1).toInt))) (XPo D (fun (z : (Nat → Int32) × (Nat → Int32)) => CW cs ad fa fq rv v a w (va_up fv f z.1) (va_up fp f z.2)) A) A) ([.ref (ad 5), .ref (fa f)] : List Value).toArray s 0 0 A) (F0 m 4 ls [])) := by
    intro nk
    induction nk with
    | zero => exact (fun x2 x3 c4_fvf c4_fpf H locs i3 jfvf_0 hmu hP hD hS ls hl => absurd hmu (Nat.not_lt_zero _))
    | succ nk ih =>
      intro x2 x3 c4_fvf c4_fpf H locs i3 jfvf_0 hmu hP hD hS ls hl
      refine lv_iload_n hx hb dX5_stillness_4 rfl (lv_at hl 3 rfl) ?_
      refine lv_iconst (v := 4) hx hb dX5_stillness_5 (by decide) ?_
      refine lv_icmp_ge (tgt := 26) hx hb dX5_stillness_6 (by decide) (fun c_1 => ?_) (fun c_1 => ?_)
      ·
        have kc_1 : (4 : Int) ≤ x3.toInt := i_le c_1
        refine lv_iload_n hx hb dX5_stillness_26 rfl (lv_at hl 2 rfl) ?_
        exact W.iret (v := x2) hx hb hr (fun tt ht hW => ⟨⟨x2, ⟨c4_fvf, c4_fpf⟩, rfl, (show (c4_fvf 2).toInt = -2 ∨ (0 ≤ (c4_fvf 2).toInt ∧ (c4_fvf 2).toInt < (v 1).toInt) by first | omega | assumption), by rw [ht]; exact hP, hD⟩, hS.F ht⟩) hS.2.2 dX5_stillness_27
      ·
        have kc_1 : x3.toInt < (4 : Int) := i_nle c_1
        refine lv_iload_n hx hb dX5_stillness_9 rfl (lv_at hl 2 rfl) ?_
        refine lv_aload_n hx hb dX5_stillness_10 rfl (lv_at hl 0 rfl) ?_
        refine lv_aload_n hx hb dX5_stillness_11 rfl (lv_at hl 1 rfl) ?_
        refine cV_i (As := []) (rest := [.ref (ad 5), .int x2]) ⟨hx, hb, hml, hown, hg⟩ (k_X3_passHour l D cs A ad fa fq rv v a w (va_up fv f c4_fvf) (va_up fp f c4_fpf) f  (by omega) (show 0 ≤ (v 1).toInt by first | omega | decide) (show (v 1).toInt ≤ 8 by first | omega | decide) (by (have hq : (c4_fvf 2).toInt = -2 ∨ (0 ≤ (c4_fvf 2).toInt ∧ (c4_fvf 2).toInt < (v 1).toInt) := (by first | omega | decide)); first | exact hq | (simp only [va_up_self]; exact hq))) ca_X3_passHour q4_25 ⟨rfl, rfl⟩ ⟨Nat.le_of_ble_eq_true rfl, Nat.le_of_ble_eq_true rfl⟩ (rc_fl (f := f) hf hK hP) hK hP hD hS hZ rfl hl.1 rfl (Nat.le_of_ble_eq_true rfl) ⟨Nat.zero_le _, Nat.zero_le _⟩ dX5_stillness_12 (fun r_2 z_5 H locs wr_2 hP hD hS => ?_)
        obtain ⟨o_fvf_3, o_fpf_4⟩ := z_5
        simp only [bx_uu] at hP hD
        have hP : va_P D vwCl (CW cs ad fa fq rv v a w (va_up fv f o_fvf_3) (va_up fp f o_fpf_4)) H := hP
        have hD : va_D A (CW cs ad fa fq rv v a w (va_up fv f o_fvf_3) (va_up fp f o_fpf_4)) := hD
        simp only [va_up_self] at wr_2
        obtain ⟨wr_2_0, wr_2_1, wr_2_2⟩ : (r_2.toInt = -2 ∨ (0 ≤ r_2.toInt ∧ r_2.toInt < (v 1).toInt)) ∧ (o_fvf_3 3 = (c4_fvf 3)) ∧ ((o_fvf_3 2).toInt = -2 ∨ (0 ≤ (o_fvf_3 2).toInt ∧ (o_fvf_3 2).toInt < (v 1).toInt)) := wr_2
        refine cV_ro (As := [.int r_2]) (rest := [.int x2]) ⟨hx, hb, hml, hown, hg⟩ (k_X5_bit l D cs A ad fa fq rv v a w (va_up fv f o_fvf_3) (va_up fp f o_fpf_4)  r_2 ) ca_X5_bit q4_26 ⟨rfl, rfl⟩ ⟨Nat.le_of_ble_eq_true rfl, Nat.le_of_ble_eq_true rfl⟩ (rc_talking hK hP) hK hP hD hS hZ rfl hl.1 rfl (Nat.le_of_ble_eq_true rfl) ⟨Nat.zero_le _, Nat.zero_le _⟩ dX5_stillness_15 (fun r_6 wr_6 => ?_)
        have wr_6_0 : True := wr_6
        refine lv_ior hx hb dX5_stillness_18 ?_
        refine lv_topi (fun x_7 ex_7 => ?_)
        refine lv_istore_n (lv' := [(2, .int x_7), (0, .ref (ad 5)), (1, .ref (fa f)), (3, .int x3)]) hx hb dX5_stillness_19 rfl hl (by decide) rfl (fun ls hl => ?_)
        obtain ⟨x_8, ex_8⟩ : ∃ y : Int32, y = x3 + 1 := ⟨_, rfl⟩
        have fx_8 : x_8.toInt = x3.toInt + 1 := by rw [ex_8]; exact i_add (by first | omega | (show (_ : Int) ≤ x3.toInt + 1; omega)) (by first | omega | (show x3.toInt + 1 ≤ (_ : Int); omega))
        refine lv_iinc (v := x_8) (lv' := [(3, .int x_8), (2, .int x_7), (0, .ref (ad 5)), (1, .ref (fa f))]) hx hb dX5_stillness_20 hl (k := 3) rfl (by rw [ex_8]; rfl) (by decide) rfl (fun ls hl => ?_)
        refine lv_goto (tgt := 4) hx hb dX5_stillness_23 (by decide) ?_
        exact ih x_7 x_8 o_fvf_3 o_fpf_4 _ _ (by omega) (show (o_fvf_3 2).toInt = -2 ∨ (0 ≤ (o_fvf_3 2).toInt ∧ (o_fvf_3 2).toInt < (v 1).toInt) by first | omega | assumption) (by omega) hP hD hS ls (lv_sub hl [2, 3, 1, 0] rfl)
  refine lv_iconst (v := 0) hx hb dX5_stillness_0 (by decide) ?_
  refine lv_istore_n (lv' := [(2, .int 0), (0, .ref (ad 5)), (1, .ref (fa f))]) hx hb dX5_stillness_1 rfl hl (by decide) rfl (fun ls hl => ?_)
  refine lv_iconst (v := 0) hx hb dX5_stillness_2 (by decide) ?_
  refine lv_istore_n (lv' := [(3, .int 0), (2, .int 0), (0, .ref (ad 5)), (1, .ref (fa f))]) hx hb dX5_stillness_3 rfl hl (by decide) rfl (fun ls hl => ?_)
  rw [show fv = va_up fv f (fv f) from (va_up_id _ _).symm] at hP hD
  rw [show fp = va_up fp f (fp f) from (va_up_id _ _).symm] at hP hD
  have q0_0 : (0 : Int32).toInt = 0 := rfl
  exact (hcut (((4 - (0 : Int32).toInt).toNat) + 1)) 0 0 (fv f) (fp f) _ _ (by omega) (show (fv f 2).toInt = -2 ∨ (0 ≤ (fv f 2).toInt ∧ (fv f 2).toInt < (v 1).toInt) by first | omega | assumption) (Nat.lt_succ_self _) hP hD hS ls (lv_sub hl [2, 3, 1, 0] rfl)
def C_X5_play (n : Nat) : Prop := ∀ (l : Launch) (D : va_G) (cs : Nat → ClassId) (A : Nat → Prop) (ad fa fq rv : Nat → Nat) (v : Nat → Int32) (a : Nat → Nat → Int32) (w : Nat → Nat → Int64) (fv fp : Nat → Nat → Int32) (d : Nat) (p2 : Int32) (p3 : Int32) (hd : p2.toInt = (d : Int)) (hdm : d ≤ 6) (hdn : 6 ≤ d + n) (h9a : 0 ≤ (v 9).toInt) (h9b : (v 9).toInt < (v 1).toInt) (h10a : 0 ≤ (v 10).toInt) (h10b : (v 10).toInt < (v 1).toInt) (iv1_0 : 0 ≤ (v 1).toInt) (iv1_1 : (v 1).toInt ≤ 8) (ifvd_0 : (fv d 2).toInt = -2 ∨ (0 ≤ (fv d 2).toInt ∧ (fv d 2).toInt < (v 1).toInt)) (iv11_0 : 0 ≤ (v 11).toInt) (iv11_1 : (v 11).toInt ≤ 6) (iv5_0 : 0 ≤ (v 5).toInt) (iv5_1 : (v 5).toInt ≤ 256) (ia18_0 : AB (-1000) 20000 (a 18)), Met l yX5_play (Cond.code yX5_play cX5_play 9 (some .int) :: gw) ({ frames := 2 * n + 8, cells := 0, slots := 0, locals := 100 * n + 300 }) (va_Pc [.ref (ad 5), .int p2, .int p3] (XPre D (TY cs) (CW cs ad fa fq rv v a w fv fp) A)) (va_Qi (fun (r : Int32) (z : (Nat → Nat → Int32) × (Nat → Nat → Int32) × Int32 × (Nat → Int32) × (Nat → Int32)) => (∀ f : Nat, f ≤ d ∨ 14 ≤ f → z.1 f = fv f)) (XPo D (fun (z : (Nat → Nat → Int32) × (Nat → Nat → Int32) × Int32 × (Nat → Int32) × (Nat → Int32)) => CW cs ad fa fq rv (va_up v 13 z.2.2.1) (va_up (va_up a 17 z.2.2.2.1) 16 z.2.2.2.2) w z.1 z.2.1) A) A) 0 0 A
set_option maxHeartbeats 4000000 in
set_option maxRecDepth 100000 in
theorem s_X5_play (n : Nat) (hrec : ∀ k, k + 1 = n → C_X5_play k) : C_X5_play n := by
  intro l D cs A ad fa fq rv v a w fv fp d p2 p3 hd hdm hdn h9a h9b h10a h10b iv1_0 iv1_1 ifvd_0 iv11_0 iv11_1 iv5_0 iv5_1 ia18_0
  refine Met.ofW (cc := cX5_play) (maxL := 9) (ret := (some .int)) (by decide) rfl ?_
  intro p e s m args below meth c s₁ B hml hv
  obtain ⟨rfl, hP, hK, hD, hZ⟩ := hv
  have hx := B.exec
  have hb := B.bytes
  have hr := B.returns
  have hts := atoms_spec (ws := (Cond.code yX5_play cX5_play 9 (some .int) :: gw)) B.pre
  have hg : ∀ w ∈ gw, w.before ([.ref (ad 5), .int p2, .int p3] : List Value).toArray s = true := fun w h => hts w (List.mem_cons_of_mem _ h)
  have hown : s.vm.findClass RX5 = some m.cls := findClass_of_methodNamed B.named
  have hlocks := B.notSynchronized
  have hS : va_S A s.heap s.heap [] := va_S.rf
  have hP : va_P D vwCl (CW cs ad fa fq rv v a w fv fp) s.heap := hP
  have hl := lv_entry ([.ref (ad 5), .int p2, .int p3]) (n := 9) (Nat.le_of_ble_eq_true rfl)
  rw [lg_entry_eq]
  generalize (lg_sl ([.ref (ad 5), .int p2, .int p3]) ++ List.replicate (9 - (lg_sl ([.ref (ad 5), .int p2, .int p3])).length) Slot.unset).toArray = ls at hl ⊢
  have hl : lv_has ls 9 [(0, .ref (ad 5)), (1, .int p2), (2, .int p3)] := hl
  refine lv_aload_n hx hb dX5_play_0 rfl (lv_at hl 0 rfl) ?_
  refine gf_talking_flights hx hb hg hown hK hP rfl (hg _ q2_64) dX5_play_1 ?_
  refine lv_iload_n hx hb dX5_play_4 rfl (lv_at hl 1 rfl) ?_
  refine ld_flights hx hb hK hP (i_in (by omega) (by omega)) dX5_play_5 ?_
  rw [show p2.toNatClampNeg = d from (by have q : p2.toNatClampNeg = p2.toInt.toNat := rfl; omega)]
  refine lv_astore_n (lv' := [(3, .ref (fa d)), (0, .ref (ad 5)), (1, .int p2), (2, .int p3)]) hx hb dX5_play_6 rfl hl (by decide) rfl (fun ls hl => ?_)
  refine lv_aload_n hx hb dX5_play_7 rfl (lv_at hl 1 rfl) ?_
  refine gf_talking_flights hx hb hg hown hK hP rfl (hg _ q2_64) dX5_play_8 ?_
  refine lv_iload_n hx hb dX5_play_11 rfl (lv_at hl 2 rfl) ?_
  refine lv_iconst (v := 1) hx hb dX5_play_12 (by decide) ?_
  refine lv_iadd hx hb dX5_play_13 ?_
  refine lv_topi (fun x_1 ex_1 => ?_)
  have fx_1 : x_1.toInt = p2.toInt + (1 : Int) := by rw [ex_1]; exact i_add (by first | omega | (show (_ : Int) ≤ p2.toInt + (1 : Int); omega)) (by first | omega | (show p2.toInt + (1 : Int) ≤ (_ : Int); omega))
  refine ld_flights hx hb hK hP (i_in (by omega) (by omega)) dX5_play_14 ?_
  rw [show x_1.toNatClampNeg = (d + 1) from (by have q : x_1.toNatClampNeg = x_1.toInt.toNat := rfl; omega)]
  refine lv_astore (lv' := [(4, .ref (fa (d + 1))), (3, .ref (fa d)), (0, .ref (ad 5)), (1, .int p2), (2, .int p3)]) hx hb dX5_play_15 hl (by decide) rfl (fun ls hl => ?_)
  refine lv_aload hx hb dX5_play_17 (lv_at hl 0 rfl) ?_
  refine lv_aload_n hx hb dX5_play_19 rfl (lv_at hl 1 rfl) ?_
  refine lv_bipush (v := 8) hx hb dX5_play_20 (by decide) ?_
  refine cV_v (As := [.ref (fa d), .int 8]) (rest := []) ⟨hx, hb, hml, hown, hg⟩ (k_X3_follow l D cs A ad fa fq rv v a w fv fp (d + 1) d 8 (by omega) (by omega) (by omega) (show 0 ≤ (8 : Int) by first | omega | decide) (show (8 : Int) ≤ 8 by first | omega | decide) (show 0 ≤ (v 1).toInt by first | omega | decide) (show (v 1).toInt ≤ 8 by first | omega | decide) (show (fv d 2).toInt = -2 ∨ (0 ≤ (fv d 2).toInt ∧ (fv d 2).toInt < (v 1).toInt) by first | omega | decide)) ca_X3_follow q4_20 ⟨rfl, rfl⟩ ⟨(show 1 + 1 ≤ 2 * n + 8 by omega), (show 8 + (3 + 11) + (60) ≤ 100 * n + 300 by omega)⟩ (rc_fl (f := (d + 1)) (by omega) hK hP) hK hP hD hS hZ rfl hl.1 rfl (Nat.le_of_ble_eq_true rfl) ⟨Nat.zero_le _, Nat.zero_le _⟩ dX5_play_22 (fun z_5 H locs wr_2 hP hD hS => ?_)
  obtain ⟨o_fvf_3, o_fpf_4⟩ := z_5
  have hP : va_P D vwCl (CW cs ad fa fq rv v a w (va_up fv (d + 1) o_fvf_3) (va_up fp (d + 1) o_fpf_4)) H := hP
  have hD : va_D A (CW cs ad fa fq rv v a w (va_up fv (d + 1) o_fvf_3) (va_up fp (d + 1) o_fpf_4)) := hD
  obtain ⟨wr_2_0, wr_2_1, wr_2_2, wr_2_3, wr_2_4, wr_2_5, wr_2_6, wr_2_7, wr_2_8⟩ : (o_fvf_3 0 = (fv d 0)) ∧ (o_fvf_3 1 = (fv d 1)) ∧ (o_fvf_3 2 = (fv d 2)) ∧ (o_fvf_3 3 = (fv d 3)) ∧ (o_fvf_3 4 = (fv d 4)) ∧ (o_fvf_3 5 = (fv d 5)) ∧ (o_fvf_3 6 = (fv d 6)) ∧ (o_fvf_3 7 = (fv d 7)) ∧ ((o_fvf_3 2).toInt = -2 ∨ (0 ≤ (o_fvf_3 2).toInt ∧ (o_fvf_3 2).toInt < (v 1).toInt)) := wr_2
  refine lv_iload_n hx hb dX5_play_25 rfl (lv_at hl 3 rfl) ?_
  refine lv_aload_n hx hb dX5_play_26 rfl (lv_at hl 2 rfl) ?_
  refine gf_talking_turns hx hb hg hown hK hP (x := (v 11)) rfl (hg _ q2_67) dX5_play_27 ?_
  refine lv_icmp_lt (tgt := 42) hx hb dX5_play_30 (by decide) (fun c_6 => ?_) (fun c_6 => ?_)
  ·
    have kc_6 : p2.toInt < (v 11).toInt := i_lt c_6
    refine lv_iload_n hx hb dX5_play_42 rfl (lv_at hl 3 rfl) ?_
    refine lv_iconst (v := 2) hx hb dX5_play_43 (by decide) ?_
    refine lv_irem hx hb dX5_play_44 (by decide) ?_
    refine lv_topi (fun x_7 ex_7 => ?_)
    have fx_7 : x_7.toInt = p2.toInt % (2 : Int) := by rw [ex_7]; exact i_rem (by omega) (by first | omega | decide)
    refine lv_if_ne (tgt := 52) hx hb dX5_play_45 (by decide) (fun c_8 => ?_) (fun c_8 => ?_)
    ·
      have kc_8 : x_7.toInt ≠ (0 : Int) := i_ne c_8
      refine lv_iconst (v := 0) hx hb dX5_play_52 (by decide) ?_
      refine lv_istore (lv' := [(5, .int 0), (4, .ref (fa (d + 1))), (3, .ref (fa d)), (0, .ref (ad 5)), (1, .int p2), (2, .int p3)]) hx hb dX5_play_53 hl (by decide) rfl (fun ls hl => ?_)
      refine lv_aload_n hx hb dX5_play_55 rfl (lv_at hl 3 rfl) ?_
      refine lv_iload_n hx hb dX5_play_56 rfl (lv_at hl 4 rfl) ?_
      refine lv_iconst (v := 1) hx hb dX5_play_57 (by decide) ?_
      refine lv_iadd hx hb dX5_play_58 ?_
      refine lv_topi (fun x_9 ex_9 => ?_)
      have fx_9 : x_9.toInt = p2.toInt + (1 : Int) := by rw [ex_9]; exact i_add (by first | omega | (show (_ : Int) ≤ p2.toInt + (1 : Int); omega)) (by first | omega | (show p2.toInt + (1 : Int) ≤ (_ : Int); omega))
      refine lv_iload_n hx hb dX5_play_59 rfl (lv_at hl 5 rfl) ?_
      refine lv_aload_n hx hb dX5_play_60 rfl (lv_at hl 3 rfl) ?_
      refine lv_aload hx hb dX5_play_61 (lv_at hl 1 rfl) ?_
      refine cV_i (As := []) (rest := [.ref (ad 5), .int p3, .int x_9, .ref (ad 5)]) ⟨hx, hb, hml, hown, hg⟩ (k_X3_passHour l D cs A ad fa fq rv v a w (va_up fv (d + 1) o_fvf_3) (va_up fp (d + 1) o_fpf_4) (d + 1)  (by omega) (show 0 ≤ (v 1).toInt by first | omega | decide) (show (v 1).toInt ≤ 8 by first | omega | decide) (by (have hq : (o_fvf_3 2).toInt = -2 ∨ (0 ≤ (o_fvf_3 2).toInt ∧ (o_fvf_3 2).toInt < (v 1).toInt) := (by first | omega | decide)); first | exact hq | (simp only [va_up_self]; exact hq))) ca_X3_passHour q4_25 ⟨rfl, rfl⟩ ⟨(show 2 + 1 ≤ 2 * n + 8 by omega), (show 8 + (2 + 11) + (47) ≤ 100 * n + 300 by omega)⟩ (rc_fl (f := (d + 1)) (by omega) hK hP) hK hP hD hS hZ rfl hl.1 rfl (Nat.le_of_ble_eq_true rfl) ⟨Nat.zero_le _, Nat.zero_le _⟩ dX5_play_63 (fun r_10 z_13 H locs wr_10 hP hD hS => ?_)
      obtain ⟨o_fvf_11, o_fpf_12⟩ := z_13
      simp only [bx_uu] at hP hD
      have hP : va_P D vwCl (CW cs ad fa fq rv v a w (va_up fv (d + 1) o_fvf_11) (va_up fp (d + 1) o_fpf_12)) H := hP
      have hD : va_D A (CW cs ad fa fq rv v a w (va_up fv (d + 1) o_fvf_11) (va_up fp (d + 1) o_fpf_12)) := hD
      simp only [va_up_self] at wr_10
      obtain ⟨wr_10_0, wr_10_1, wr_10_2⟩ : (r_10.toInt = -2 ∨ (0 ≤ r_10.toInt ∧ r_10.toInt < (v 1).toInt)) ∧ (o_fvf_11 3 = (o_fvf_3 3)) ∧ ((o_fvf_11 2).toInt = -2 ∨ (0 ≤ (o_fvf_11 2).toInt ∧ (o_fvf_11 2).toInt < (v 1).toInt)) := wr_10
      refine cV_ro (As := [.int r_10]) (rest := [.int p3, .int x_9, .ref (ad 5)]) ⟨hx, hb, hml, hown, hg⟩ (k_X5_bit l D cs A ad fa fq rv v a w (va_up fv (d + 1) o_fvf_11) (va_up fp (d + 1) o_fpf_12)  r_10 ) ca_X5_bit q4_26 ⟨rfl, rfl⟩ ⟨(show 0 + 1 ≤ 2 * n + 8 by omega), (show 8 + (2 + 11) + (0) ≤ 100 * n + 300 by omega)⟩ (rc_talking hK hP) hK hP hD hS hZ rfl hl.1 rfl (Nat.le_of_ble_eq_true rfl) ⟨Nat.zero_le _, Nat.zero_le _⟩ dX5_play_66 (fun r_14 wr_14 => ?_)
      have wr_14_0 : True := wr_14
      refine lv_ior hx hb dX5_play_69 ?_
      refine lv_topi (fun x_15 ex_15 => ?_)
      refine cS_i (As := [.ref (ad 5), .int x_9, .int x_15]) (rest := []) ⟨hx, hb, hml, hown, hg⟩ ((hrec (n - 1) (by omega)) l D cs A ad fa fq rv v a w (va_up fv (d + 1) o_fvf_11) (va_up fp (d + 1) o_fpf_12) (d + 1) x_9 x_15 (show x_9.toInt = ((d + 1) : Int) by first | omega | decide) (show (d + 1) ≤ 6 by first | omega | decide) (show 6 ≤ (d + 1) + (n - 1 : Nat) by first | omega | decide) (show 0 ≤ (v 9).toInt by first | omega | decide) (show (v 9).toInt < (v 1).toInt by first | omega | decide) (show 0 ≤ (v 10).toInt by first | omega | decide) (show (v 10).toInt < (v 1).toInt by first | omega | decide) (show 0 ≤ (v 1).toInt by first | omega | decide) (show (v 1).toInt ≤ 8 by first | omega | decide) (by (have hq : (o_fvf_11 2).toInt = -2 ∨ (0 ≤ (o_fvf_11 2).toInt ∧ (o_fvf_11 2).toInt < (v 1).toInt) := (by first | omega | decide)); first | exact hq | (simp only [va_up_self]; exact hq)) (show 0 ≤ (v 11).toInt by first | omega | decide) (show (v 11).toInt ≤ 6 by first | omega | decide) (show 0 ≤ (v 5).toInt by first | omega | decide) (show (v 5).toInt ≤ 256 by first | omega | decide) ia18_0) ca_X5_play q4_17 ⟨rfl, rfl⟩ ⟨(show 2 * (n - 1) + 8 + 1 ≤ 2 * n + 8 by omega), (show 8 + (9 + 11) + (100 * (n - 1) + 300) ≤ 100 * n + 300 by omega)⟩  hK hP hD hS hZ rfl hl.1 rfl (Nat.le_of_ble_eq_true rfl) ⟨Nat.zero_le _, Nat.zero_le _⟩ dX5_play_70 (fun r_16 z_22 H locs wr_16 hP hD hS => ?_)
      obtain ⟨o_fv_17, o_fp_18, o_v13_19, o_a17_20, o_a16_21⟩ := z_22
      have hP : va_P D vwCl (CW cs ad fa fq rv (va_up v 13 o_v13_19) (va_up (va_up a 17 o_a17_20) 16 o_a16_21) w o_fv_17 o_fp_18) H := hP
      have hD : va_D A (CW cs ad fa fq rv (va_up v 13 o_v13_19) (va_up (va_up a 17 o_a17_20) 16 o_a16_21) w o_fv_17 o_fp_18) := hD
      have wr_16_0 : ∀ f : Nat, f ≤ (d + 1) ∨ 14 ≤ f → o_fv_17 f = (va_up fv (d + 1) o_fvf_11) f := wr_16
      have hg_23 : ∀ f : Nat, f ≤ d ∨ 14 ≤ f → o_fv_17 f = fv f := fun f hf => (wr_16_0 f (by omega)).trans ((fun f hf => va_up_ne _ _ (by omega)) f hf)
      have hq_24 : (o_fv_17 d 2).toInt = -2 ∨ (0 ≤ (o_fv_17 d 2).toInt ∧ (o_fv_17 d 2).toInt < (v 1).toInt) := by rw [hg_23 d (Or.inl (Nat.le_refl d))]; exact ifvd_0
      refine lv_istore (lv' := [(6, .int r_16), (5, .int 0), (4, .ref (fa (d + 1))), (3, .ref (fa d)), (0, .ref (ad 5)), (1, .int p2), (2, .int p3)]) hx hb dX5_play_73 hl (by decide) rfl (fun ls hl => ?_)
      refine lv_aload hx hb dX5_play_75 (lv_at hl 2 rfl) ?_
      refine lv_aload_n hx hb dX5_play_77 rfl (lv_at hl 3 rfl) ?_
      refine lv_bipush (v := 8) hx hb dX5_play_78 (by decide) ?_
      refine cV_v (As := [.ref (fa d), .int 8]) (rest := []) ⟨hx, hb, hml, hown, hg⟩ (k_X3_follow l D cs A ad fa fq rv (va_up v 13 o_v13_19) (va_up (va_up a 17 o_a17_20) 16 o_a16_21) w o_fv_17 o_fp_18 (d + 1) d 8 (by omega) (by omega) (by omega) (show 0 ≤ (8 : Int) by first | omega | decide) (show (8 : Int) ≤ 8 by first | omega | decide) (show 0 ≤ (v 1).toInt by first | omega | decide) (show (v 1).toInt ≤ 8 by first | omega | decide) (show (o_fv_17 d 2).toInt = -2 ∨ (0 ≤ (o_fv_17 d 2).toInt ∧ (o_fv_17 d 2).toInt < (v 1).toInt) by first | omega | decide)) ca_X3_follow q4_20 ⟨rfl, rfl⟩ ⟨(show 1 + 1 ≤ 2 * n + 8 by omega), (show 8 + (3 + 11) + (60) ≤ 100 * n + 300 by omega)⟩ (rc_fl (f := (d + 1)) (by omega) hK hP) hK hP hD hS hZ rfl hl.1 rfl (Nat.le_of_ble_eq_true rfl) ⟨Nat.zero_le _, Nat.zero_le _⟩ dX5_play_80 (fun z_28 H locs wr_25 hP hD hS => ?_)
      obtain ⟨o_fvf_26, o_fpf_27⟩ := z_28
      have hP : va_P D vwCl (CW cs ad fa fq rv (va_up v 13 o_v13_19) (va_up (va_up a 17 o_a17_20) 16 o_a16_21) w (va_up o_fv_17 (d + 1) o_fvf_26) (va_up o_fp_18 (d + 1) o_fpf_27)) H := hP
      have hD : va_D A (CW cs ad fa fq rv (va_up v 13 o_v13_19) (va_up (va_up a 17 o_a17_20) 16 o_a16_21) w (va_up o_fv_17 (d + 1) o_fvf_26) (va_up o_fp_18 (d + 1) o_fpf_27)) := hD
      obtain ⟨wr_25_0, wr_25_1, wr_25_2, wr_25_3, wr_25_4, wr_25_5, wr_25_6, wr_25_7, wr_25_8⟩ : (o_fvf_26 0 = (o_fv_17 d 0)) ∧ (o_fvf_26 1 = (o_fv_17 d 1)) ∧ (o_fvf_26 2 = (o_fv_17 d 2)) ∧ (o_fvf_26 3 = (o_fv_17 d 3)) ∧ (o_fvf_26 4 = (o_fv_17 d 4)) ∧ (o_fvf_26 5 = (o_fv_17 d 5)) ∧ (o_fvf_26 6 = (o_fv_17 d 6)) ∧ (o_fvf_26 7 = (o_fv_17 d 7)) ∧ ((o_fvf_26 2).toInt = -2 ∨ (0 ≤ (o_fvf_26 2).toInt ∧ (o_fvf_26 2).toInt < (v 1).toInt)) := wr_25
      refine lv_aload_n hx hb dX5_play_83 rfl (lv_at hl 4 rfl) ?_
      refine lv_iload_n hx hb dX5_play_84 rfl (lv_at hl 5 rfl) ?_
      refine lv_iconst (v := 1) hx hb dX5_play_85 (by decide) ?_
      refine lv_iadd hx hb dX5_play_86 ?_
      refine lv_topi (fun x_29 ex_29 => ?_)
      have fx_29 : x_29.toInt = p2.toInt + (1 : Int) := by rw [ex_29]; exact i_add (by first | omega | (show (_ : Int) ≤ p2.toInt + (1 : Int); omega)) (by first | omega | (show p2.toInt + (1 : Int) ≤ (_ : Int); omega))
      refine lv_iload_n hx hb dX5_play_87 rfl (lv_at hl 6 rfl) ?_
      refine lv_aload_n hx hb dX5_play_88 rfl (lv_at hl 4 rfl) ?_
      refine lv_aload hx hb dX5_play_89 (lv_at hl 2 rfl) ?_
      refine lv_iload hx hb dX5_play_91 (lv_at hl 1 rfl) ?_
      refine lv_if_eq (tgt := 103) hx hb dX5_play_93 (by decide) (fun c_30 => ?_) (fun c_30 => absurd c_30 (by decide))
      refine lv_aload_n hx hb dX5_play_103 rfl (lv_at hl 4 rfl) ?_
      refine gf_talking_other hx hb hg hown hK hP (x := (v 10)) rfl (hg _ q2_66) dX5_play_104 ?_
      refine lv_iconst (v := 1) hx hb dX5_play_107 (by decide) ?_
      refine cV_i (As := [.int (v 10), .int 1]) (rest := [.ref (ad 5), .int p3, .int x_29, .ref (ad 5)]) ⟨hx, hb, hml, hown, hg⟩ (k_X3_utter l D cs A ad fa fq rv (va_up v 13 o_v13_19) (va_up (va_up a 17 o_a17_20) 16 o_a16_21) w (va_up o_fv_17 (d + 1) o_fvf_26) (va_up o_fp_18 (d + 1) o_fpf_27) (d + 1) (v 10) 1 (by omega) (show 0 ≤ (v 10).toInt by first | omega | decide) (show (v 10).toInt < (v 1).toInt by first | omega | decide) (show 0 ≤ (v 1).toInt by first | omega | decide) (show (v 1).toInt ≤ 8 by first | omega | decide) (by (have hq : (o_fvf_26 2).toInt = -2 ∨ (0 ≤ (o_fvf_26 2).toInt ∧ (o_fvf_26 2).toInt < (v 1).toInt) := (by first | omega | decide)); first | exact hq | (simp only [va_up_self]; exact hq)) (show 0 ≤ (v 5).toInt by first | omega | decide) (show (v 5).toInt ≤ 256 by first | omega | decide) ia18_0) ca_X3_utter q4_30 ⟨rfl, rfl⟩ ⟨(show 3 + 1 ≤ 2 * n + 8 by omega), (show 8 + (3 + 11) + (70) ≤ 100 * n + 300 by omega)⟩ (rc_fl (f := (d + 1)) (by omega) hK hP) hK hP hD hS hZ rfl hl.1 rfl (Nat.le_of_ble_eq_true rfl) ⟨Nat.zero_le _, Nat.zero_le _⟩ dX5_play_108 (fun r_31 z_36 H locs wr_31 hP hD hS => ?_)
      obtain ⟨o_fvf_32, o_fpf_33, o_a17_34, o_a16_35⟩ := z_36
      simp only [bx_uu] at hP hD
      have hP : va_P D vwCl (CW cs ad fa fq rv (va_up v 13 o_v13_19) (va_up (va_up a 17 o_a17_34) 16 o_a16_35) w (va_up o_fv_17 (d + 1) o_fvf_32) (va_up o_fp_18 (d + 1) o_fpf_33)) H := hP
      have hD : va_D A (CW cs ad fa fq rv (va_up v 13 o_v13_19) (va_up (va_up a 17 o_a17_34) 16 o_a16_35) w (va_up o_fv_17 (d + 1) o_fvf_32) (va_up o_fp_18 (d + 1) o_fpf_33)) := hD
      simp only [va_up_self] at wr_31
      obtain ⟨wr_31_0, wr_31_1, wr_31_2⟩ : (r_31.toInt = -2 ∨ (0 ≤ r_31.toInt ∧ r_31.toInt < (v 1).toInt)) ∧ (o_fvf_32 3 = (o_fvf_26 3) + 1) ∧ ((o_fvf_32 2).toInt = -2 ∨ (0 ≤ (o_fvf_32 2).toInt ∧ (o_fvf_32 2).toInt < (v 1).toInt)) := wr_31
      refine cV_ro (As := [.int r_31]) (rest := [.int p3, .int x_29, .ref (ad 5)]) ⟨hx, hb, hml, hown, hg⟩ (k_X5_bit l D cs A ad fa fq rv (va_up v 13 o_v13_19) (va_up (va_up a 17 o_a17_34) 16 o_a16_35) w (va_up o_fv_17 (d + 1) o_fvf_32) (va_up o_fp_18 (d + 1) o_fpf_33)  r_31 ) ca_X5_bit q4_26 ⟨rfl, rfl⟩ ⟨(show 0 + 1 ≤ 2 * n + 8 by omega), (show 8 + (2 + 11) + (0) ≤ 100 * n + 300 by omega)⟩ (rc_talking hK hP) hK hP hD hS hZ rfl hl.1 rfl (Nat.le_of_ble_eq_true rfl) ⟨Nat.zero_le _, Nat.zero_le _⟩ dX5_play_111 (fun r_37 wr_37 => ?_)
      have wr_37_0 : True := wr_37
      refine lv_ior hx hb dX5_play_114 ?_
      refine lv_topi (fun x_38 ex_38 => ?_)
      refine cS_i (As := [.ref (ad 5), .int x_29, .int x_38]) (rest := []) ⟨hx, hb, hml, hown, hg⟩ ((hrec (n - 1) (by omega)) l D cs A ad fa fq rv (va_up v 13 o_v13_19) (va_up (va_up a 17 o_a17_34) 16 o_a16_35) w (va_up o_fv_17 (d + 1) o_fvf_32) (va_up o_fp_18 (d + 1) o_fpf_33) (d + 1) x_29 x_38 (show x_29.toInt = ((d + 1) : Int) by first | omega | decide) (show (d + 1) ≤ 6 by first | omega | decide) (show 6 ≤ (d + 1) + (n - 1 : Nat) by first | omega | decide) (show 0 ≤ (v 9).toInt by first | omega | decide) (show (v 9).toInt < (v 1).toInt by first | omega | decide) (show 0 ≤ (v 10).toInt by first | omega | decide) (show (v 10).toInt < (v 1).toInt by first | omega | decide) (show 0 ≤ (v 1).toInt by first | omega | decide) (show (v 1).toInt ≤ 8 by first | omega | decide) (by (have hq : (o_fvf_32 2).toInt = -2 ∨ (0 ≤ (o_fvf_32 2).toInt ∧ (o_fvf_32 2).toInt < (v 1).toInt) := (by first | omega | decide)); first | exact hq | (simp only [va_up_self]; exact hq)) (show 0 ≤ (v 11).toInt by first | omega | decide) (show (v 11).toInt ≤ 6 by first | omega | decide) (show 0 ≤ (v 5).toInt by first | omega | decide) (show (v 5).toInt ≤ 256 by first | omega | decide) ia18_0) ca_X5_play q4_17 ⟨rfl, rfl⟩ ⟨(show 2 * (n - 1) + 8 + 1 ≤ 2 * n + 8 by omega), (show 8 + (9 + 11) + (100 * (n - 1) + 300) ≤ 100 * n + 300 by omega)⟩  hK hP hD hS hZ rfl hl.1 rfl (Nat.le_of_ble_eq_true rfl) ⟨Nat.zero_le _, Nat.zero_le _⟩ dX5_play_115 (fun r_39 z_45 H locs wr_39 hP hD hS => ?_)
      obtain ⟨o_fv_40, o_fp_41, o_v13_42, o_a17_43, o_a16_44⟩ := z_45
      have hP : va_P D vwCl (CW cs ad fa fq rv (va_up v 13 o_v13_42) (va_up (va_up a 17 o_a17_43) 16 o_a16_44) w o_fv_40 o_fp_41) H := hP
      have hD : va_D A (CW cs ad fa fq rv (va_up v 13 o_v13_42) (va_up (va_up a 17 o_a17_43) 16 o_a16_44) w o_fv_40 o_fp_41) := hD
      have wr_39_0 : ∀ f : Nat, f ≤ (d + 1) ∨ 14 ≤ f → o_fv_40 f = (va_up o_fv_17 (d + 1) o_fvf_32) f := wr_39
      have hg_46 : ∀ f : Nat, f ≤ d ∨ 14 ≤ f → o_fv_40 f = fv f := fun f hf => (wr_39_0 f (by omega)).trans ((fun f hf => (va_up_ne _ _ (by omega)).trans (hg_23 f hf)) f hf)
      have hq_47 : (o_fv_40 d 2).toInt = -2 ∨ (0 ≤ (o_fv_40 d 2).toInt ∧ (o_fv_40 d 2).toInt < (v 1).toInt) := by rw [hg_46 d (Or.inl (Nat.le_refl d))]; exact ifvd_0
      refine lv_istore (lv' := [(7, .int r_39), (6, .int r_16), (5, .int 0), (4, .ref (fa (d + 1))), (3, .ref (fa d)), (0, .ref (ad 5)), (1, .int p2), (2, .int p3)]) hx hb dX5_play_118 hl (by decide) rfl (fun ls hl => ?_)
      refine lv_iload hx hb dX5_play_120 (lv_at hl 0 rfl) ?_
      refine lv_iload hx hb dX5_play_122 (lv_at hl 2 rfl) ?_
      refine cS_p (As := [.int r_39, .int 0]) (rest := []) ⟨hx, hb, hml, hown, hg⟩ (k_X5_liking l   r_39 0 ) ca_X5_liking q4_31 ⟨rfl, rfl⟩ ⟨(show 0 + 1 ≤ 2 * n + 8 by omega), (show 8 + (4 + 11) + (0) ≤ 100 * n + 300 by omega)⟩ rfl hl.1 rfl (Nat.le_of_ble_eq_true rfl) ⟨Nat.zero_le _, Nat.zero_le _⟩ dX5_play_124 (fun r_48 wr_48 => ?_)
      refine lv_iload hx hb dX5_play_127 (lv_at hl 1 rfl) ?_
      refine lv_iload hx hb dX5_play_129 (lv_at hl 2 rfl) ?_
      refine cS_p (As := [.int r_16, .int 0]) (rest := [.int r_48]) ⟨hx, hb, hml, hown, hg⟩ (k_X5_liking l   r_16 0 ) ca_X5_liking q4_31 ⟨rfl, rfl⟩ ⟨(show 0 + 1 ≤ 2 * n + 8 by omega), (show 8 + (4 + 11) + (0) ≤ 100 * n + 300 by omega)⟩ rfl hl.1 rfl (Nat.le_of_ble_eq_true rfl) ⟨Nat.zero_le _, Nat.zero_le _⟩ dX5_play_131 (fun r_49 wr_49 => ?_)
      refine lv_icmp_le (tgt := 141) hx hb dX5_play_134 (by decide) (fun c_50 => ?_) (fun c_50 => ?_)
      ·
        have kc_50 : r_48.toInt ≤ r_49.toInt := i_le c_50
        refine lv_iconst (v := 0) hx hb dX5_play_141 (by decide) ?_
        refine lv_istore (lv' := [(8, .int 0), (7, .int r_39), (6, .int r_16), (5, .int 0), (4, .ref (fa (d + 1))), (3, .ref (fa d)), (0, .ref (ad 5)), (1, .int p2), (2, .int p3)]) hx hb dX5_play_142 hl (by decide) rfl (fun ls hl => ?_)
        refine lv_aload_n hx hb dX5_play_144 rfl (lv_at hl 6 rfl) ?_
        refine lv_iload hx hb dX5_play_145 (lv_at hl 0 rfl) ?_
        refine lv_if_eq (tgt := 154) hx hb dX5_play_147 (by decide) (fun c_51 => ?_) (fun c_51 => absurd c_51 (by decide))
        refine lv_iconst (v := 0) hx hb dX5_play_154 (by decide) ?_
        refine pf_talking_opening hx hb hg hown hK hP hD hS (hg _ q2_70) dX5_play_155 (fun H locs hP hD hS => ?_)
        refine lv_iload hx hb dX5_play_158 (lv_at hl 0 rfl) ?_
        refine lv_if_eq (tgt := 168) hx hb dX5_play_160 (by decide) (fun c_52 => ?_) (fun c_52 => absurd c_52 (by decide))
        refine lv_iload hx hb dX5_play_168 (lv_at hl 2 rfl) ?_
        have q0_0 : (0 : Int32).toInt = 0 := rfl
        exact W.iret (v := r_16) hx hb hr (fun tt ht hW => ⟨⟨r_16, ⟨o_fv_40, o_fp_41, 0, o_a17_43, o_a16_44⟩, rfl, hg_46, by rw [ht]; exact hP, hD⟩, hS.F ht⟩) hS.2.2 dX5_play_170
      ·
        have kc_50 : r_49.toInt < r_48.toInt := i_nle c_50
        refine lv_iconst (v := 1) hx hb dX5_play_137 (by decide) ?_
        refine lv_goto (tgt := 142) hx hb dX5_play_138 (by decide) ?_
        refine lv_istore (lv' := [(8, .int 1), (7, .int r_39), (6, .int r_16), (5, .int 0), (4, .ref (fa (d + 1))), (3, .ref (fa d)), (0, .ref (ad 5)), (1, .int p2), (2, .int p3)]) hx hb dX5_play_142 hl (by decide) rfl (fun ls hl => ?_)
        refine lv_aload_n hx hb dX5_play_144 rfl (lv_at hl 6 rfl) ?_
        refine lv_iload hx hb dX5_play_145 (lv_at hl 0 rfl) ?_
        refine lv_if_eq (tgt := 154) hx hb dX5_play_147 (by decide) (fun c_53 => absurd c_53 (by decide)) (fun c_53 => ?_)
        refine lv_iconst (v := 1) hx hb dX5_play_150 (by decide) ?_
        refine lv_goto (tgt := 155) hx hb dX5_play_151 (by decide) ?_
        refine pf_talking_opening hx hb hg hown hK hP hD hS (hg _ q2_70) dX5_play_155 (fun H locs hP hD hS => ?_)
        refine lv_iload hx hb dX5_play_158 (lv_at hl 0 rfl) ?_
        refine lv_if_eq (tgt := 168) hx hb dX5_play_160 (by decide) (fun c_54 => absurd c_54 (by decide)) (fun c_54 => ?_)
        refine lv_iload hx hb dX5_play_163 (lv_at hl 1 rfl) ?_
        refine lv_goto (tgt := 170) hx hb dX5_play_165 (by decide) ?_
        have q0_1 : (1 : Int32).toInt = 1 := rfl
        exact W.iret (v := r_39) hx hb hr (fun tt ht hW => ⟨⟨r_39, ⟨o_fv_40, o_fp_41, 1, o_a17_43, o_a16_44⟩, rfl, hg_46, by rw [ht]; exact hP, hD⟩, hS.F ht⟩) hS.2.2 dX5_play_170
    ·
      have kc_8 : x_7.toInt = (0 : Int) := i_eq c_8
      refine lv_iconst (v := 1) hx hb dX5_play_48 (by decide) ?_
      refine lv_goto (tgt := 53) hx hb dX5_play_49 (by decide) ?_
      refine lv_istore (lv' := [(5, .int 1), (4, .ref (fa (d + 1))), (3, .ref (fa d)), (0, .ref (ad 5)), (1, .int p2), (2, .int p3)]) hx hb dX5_play_53 hl (by decide) rfl (fun ls hl => ?_)
      refine lv_aload_n hx hb dX5_play_55 rfl (lv_at hl 3 rfl) ?_
      refine lv_iload_n hx hb dX5_play_56 rfl (lv_at hl 4 rfl) ?_
      refine lv_iconst (v := 1) hx hb dX5_play_57 (by decide) ?_
      refine lv_iadd hx hb dX5_play_58 ?_
      refine lv_topi (fun x_55 ex_55 => ?_)
      have fx_55 : x_55.toInt = p2.toInt + (1 : Int) := by rw [ex_55]; exact i_add (by first | omega | (show (_ : Int) ≤ p2.toInt + (1 : Int); omega)) (by first | omega | (show p2.toInt + (1 : Int) ≤ (_ : Int); omega))
      refine lv_iload_n hx hb dX5_play_59 rfl (lv_at hl 5 rfl) ?_
      refine lv_aload_n hx hb dX5_play_60 rfl (lv_at hl 3 rfl) ?_
      refine lv_aload hx hb dX5_play_61 (lv_at hl 1 rfl) ?_
      refine cV_i (As := []) (rest := [.ref (ad 5), .int p3, .int x_55, .ref (ad 5)]) ⟨hx, hb, hml, hown, hg⟩ (k_X3_passHour l D cs A ad fa fq rv v a w (va_up fv (d + 1) o_fvf_3) (va_up fp (d + 1) o_fpf_4) (d + 1)  (by omega) (show 0 ≤ (v 1).toInt by first | omega | decide) (show (v 1).toInt ≤ 8 by first | omega | decide) (by (have hq : (o_fvf_3 2).toInt = -2 ∨ (0 ≤ (o_fvf_3 2).toInt ∧ (o_fvf_3 2).toInt < (v 1).toInt) := (by first | omega | decide)); first | exact hq | (simp only [va_up_self]; exact hq))) ca_X3_passHour q4_25 ⟨rfl, rfl⟩ ⟨(show 2 + 1 ≤ 2 * n + 8 by omega), (show 8 + (2 + 11) + (47) ≤ 100 * n + 300 by omega)⟩ (rc_fl (f := (d + 1)) (by omega) hK hP) hK hP hD hS hZ rfl hl.1 rfl (Nat.le_of_ble_eq_true rfl) ⟨Nat.zero_le _, Nat.zero_le _⟩ dX5_play_63 (fun r_56 z_59 H locs wr_56 hP hD hS => ?_)
      obtain ⟨o_fvf_57, o_fpf_58⟩ := z_59
      simp only [bx_uu] at hP hD
      have hP : va_P D vwCl (CW cs ad fa fq rv v a w (va_up fv (d + 1) o_fvf_57) (va_up fp (d + 1) o_fpf_58)) H := hP
      have hD : va_D A (CW cs ad fa fq rv v a w (va_up fv (d + 1) o_fvf_57) (va_up fp (d + 1) o_fpf_58)) := hD
      simp only [va_up_self] at wr_56
      obtain ⟨wr_56_0, wr_56_1, wr_56_2⟩ : (r_56.toInt = -2 ∨ (0 ≤ r_56.toInt ∧ r_56.toInt < (v 1).toInt)) ∧ (o_fvf_57 3 = (o_fvf_3 3)) ∧ ((o_fvf_57 2).toInt = -2 ∨ (0 ≤ (o_fvf_57 2).toInt ∧ (o_fvf_57 2).toInt < (v 1).toInt)) := wr_56
      refine cV_ro (As := [.int r_56]) (rest := [.int p3, .int x_55, .ref (ad 5)]) ⟨hx, hb, hml, hown, hg⟩ (k_X5_bit l D cs A ad fa fq rv v a w (va_up fv (d + 1) o_fvf_57) (va_up fp (d + 1) o_fpf_58)  r_56 ) ca_X5_bit q4_26 ⟨rfl, rfl⟩ ⟨(show 0 + 1 ≤ 2 * n + 8 by omega), (show 8 + (2 + 11) + (0) ≤ 100 * n + 300 by omega)⟩ (rc_talking hK hP) hK hP hD hS hZ rfl hl.1 rfl (Nat.le_of_ble_eq_true rfl) ⟨Nat.zero_le _, Nat.zero_le _⟩ dX5_play_66 (fun r_60 wr_60 => ?_)
      have wr_60_0 : True := wr_60
      refine lv_ior hx hb dX5_play_69 ?_
      refine lv_topi (fun x_61 ex_61 => ?_)
      refine cS_i (As := [.ref (ad 5), .int x_55, .int x_61]) (rest := []) ⟨hx, hb, hml, hown, hg⟩ ((hrec (n - 1) (by omega)) l D cs A ad fa fq rv v a w (va_up fv (d + 1) o_fvf_57) (va_up fp (d + 1) o_fpf_58) (d + 1) x_55 x_61 (show x_55.toInt = ((d + 1) : Int) by first | omega | decide) (show (d + 1) ≤ 6 by first | omega | decide) (show 6 ≤ (d + 1) + (n - 1 : Nat) by first | omega | decide) (show 0 ≤ (v 9).toInt by first | omega | decide) (show (v 9).toInt < (v 1).toInt by first | omega | decide) (show 0 ≤ (v 10).toInt by first | omega | decide) (show (v 10).toInt < (v 1).toInt by first | omega | decide) (show 0 ≤ (v 1).toInt by first | omega | decide) (show (v 1).toInt ≤ 8 by first | omega | decide) (by (have hq : (o_fvf_57 2).toInt = -2 ∨ (0 ≤ (o_fvf_57 2).toInt ∧ (o_fvf_57 2).toInt < (v 1).toInt) := (by first | omega | decide)); first | exact hq | (simp only [va_up_self]; exact hq)) (show 0 ≤ (v 11).toInt by first | omega | decide) (show (v 11).toInt ≤ 6 by first | omega | decide) (show 0 ≤ (v 5).toInt by first | omega | decide) (show (v 5).toInt ≤ 256 by first | omega | decide) ia18_0) ca_X5_play q4_17 ⟨rfl, rfl⟩ ⟨(show 2 * (n - 1) + 8 + 1 ≤ 2 * n + 8 by omega), (show 8 + (9 + 11) + (100 * (n - 1) + 300) ≤ 100 * n + 300 by omega)⟩  hK hP hD hS hZ rfl hl.1 rfl (Nat.le_of_ble_eq_true rfl) ⟨Nat.zero_le _, Nat.zero_le _⟩ dX5_play_70 (fun r_62 z_68 H locs wr_62 hP hD hS => ?_)
      obtain ⟨o_fv_63, o_fp_64, o_v13_65, o_a17_66, o_a16_67⟩ := z_68
      have hP : va_P D vwCl (CW cs ad fa fq rv (va_up v 13 o_v13_65) (va_up (va_up a 17 o_a17_66) 16 o_a16_67) w o_fv_63 o_fp_64) H := hP
      have hD : va_D A (CW cs ad fa fq rv (va_up v 13 o_v13_65) (va_up (va_up a 17 o_a17_66) 16 o_a16_67) w o_fv_63 o_fp_64) := hD
      have wr_62_0 : ∀ f : Nat, f ≤ (d + 1) ∨ 14 ≤ f → o_fv_63 f = (va_up fv (d + 1) o_fvf_57) f := wr_62
      have hg_69 : ∀ f : Nat, f ≤ d ∨ 14 ≤ f → o_fv_63 f = fv f := fun f hf => (wr_62_0 f (by omega)).trans ((fun f hf => va_up_ne _ _ (by omega)) f hf)
      have hq_70 : (o_fv_63 d 2).toInt = -2 ∨ (0 ≤ (o_fv_63 d 2).toInt ∧ (o_fv_63 d 2).toInt < (v 1).toInt) := by rw [hg_69 d (Or.inl (Nat.le_refl d))]; exact ifvd_0
      refine lv_istore (lv' := [(6, .int r_62), (5, .int 1), (4, .ref (fa (d + 1))), (3, .ref (fa d)), (0, .ref (ad 5)), (1, .int p2), (2, .int p3)]) hx hb dX5_play_73 hl (by decide) rfl (fun ls hl => ?_)
      refine lv_aload hx hb dX5_play_75 (lv_at hl 2 rfl) ?_
      refine lv_aload_n hx hb dX5_play_77 rfl (lv_at hl 3 rfl) ?_
      refine lv_bipush (v := 8) hx hb dX5_play_78 (by decide) ?_
      refine cV_v (As := [.ref (fa d), .int 8]) (rest := []) ⟨hx, hb, hml, hown, hg⟩ (k_X3_follow l D cs A ad fa fq rv (va_up v 13 o_v13_65) (va_up (va_up a 17 o_a17_66) 16 o_a16_67) w o_fv_63 o_fp_64 (d + 1) d 8 (by omega) (by omega) (by omega) (show 0 ≤ (8 : Int) by first | omega | decide) (show (8 : Int) ≤ 8 by first | omega | decide) (show 0 ≤ (v 1).toInt by first | omega | decide) (show (v 1).toInt ≤ 8 by first | omega | decide) (show (o_fv_63 d 2).toInt = -2 ∨ (0 ≤ (o_fv_63 d 2).toInt ∧ (o_fv_63 d 2).toInt < (v 1).toInt) by first | omega | decide)) ca_X3_follow q4_20 ⟨rfl, rfl⟩ ⟨(show 1 + 1 ≤ 2 * n + 8 by omega), (show 8 + (3 + 11) + (60) ≤ 100 * n + 300 by omega)⟩ (rc_fl (f := (d + 1)) (by omega) hK hP) hK hP hD hS hZ rfl hl.1 rfl (Nat.le_of_ble_eq_true rfl) ⟨Nat.zero_le _, Nat.zero_le _⟩ dX5_play_80 (fun z_74 H locs wr_71 hP hD hS => ?_)
      obtain ⟨o_fvf_72, o_fpf_73⟩ := z_74
      have hP : va_P D vwCl (CW cs ad fa fq rv (va_up v 13 o_v13_65) (va_up (va_up a 17 o_a17_66) 16 o_a16_67) w (va_up o_fv_63 (d + 1) o_fvf_72) (va_up o_fp_64 (d + 1) o_fpf_73)) H := hP
      have hD : va_D A (CW cs ad fa fq rv (va_up v 13 o_v13_65) (va_up (va_up a 17 o_a17_66) 16 o_a16_67) w (va_up o_fv_63 (d + 1) o_fvf_72) (va_up o_fp_64 (d + 1) o_fpf_73)) := hD
      obtain ⟨wr_71_0, wr_71_1, wr_71_2, wr_71_3, wr_71_4, wr_71_5, wr_71_6, wr_71_7, wr_71_8⟩ : (o_fvf_72 0 = (o_fv_63 d 0)) ∧ (o_fvf_72 1 = (o_fv_63 d 1)) ∧ (o_fvf_72 2 = (o_fv_63 d 2)) ∧ (o_fvf_72 3 = (o_fv_63 d 3)) ∧ (o_fvf_72 4 = (o_fv_63 d 4)) ∧ (o_fvf_72 5 = (o_fv_63 d 5)) ∧ (o_fvf_72 6 = (o_fv_63 d 6)) ∧ (o_fvf_72 7 = (o_fv_63 d 7)) ∧ ((o_fvf_72 2).toInt = -2 ∨ (0 ≤ (o_fvf_72 2).toInt ∧ (o_fvf_72 2).toInt < (v 1).toInt)) := wr_71
      refine lv_aload_n hx hb dX5_play_83 rfl (lv_at hl 4 rfl) ?_
      refine lv_iload_n hx hb dX5_play_84 rfl (lv_at hl 5 rfl) ?_
      refine lv_iconst (v := 1) hx hb dX5_play_85 (by decide) ?_
      refine lv_iadd hx hb dX5_play_86 ?_
      refine lv_topi (fun x_75 ex_75 => ?_)
      have fx_75 : x_75.toInt = p2.toInt + (1 : Int) := by rw [ex_75]; exact i_add (by first | omega | (show (_ : Int) ≤ p2.toInt + (1 : Int); omega)) (by first | omega | (show p2.toInt + (1 : Int) ≤ (_ : Int); omega))
      refine lv_iload_n hx hb dX5_play_87 rfl (lv_at hl 6 rfl) ?_
      refine lv_aload_n hx hb dX5_play_88 rfl (lv_at hl 4 rfl) ?_
      refine lv_aload hx hb dX5_play_89 (lv_at hl 2 rfl) ?_
      refine lv_iload hx hb dX5_play_91 (lv_at hl 1 rfl) ?_
      refine lv_if_eq (tgt := 103) hx hb dX5_play_93 (by decide) (fun c_76 => absurd c_76 (by decide)) (fun c_76 => ?_)
      refine lv_aload_n hx hb dX5_play_96 rfl (lv_at hl 4 rfl) ?_
      refine gf_talking_first hx hb hg hown hK hP (x := (v 9)) rfl (hg _ q2_65) dX5_play_97 ?_
      refine lv_goto (tgt := 107) hx hb dX5_play_100 (by decide) ?_
      refine lv_iconst (v := 1) hx hb dX5_play_107 (by decide) ?_
      refine cV_i (As := [.int (v 9), .int 1]) (rest := [.ref (ad 5), .int p3, .int x_75, .ref (ad 5)]) ⟨hx, hb, hml, hown, hg⟩ (k_X3_utter l D cs A ad fa fq rv (va_up v 13 o_v13_65) (va_up (va_up a 17 o_a17_66) 16 o_a16_67) w (va_up o_fv_63 (d + 1) o_fvf_72) (va_up o_fp_64 (d + 1) o_fpf_73) (d + 1) (v 9) 1 (by omega) (show 0 ≤ (v 9).toInt by first | omega | decide) (show (v 9).toInt < (v 1).toInt by first | omega | decide) (show 0 ≤ (v 1).toInt by first | omega | decide) (show (v 1).toInt ≤ 8 by first | omega | decide) (by (have hq : (o_fvf_72 2).toInt = -2 ∨ (0 ≤ (o_fvf_72 2).toInt ∧ (o_fvf_72 2).toInt < (v 1).toInt) := (by first | omega | decide)); first | exact hq | (simp only [va_up_self]; exact hq)) (show 0 ≤ (v 5).toInt by first | omega | decide) (show (v 5).toInt ≤ 256 by first | omega | decide) ia18_0) ca_X3_utter q4_30 ⟨rfl, rfl⟩ ⟨(show 3 + 1 ≤ 2 * n + 8 by omega), (show 8 + (3 + 11) + (70) ≤ 100 * n + 300 by omega)⟩ (rc_fl (f := (d + 1)) (by omega) hK hP) hK hP hD hS hZ rfl hl.1 rfl (Nat.le_of_ble_eq_true rfl) ⟨Nat.zero_le _, Nat.zero_le _⟩ dX5_play_108 (fun r_77 z_82 H locs wr_77 hP hD hS => ?_)
      obtain ⟨o_fvf_78, o_fpf_79, o_a17_80, o_a16_81⟩ := z_82
      simp only [bx_uu] at hP hD
      have hP : va_P D vwCl (CW cs ad fa fq rv (va_up v 13 o_v13_65) (va_up (va_up a 17 o_a17_80) 16 o_a16_81) w (va_up o_fv_63 (d + 1) o_fvf_78) (va_up o_fp_64 (d + 1) o_fpf_79)) H := hP
      have hD : va_D A (CW cs ad fa fq rv (va_up v 13 o_v13_65) (va_up (va_up a 17 o_a17_80) 16 o_a16_81) w (va_up o_fv_63 (d + 1) o_fvf_78) (va_up o_fp_64 (d + 1) o_fpf_79)) := hD
      simp only [va_up_self] at wr_77
      obtain ⟨wr_77_0, wr_77_1, wr_77_2⟩ : (r_77.toInt = -2 ∨ (0 ≤ r_77.toInt ∧ r_77.toInt < (v 1).toInt)) ∧ (o_fvf_78 3 = (o_fvf_72 3) + 1) ∧ ((o_fvf_78 2).toInt = -2 ∨ (0 ≤ (o_fvf_78 2).toInt ∧ (o_fvf_78 2).toInt < (v 1).toInt)) := wr_77
      refine cV_ro (As := [.int r_77]) (rest := [.int p3, .int x_75, .ref (ad 5)]) ⟨hx, hb, hml, hown, hg⟩ (k_X5_bit l D cs A ad fa fq rv (va_up v 13 o_v13_65) (va_up (va_up a 17 o_a17_80) 16 o_a16_81) w (va_up o_fv_63 (d + 1) o_fvf_78) (va_up o_fp_64 (d + 1) o_fpf_79)  r_77 ) ca_X5_bit q4_26 ⟨rfl, rfl⟩ ⟨(show 0 + 1 ≤ 2 * n + 8 by omega), (show 8 + (2 + 11) + (0) ≤ 100 * n + 300 by omega)⟩ (rc_talking hK hP) hK hP hD hS hZ rfl hl.1 rfl (Nat.le_of_ble_eq_true rfl) ⟨Nat.zero_le _, Nat.zero_le _⟩ dX5_play_111 (fun r_83 wr_83 => ?_)
      have wr_83_0 : True := wr_83
      refine lv_ior hx hb dX5_play_114 ?_
      refine lv_topi (fun x_84 ex_84 => ?_)
      refine cS_i (As := [.ref (ad 5), .int x_75, .int x_84]) (rest := []) ⟨hx, hb, hml, hown, hg⟩ ((hrec (n - 1) (by omega)) l D cs A ad fa fq rv (va_up v 13 o_v13_65) (va_up (va_up a 17 o_a17_80) 16 o_a16_81) w (va_up o_fv_63 (d + 1) o_fvf_78) (va_up o_fp_64 (d + 1) o_fpf_79) (d + 1) x_75 x_84 (show x_75.toInt = ((d + 1) : Int) by first | omega | decide) (show (d + 1) ≤ 6 by first | omega | decide) (show 6 ≤ (d + 1) + (n - 1 : Nat) by first | omega | decide) (show 0 ≤ (v 9).toInt by first | omega | decide) (show (v 9).toInt < (v 1).toInt by first | omega | decide) (show 0 ≤ (v 10).toInt by first | omega | decide) (show (v 10).toInt < (v 1).toInt by first | omega | decide) (show 0 ≤ (v 1).toInt by first | omega | decide) (show (v 1).toInt ≤ 8 by first | omega | decide) (by (have hq : (o_fvf_78 2).toInt = -2 ∨ (0 ≤ (o_fvf_78 2).toInt ∧ (o_fvf_78 2).toInt < (v 1).toInt) := (by first | omega | decide)); first | exact hq | (simp only [va_up_self]; exact hq)) (show 0 ≤ (v 11).toInt by first | omega | decide) (show (v 11).toInt ≤ 6 by first | omega | decide) (show 0 ≤ (v 5).toInt by first | omega | decide) (show (v 5).toInt ≤ 256 by first | omega | decide) ia18_0) ca_X5_play q4_17 ⟨rfl, rfl⟩ ⟨(show 2 * (n - 1) + 8 + 1 ≤ 2 * n + 8 by omega), (show 8 + (9 + 11) + (100 * (n - 1) + 300) ≤ 100 * n + 300 by omega)⟩  hK hP hD hS hZ rfl hl.1 rfl (Nat.le_of_ble_eq_true rfl) ⟨Nat.zero_le _, Nat.zero_le _⟩ dX5_play_115 (fun r_85 z_91 H locs wr_85 hP hD hS => ?_)
      obtain ⟨o_fv_86, o_fp_87, o_v13_88, o_a17_89, o_a16_90⟩ := z_91
      have hP : va_P D vwCl (CW cs ad fa fq rv (va_up v 13 o_v13_88) (va_up (va_up a 17 o_a17_89) 16 o_a16_90) w o_fv_86 o_fp_87) H := hP
      have hD : va_D A (CW cs ad fa fq rv (va_up v 13 o_v13_88) (va_up (va_up a 17 o_a17_89) 16 o_a16_90) w o_fv_86 o_fp_87) := hD
      have wr_85_0 : ∀ f : Nat, f ≤ (d + 1) ∨ 14 ≤ f → o_fv_86 f = (va_up o_fv_63 (d + 1) o_fvf_78) f := wr_85
      have hg_92 : ∀ f : Nat, f ≤ d ∨ 14 ≤ f → o_fv_86 f = fv f := fun f hf => (wr_85_0 f (by omega)).trans ((fun f hf => (va_up_ne _ _ (by omega)).trans (hg_69 f hf)) f hf)
      have hq_93 : (o_fv_86 d 2).toInt = -2 ∨ (0 ≤ (o_fv_86 d 2).toInt ∧ (o_fv_86 d 2).toInt < (v 1).toInt) := by rw [hg_92 d (Or.inl (Nat.le_refl d))]; exact ifvd_0
      refine lv_istore (lv' := [(7, .int r_85), (6, .int r_62), (5, .int 1), (4, .ref (fa (d + 1))), (3, .ref (fa d)), (0, .ref (ad 5)), (1, .int p2), (2, .int p3)]) hx hb dX5_play_118 hl (by decide) rfl (fun ls hl => ?_)
      refine lv_iload hx hb dX5_play_120 (lv_at hl 0 rfl) ?_
      refine lv_iload hx hb dX5_play_122 (lv_at hl 2 rfl) ?_
      refine cS_p (As := [.int r_85, .int 1]) (rest := []) ⟨hx, hb, hml, hown, hg⟩ (k_X5_liking l   r_85 1 ) ca_X5_liking q4_31 ⟨rfl, rfl⟩ ⟨(show 0 + 1 ≤ 2 * n + 8 by omega), (show 8 + (4 + 11) + (0) ≤ 100 * n + 300 by omega)⟩ rfl hl.1 rfl (Nat.le_of_ble_eq_true rfl) ⟨Nat.zero_le _, Nat.zero_le _⟩ dX5_play_124 (fun r_94 wr_94 => ?_)
      refine lv_iload hx hb dX5_play_127 (lv_at hl 1 rfl) ?_
      refine lv_iload hx hb dX5_play_129 (lv_at hl 2 rfl) ?_
      refine cS_p (As := [.int r_62, .int 1]) (rest := [.int r_94]) ⟨hx, hb, hml, hown, hg⟩ (k_X5_liking l   r_62 1 ) ca_X5_liking q4_31 ⟨rfl, rfl⟩ ⟨(show 0 + 1 ≤ 2 * n + 8 by omega), (show 8 + (4 + 11) + (0) ≤ 100 * n + 300 by omega)⟩ rfl hl.1 rfl (Nat.le_of_ble_eq_true rfl) ⟨Nat.zero_le _, Nat.zero_le _⟩ dX5_play_131 (fun r_95 wr_95 => ?_)
      refine lv_icmp_le (tgt := 141) hx hb dX5_play_134 (by decide) (fun c_96 => ?_) (fun c_96 => ?_)
      ·
        have kc_96 : r_94.toInt ≤ r_95.toInt := i_le c_96
        refine lv_iconst (v := 0) hx hb dX5_play_141 (by decide) ?_
        refine lv_istore (lv' := [(8, .int 0), (7, .int r_85), (6, .int r_62), (5, .int 1), (4, .ref (fa (d + 1))), (3, .ref (fa d)), (0, .ref (ad 5)), (1, .int p2), (2, .int p3)]) hx hb dX5_play_142 hl (by decide) rfl (fun ls hl => ?_)
        refine lv_aload_n hx hb dX5_play_144 rfl (lv_at hl 6 rfl) ?_
        refine lv_iload hx hb dX5_play_145 (lv_at hl 0 rfl) ?_
        refine lv_if_eq (tgt := 154) hx hb dX5_play_147 (by decide) (fun c_97 => ?_) (fun c_97 => absurd c_97 (by decide))
        refine lv_iconst (v := 0) hx hb dX5_play_154 (by decide) ?_
        refine pf_talking_opening hx hb hg hown hK hP hD hS (hg _ q2_70) dX5_play_155 (fun H locs hP hD hS => ?_)
        refine lv_iload hx hb dX5_play_158 (lv_at hl 0 rfl) ?_
        refine lv_if_eq (tgt := 168) hx hb dX5_play_160 (by decide) (fun c_98 => ?_) (fun c_98 => absurd c_98 (by decide))
        refine lv_iload hx hb dX5_play_168 (lv_at hl 2 rfl) ?_
        have q0_0 : (0 : Int32).toInt = 0 := rfl
        exact W.iret (v := r_62) hx hb hr (fun tt ht hW => ⟨⟨r_62, ⟨o_fv_86, o_fp_87, 0, o_a17_89, o_a16_90⟩, rfl, hg_92, by rw [ht]; exact hP, hD⟩, hS.F ht⟩) hS.2.2 dX5_play_170
      ·
        have kc_96 : r_95.toInt < r_94.toInt := i_nle c_96
        refine lv_iconst (v := 1) hx hb dX5_play_137 (by decide) ?_
        refine lv_goto (tgt := 142) hx hb dX5_play_138 (by decide) ?_
        refine lv_istore (lv' := [(8, .int 1), (7, .int r_85), (6, .int r_62), (5, .int 1), (4, .ref (fa (d + 1))), (3, .ref (fa d)), (0, .ref (ad 5)), (1, .int p2), (2, .int p3)]) hx hb dX5_play_142 hl (by decide) rfl (fun ls hl => ?_)
        refine lv_aload_n hx hb dX5_play_144 rfl (lv_at hl 6 rfl) ?_
        refine lv_iload hx hb dX5_play_145 (lv_at hl 0 rfl) ?_
        refine lv_if_eq (tgt := 154) hx hb dX5_play_147 (by decide) (fun c_99 => absurd c_99 (by decide)) (fun c_99 => ?_)
        refine lv_iconst (v := 1) hx hb dX5_play_150 (by decide) ?_
        refine lv_goto (tgt := 155) hx hb dX5_play_151 (by decide) ?_
        refine pf_talking_opening hx hb hg hown hK hP hD hS (hg _ q2_70) dX5_play_155 (fun H locs hP hD hS => ?_)
        refine lv_iload hx hb dX5_play_158 (lv_at hl 0 rfl) ?_
        refine lv_if_eq (tgt := 168) hx hb dX5_play_160 (by decide) (fun c_100 => absurd c_100 (by decide)) (fun c_100 => ?_)
        refine lv_iload hx hb dX5_play_163 (lv_at hl 1 rfl) ?_
        refine lv_goto (tgt := 170) hx hb dX5_play_165 (by decide) ?_
        have q0_1 : (1 : Int32).toInt = 1 := rfl
        exact W.iret (v := r_85) hx hb hr (fun tt ht hW => ⟨⟨r_85, ⟨o_fv_86, o_fp_87, 1, o_a17_89, o_a16_90⟩, rfl, hg_92, by rw [ht]; exact hP, hD⟩, hS.F ht⟩) hS.2.2 dX5_play_170
  ·
    have kc_6 : (v 11).toInt ≤ p2.toInt := i_nlt c_6
    refine lv_iload_n hx hb dX5_play_33 rfl (lv_at hl 4 rfl) ?_
    refine lv_aload_n hx hb dX5_play_34 rfl (lv_at hl 2 rfl) ?_
    refine lv_aload hx hb dX5_play_35 (lv_at hl 0 rfl) ?_
    refine cV_i (As := [.ref (fa (d + 1))]) (rest := [.int p3]) ⟨hx, hb, hml, hown, hg⟩ (k_X5_stillness l D cs A ad fa fq rv v a w (va_up fv (d + 1) o_fvf_3) (va_up fp (d + 1) o_fpf_4) (d + 1)  (by omega) (show 0 ≤ (v 1).toInt by first | omega | decide) (show (v 1).toInt ≤ 8 by first | omega | decide) (by (have hq : (o_fvf_3 2).toInt = -2 ∨ (0 ≤ (o_fvf_3 2).toInt ∧ (o_fvf_3 2).toInt < (v 1).toInt) := (by first | omega | decide)); first | exact hq | (simp only [va_up_self]; exact hq))) ca_X5_stillness q4_21 ⟨rfl, rfl⟩ ⟨(show 3 + 1 ≤ 2 * n + 8 by omega), (show 8 + (4 + 11) + (68) ≤ 100 * n + 300 by omega)⟩ (rc_talking hK hP) hK hP hD hS hZ rfl hl.1 rfl (Nat.le_of_ble_eq_true rfl) ⟨Nat.zero_le _, Nat.zero_le _⟩ dX5_play_37 (fun r_101 z_104 H locs wr_101 hP hD hS => ?_)
    obtain ⟨o_fvf_102, o_fpf_103⟩ := z_104
    simp only [bx_uu] at hP hD
    have hP : va_P D vwCl (CW cs ad fa fq rv v a w (va_up fv (d + 1) o_fvf_102) (va_up fp (d + 1) o_fpf_103)) H := hP
    have hD : va_D A (CW cs ad fa fq rv v a w (va_up fv (d + 1) o_fvf_102) (va_up fp (d + 1) o_fpf_103)) := hD
    simp only [va_up_self] at wr_101
    have wr_101_0 : (o_fvf_102 2).toInt = -2 ∨ (0 ≤ (o_fvf_102 2).toInt ∧ (o_fvf_102 2).toInt < (v 1).toInt) := wr_101
    refine lv_ior hx hb dX5_play_40 ?_
    refine lv_topi (fun x_105 ex_105 => ?_)
    have hP : va_P D vwCl (CW cs ad fa fq rv (va_up v 13 (v 13)) (va_up (va_up a 17 (a 17)) 16 (a 16)) w (va_up fv (d + 1) o_fvf_102) (va_up fp (d + 1) o_fpf_103)) _ := hP
    have hD : va_D A (CW cs ad fa fq rv (va_up v 13 (v 13)) (va_up (va_up a 17 (a 17)) 16 (a 16)) w (va_up fv (d + 1) o_fvf_102) (va_up fp (d + 1) o_fpf_103)) := hD
    exact W.iret (v := x_105) hx hb hr (fun tt ht hW => ⟨⟨x_105, ⟨(va_up fv (d + 1) o_fvf_102), (va_up fp (d + 1) o_fpf_103), (v 13), (a 17), (a 16)⟩, rfl, (fun f hf => va_up_ne _ _ (by omega)), by rw [ht]; exact hP, hD⟩, hS.F ht⟩) hS.2.2 dX5_play_41
theorem k_X5_play : ∀ n, C_X5_play n := by
  intro n
  induction n with
  | zero => exact s_X5_play 0 (fun k h => absurd h (by omega))
  | succ n ih => exact s_X5_play (n + 1) (fun k h => by (have e : k = n := by omega); subst e; exact ih)
set_option maxHeartbeats 4000000 in
set_option maxRecDepth 100000 in
theorem k_X5_talk (l : Launch) (D : va_G) (cs : Nat → ClassId) (A : Nat → Prop) (ad fa fq rv : Nat → Nat) (v : Nat → Int32) (a : Nat → Nat → Int32) (w : Nat → Nat → Int64) (fv fp : Nat → Nat → Int32)  (p2 : Int32) (p3 : Int32) (p4 : Int32) (h2a : 0 ≤ p2.toInt) (h2b : p2.toInt < (v 1).toInt) (h3a : 0 ≤ p3.toInt) (h3b : p3.toInt < (v 1).toInt) (h4 : 0 ≤ p4.toInt) (iv1_0 : 0 ≤ (v 1).toInt) (iv1_1 : (v 1).toInt ≤ 8) (ifv14_0 : (fv 14 2).toInt = -2 ∨ (0 ≤ (fv 14 2).toInt ∧ (fv 14 2).toInt < (v 1).toInt)) (iv11_0 : 0 ≤ (v 11).toInt) (iv11_1 : (v 11).toInt ≤ 6) (iv5_0 : 0 ≤ (v 5).toInt) (iv5_1 : (v 5).toInt ≤ 256) (ia18_0 : AB (-1000) 20000 (a 18)) : Met l yX5_talk (Cond.code yX5_talk cX5_talk 5 none :: gw) ({ frames := 21, cells := 0, slots := 0, locals := 928 }) (va_Pc [.ref (ad 5), .ref (fa 14), .int p2, .int p3, .int p4] (XPre D (TY cs) (CW cs ad fa fq rv v a w fv fp) A)) (va_Qv (fun (z : (Nat → Nat → Int32) × (Nat → Nat → Int32) × Int32 × Int32 × Int32 × Int32 × Int32 × (Nat → Int32) × (Nat → Int32)) => (∀ f : Nat, 14 ≤ f → z.1 f = fv f) ∧ (0 ≤ z.2.2.2.2.1.toInt) ∧ (z.2.2.2.2.1.toInt ≤ 6)) (XPo D (fun (z : (Nat → Nat → Int32) × (Nat → Nat → Int32) × Int32 × Int32 × Int32 × Int32 × Int32 × (Nat → Int32) × (Nat → Int32)) => CW cs ad fa fq rv (va_up (va_up (va_up (va_up (va_up v 9 z.2.2.1) 10 z.2.2.2.1) 11 z.2.2.2.2.1) 13 z.2.2.2.2.2.1) 12 z.2.2.2.2.2.2.1) (va_up (va_up a 17 z.2.2.2.2.2.2.2.1) 16 z.2.2.2.2.2.2.2.2) w z.1 z.2.1) A) A) 0 0 A := by
  refine Met.ofW (cc := cX5_talk) (maxL := 5) (ret := none) (by decide) rfl ?_
  intro p e s m args below meth c s₁ B hml hv
  obtain ⟨rfl, hP, hK, hD, hZ⟩ := hv
  have hx := B.exec
  have hb := B.bytes
  have hr := B.returns
  have hts := atoms_spec (ws := (Cond.code yX5_talk cX5_talk 5 none :: gw)) B.pre
  have hg : ∀ w ∈ gw, w.before ([.ref (ad 5), .ref (fa 14), .int p2, .int p3, .int p4] : List Value).toArray s = true := fun w h => hts w (List.mem_cons_of_mem _ h)
  have hown : s.vm.findClass RX5 = some m.cls := findClass_of_methodNamed B.named
  have hlocks := B.notSynchronized
  have hS : va_S A s.heap s.heap [] := va_S.rf
  have hP : va_P D vwCl (CW cs ad fa fq rv v a w fv fp) s.heap := hP
  have hl := lv_entry ([.ref (ad 5), .ref (fa 14), .int p2, .int p3, .int p4]) (n := 5) (Nat.le_of_ble_eq_true rfl)
  rw [lg_entry_eq]
  generalize (lg_sl ([.ref (ad 5), .ref (fa 14), .int p2, .int p3, .int p4]) ++ List.replicate (5 - (lg_sl ([.ref (ad 5), .ref (fa 14), .int p2, .int p3, .int p4])).length) Slot.unset).toArray = ls at hl ⊢
  have hl : lv_has ls 5 [(0, .ref (ad 5)), (1, .ref (fa 14)), (2, .int p2), (3, .int p3), (4, .int p4)] := hl
  refine lv_aload_n hx hb dX5_talk_0 rfl (lv_at hl 0 rfl) ?_
  refine lv_iload_n hx hb dX5_talk_1 rfl (lv_at hl 2 rfl) ?_
  refine pf_talking_first hx hb hg hown hK hP hD hS (hg _ q2_65) dX5_talk_2 (fun H locs hP hD hS => ?_)
  refine lv_aload_n hx hb dX5_talk_5 rfl (lv_at hl 0 rfl) ?_
  refine lv_iload_n hx hb dX5_talk_6 rfl (lv_at hl 3 rfl) ?_
  refine pf_talking_other hx hb hg hown hK hP hD hS (hg _ q2_66) dX5_talk_7 (fun H locs hP hD hS => ?_)
  refine lv_aload_n hx hb dX5_talk_10 rfl (lv_at hl 0 rfl) ?_
  refine lv_iload hx hb dX5_talk_11 (lv_at hl 4 rfl) ?_
  refine lv_bipush (v := 6) hx hb dX5_talk_13 (by decide) ?_
  refine va_mmin hx hb (hml.trans hl.1.symm) hown (hg _ q4_15) (hg _ q3_61) (hg _ q1_16) (hg _ q3_62) (Nat.le_of_ble_eq_true rfl) (Nat.le_of_ble_eq_true rfl) (Nat.zero_le _) (Nat.zero_le _) dX5_talk_15 ?_
  refine lv_topi (fun x_1 ex_1 => ?_)
  have fx_1 := i_min ex_1
  have fx_1 : ((6 : Int) ≤ p4.toInt ∧ x_1.toInt = (6 : Int)) ∨ (p4.toInt ≤ (6 : Int) ∧ x_1.toInt = p4.toInt) := fx_1
  refine pf_talking_turns hx hb hg hown hK hP hD hS (hg _ q2_67) dX5_talk_18 (fun H locs hP hD hS => ?_)
  refine lv_aload_n hx hb dX5_talk_21 rfl (lv_at hl 0 rfl) ?_
  refine gf_talking_flights hx hb hg hown hK hP rfl (hg _ q2_64) dX5_talk_22 ?_
  refine lv_iconst (v := 0) hx hb dX5_talk_25 (by decide) ?_
  refine ld_flights hx hb hK hP (i_in (by decide) (by decide)) dX5_talk_26 ?_
  refine lv_aload_n hx hb dX5_talk_27 rfl (lv_at hl 1 rfl) ?_
  refine cV_v (As := [.ref (fa 14)]) (rest := []) ⟨hx, hb, hml, hown, hg⟩ (k_X3_begin l D cs A ad fa fq rv (va_up (va_up (va_up v 9 p2) 10 p3) 11 x_1) a w fv fp 0 14  (by omega) (by omega) (by omega) (show 0 ≤ (v 1).toInt by first | omega | decide) (show (v 1).toInt ≤ 8 by first | omega | decide) (show (fv 14 2).toInt = -2 ∨ (0 ≤ (fv 14 2).toInt ∧ (fv 14 2).toInt < (v 1).toInt) by first | omega | decide)) ca_X3_begin q4_16 ⟨rfl, rfl⟩ ⟨Nat.le_of_ble_eq_true rfl, Nat.le_of_ble_eq_true rfl⟩ (rc_fl (f := 0) (by decide) hK hP) hK hP hD hS hZ rfl hl.1 rfl (Nat.le_of_ble_eq_true rfl) ⟨Nat.zero_le _, Nat.zero_le _⟩ dX5_talk_28 (fun z_5 H locs wr_2 hP hD hS => ?_)
  obtain ⟨o_fvf_3, o_fpf_4⟩ := z_5
  have hP : va_P D vwCl (CW cs ad fa fq rv (va_up (va_up (va_up v 9 p2) 10 p3) 11 x_1) a w (va_up fv 0 o_fvf_3) (va_up fp 0 o_fpf_4)) H := hP
  have hD : va_D A (CW cs ad fa fq rv (va_up (va_up (va_up v 9 p2) 10 p3) 11 x_1) a w (va_up fv 0 o_fvf_3) (va_up fp 0 o_fpf_4)) := hD
  obtain ⟨wr_2_0, wr_2_1, wr_2_2, wr_2_3, wr_2_4, wr_2_5, wr_2_6, wr_2_7, wr_2_8⟩ : (o_fvf_3 0 = (fv 14 0)) ∧ (o_fvf_3 1 = (fv 14 1)) ∧ (o_fvf_3 2 = (fv 14 2)) ∧ (o_fvf_3 3 = 0) ∧ (o_fvf_3 4 = 0) ∧ (o_fvf_3 5 = 0) ∧ (o_fvf_3 6 = 0) ∧ (o_fvf_3 7 = 0) ∧ ((o_fvf_3 2).toInt = -2 ∨ (0 ≤ (o_fvf_3 2).toInt ∧ (o_fvf_3 2).toInt < (v 1).toInt)) := wr_2
  refine lv_aload_n hx hb dX5_talk_31 rfl (lv_at hl 0 rfl) ?_
  refine lv_aload_n hx hb dX5_talk_32 rfl (lv_at hl 0 rfl) ?_
  refine lv_iconst (v := 0) hx hb dX5_talk_33 (by decide) ?_
  refine lv_iconst (v := 0) hx hb dX5_talk_34 (by decide) ?_
  refine cS_i (As := [.ref (ad 5), .int 0, .int 0]) (rest := [.ref (ad 5)]) ⟨hx, hb, hml, hown, hg⟩ ((k_X5_play 6) l D cs A ad fa fq rv (va_up (va_up (va_up v 9 p2) 10 p3) 11 x_1) a w (va_up fv 0 o_fvf_3) (va_up fp 0 o_fpf_4) 0 0 0 (show (0 : Int) = (0 : Int) by first | omega | decide) (show 0 ≤ 6 by first | omega | decide) (show 6 ≤ 0 + (6 : Nat) by first | omega | decide) (show 0 ≤ p2.toInt by first | omega | decide) (show p2.toInt < (v 1).toInt by first | omega | decide) (show 0 ≤ p3.toInt by first | omega | decide) (show p3.toInt < (v 1).toInt by first | omega | decide) (show 0 ≤ (v 1).toInt by first | omega | decide) (show (v 1).toInt ≤ 8 by first | omega | decide) (show (o_fvf_3 2).toInt = -2 ∨ (0 ≤ (o_fvf_3 2).toInt ∧ (o_fvf_3 2).toInt < (v 1).toInt) by first | omega | decide) (show 0 ≤ x_1.toInt by first | omega | decide) (show x_1.toInt ≤ 6 by first | omega | decide) (show 0 ≤ (v 5).toInt by first | omega | decide) (show (v 5).toInt ≤ 256 by first | omega | decide) ia18_0) ca_X5_play q4_17 ⟨rfl, rfl⟩ ⟨Nat.le_of_ble_eq_true rfl, Nat.le_of_ble_eq_true rfl⟩  hK hP hD hS hZ rfl hl.1 rfl (Nat.le_of_ble_eq_true rfl) ⟨Nat.zero_le _, Nat.zero_le _⟩ dX5_talk_35 (fun r_6 z_12 H locs wr_6 hP hD hS => ?_)
  obtain ⟨o_fv_7, o_fp_8, o_v13_9, o_a17_10, o_a16_11⟩ := z_12
  have hP : va_P D vwCl (CW cs ad fa fq rv (va_up (va_up (va_up (va_up v 9 p2) 10 p3) 11 x_1) 13 o_v13_9) (va_up (va_up a 17 o_a17_10) 16 o_a16_11) w o_fv_7 o_fp_8) H := hP
  have hD : va_D A (CW cs ad fa fq rv (va_up (va_up (va_up (va_up v 9 p2) 10 p3) 11 x_1) 13 o_v13_9) (va_up (va_up a 17 o_a17_10) 16 o_a16_11) w o_fv_7 o_fp_8) := hD
  have wr_6_0 : ∀ f : Nat, f ≤ 0 ∨ 14 ≤ f → o_fv_7 f = (va_up fv 0 o_fvf_3) f := wr_6
  have hg_13 : ∀ f : Nat, 14 ≤ f → o_fv_7 f = fv f := fun f hf => (wr_6_0 f (Or.inr hf)).trans (va_up_ne _ _ (by omega))
  refine pf_talking_stings hx hb hg hown hK hP hD hS (hg _ q2_68) dX5_talk_38 (fun H locs hP hD hS => ?_)
  exact W.vret hx hb hr (fun tt ht hW => ⟨⟨⟨o_fv_7, o_fp_8, p2, p3, x_1, o_v13_9, r_6, o_a17_10, o_a16_11⟩, rfl, ⟨hg_13, (show 0 ≤ x_1.toInt by first | omega | assumption), (show x_1.toInt ≤ 6 by first | omega | assumption)⟩, by rw [ht]; exact hP, hD⟩, hS.F ht⟩) hS.2.2 dX5_talk_41
set_option maxHeartbeats 4000000 in
set_option maxRecDepth 100000 in
theorem k_X4_take (l : Launch) (D : va_G) (cs : Nat → ClassId) (A : Nat → Prop) (ad fa fq rv : Nat → Nat) (v : Nat → Int32) (a : Nat → Nat → Int32) (w : Nat → Nat → Int64) (fv fp : Nat → Nat → Int32)  (p1 : Int32)  : Met l yX4_take (Cond.code yX4_take cX4_take 3 none :: gw) ({ frames := 1, cells := 0, slots := 0, locals := 20 }) (va_Pc [.ref (ad 6), .int p1] (XPre D (TY cs) (CW cs ad fa fq rv v a w fv fp) A)) (va_Qv (fun (z : Int32 × Int32 × Int32 × Int32) => True) (XPo D (fun (z : Int32 × Int32 × Int32 × Int32) => CW cs ad fa fq rv (va_up (va_up (va_up (va_up v 16 z.1) 17 z.2.1) 18 z.2.2.1) 15 z.2.2.2) a w fv fp) A) A) 0 0 A := by
  refine Met.ofW (cc := cX4_take) (maxL := 3) (ret := none) (by decide) rfl ?_
  intro p e s m args below meth c s₁ B hml hv
  obtain ⟨rfl, hP, hK, hD, hZ⟩ := hv
  have hx := B.exec
  have hb := B.bytes
  have hr := B.returns
  have hts := atoms_spec (ws := (Cond.code yX4_take cX4_take 3 none :: gw)) B.pre
  have hg : ∀ w ∈ gw, w.before ([.ref (ad 6), .int p1] : List Value).toArray s = true := fun w h => hts w (List.mem_cons_of_mem _ h)
  have hown : s.vm.findClass RX4 = some m.cls := findClass_of_methodNamed B.named
  have hlocks := B.notSynchronized
  have hS : va_S A s.heap s.heap [] := va_S.rf
  have hP : va_P D vwCl (CW cs ad fa fq rv v a w fv fp) s.heap := hP
  have hl := lv_entry ([.ref (ad 6), .int p1]) (n := 3) (Nat.le_of_ble_eq_true rfl)
  rw [lg_entry_eq]
  generalize (lg_sl ([.ref (ad 6), .int p1]) ++ List.replicate (3 - (lg_sl ([.ref (ad 6), .int p1])).length) Slot.unset).toArray = ls at hl ⊢
  have hl : lv_has ls 3 [(0, .ref (ad 6)), (1, .int p1)] := hl
  refine lv_iload_n hx hb dX4_take_0 rfl (lv_at hl 1 rfl) ?_
  refine cS_p (As := [.int p1]) (rest := []) ⟨hx, hb, hml, hown, hg⟩ (k_J6_bitCount_0f7a4 l   p1 ) ca_J6_bitCount_0f7a4 q4_65 ⟨rfl, rfl⟩ ⟨Nat.le_of_ble_eq_true rfl, Nat.le_of_ble_eq_true rfl⟩ rfl hl.1 rfl (Nat.le_of_ble_eq_true rfl) ⟨Nat.zero_le _, Nat.zero_le _⟩ dX4_take_1 (fun r_1 wr_1 => ?_)
  refine lv_istore_n (lv' := [(2, .int r_1), (0, .ref (ad 6)), (1, .int p1)]) hx hb dX4_take_4 rfl hl (by decide) rfl (fun ls hl => ?_)
  refine lv_aload_n hx hb dX4_take_5 rfl (lv_at hl 1 rfl) ?_
  refine gf_hearing_ways hx hb hg hown hK hP (x := (v 15)) rfl (hg _ q2_96) dX4_take_6 ?_
  refine lv_if_eq (tgt := 36) hx hb dX4_take_9 (by decide) (fun c_2 => ?_) (fun c_2 => ?_)
  ·
    have kc_2 : (v 15).toInt = (0 : Int) := i_eq c_2
    refine lv_aload_n hx hb dX4_take_36 rfl (lv_at hl 1 rfl) ?_
    refine lv_iload_n hx hb dX4_take_37 rfl (lv_at hl 0 rfl) ?_
    refine pf_hearing_fewest hx hb hg hown hK hP hD hS (hg _ q2_98) dX4_take_38 (fun H locs hP hD hS => ?_)
    refine lv_aload_n hx hb dX4_take_41 rfl (lv_at hl 1 rfl) ?_
    refine lv_iload_n hx hb dX4_take_42 rfl (lv_at hl 2 rfl) ?_
    refine pf_hearing_which hx hb hg hown hK hP hD hS (hg _ q2_100) dX4_take_43 (fun H locs hP hD hS => ?_)
    refine lv_aload_n hx hb dX4_take_46 rfl (lv_at hl 1 rfl) ?_
    refine lv_aload_n hx hb dX4_take_47 rfl (lv_at hl 1 rfl) ?_
    refine gf_hearing_ways hx hb hg hown hK hP (x := (v 15)) rfl (hg _ q2_96) dX4_take_48 ?_
    refine lv_if_ne (tgt := 58) hx hb dX4_take_51 (by decide) (fun c_3 => ?_) (fun c_3 => ?_)
    ·
      have kc_3 : (v 15).toInt ≠ (0 : Int) := i_ne c_3
      exfalso; omega
    ·
      have kc_3 : (v 15).toInt = (0 : Int) := i_eq c_3
      refine lv_iload_n hx hb dX4_take_54 rfl (lv_at hl 2 rfl) ?_
      refine lv_goto (tgt := 64) hx hb dX4_take_55 (by decide) ?_
      refine pf_hearing_certain hx hb hg hown hK hP hD hS (hg _ q2_102) dX4_take_64 (fun H locs hP hD hS => ?_)
      refine lv_aload_n hx hb dX4_take_67 rfl (lv_at hl 1 rfl) ?_
      refine lv_dup hx hb dX4_take_68 rfl ?_
      refine gf_hearing_ways hx hb hg hown hK hP (x := (v 15)) rfl (hg _ q2_96) dX4_take_69 ?_
      refine lv_iconst (v := 1) hx hb dX4_take_72 (by decide) ?_
      refine lv_iadd hx hb dX4_take_73 ?_
      refine lv_topi (fun x_4 ex_4 => ?_)
      have fx_4 : x_4.toInt = (v 15).toInt + (1 : Int) := by rw [ex_4]; exact i_add (by first | omega | (show (_ : Int) ≤ (v 15).toInt + (1 : Int); omega)) (by first | omega | (show (v 15).toInt + (1 : Int) ≤ (_ : Int); omega))
      refine pf_hearing_ways hx hb hg hown hK hP hD hS (hg _ q2_96) dX4_take_74 (fun H locs hP hD hS => ?_)
      exact W.vret hx hb hr (fun tt ht hW => ⟨⟨⟨r_1, p1, p1, x_4⟩, rfl, trivial, by rw [ht]; exact hP, hD⟩, hS.F ht⟩) hS.2.2 dX4_take_77
  ·
    have kc_2 : (v 15).toInt ≠ (0 : Int) := i_ne c_2
    refine lv_iload_n hx hb dX4_take_12 rfl (lv_at hl 0 rfl) ?_
    refine lv_aload_n hx hb dX4_take_13 rfl (lv_at hl 1 rfl) ?_
    refine gf_hearing_fewest hx hb hg hown hK hP (x := (v 16)) rfl (hg _ q2_98) dX4_take_14 ?_
    refine lv_icmp_lt (tgt := 36) hx hb dX4_take_17 (by decide) (fun c_5 => ?_) (fun c_5 => ?_)
    ·
      have kc_5 : r_1.toInt < (v 16).toInt := i_lt c_5
      refine lv_aload_n hx hb dX4_take_36 rfl (lv_at hl 1 rfl) ?_
      refine lv_iload_n hx hb dX4_take_37 rfl (lv_at hl 0 rfl) ?_
      refine pf_hearing_fewest hx hb hg hown hK hP hD hS (hg _ q2_98) dX4_take_38 (fun H locs hP hD hS => ?_)
      refine lv_aload_n hx hb dX4_take_41 rfl (lv_at hl 1 rfl) ?_
      refine lv_iload_n hx hb dX4_take_42 rfl (lv_at hl 2 rfl) ?_
      refine pf_hearing_which hx hb hg hown hK hP hD hS (hg _ q2_100) dX4_take_43 (fun H locs hP hD hS => ?_)
      refine lv_aload_n hx hb dX4_take_46 rfl (lv_at hl 1 rfl) ?_
      refine lv_aload_n hx hb dX4_take_47 rfl (lv_at hl 1 rfl) ?_
      refine gf_hearing_ways hx hb hg hown hK hP (x := (v 15)) rfl (hg _ q2_96) dX4_take_48 ?_
      refine lv_if_ne (tgt := 58) hx hb dX4_take_51 (by decide) (fun c_6 => ?_) (fun c_6 => ?_)
      ·
        have kc_6 : (v 15).toInt ≠ (0 : Int) := i_ne c_6
        refine lv_aload_n hx hb dX4_take_58 rfl (lv_at hl 1 rfl) ?_
        refine gf_hearing_certain hx hb hg hown hK hP (x := (v 18)) rfl (hg _ q2_102) dX4_take_59 ?_
        refine lv_iload_n hx hb dX4_take_62 rfl (lv_at hl 2 rfl) ?_
        refine lv_iand hx hb dX4_take_63 ?_
        refine lv_topi (fun x_7 ex_7 => ?_)
        refine pf_hearing_certain hx hb hg hown hK hP hD hS (hg _ q2_102) dX4_take_64 (fun H locs hP hD hS => ?_)
        refine lv_aload_n hx hb dX4_take_67 rfl (lv_at hl 1 rfl) ?_
        refine lv_dup hx hb dX4_take_68 rfl ?_
        refine gf_hearing_ways hx hb hg hown hK hP (x := (v 15)) rfl (hg _ q2_96) dX4_take_69 ?_
        refine lv_iconst (v := 1) hx hb dX4_take_72 (by decide) ?_
        refine lv_iadd hx hb dX4_take_73 ?_
        refine lv_topi (fun x_8 ex_8 => ?_)
        refine pf_hearing_ways hx hb hg hown hK hP hD hS (hg _ q2_96) dX4_take_74 (fun H locs hP hD hS => ?_)
        exact W.vret hx hb hr (fun tt ht hW => ⟨⟨⟨r_1, p1, x_7, x_8⟩, rfl, trivial, by rw [ht]; exact hP, hD⟩, hS.F ht⟩) hS.2.2 dX4_take_77
      ·
        have kc_6 : (v 15).toInt = (0 : Int) := i_eq c_6
        refine lv_iload_n hx hb dX4_take_54 rfl (lv_at hl 2 rfl) ?_
        refine lv_goto (tgt := 64) hx hb dX4_take_55 (by decide) ?_
        refine pf_hearing_certain hx hb hg hown hK hP hD hS (hg _ q2_102) dX4_take_64 (fun H locs hP hD hS => ?_)
        refine lv_aload_n hx hb dX4_take_67 rfl (lv_at hl 1 rfl) ?_
        refine lv_dup hx hb dX4_take_68 rfl ?_
        refine gf_hearing_ways hx hb hg hown hK hP (x := (v 15)) rfl (hg _ q2_96) dX4_take_69 ?_
        refine lv_iconst (v := 1) hx hb dX4_take_72 (by decide) ?_
        refine lv_iadd hx hb dX4_take_73 ?_
        refine lv_topi (fun x_9 ex_9 => ?_)
        have fx_9 : x_9.toInt = (v 15).toInt + (1 : Int) := by rw [ex_9]; exact i_add (by first | omega | (show (_ : Int) ≤ (v 15).toInt + (1 : Int); omega)) (by first | omega | (show (v 15).toInt + (1 : Int) ≤ (_ : Int); omega))
        refine pf_hearing_ways hx hb hg hown hK hP hD hS (hg _ q2_96) dX4_take_74 (fun H locs hP hD hS => ?_)
        exact W.vret hx hb hr (fun tt ht hW => ⟨⟨⟨r_1, p1, p1, x_9⟩, rfl, trivial, by rw [ht]; exact hP, hD⟩, hS.F ht⟩) hS.2.2 dX4_take_77
    ·
      have kc_5 : (v 16).toInt ≤ r_1.toInt := i_nlt c_5
      refine lv_iload_n hx hb dX4_take_20 rfl (lv_at hl 0 rfl) ?_
      refine lv_aload_n hx hb dX4_take_21 rfl (lv_at hl 1 rfl) ?_
      refine gf_hearing_fewest hx hb hg hown hK hP (x := (v 16)) rfl (hg _ q2_98) dX4_take_22 ?_
      refine lv_icmp_ne (tgt := 46) hx hb dX4_take_25 (by decide) (fun c_10 => ?_) (fun c_10 => ?_)
      ·
        have kc_10 : r_1.toInt ≠ (v 16).toInt := i_ne c_10
        refine lv_aload_n hx hb dX4_take_46 rfl (lv_at hl 1 rfl) ?_
        refine lv_aload_n hx hb dX4_take_47 rfl (lv_at hl 1 rfl) ?_
        refine gf_hearing_ways hx hb hg hown hK hP (x := (v 15)) rfl (hg _ q2_96) dX4_take_48 ?_
        refine lv_if_ne (tgt := 58) hx hb dX4_take_51 (by decide) (fun c_11 => ?_) (fun c_11 => ?_)
        ·
          have kc_11 : (v 15).toInt ≠ (0 : Int) := i_ne c_11
          refine lv_aload_n hx hb dX4_take_58 rfl (lv_at hl 1 rfl) ?_
          refine gf_hearing_certain hx hb hg hown hK hP (x := (v 18)) rfl (hg _ q2_102) dX4_take_59 ?_
          refine lv_iload_n hx hb dX4_take_62 rfl (lv_at hl 2 rfl) ?_
          refine lv_iand hx hb dX4_take_63 ?_
          refine lv_topi (fun x_12 ex_12 => ?_)
          refine pf_hearing_certain hx hb hg hown hK hP hD hS (hg _ q2_102) dX4_take_64 (fun H locs hP hD hS => ?_)
          refine lv_aload_n hx hb dX4_take_67 rfl (lv_at hl 1 rfl) ?_
          refine lv_dup hx hb dX4_take_68 rfl ?_
          refine gf_hearing_ways hx hb hg hown hK hP (x := (v 15)) rfl (hg _ q2_96) dX4_take_69 ?_
          refine lv_iconst (v := 1) hx hb dX4_take_72 (by decide) ?_
          refine lv_iadd hx hb dX4_take_73 ?_
          refine lv_topi (fun x_13 ex_13 => ?_)
          refine pf_hearing_ways hx hb hg hown hK hP hD hS (hg _ q2_96) dX4_take_74 (fun H locs hP hD hS => ?_)
          have hP : va_P D vwCl (CW cs ad fa fq rv (va_up (va_up (va_up (va_up v 16 (v 16)) 17 (v 17)) 18 x_12) 15 x_13) a w fv fp) _ := hP
          have hD : va_D A (CW cs ad fa fq rv (va_up (va_up (va_up (va_up v 16 (v 16)) 17 (v 17)) 18 x_12) 15 x_13) a w fv fp) := hD
          exact W.vret hx hb hr (fun tt ht hW => ⟨⟨⟨(v 16), (v 17), x_12, x_13⟩, rfl, trivial, by rw [ht]; exact hP, hD⟩, hS.F ht⟩) hS.2.2 dX4_take_77
        ·
          have kc_11 : (v 15).toInt = (0 : Int) := i_eq c_11
          refine lv_iload_n hx hb dX4_take_54 rfl (lv_at hl 2 rfl) ?_
          refine lv_goto (tgt := 64) hx hb dX4_take_55 (by decide) ?_
          refine pf_hearing_certain hx hb hg hown hK hP hD hS (hg _ q2_102) dX4_take_64 (fun H locs hP hD hS => ?_)
          refine lv_aload_n hx hb dX4_take_67 rfl (lv_at hl 1 rfl) ?_
          refine lv_dup hx hb dX4_take_68 rfl ?_
          refine gf_hearing_ways hx hb hg hown hK hP (x := (v 15)) rfl (hg _ q2_96) dX4_take_69 ?_
          refine lv_iconst (v := 1) hx hb dX4_take_72 (by decide) ?_
          refine lv_iadd hx hb dX4_take_73 ?_
          refine lv_topi (fun x_14 ex_14 => ?_)
          have fx_14 : x_14.toInt = (v 15).toInt + (1 : Int) := by rw [ex_14]; exact i_add (by first | omega | (show (_ : Int) ≤ (v 15).toInt + (1 : Int); omega)) (by first | omega | (show (v 15).toInt + (1 : Int) ≤ (_ : Int); omega))
          refine pf_hearing_ways hx hb hg hown hK hP hD hS (hg _ q2_96) dX4_take_74 (fun H locs hP hD hS => ?_)
          have hP : va_P D vwCl (CW cs ad fa fq rv (va_up (va_up (va_up (va_up v 16 (v 16)) 17 (v 17)) 18 p1) 15 x_14) a w fv fp) _ := hP
          have hD : va_D A (CW cs ad fa fq rv (va_up (va_up (va_up (va_up v 16 (v 16)) 17 (v 17)) 18 p1) 15 x_14) a w fv fp) := hD
          exact W.vret hx hb hr (fun tt ht hW => ⟨⟨⟨(v 16), (v 17), p1, x_14⟩, rfl, trivial, by rw [ht]; exact hP, hD⟩, hS.F ht⟩) hS.2.2 dX4_take_77
      ·
        have kc_10 : r_1.toInt = (v 16).toInt := i_eq c_10
        refine lv_iload_n hx hb dX4_take_28 rfl (lv_at hl 2 rfl) ?_
        refine lv_aload_n hx hb dX4_take_29 rfl (lv_at hl 1 rfl) ?_
        refine gf_hearing_which hx hb hg hown hK hP (x := (v 17)) rfl (hg _ q2_100) dX4_take_30 ?_
        refine lv_icmp_ge (tgt := 46) hx hb dX4_take_33 (by decide) (fun c_15 => ?_) (fun c_15 => ?_)
        ·
          have kc_15 : (v 17).toInt ≤ p1.toInt := i_le c_15
          refine lv_aload_n hx hb dX4_take_46 rfl (lv_at hl 1 rfl) ?_
          refine lv_aload_n hx hb dX4_take_47 rfl (lv_at hl 1 rfl) ?_
          refine gf_hearing_ways hx hb hg hown hK hP (x := (v 15)) rfl (hg _ q2_96) dX4_take_48 ?_
          refine lv_if_ne (tgt := 58) hx hb dX4_take_51 (by decide) (fun c_16 => ?_) (fun c_16 => ?_)
          ·
            have kc_16 : (v 15).toInt ≠ (0 : Int) := i_ne c_16
            refine lv_aload_n hx hb dX4_take_58 rfl (lv_at hl 1 rfl) ?_
            refine gf_hearing_certain hx hb hg hown hK hP (x := (v 18)) rfl (hg _ q2_102) dX4_take_59 ?_
            refine lv_iload_n hx hb dX4_take_62 rfl (lv_at hl 2 rfl) ?_
            refine lv_iand hx hb dX4_take_63 ?_
            refine lv_topi (fun x_17 ex_17 => ?_)
            refine pf_hearing_certain hx hb hg hown hK hP hD hS (hg _ q2_102) dX4_take_64 (fun H locs hP hD hS => ?_)
            refine lv_aload_n hx hb dX4_take_67 rfl (lv_at hl 1 rfl) ?_
            refine lv_dup hx hb dX4_take_68 rfl ?_
            refine gf_hearing_ways hx hb hg hown hK hP (x := (v 15)) rfl (hg _ q2_96) dX4_take_69 ?_
            refine lv_iconst (v := 1) hx hb dX4_take_72 (by decide) ?_
            refine lv_iadd hx hb dX4_take_73 ?_
            refine lv_topi (fun x_18 ex_18 => ?_)
            refine pf_hearing_ways hx hb hg hown hK hP hD hS (hg _ q2_96) dX4_take_74 (fun H locs hP hD hS => ?_)
            have hP : va_P D vwCl (CW cs ad fa fq rv (va_up (va_up (va_up (va_up v 16 (v 16)) 17 (v 17)) 18 x_17) 15 x_18) a w fv fp) _ := hP
            have hD : va_D A (CW cs ad fa fq rv (va_up (va_up (va_up (va_up v 16 (v 16)) 17 (v 17)) 18 x_17) 15 x_18) a w fv fp) := hD
            exact W.vret hx hb hr (fun tt ht hW => ⟨⟨⟨(v 16), (v 17), x_17, x_18⟩, rfl, trivial, by rw [ht]; exact hP, hD⟩, hS.F ht⟩) hS.2.2 dX4_take_77
          ·
            have kc_16 : (v 15).toInt = (0 : Int) := i_eq c_16
            refine lv_iload_n hx hb dX4_take_54 rfl (lv_at hl 2 rfl) ?_
            refine lv_goto (tgt := 64) hx hb dX4_take_55 (by decide) ?_
            refine pf_hearing_certain hx hb hg hown hK hP hD hS (hg _ q2_102) dX4_take_64 (fun H locs hP hD hS => ?_)
            refine lv_aload_n hx hb dX4_take_67 rfl (lv_at hl 1 rfl) ?_
            refine lv_dup hx hb dX4_take_68 rfl ?_
            refine gf_hearing_ways hx hb hg hown hK hP (x := (v 15)) rfl (hg _ q2_96) dX4_take_69 ?_
            refine lv_iconst (v := 1) hx hb dX4_take_72 (by decide) ?_
            refine lv_iadd hx hb dX4_take_73 ?_
            refine lv_topi (fun x_19 ex_19 => ?_)
            have fx_19 : x_19.toInt = (v 15).toInt + (1 : Int) := by rw [ex_19]; exact i_add (by first | omega | (show (_ : Int) ≤ (v 15).toInt + (1 : Int); omega)) (by first | omega | (show (v 15).toInt + (1 : Int) ≤ (_ : Int); omega))
            refine pf_hearing_ways hx hb hg hown hK hP hD hS (hg _ q2_96) dX4_take_74 (fun H locs hP hD hS => ?_)
            have hP : va_P D vwCl (CW cs ad fa fq rv (va_up (va_up (va_up (va_up v 16 (v 16)) 17 (v 17)) 18 p1) 15 x_19) a w fv fp) _ := hP
            have hD : va_D A (CW cs ad fa fq rv (va_up (va_up (va_up (va_up v 16 (v 16)) 17 (v 17)) 18 p1) 15 x_19) a w fv fp) := hD
            exact W.vret hx hb hr (fun tt ht hW => ⟨⟨⟨(v 16), (v 17), p1, x_19⟩, rfl, trivial, by rw [ht]; exact hP, hD⟩, hS.F ht⟩) hS.2.2 dX4_take_77
        ·
          have kc_15 : p1.toInt < (v 17).toInt := i_nle c_15
          refine lv_aload_n hx hb dX4_take_36 rfl (lv_at hl 1 rfl) ?_
          refine lv_iload_n hx hb dX4_take_37 rfl (lv_at hl 0 rfl) ?_
          refine pf_hearing_fewest hx hb hg hown hK hP hD hS (hg _ q2_98) dX4_take_38 (fun H locs hP hD hS => ?_)
          refine lv_aload_n hx hb dX4_take_41 rfl (lv_at hl 1 rfl) ?_
          refine lv_iload_n hx hb dX4_take_42 rfl (lv_at hl 2 rfl) ?_
          refine pf_hearing_which hx hb hg hown hK hP hD hS (hg _ q2_100) dX4_take_43 (fun H locs hP hD hS => ?_)
          refine lv_aload_n hx hb dX4_take_46 rfl (lv_at hl 1 rfl) ?_
          refine lv_aload_n hx hb dX4_take_47 rfl (lv_at hl 1 rfl) ?_
          refine gf_hearing_ways hx hb hg hown hK hP (x := (v 15)) rfl (hg _ q2_96) dX4_take_48 ?_
          refine lv_if_ne (tgt := 58) hx hb dX4_take_51 (by decide) (fun c_20 => ?_) (fun c_20 => ?_)
          ·
            have kc_20 : (v 15).toInt ≠ (0 : Int) := i_ne c_20
            refine lv_aload_n hx hb dX4_take_58 rfl (lv_at hl 1 rfl) ?_
            refine gf_hearing_certain hx hb hg hown hK hP (x := (v 18)) rfl (hg _ q2_102) dX4_take_59 ?_
            refine lv_iload_n hx hb dX4_take_62 rfl (lv_at hl 2 rfl) ?_
            refine lv_iand hx hb dX4_take_63 ?_
            refine lv_topi (fun x_21 ex_21 => ?_)
            refine pf_hearing_certain hx hb hg hown hK hP hD hS (hg _ q2_102) dX4_take_64 (fun H locs hP hD hS => ?_)
            refine lv_aload_n hx hb dX4_take_67 rfl (lv_at hl 1 rfl) ?_
            refine lv_dup hx hb dX4_take_68 rfl ?_
            refine gf_hearing_ways hx hb hg hown hK hP (x := (v 15)) rfl (hg _ q2_96) dX4_take_69 ?_
            refine lv_iconst (v := 1) hx hb dX4_take_72 (by decide) ?_
            refine lv_iadd hx hb dX4_take_73 ?_
            refine lv_topi (fun x_22 ex_22 => ?_)
            refine pf_hearing_ways hx hb hg hown hK hP hD hS (hg _ q2_96) dX4_take_74 (fun H locs hP hD hS => ?_)
            exact W.vret hx hb hr (fun tt ht hW => ⟨⟨⟨r_1, p1, x_21, x_22⟩, rfl, trivial, by rw [ht]; exact hP, hD⟩, hS.F ht⟩) hS.2.2 dX4_take_77
          ·
            have kc_20 : (v 15).toInt = (0 : Int) := i_eq c_20
            refine lv_iload_n hx hb dX4_take_54 rfl (lv_at hl 2 rfl) ?_
            refine lv_goto (tgt := 64) hx hb dX4_take_55 (by decide) ?_
            refine pf_hearing_certain hx hb hg hown hK hP hD hS (hg _ q2_102) dX4_take_64 (fun H locs hP hD hS => ?_)
            refine lv_aload_n hx hb dX4_take_67 rfl (lv_at hl 1 rfl) ?_
            refine lv_dup hx hb dX4_take_68 rfl ?_
            refine gf_hearing_ways hx hb hg hown hK hP (x := (v 15)) rfl (hg _ q2_96) dX4_take_69 ?_
            refine lv_iconst (v := 1) hx hb dX4_take_72 (by decide) ?_
            refine lv_iadd hx hb dX4_take_73 ?_
            refine lv_topi (fun x_23 ex_23 => ?_)
            have fx_23 : x_23.toInt = (v 15).toInt + (1 : Int) := by rw [ex_23]; exact i_add (by first | omega | (show (_ : Int) ≤ (v 15).toInt + (1 : Int); omega)) (by first | omega | (show (v 15).toInt + (1 : Int) ≤ (_ : Int); omega))
            refine pf_hearing_ways hx hb hg hown hK hP hD hS (hg _ q2_96) dX4_take_74 (fun H locs hP hD hS => ?_)
            exact W.vret hx hb hr (fun tt ht hW => ⟨⟨⟨r_1, p1, p1, x_23⟩, rfl, trivial, by rw [ht]; exact hP, hD⟩, hS.F ht⟩) hS.2.2 dX4_take_77
def C_X4_guess (n : Nat) : Prop := ∀ (l : Launch) (D : va_G) (cs : Nat → ClassId) (A : Nat → Prop) (ad fa fq rv : Nat → Nat) (v : Nat → Int32) (a : Nat → Nat → Int32) (w : Nat → Nat → Int64) (fv fp : Nat → Nat → Int32) (d : Nat) (p2 : Int32) (p3 : Int32) (hd : p2.toInt = (d : Int)) (hdm : d ≤ 12) (hdn : 12 ≤ d + n) (iv1_0 : 0 ≤ (v 1).toInt) (iv1_1 : (v 1).toInt ≤ 8) (ifvd_0 : (fv d 2).toInt = -2 ∨ (0 ≤ (fv d 2).toInt ∧ (fv d 2).toInt < (v 1).toInt)) (iv6_0 : 0 ≤ (v 6).toInt) (iv6_1 : (v 6).toInt ≤ 24) (iv6_2 : DOK (v 6) (a 20) (v 1)) (iv5_0 : 0 ≤ (v 5).toInt) (iv5_1 : (v 5).toInt ≤ 256) (ia18_0 : AB (-1000) 20000 (a 18)) (iv14_0 : (-1) ≤ (v 14).toInt) (iv14_1 : (v 14).toInt ≤ 12), Met l yX4_guess (Cond.code yX4_guess cX4_guess 6 none :: gw) ({ frames := 2 * n + 8, cells := 0, slots := 0, locals := 100 * n + 300 }) (va_Pc [.ref (ad 6), .int p2, .int p3] (XPre D (TY cs) (CW cs ad fa fq rv v a w fv fp) A)) (va_Qv (fun (z : (Nat → Nat → Int32) × (Nat → Nat → Int32) × Int32 × Int32 × Int32 × Int32 × (Nat → Int32) × (Nat → Int32)) => (∀ f : Nat, f ≤ d ∨ 14 ≤ f → z.1 f = fv f)) (XPo D (fun (z : (Nat → Nat → Int32) × (Nat → Nat → Int32) × Int32 × Int32 × Int32 × Int32 × (Nat → Int32) × (Nat → Int32)) => CW cs ad fa fq rv (va_up (va_up (va_up (va_up v 16 z.2.2.1) 17 z.2.2.2.1) 18 z.2.2.2.2.1) 15 z.2.2.2.2.2.1) (va_up (va_up a 17 z.2.2.2.2.2.2.1) 16 z.2.2.2.2.2.2.2) w z.1 z.2.1) A) A) 0 0 A
set_option maxHeartbeats 4000000 in
set_option maxRecDepth 100000 in
theorem s_X4_guess (n : Nat) (hrec : ∀ k, k + 1 = n → C_X4_guess k) : C_X4_guess n := by
  intro l D cs A ad fa fq rv v a w fv fp d p2 p3 hd hdm hdn iv1_0 iv1_1 ifvd_0 iv6_0 iv6_1 iv6_2 iv5_0 iv5_1 ia18_0 iv14_0 iv14_1
  refine Met.ofW (cc := cX4_guess) (maxL := 6) (ret := none) (by decide) rfl ?_
  intro p e s m args below meth c s₁ B hml hv
  obtain ⟨rfl, hP, hK, hD, hZ⟩ := hv
  have hx := B.exec
  have hb := B.bytes
  have hr := B.returns
  have hts := atoms_spec (ws := (Cond.code yX4_guess cX4_guess 6 none :: gw)) B.pre
  have hg : ∀ w ∈ gw, w.before ([.ref (ad 6), .int p2, .int p3] : List Value).toArray s = true := fun w h => hts w (List.mem_cons_of_mem _ h)
  have hown : s.vm.findClass RX4 = some m.cls := findClass_of_methodNamed B.named
  have hlocks := B.notSynchronized
  have hS : va_S A s.heap s.heap [] := va_S.rf
  have hP : va_P D vwCl (CW cs ad fa fq rv v a w fv fp) s.heap := hP
  have hl := lv_entry ([.ref (ad 6), .int p2, .int p3]) (n := 6) (Nat.le_of_ble_eq_true rfl)
  rw [lg_entry_eq]
  generalize (lg_sl ([.ref (ad 6), .int p2, .int p3]) ++ List.replicate (6 - (lg_sl ([.ref (ad 6), .int p2, .int p3])).length) Slot.unset).toArray = ls at hl ⊢
  have hl : lv_has ls 6 [(0, .ref (ad 6)), (1, .int p2), (2, .int p3)] := hl
  have hcut : ∀ nk : Nat, (∀ (x5 : Int32) (gfv : Nat → Nat → Int32) (gfp : Nat → Nat → Int32) (c38_a17 : Nat → Int32) (c38_a16 : Nat → Int32) (c38_v16 : Int32) (c38_v17 : Int32) (c38_v18 : Int32) (c38_v15 : Int32) (H : Heap) (locs : List Loc) (hgv : ∀ f : Nat, f ≤ d ∨ 14 ≤ f → gfv f = fv f) (hd12 : d < 12) (hd6 : p2.toInt < (v 6).toInt) (i5 : 0 ≤ x5.toInt) (i5b : x5.toInt ≤ 2) (hmu : (2 - x5.toInt).toNat < nk) (hP : va_P D vwCl (CW cs ad fa fq rv (va_up (va_up (va_up (va_up v 16 c38_v16) 17 c38_v17) 18 c38_v18) 15 c38_v15) (va_up (va_up a 17 c38_a17) 16 c38_a16) w gfv gfp) H) (hD : va_D A (CW cs ad fa fq rv (va_up (va_up (va_up (va_up v 16 c38_v16) 17 c38_v17) 18 c38_v18) 15 c38_v15) (va_up (va_up a 17 c38_a17) 16 c38_a16) w gfv gfp)) (hS : va_S A s.heap H locs) (ls : Array Slot) (hl : lv_has ls 6 [(0, .ref (ad 6)), (1, .int p2), (2, .int p3), (3, .ref (ad 3)), (4, .ref (fa (d + 1))), (5, .int x5)]), W p l e (headSpec (Cond.code yX4_guess cX4_guess 6 none :: gw) ({ frames := 2 * n + 8, cells := 0, slots := 0, locals := 100 * n + 300 })).room s m ([.ref (ad 6), .int p2, .int p3] : List Value).toArray below meth c H locs 0 0 (MQ below (va_Qv (fun (z : (Nat → Nat → Int32) × (Nat → Nat → Int32) × Int32 × Int32 × Int32 × Int32 × (Nat → Int32) × (Nat → Int32)) => (∀ f : Nat, f ≤ d ∨ 14 ≤ f → z.1 f = fv f)) (XPo D (fun (z : (Nat → Nat → Int32) × (Nat → Nat → Int32) × Int32 × Int32 × Int32 × Int32 × (Nat → Int32) × (Nat → Int32)) => CW cs ad fa fq rv (va_up (va_up (va_up (va_up v 16 z.2.2.1) 17 z.2.2.2.1) 18 z.2.2.2.2.1) 15 z.2.2.2.2.2.1) (va_up (va_up a 17 z.2.2.2.2.2.2.1) 16 z.2.2.2.2.2.2.2) w z.1 z.2.1) A) A) ([.ref (ad 6), .int p2, .int p3] : List Value).toArray s 0 0 A) (F0 m 38 ls [])) := by
    intro nk
    induction nk with
    | zero => exact (fun x5 gfv gfp c38_a17 c38_a16 c38_v16 c38_v17 c38_v18 c38_v15 H locs hgv hd12 hd6 i5 i5b hmu hP hD hS ls hl => absurd hmu (Nat.not_lt_zero _))
    | succ nk ih =>
      intro x5 gfv gfp c38_a17 c38_a16 c38_v16 c38_v17 c38_v18 c38_v15 H locs hgv hd12 hd6 i5 i5b hmu hP hD hS ls hl
      have hgd : gfv d = fv d := hgv d (Or.inl (Nat.le_refl d))
      have hlk : (gfv d 2).toInt = -2 ∨ (0 ≤ (gfv d 2).toInt ∧ (gfv d 2).toInt < (v 1).toInt) := by rw [hgd]; exact ifvd_0
      refine lv_iload hx hb dX4_guess_38 (lv_at hl 5 rfl) ?_
      refine lv_iconst (v := 1) hx hb dX4_guess_40 (by decide) ?_
      refine lv_icmp_gt (tgt := 127) hx hb dX4_guess_41 (by decide) (fun c_1 => ?_) (fun c_1 => ?_)
      ·
        have kc_1 : (1 : Int) < x5.toInt := i_lt c_1
        exact W.vret hx hb hr (fun tt ht hW => ⟨⟨⟨gfv, gfp, c38_v16, c38_v17, c38_v18, c38_v15, c38_a17, c38_a16⟩, rfl, hgv, by rw [ht]; exact hP, hD⟩, hS.F ht⟩) hS.2.2 dX4_guess_127
      ·
        have kc_1 : x5.toInt ≤ (1 : Int) := i_nlt c_1
        refine lv_aload hx hb dX4_guess_44 (lv_at hl 4 rfl) ?_
        refine lv_aload_n hx hb dX4_guess_46 rfl (lv_at hl 0 rfl) ?_
        refine gf_hearing_flights hx hb hg hown hK hP rfl (hg _ q2_91) dX4_guess_47 ?_
        refine lv_iload_n hx hb dX4_guess_50 rfl (lv_at hl 1 rfl) ?_
        refine ld_flights hx hb hK hP (i_in (by omega) (by omega)) dX4_guess_51 ?_
        rw [show p2.toNatClampNeg = d from (by have q : p2.toNatClampNeg = p2.toInt.toNat := rfl; omega)]
        refine lv_bipush (v := 8) hx hb dX4_guess_52 (by decide) ?_
        refine cV_v (As := [.ref (fa d), .int 8]) (rest := []) ⟨hx, hb, hml, hown, hg⟩ (k_X3_follow l D cs A ad fa fq rv (va_up (va_up (va_up (va_up v 16 c38_v16) 17 c38_v17) 18 c38_v18) 15 c38_v15) (va_up (va_up a 17 c38_a17) 16 c38_a16) w gfv gfp (d + 1) d 8 (by omega) (by omega) (by omega) (show 0 ≤ (8 : Int) by first | omega | decide) (show (8 : Int) ≤ 8 by first | omega | decide) (show 0 ≤ (v 1).toInt by first | omega | decide) (show (v 1).toInt ≤ 8 by first | omega | decide) (show (gfv d 2).toInt = -2 ∨ (0 ≤ (gfv d 2).toInt ∧ (gfv d 2).toInt < (v 1).toInt) by first | omega | decide)) ca_X3_follow q4_66 ⟨rfl, rfl⟩ ⟨(show 1 + 1 ≤ 2 * n + 8 by omega), (show 8 + (3 + 11) + (60) ≤ 100 * n + 300 by omega)⟩ (rc_fl (f := (d + 1)) (by omega) hK hP) hK hP hD hS hZ rfl hl.1 rfl (Nat.le_of_ble_eq_true rfl) ⟨Nat.zero_le _, Nat.zero_le _⟩ dX4_guess_54 (fun z_5 H locs wr_2 hP hD hS => ?_)
        obtain ⟨o_fvf_3, o_fpf_4⟩ := z_5
        have hP : va_P D vwCl (CW cs ad fa fq rv (va_up (va_up (va_up (va_up v 16 c38_v16) 17 c38_v17) 18 c38_v18) 15 c38_v15) (va_up (va_up a 17 c38_a17) 16 c38_a16) w (va_up gfv (d + 1) o_fvf_3) (va_up gfp (d + 1) o_fpf_4)) H := hP
        have hD : va_D A (CW cs ad fa fq rv (va_up (va_up (va_up (va_up v 16 c38_v16) 17 c38_v17) 18 c38_v18) 15 c38_v15) (va_up (va_up a 17 c38_a17) 16 c38_a16) w (va_up gfv (d + 1) o_fvf_3) (va_up gfp (d + 1) o_fpf_4)) := hD
        obtain ⟨wr_2_0, wr_2_1, wr_2_2, wr_2_3, wr_2_4, wr_2_5, wr_2_6, wr_2_7, wr_2_8⟩ : (o_fvf_3 0 = (gfv d 0)) ∧ (o_fvf_3 1 = (gfv d 1)) ∧ (o_fvf_3 2 = (gfv d 2)) ∧ (o_fvf_3 3 = (gfv d 3)) ∧ (o_fvf_3 4 = (gfv d 4)) ∧ (o_fvf_3 5 = (gfv d 5)) ∧ (o_fvf_3 6 = (gfv d 6)) ∧ (o_fvf_3 7 = (gfv d 7)) ∧ ((o_fvf_3 2).toInt = -2 ∨ (0 ≤ (o_fvf_3 2).toInt ∧ (o_fvf_3 2).toInt < (v 1).toInt)) := wr_2
        refine lv_aload hx hb dX4_guess_57 (lv_at hl 4 rfl) ?_
        refine lv_aload_n hx hb dX4_guess_59 rfl (lv_at hl 3 rfl) ?_
        refine lv_iload_n hx hb dX4_guess_60 rfl (lv_at hl 1 rfl) ?_
        refine cV_ro (As := [.int p2]) (rest := [.ref (fa (d + 1))]) ⟨hx, hb, hml, hown, hg⟩ (k_X2_who l D cs A ad fa fq rv (va_up (va_up (va_up (va_up v 16 c38_v16) 17 c38_v17) 18 c38_v18) 15 c38_v15) (va_up (va_up a 17 c38_a17) 16 c38_a16) w (va_up gfv (d + 1) o_fvf_3) (va_up gfp (d + 1) o_fpf_4)  p2 (show 0 ≤ p2.toInt by first | omega | decide) (show p2.toInt < (v 6).toInt by first | omega | decide) (show 0 ≤ (v 1).toInt by first | omega | decide) (show (v 1).toInt ≤ 8 by first | omega | decide) (show 0 ≤ (v 6).toInt by first | omega | decide) (show (v 6).toInt ≤ 24 by first | omega | decide) iv6_2) ca_X2_who q4_67 ⟨rfl, rfl⟩ ⟨(show 0 + 1 ≤ 2 * n + 8 by omega), (show 8 + (2 + 11) + (0) ≤ 100 * n + 300 by omega)⟩ (rc_today hK hP) hK hP hD hS hZ rfl hl.1 rfl (Nat.le_of_ble_eq_true rfl) ⟨Nat.zero_le _, Nat.zero_le _⟩ dX4_guess_61 (fun r_6 wr_6 => ?_)
        obtain ⟨wr_6_0, wr_6_1⟩ : (0 ≤ r_6.toInt) ∧ (r_6.toInt < (v 1).toInt) := wr_6
        refine lv_iload hx hb dX4_guess_64 (lv_at hl 5 rfl) ?_
        refine lv_iconst (v := 1) hx hb dX4_guess_66 (by decide) ?_
        refine lv_icmp_ne (tgt := 74) hx hb dX4_guess_67 (by decide) (fun c_7 => ?_) (fun c_7 => ?_)
        ·
          have kc_7 : x5.toInt ≠ (1 : Int) := i_ne c_7
          refine lv_iconst (v := 0) hx hb dX4_guess_74 (by decide) ?_
          refine cV_i (As := [.int r_6, .int 0]) (rest := []) ⟨hx, hb, hml, hown, hg⟩ (k_X3_utter l D cs A ad fa fq rv (va_up (va_up (va_up (va_up v 16 c38_v16) 17 c38_v17) 18 c38_v18) 15 c38_v15) (va_up (va_up a 17 c38_a17) 16 c38_a16) w (va_up gfv (d + 1) o_fvf_3) (va_up gfp (d + 1) o_fpf_4) (d + 1) r_6 0 (by omega) (show 0 ≤ r_6.toInt by first | omega | decide) (show r_6.toInt < (v 1).toInt by first | omega | decide) (show 0 ≤ (v 1).toInt by first | omega | decide) (show (v 1).toInt ≤ 8 by first | omega | decide) (by (have hq : (o_fvf_3 2).toInt = -2 ∨ (0 ≤ (o_fvf_3 2).toInt ∧ (o_fvf_3 2).toInt < (v 1).toInt) := (by first | omega | decide)); first | exact hq | (simp only [va_up_self]; exact hq)) (show 0 ≤ (v 5).toInt by first | omega | decide) (show (v 5).toInt ≤ 256 by first | omega | decide) ia18_0) ca_X3_utter q4_68 ⟨rfl, rfl⟩ ⟨(show 3 + 1 ≤ 2 * n + 8 by omega), (show 8 + (3 + 11) + (70) ≤ 100 * n + 300 by omega)⟩ (rc_fl (f := (d + 1)) (by omega) hK hP) hK hP hD hS hZ rfl hl.1 rfl (Nat.le_of_ble_eq_true rfl) ⟨Nat.zero_le _, Nat.zero_le _⟩ dX4_guess_75 (fun r_8 z_13 H locs wr_8 hP hD hS => ?_)
          obtain ⟨o_fvf_9, o_fpf_10, o_a17_11, o_a16_12⟩ := z_13
          simp only [bx_uu] at hP hD
          have hP : va_P D vwCl (CW cs ad fa fq rv (va_up (va_up (va_up (va_up v 16 c38_v16) 17 c38_v17) 18 c38_v18) 15 c38_v15) (va_up (va_up a 17 o_a17_11) 16 o_a16_12) w (va_up gfv (d + 1) o_fvf_9) (va_up gfp (d + 1) o_fpf_10)) H := hP
          have hD : va_D A (CW cs ad fa fq rv (va_up (va_up (va_up (va_up v 16 c38_v16) 17 c38_v17) 18 c38_v18) 15 c38_v15) (va_up (va_up a 17 o_a17_11) 16 o_a16_12) w (va_up gfv (d + 1) o_fvf_9) (va_up gfp (d + 1) o_fpf_10)) := hD
          simp only [va_up_self] at wr_8
          obtain ⟨wr_8_0, wr_8_1, wr_8_2⟩ : (r_8.toInt = -2 ∨ (0 ≤ r_8.toInt ∧ r_8.toInt < (v 1).toInt)) ∧ (o_fvf_9 3 = (o_fvf_3 3) + 1) ∧ ((o_fvf_9 2).toInt = -2 ∨ (0 ≤ (o_fvf_9 2).toInt ∧ (o_fvf_9 2).toInt < (v 1).toInt)) := wr_8
          refine lv_pop hx hb dX4_guess_78 rfl ?_
          refine lv_iload_n hx hb dX4_guess_79 rfl (lv_at hl 1 rfl) ?_
          refine lv_aload_n hx hb dX4_guess_80 rfl (lv_at hl 0 rfl) ?_
          refine gf_hearing_known hx hb hg hown hK hP (x := (v 14)) rfl (hg _ q2_95) dX4_guess_81 ?_
          refine lv_icmp_ge (tgt := 108) hx hb dX4_guess_84 (by decide) (fun c_14 => ?_) (fun c_14 => ?_)
          ·
            have kc_14 : (v 14).toInt ≤ p2.toInt := i_le c_14
            refine lv_aload_n hx hb dX4_guess_108 rfl (lv_at hl 0 rfl) ?_
            refine lv_iload_n hx hb dX4_guess_109 rfl (lv_at hl 1 rfl) ?_
            refine lv_iconst (v := 1) hx hb dX4_guess_110 (by decide) ?_
            refine lv_iadd hx hb dX4_guess_111 ?_
            refine lv_topi (fun x_15 ex_15 => ?_)
            have fx_15 : x_15.toInt = p2.toInt + (1 : Int) := by rw [ex_15]; exact i_add (by first | omega | (show (_ : Int) ≤ p2.toInt + (1 : Int); omega)) (by first | omega | (show p2.toInt + (1 : Int) ≤ (_ : Int); omega))
            refine lv_iload_n hx hb dX4_guess_112 rfl (lv_at hl 2 rfl) ?_
            refine lv_iload hx hb dX4_guess_113 (lv_at hl 5 rfl) ?_
            refine lv_iload_n hx hb dX4_guess_115 rfl (lv_at hl 1 rfl) ?_
            refine lv_ishl hx hb dX4_guess_116 ?_
            refine lv_topi (fun x_16 ex_16 => ?_)
            refine lv_ior hx hb dX4_guess_117 ?_
            refine lv_topi (fun x_17 ex_17 => ?_)
            refine cS_v (As := [.ref (ad 6), .int x_15, .int x_17]) (rest := []) ⟨hx, hb, hml, hown, hg⟩ ((hrec (n - 1) (by omega)) l D cs A ad fa fq rv (va_up (va_up (va_up (va_up v 16 c38_v16) 17 c38_v17) 18 c38_v18) 15 c38_v15) (va_up (va_up a 17 o_a17_11) 16 o_a16_12) w (va_up gfv (d + 1) o_fvf_9) (va_up gfp (d + 1) o_fpf_10) (d + 1) x_15 x_17 (show x_15.toInt = ((d + 1) : Int) by first | omega | decide) (show (d + 1) ≤ 12 by first | omega | decide) (show 12 ≤ (d + 1) + (n - 1 : Nat) by first | omega | decide) (show 0 ≤ (v 1).toInt by first | omega | decide) (show (v 1).toInt ≤ 8 by first | omega | decide) (by (have hq : (o_fvf_9 2).toInt = -2 ∨ (0 ≤ (o_fvf_9 2).toInt ∧ (o_fvf_9 2).toInt < (v 1).toInt) := (by first | omega | decide)); first | exact hq | (simp only [va_up_self]; exact hq)) (show 0 ≤ (v 6).toInt by first | omega | decide) (show (v 6).toInt ≤ 24 by first | omega | decide) iv6_2 (show 0 ≤ (v 5).toInt by first | omega | decide) (show (v 5).toInt ≤ 256 by first | omega | decide) ia18_0 (show (-1) ≤ (v 14).toInt by first | omega | decide) (show (v 14).toInt ≤ 12 by first | omega | decide)) ca_X4_guess q4_58 ⟨rfl, rfl⟩ ⟨(show 2 * (n - 1) + 8 + 1 ≤ 2 * n + 8 by omega), (show 8 + (6 + 11) + (100 * (n - 1) + 300) ≤ 100 * n + 300 by omega)⟩  hK hP hD hS hZ rfl hl.1 rfl (Nat.le_of_ble_eq_true rfl) ⟨Nat.zero_le _, Nat.zero_le _⟩ dX4_guess_118 (fun z_27 H locs wr_18 hP hD hS => ?_)
            obtain ⟨o_fv_19, o_fp_20, o_v16_21, o_v17_22, o_v18_23, o_v15_24, o_a17_25, o_a16_26⟩ := z_27
            have hP : va_P D vwCl (CW cs ad fa fq rv (va_up (va_up (va_up (va_up v 16 o_v16_21) 17 o_v17_22) 18 o_v18_23) 15 o_v15_24) (va_up (va_up a 17 o_a17_25) 16 o_a16_26) w o_fv_19 o_fp_20) H := hP
            have hD : va_D A (CW cs ad fa fq rv (va_up (va_up (va_up (va_up v 16 o_v16_21) 17 o_v17_22) 18 o_v18_23) 15 o_v15_24) (va_up (va_up a 17 o_a17_25) 16 o_a16_26) w o_fv_19 o_fp_20) := hD
            have wr_18_0 : ∀ f : Nat, f ≤ (d + 1) ∨ 14 ≤ f → o_fv_19 f = (va_up gfv (d + 1) o_fvf_9) f := wr_18
            have hg_28 : ∀ f : Nat, f ≤ d ∨ 14 ≤ f → o_fv_19 f = fv f := fun f hf => (wr_18_0 f (by omega)).trans ((fun f hf => (va_up_ne _ _ (by omega)).trans (hgv f hf)) f hf)
            have hq_29 : (o_fv_19 d 2).toInt = -2 ∨ (0 ≤ (o_fv_19 d 2).toInt ∧ (o_fv_19 d 2).toInt < (v 1).toInt) := by rw [hg_28 d (Or.inl (Nat.le_refl d))]; exact ifvd_0
            obtain ⟨x_30, ex_30⟩ : ∃ y : Int32, y = x5 + 1 := ⟨_, rfl⟩
            have fx_30 : x_30.toInt = x5.toInt + 1 := by rw [ex_30]; exact i_add (by first | omega | (show (_ : Int) ≤ x5.toInt + 1; omega)) (by first | omega | (show x5.toInt + 1 ≤ (_ : Int); omega))
            refine lv_iinc (v := x_30) (lv' := [(5, .int x_30), (0, .ref (ad 6)), (1, .int p2), (2, .int p3), (3, .ref (ad 3)), (4, .ref (fa (d + 1)))]) hx hb dX4_guess_121 hl (k := 5) rfl (by rw [ex_30]; rfl) (by decide) rfl (fun ls hl => ?_)
            refine lv_goto (tgt := 38) hx hb dX4_guess_124 (by decide) ?_
            exact ih x_30 o_fv_19 o_fp_20 o_a17_25 o_a16_26 o_v16_21 o_v17_22 o_v18_23 o_v15_24 _ _ hg_28 (by omega) (by omega) (by omega) (by omega) (by omega) hP hD hS ls (lv_sub hl [1, 2, 3, 4, 5, 0] rfl)
          ·
            have kc_14 : p2.toInt < (v 14).toInt := i_nle c_14
            refine lv_aload_n hx hb dX4_guess_87 rfl (lv_at hl 0 rfl) ?_
            refine gf_hearing_parish hx hb hg hown hK hP rfl (hg _ q2_93) dX4_guess_88 ?_
            refine lv_aload hx hb dX4_guess_91 (lv_at hl 4 rfl) ?_
            refine gf_fl_swarm (f := (d + 1)) (by omega) hx hb hg hown hK hP (x := (o_fvf_9 1)) (by rw [va_up_self]; first | done | rfl) (hg _ q1_231) dX4_guess_93 ?_
            refine cV_ro (As := [.int (o_fvf_9 1)]) (rest := []) ⟨hx, hb, hml, hown, hg⟩ (k_X9_whoseCell l D cs A ad fa fq rv (va_up (va_up (va_up (va_up v 16 c38_v16) 17 c38_v17) 18 c38_v18) 15 c38_v15) (va_up (va_up a 17 o_a17_11) 16 o_a16_12) w (va_up gfv (d + 1) o_fvf_9) (va_up gfp (d + 1) o_fpf_10)  (o_fvf_9 1) (show 0 ≤ (v 1).toInt by first | omega | decide) (show (v 1).toInt ≤ 8 by first | omega | decide)) ca_X9_whoseCell q4_69 ⟨rfl, rfl⟩ ⟨(show 0 + 1 ≤ 2 * n + 8 by omega), (show 8 + (3 + 11) + (0) ≤ 100 * n + 300 by omega)⟩ (rc_parish hK hP) hK hP hD hS hZ rfl hl.1 rfl (Nat.le_of_ble_eq_true rfl) ⟨Nat.zero_le _, Nat.zero_le _⟩ dX4_guess_96 (fun r_31 wr_31 => ?_)
            have wr_31_0 : True := wr_31
            refine lv_aload_n hx hb dX4_guess_99 rfl (lv_at hl 0 rfl) ?_
            refine gf_hearing_seen hx hb hg hown hK hP rfl (hg _ q2_94) dX4_guess_100 ?_
            refine lv_iload_n hx hb dX4_guess_103 rfl (lv_at hl 1 rfl) ?_
            refine ld_Hseen hx hb hK hP (i_in (by omega) (by omega)) dX4_guess_104 ?_
            refine lv_topi (fun x_32 ex_32 => ?_)
            have ex_32 : x_32 = (a 23) p2.toNatClampNeg := ex_32
            have hx_32 : x_32.toInt = ((a 23) p2.toNatClampNeg).toInt := by rw [ex_32]
            refine lv_icmp_ne (tgt := 121) hx hb dX4_guess_105 (by decide) (fun c_33 => ?_) (fun c_33 => ?_)
            ·
              have kc_33 : r_31.toInt ≠ x_32.toInt := i_ne c_33
              obtain ⟨x_34, ex_34⟩ : ∃ y : Int32, y = x5 + 1 := ⟨_, rfl⟩
              have fx_34 : x_34.toInt = x5.toInt + 1 := by rw [ex_34]; exact i_add (by first | omega | (show (_ : Int) ≤ x5.toInt + 1; omega)) (by first | omega | (show x5.toInt + 1 ≤ (_ : Int); omega))
              refine lv_iinc (v := x_34) (lv' := [(5, .int x_34), (0, .ref (ad 6)), (1, .int p2), (2, .int p3), (3, .ref (ad 3)), (4, .ref (fa (d + 1)))]) hx hb dX4_guess_121 hl (k := 5) rfl (by rw [ex_34]; rfl) (by decide) rfl (fun ls hl => ?_)
              refine lv_goto (tgt := 38) hx hb dX4_guess_124 (by decide) ?_
              exact ih x_34 (va_up gfv (d + 1) o_fvf_9) (va_up gfp (d + 1) o_fpf_10) o_a17_11 o_a16_12 c38_v16 c38_v17 c38_v18 c38_v15 _ _ (fun f hf => (va_up_ne _ _ (by omega)).trans (hgv f hf)) (by omega) (by omega) (by omega) (by omega) (by omega) hP hD hS ls (lv_sub hl [1, 2, 3, 4, 5, 0] rfl)
            ·
              have kc_33 : r_31.toInt = x_32.toInt := i_eq c_33
              refine lv_aload_n hx hb dX4_guess_108 rfl (lv_at hl 0 rfl) ?_
              refine lv_iload_n hx hb dX4_guess_109 rfl (lv_at hl 1 rfl) ?_
              refine lv_iconst (v := 1) hx hb dX4_guess_110 (by decide) ?_
              refine lv_iadd hx hb dX4_guess_111 ?_
              refine lv_topi (fun x_35 ex_35 => ?_)
              have fx_35 : x_35.toInt = p2.toInt + (1 : Int) := by rw [ex_35]; exact i_add (by first | omega | (show (_ : Int) ≤ p2.toInt + (1 : Int); omega)) (by first | omega | (show p2.toInt + (1 : Int) ≤ (_ : Int); omega))
              refine lv_iload_n hx hb dX4_guess_112 rfl (lv_at hl 2 rfl) ?_
              refine lv_iload hx hb dX4_guess_113 (lv_at hl 5 rfl) ?_
              refine lv_iload_n hx hb dX4_guess_115 rfl (lv_at hl 1 rfl) ?_
              refine lv_ishl hx hb dX4_guess_116 ?_
              refine lv_topi (fun x_36 ex_36 => ?_)
              refine lv_ior hx hb dX4_guess_117 ?_
              refine lv_topi (fun x_37 ex_37 => ?_)
              refine cS_v (As := [.ref (ad 6), .int x_35, .int x_37]) (rest := []) ⟨hx, hb, hml, hown, hg⟩ ((hrec (n - 1) (by omega)) l D cs A ad fa fq rv (va_up (va_up (va_up (va_up v 16 c38_v16) 17 c38_v17) 18 c38_v18) 15 c38_v15) (va_up (va_up a 17 o_a17_11) 16 o_a16_12) w (va_up gfv (d + 1) o_fvf_9) (va_up gfp (d + 1) o_fpf_10) (d + 1) x_35 x_37 (show x_35.toInt = ((d + 1) : Int) by first | omega | decide) (show (d + 1) ≤ 12 by first | omega | decide) (show 12 ≤ (d + 1) + (n - 1 : Nat) by first | omega | decide) (show 0 ≤ (v 1).toInt by first | omega | decide) (show (v 1).toInt ≤ 8 by first | omega | decide) (by (have hq : (o_fvf_9 2).toInt = -2 ∨ (0 ≤ (o_fvf_9 2).toInt ∧ (o_fvf_9 2).toInt < (v 1).toInt) := (by first | omega | decide)); first | exact hq | (simp only [va_up_self]; exact hq)) (show 0 ≤ (v 6).toInt by first | omega | decide) (show (v 6).toInt ≤ 24 by first | omega | decide) iv6_2 (show 0 ≤ (v 5).toInt by first | omega | decide) (show (v 5).toInt ≤ 256 by first | omega | decide) ia18_0 (show (-1) ≤ (v 14).toInt by first | omega | decide) (show (v 14).toInt ≤ 12 by first | omega | decide)) ca_X4_guess q4_58 ⟨rfl, rfl⟩ ⟨(show 2 * (n - 1) + 8 + 1 ≤ 2 * n + 8 by omega), (show 8 + (6 + 11) + (100 * (n - 1) + 300) ≤ 100 * n + 300 by omega)⟩  hK hP hD hS hZ rfl hl.1 rfl (Nat.le_of_ble_eq_true rfl) ⟨Nat.zero_le _, Nat.zero_le _⟩ dX4_guess_118 (fun z_47 H locs wr_38 hP hD hS => ?_)
              obtain ⟨o_fv_39, o_fp_40, o_v16_41, o_v17_42, o_v18_43, o_v15_44, o_a17_45, o_a16_46⟩ := z_47
              have hP : va_P D vwCl (CW cs ad fa fq rv (va_up (va_up (va_up (va_up v 16 o_v16_41) 17 o_v17_42) 18 o_v18_43) 15 o_v15_44) (va_up (va_up a 17 o_a17_45) 16 o_a16_46) w o_fv_39 o_fp_40) H := hP
              have hD : va_D A (CW cs ad fa fq rv (va_up (va_up (va_up (va_up v 16 o_v16_41) 17 o_v17_42) 18 o_v18_43) 15 o_v15_44) (va_up (va_up a 17 o_a17_45) 16 o_a16_46) w o_fv_39 o_fp_40) := hD
              have wr_38_0 : ∀ f : Nat, f ≤ (d + 1) ∨ 14 ≤ f → o_fv_39 f = (va_up gfv (d + 1) o_fvf_9) f := wr_38
              have hg_48 : ∀ f : Nat, f ≤ d ∨ 14 ≤ f → o_fv_39 f = fv f := fun f hf => (wr_38_0 f (by omega)).trans ((fun f hf => (va_up_ne _ _ (by omega)).trans (hgv f hf)) f hf)
              have hq_49 : (o_fv_39 d 2).toInt = -2 ∨ (0 ≤ (o_fv_39 d 2).toInt ∧ (o_fv_39 d 2).toInt < (v 1).toInt) := by rw [hg_48 d (Or.inl (Nat.le_refl d))]; exact ifvd_0
              obtain ⟨x_50, ex_50⟩ : ∃ y : Int32, y = x5 + 1 := ⟨_, rfl⟩
              have fx_50 : x_50.toInt = x5.toInt + 1 := by rw [ex_50]; exact i_add (by first | omega | (show (_ : Int) ≤ x5.toInt + 1; omega)) (by first | omega | (show x5.toInt + 1 ≤ (_ : Int); omega))
              refine lv_iinc (v := x_50) (lv' := [(5, .int x_50), (0, .ref (ad 6)), (1, .int p2), (2, .int p3), (3, .ref (ad 3)), (4, .ref (fa (d + 1)))]) hx hb dX4_guess_121 hl (k := 5) rfl (by rw [ex_50]; rfl) (by decide) rfl (fun ls hl => ?_)
              refine lv_goto (tgt := 38) hx hb dX4_guess_124 (by decide) ?_
              exact ih x_50 o_fv_39 o_fp_40 o_a17_45 o_a16_46 o_v16_41 o_v17_42 o_v18_43 o_v15_44 _ _ hg_48 (by omega) (by omega) (by omega) (by omega) (by omega) hP hD hS ls (lv_sub hl [1, 2, 3, 4, 5, 0] rfl)
        ·
          have kc_7 : x5.toInt = (1 : Int) := i_eq c_7
          refine lv_iconst (v := 1) hx hb dX4_guess_70 (by decide) ?_
          refine lv_goto (tgt := 75) hx hb dX4_guess_71 (by decide) ?_
          refine cV_i (As := [.int r_6, .int 1]) (rest := []) ⟨hx, hb, hml, hown, hg⟩ (k_X3_utter l D cs A ad fa fq rv (va_up (va_up (va_up (va_up v 16 c38_v16) 17 c38_v17) 18 c38_v18) 15 c38_v15) (va_up (va_up a 17 c38_a17) 16 c38_a16) w (va_up gfv (d + 1) o_fvf_3) (va_up gfp (d + 1) o_fpf_4) (d + 1) r_6 1 (by omega) (show 0 ≤ r_6.toInt by first | omega | decide) (show r_6.toInt < (v 1).toInt by first | omega | decide) (show 0 ≤ (v 1).toInt by first | omega | decide) (show (v 1).toInt ≤ 8 by first | omega | decide) (by (have hq : (o_fvf_3 2).toInt = -2 ∨ (0 ≤ (o_fvf_3 2).toInt ∧ (o_fvf_3 2).toInt < (v 1).toInt) := (by first | omega | decide)); first | exact hq | (simp only [va_up_self]; exact hq)) (show 0 ≤ (v 5).toInt by first | omega | decide) (show (v 5).toInt ≤ 256 by first | omega | decide) ia18_0) ca_X3_utter q4_68 ⟨rfl, rfl⟩ ⟨(show 3 + 1 ≤ 2 * n + 8 by omega), (show 8 + (3 + 11) + (70) ≤ 100 * n + 300 by omega)⟩ (rc_fl (f := (d + 1)) (by omega) hK hP) hK hP hD hS hZ rfl hl.1 rfl (Nat.le_of_ble_eq_true rfl) ⟨Nat.zero_le _, Nat.zero_le _⟩ dX4_guess_75 (fun r_51 z_56 H locs wr_51 hP hD hS => ?_)
          obtain ⟨o_fvf_52, o_fpf_53, o_a17_54, o_a16_55⟩ := z_56
          simp only [bx_uu] at hP hD
          have hP : va_P D vwCl (CW cs ad fa fq rv (va_up (va_up (va_up (va_up v 16 c38_v16) 17 c38_v17) 18 c38_v18) 15 c38_v15) (va_up (va_up a 17 o_a17_54) 16 o_a16_55) w (va_up gfv (d + 1) o_fvf_52) (va_up gfp (d + 1) o_fpf_53)) H := hP
          have hD : va_D A (CW cs ad fa fq rv (va_up (va_up (va_up (va_up v 16 c38_v16) 17 c38_v17) 18 c38_v18) 15 c38_v15) (va_up (va_up a 17 o_a17_54) 16 o_a16_55) w (va_up gfv (d + 1) o_fvf_52) (va_up gfp (d + 1) o_fpf_53)) := hD
          simp only [va_up_self] at wr_51
          obtain ⟨wr_51_0, wr_51_1, wr_51_2⟩ : (r_51.toInt = -2 ∨ (0 ≤ r_51.toInt ∧ r_51.toInt < (v 1).toInt)) ∧ (o_fvf_52 3 = (o_fvf_3 3) + 1) ∧ ((o_fvf_52 2).toInt = -2 ∨ (0 ≤ (o_fvf_52 2).toInt ∧ (o_fvf_52 2).toInt < (v 1).toInt)) := wr_51
          refine lv_pop hx hb dX4_guess_78 rfl ?_
          refine lv_iload_n hx hb dX4_guess_79 rfl (lv_at hl 1 rfl) ?_
          refine lv_aload_n hx hb dX4_guess_80 rfl (lv_at hl 0 rfl) ?_
          refine gf_hearing_known hx hb hg hown hK hP (x := (v 14)) rfl (hg _ q2_95) dX4_guess_81 ?_
          refine lv_icmp_ge (tgt := 108) hx hb dX4_guess_84 (by decide) (fun c_57 => ?_) (fun c_57 => ?_)
          ·
            have kc_57 : (v 14).toInt ≤ p2.toInt := i_le c_57
            refine lv_aload_n hx hb dX4_guess_108 rfl (lv_at hl 0 rfl) ?_
            refine lv_iload_n hx hb dX4_guess_109 rfl (lv_at hl 1 rfl) ?_
            refine lv_iconst (v := 1) hx hb dX4_guess_110 (by decide) ?_
            refine lv_iadd hx hb dX4_guess_111 ?_
            refine lv_topi (fun x_58 ex_58 => ?_)
            have fx_58 : x_58.toInt = p2.toInt + (1 : Int) := by rw [ex_58]; exact i_add (by first | omega | (show (_ : Int) ≤ p2.toInt + (1 : Int); omega)) (by first | omega | (show p2.toInt + (1 : Int) ≤ (_ : Int); omega))
            refine lv_iload_n hx hb dX4_guess_112 rfl (lv_at hl 2 rfl) ?_
            refine lv_iload hx hb dX4_guess_113 (lv_at hl 5 rfl) ?_
            refine lv_iload_n hx hb dX4_guess_115 rfl (lv_at hl 1 rfl) ?_
            refine lv_ishl hx hb dX4_guess_116 ?_
            refine lv_topi (fun x_59 ex_59 => ?_)
            refine lv_ior hx hb dX4_guess_117 ?_
            refine lv_topi (fun x_60 ex_60 => ?_)
            refine cS_v (As := [.ref (ad 6), .int x_58, .int x_60]) (rest := []) ⟨hx, hb, hml, hown, hg⟩ ((hrec (n - 1) (by omega)) l D cs A ad fa fq rv (va_up (va_up (va_up (va_up v 16 c38_v16) 17 c38_v17) 18 c38_v18) 15 c38_v15) (va_up (va_up a 17 o_a17_54) 16 o_a16_55) w (va_up gfv (d + 1) o_fvf_52) (va_up gfp (d + 1) o_fpf_53) (d + 1) x_58 x_60 (show x_58.toInt = ((d + 1) : Int) by first | omega | decide) (show (d + 1) ≤ 12 by first | omega | decide) (show 12 ≤ (d + 1) + (n - 1 : Nat) by first | omega | decide) (show 0 ≤ (v 1).toInt by first | omega | decide) (show (v 1).toInt ≤ 8 by first | omega | decide) (by (have hq : (o_fvf_52 2).toInt = -2 ∨ (0 ≤ (o_fvf_52 2).toInt ∧ (o_fvf_52 2).toInt < (v 1).toInt) := (by first | omega | decide)); first | exact hq | (simp only [va_up_self]; exact hq)) (show 0 ≤ (v 6).toInt by first | omega | decide) (show (v 6).toInt ≤ 24 by first | omega | decide) iv6_2 (show 0 ≤ (v 5).toInt by first | omega | decide) (show (v 5).toInt ≤ 256 by first | omega | decide) ia18_0 (show (-1) ≤ (v 14).toInt by first | omega | decide) (show (v 14).toInt ≤ 12 by first | omega | decide)) ca_X4_guess q4_58 ⟨rfl, rfl⟩ ⟨(show 2 * (n - 1) + 8 + 1 ≤ 2 * n + 8 by omega), (show 8 + (6 + 11) + (100 * (n - 1) + 300) ≤ 100 * n + 300 by omega)⟩  hK hP hD hS hZ rfl hl.1 rfl (Nat.le_of_ble_eq_true rfl) ⟨Nat.zero_le _, Nat.zero_le _⟩ dX4_guess_118 (fun z_70 H locs wr_61 hP hD hS => ?_)
            obtain ⟨o_fv_62, o_fp_63, o_v16_64, o_v17_65, o_v18_66, o_v15_67, o_a17_68, o_a16_69⟩ := z_70
            have hP : va_P D vwCl (CW cs ad fa fq rv (va_up (va_up (va_up (va_up v 16 o_v16_64) 17 o_v17_65) 18 o_v18_66) 15 o_v15_67) (va_up (va_up a 17 o_a17_68) 16 o_a16_69) w o_fv_62 o_fp_63) H := hP
            have hD : va_D A (CW cs ad fa fq rv (va_up (va_up (va_up (va_up v 16 o_v16_64) 17 o_v17_65) 18 o_v18_66) 15 o_v15_67) (va_up (va_up a 17 o_a17_68) 16 o_a16_69) w o_fv_62 o_fp_63) := hD
            have wr_61_0 : ∀ f : Nat, f ≤ (d + 1) ∨ 14 ≤ f → o_fv_62 f = (va_up gfv (d + 1) o_fvf_52) f := wr_61
            have hg_71 : ∀ f : Nat, f ≤ d ∨ 14 ≤ f → o_fv_62 f = fv f := fun f hf => (wr_61_0 f (by omega)).trans ((fun f hf => (va_up_ne _ _ (by omega)).trans (hgv f hf)) f hf)
            have hq_72 : (o_fv_62 d 2).toInt = -2 ∨ (0 ≤ (o_fv_62 d 2).toInt ∧ (o_fv_62 d 2).toInt < (v 1).toInt) := by rw [hg_71 d (Or.inl (Nat.le_refl d))]; exact ifvd_0
            obtain ⟨x_73, ex_73⟩ : ∃ y : Int32, y = x5 + 1 := ⟨_, rfl⟩
            have fx_73 : x_73.toInt = x5.toInt + 1 := by rw [ex_73]; exact i_add (by first | omega | (show (_ : Int) ≤ x5.toInt + 1; omega)) (by first | omega | (show x5.toInt + 1 ≤ (_ : Int); omega))
            refine lv_iinc (v := x_73) (lv' := [(5, .int x_73), (0, .ref (ad 6)), (1, .int p2), (2, .int p3), (3, .ref (ad 3)), (4, .ref (fa (d + 1)))]) hx hb dX4_guess_121 hl (k := 5) rfl (by rw [ex_73]; rfl) (by decide) rfl (fun ls hl => ?_)
            refine lv_goto (tgt := 38) hx hb dX4_guess_124 (by decide) ?_
            exact ih x_73 o_fv_62 o_fp_63 o_a17_68 o_a16_69 o_v16_64 o_v17_65 o_v18_66 o_v15_67 _ _ hg_71 (by omega) (by omega) (by omega) (by omega) (by omega) hP hD hS ls (lv_sub hl [1, 2, 3, 4, 5, 0] rfl)
          ·
            have kc_57 : p2.toInt < (v 14).toInt := i_nle c_57
            refine lv_aload_n hx hb dX4_guess_87 rfl (lv_at hl 0 rfl) ?_
            refine gf_hearing_parish hx hb hg hown hK hP rfl (hg _ q2_93) dX4_guess_88 ?_
            refine lv_aload hx hb dX4_guess_91 (lv_at hl 4 rfl) ?_
            refine gf_fl_swarm (f := (d + 1)) (by omega) hx hb hg hown hK hP (x := (o_fvf_52 1)) (by rw [va_up_self]; first | done | rfl) (hg _ q1_231) dX4_guess_93 ?_
            refine cV_ro (As := [.int (o_fvf_52 1)]) (rest := []) ⟨hx, hb, hml, hown, hg⟩ (k_X9_whoseCell l D cs A ad fa fq rv (va_up (va_up (va_up (va_up v 16 c38_v16) 17 c38_v17) 18 c38_v18) 15 c38_v15) (va_up (va_up a 17 o_a17_54) 16 o_a16_55) w (va_up gfv (d + 1) o_fvf_52) (va_up gfp (d + 1) o_fpf_53)  (o_fvf_52 1) (show 0 ≤ (v 1).toInt by first | omega | decide) (show (v 1).toInt ≤ 8 by first | omega | decide)) ca_X9_whoseCell q4_69 ⟨rfl, rfl⟩ ⟨(show 0 + 1 ≤ 2 * n + 8 by omega), (show 8 + (3 + 11) + (0) ≤ 100 * n + 300 by omega)⟩ (rc_parish hK hP) hK hP hD hS hZ rfl hl.1 rfl (Nat.le_of_ble_eq_true rfl) ⟨Nat.zero_le _, Nat.zero_le _⟩ dX4_guess_96 (fun r_74 wr_74 => ?_)
            have wr_74_0 : True := wr_74
            refine lv_aload_n hx hb dX4_guess_99 rfl (lv_at hl 0 rfl) ?_
            refine gf_hearing_seen hx hb hg hown hK hP rfl (hg _ q2_94) dX4_guess_100 ?_
            refine lv_iload_n hx hb dX4_guess_103 rfl (lv_at hl 1 rfl) ?_
            refine ld_Hseen hx hb hK hP (i_in (by omega) (by omega)) dX4_guess_104 ?_
            refine lv_topi (fun x_75 ex_75 => ?_)
            have ex_75 : x_75 = (a 23) p2.toNatClampNeg := ex_75
            have hx_75 : x_75.toInt = ((a 23) p2.toNatClampNeg).toInt := by rw [ex_75]
            refine lv_icmp_ne (tgt := 121) hx hb dX4_guess_105 (by decide) (fun c_76 => ?_) (fun c_76 => ?_)
            ·
              have kc_76 : r_74.toInt ≠ x_75.toInt := i_ne c_76
              obtain ⟨x_77, ex_77⟩ : ∃ y : Int32, y = x5 + 1 := ⟨_, rfl⟩
              have fx_77 : x_77.toInt = x5.toInt + 1 := by rw [ex_77]; exact i_add (by first | omega | (show (_ : Int) ≤ x5.toInt + 1; omega)) (by first | omega | (show x5.toInt + 1 ≤ (_ : Int); omega))
              refine lv_iinc (v := x_77) (lv' := [(5, .int x_77), (0, .ref (ad 6)), (1, .int p2), (2, .int p3), (3, .ref (ad 3)), (4, .ref (fa (d + 1)))]) hx hb dX4_guess_121 hl (k := 5) rfl (by rw [ex_77]; rfl) (by decide) rfl (fun ls hl => ?_)
              refine lv_goto (tgt := 38) hx hb dX4_guess_124 (by decide) ?_
              exact ih x_77 (va_up gfv (d + 1) o_fvf_52) (va_up gfp (d + 1) o_fpf_53) o_a17_54 o_a16_55 c38_v16 c38_v17 c38_v18 c38_v15 _ _ (fun f hf => (va_up_ne _ _ (by omega)).trans (hgv f hf)) (by omega) (by omega) (by omega) (by omega) (by omega) hP hD hS ls (lv_sub hl [1, 2, 3, 4, 5, 0] rfl)
            ·
              have kc_76 : r_74.toInt = x_75.toInt := i_eq c_76
              refine lv_aload_n hx hb dX4_guess_108 rfl (lv_at hl 0 rfl) ?_
              refine lv_iload_n hx hb dX4_guess_109 rfl (lv_at hl 1 rfl) ?_
              refine lv_iconst (v := 1) hx hb dX4_guess_110 (by decide) ?_
              refine lv_iadd hx hb dX4_guess_111 ?_
              refine lv_topi (fun x_78 ex_78 => ?_)
              have fx_78 : x_78.toInt = p2.toInt + (1 : Int) := by rw [ex_78]; exact i_add (by first | omega | (show (_ : Int) ≤ p2.toInt + (1 : Int); omega)) (by first | omega | (show p2.toInt + (1 : Int) ≤ (_ : Int); omega))
              refine lv_iload_n hx hb dX4_guess_112 rfl (lv_at hl 2 rfl) ?_
              refine lv_iload hx hb dX4_guess_113 (lv_at hl 5 rfl) ?_
              refine lv_iload_n hx hb dX4_guess_115 rfl (lv_at hl 1 rfl) ?_
              refine lv_ishl hx hb dX4_guess_116 ?_
              refine lv_topi (fun x_79 ex_79 => ?_)
              refine lv_ior hx hb dX4_guess_117 ?_
              refine lv_topi (fun x_80 ex_80 => ?_)
              refine cS_v (As := [.ref (ad 6), .int x_78, .int x_80]) (rest := []) ⟨hx, hb, hml, hown, hg⟩ ((hrec (n - 1) (by omega)) l D cs A ad fa fq rv (va_up (va_up (va_up (va_up v 16 c38_v16) 17 c38_v17) 18 c38_v18) 15 c38_v15) (va_up (va_up a 17 o_a17_54) 16 o_a16_55) w (va_up gfv (d + 1) o_fvf_52) (va_up gfp (d + 1) o_fpf_53) (d + 1) x_78 x_80 (show x_78.toInt = ((d + 1) : Int) by first | omega | decide) (show (d + 1) ≤ 12 by first | omega | decide) (show 12 ≤ (d + 1) + (n - 1 : Nat) by first | omega | decide) (show 0 ≤ (v 1).toInt by first | omega | decide) (show (v 1).toInt ≤ 8 by first | omega | decide) (by (have hq : (o_fvf_52 2).toInt = -2 ∨ (0 ≤ (o_fvf_52 2).toInt ∧ (o_fvf_52 2).toInt < (v 1).toInt) := (by first | omega | decide)); first | exact hq | (simp only [va_up_self]; exact hq)) (show 0 ≤ (v 6).toInt by first | omega | decide) (show (v 6).toInt ≤ 24 by first | omega | decide) iv6_2 (show 0 ≤ (v 5).toInt by first | omega | decide) (show (v 5).toInt ≤ 256 by first | omega | decide) ia18_0 (show (-1) ≤ (v 14).toInt by first | omega | decide) (show (v 14).toInt ≤ 12 by first | omega | decide)) ca_X4_guess q4_58 ⟨rfl, rfl⟩ ⟨(show 2 * (n - 1) + 8 + 1 ≤ 2 * n + 8 by omega), (show 8 + (6 + 11) + (100 * (n - 1) + 300) ≤ 100 * n + 300 by omega)⟩  hK hP hD hS hZ rfl hl.1 rfl (Nat.le_of_ble_eq_true rfl) ⟨Nat.zero_le _, Nat.zero_le _⟩ dX4_guess_118 (fun z_90 H locs wr_81 hP hD hS => ?_)
              obtain ⟨o_fv_82, o_fp_83, o_v16_84, o_v17_85, o_v18_86, o_v15_87, o_a17_88, o_a16_89⟩ := z_90
              have hP : va_P D vwCl (CW cs ad fa fq rv (va_up (va_up (va_up (va_up v 16 o_v16_84) 17 o_v17_85) 18 o_v18_86) 15 o_v15_87) (va_up (va_up a 17 o_a17_88) 16 o_a16_89) w o_fv_82 o_fp_83) H := hP
              have hD : va_D A (CW cs ad fa fq rv (va_up (va_up (va_up (va_up v 16 o_v16_84) 17 o_v17_85) 18 o_v18_86) 15 o_v15_87) (va_up (va_up a 17 o_a17_88) 16 o_a16_89) w o_fv_82 o_fp_83) := hD
              have wr_81_0 : ∀ f : Nat, f ≤ (d + 1) ∨ 14 ≤ f → o_fv_82 f = (va_up gfv (d + 1) o_fvf_52) f := wr_81
              have hg_91 : ∀ f : Nat, f ≤ d ∨ 14 ≤ f → o_fv_82 f = fv f := fun f hf => (wr_81_0 f (by omega)).trans ((fun f hf => (va_up_ne _ _ (by omega)).trans (hgv f hf)) f hf)
              have hq_92 : (o_fv_82 d 2).toInt = -2 ∨ (0 ≤ (o_fv_82 d 2).toInt ∧ (o_fv_82 d 2).toInt < (v 1).toInt) := by rw [hg_91 d (Or.inl (Nat.le_refl d))]; exact ifvd_0
              obtain ⟨x_93, ex_93⟩ : ∃ y : Int32, y = x5 + 1 := ⟨_, rfl⟩
              have fx_93 : x_93.toInt = x5.toInt + 1 := by rw [ex_93]; exact i_add (by first | omega | (show (_ : Int) ≤ x5.toInt + 1; omega)) (by first | omega | (show x5.toInt + 1 ≤ (_ : Int); omega))
              refine lv_iinc (v := x_93) (lv' := [(5, .int x_93), (0, .ref (ad 6)), (1, .int p2), (2, .int p3), (3, .ref (ad 3)), (4, .ref (fa (d + 1)))]) hx hb dX4_guess_121 hl (k := 5) rfl (by rw [ex_93]; rfl) (by decide) rfl (fun ls hl => ?_)
              refine lv_goto (tgt := 38) hx hb dX4_guess_124 (by decide) ?_
              exact ih x_93 o_fv_82 o_fp_83 o_a17_88 o_a16_89 o_v16_84 o_v17_85 o_v18_86 o_v15_87 _ _ hg_91 (by omega) (by omega) (by omega) (by omega) (by omega) hP hD hS ls (lv_sub hl [1, 2, 3, 4, 5, 0] rfl)
  refine lv_aload_n hx hb dX4_guess_0 rfl (lv_at hl 0 rfl) ?_
  refine gf_hearing_day hx hb hg hown hK hP rfl (hg _ q2_92) dX4_guess_1 ?_
  refine lv_astore_n (lv' := [(3, .ref (ad 3)), (0, .ref (ad 6)), (1, .int p2), (2, .int p3)]) hx hb dX4_guess_4 rfl hl (by decide) rfl (fun ls hl => ?_)
  refine lv_iload_n hx hb dX4_guess_5 rfl (lv_at hl 2 rfl) ?_
  refine lv_aload_n hx hb dX4_guess_6 rfl (lv_at hl 0 rfl) ?_
  refine gf_today_size hx hb hg hown hK hP (x := (v 6)) rfl (hg _ q1_206) dX4_guess_7 ?_
  refine lv_icmp_ge (tgt := 19) hx hb dX4_guess_10 (by decide) (fun c_94 => ?_) (fun c_94 => ?_)
  ·
    have kc_94 : (v 6).toInt ≤ p2.toInt := i_le c_94
    refine lv_aload_n hx hb dX4_guess_19 rfl (lv_at hl 1 rfl) ?_
    refine lv_iload_n hx hb dX4_guess_20 rfl (lv_at hl 3 rfl) ?_
    refine cV_v (As := [.int p3]) (rest := []) ⟨hx, hb, hml, hown, hg⟩ (k_X4_take l D cs A ad fa fq rv v a w fv fp  p3 ) ca_X4_take q4_61 ⟨rfl, rfl⟩ ⟨(show 1 + 1 ≤ 2 * n + 8 by omega), (show 8 + (3 + 11) + (20) ≤ 100 * n + 300 by omega)⟩ (rc_hearing hK hP) hK hP hD hS hZ rfl hl.1 rfl (Nat.le_of_ble_eq_true rfl) ⟨Nat.zero_le _, Nat.zero_le _⟩ dX4_guess_21 (fun z_100 H locs wr_95 hP hD hS => ?_)
    obtain ⟨o_v16_96, o_v17_97, o_v18_98, o_v15_99⟩ := z_100
    have hP : va_P D vwCl (CW cs ad fa fq rv (va_up (va_up (va_up (va_up v 16 o_v16_96) 17 o_v17_97) 18 o_v18_98) 15 o_v15_99) a w fv fp) H := hP
    have hD : va_D A (CW cs ad fa fq rv (va_up (va_up (va_up (va_up v 16 o_v16_96) 17 o_v17_97) 18 o_v18_98) 15 o_v15_99) a w fv fp) := hD
    have wr_95_0 : True := wr_95
    have hP : va_P D vwCl (CW cs ad fa fq rv (va_up (va_up (va_up (va_up v 16 o_v16_96) 17 o_v17_97) 18 o_v18_98) 15 o_v15_99) (va_up (va_up a 17 (a 17)) 16 (a 16)) w fv fp) _ := hP
    have hD : va_D A (CW cs ad fa fq rv (va_up (va_up (va_up (va_up v 16 o_v16_96) 17 o_v17_97) 18 o_v18_98) 15 o_v15_99) (va_up (va_up a 17 (a 17)) 16 (a 16)) w fv fp) := hD
    exact W.vret hx hb hr (fun tt ht hW => ⟨⟨⟨fv, fp, o_v16_96, o_v17_97, o_v18_98, o_v15_99, (a 17), (a 16)⟩, rfl, (fun f hf => rfl), by rw [ht]; exact hP, hD⟩, hS.F ht⟩) hS.2.2 dX4_guess_24
  ·
    have kc_94 : p2.toInt < (v 6).toInt := i_nle c_94
    refine lv_iload_n hx hb dX4_guess_13 rfl (lv_at hl 2 rfl) ?_
    refine lv_bipush (v := 12) hx hb dX4_guess_14 (by decide) ?_
    refine lv_icmp_lt (tgt := 25) hx hb dX4_guess_16 (by decide) (fun c_101 => ?_) (fun c_101 => ?_)
    ·
      have kc_101 : p2.toInt < (12 : Int) := i_lt c_101
      refine lv_aload_n hx hb dX4_guess_25 rfl (lv_at hl 1 rfl) ?_
      refine gf_hearing_flights hx hb hg hown hK hP rfl (hg _ q2_91) dX4_guess_26 ?_
      refine lv_iload_n hx hb dX4_guess_29 rfl (lv_at hl 2 rfl) ?_
      refine lv_iconst (v := 1) hx hb dX4_guess_30 (by decide) ?_
      refine lv_iadd hx hb dX4_guess_31 ?_
      refine lv_topi (fun x_102 ex_102 => ?_)
      have fx_102 : x_102.toInt = p2.toInt + (1 : Int) := by rw [ex_102]; exact i_add (by first | omega | (show (_ : Int) ≤ p2.toInt + (1 : Int); omega)) (by first | omega | (show p2.toInt + (1 : Int) ≤ (_ : Int); omega))
      refine ld_flights hx hb hK hP (i_in (by omega) (by omega)) dX4_guess_32 ?_
      rw [show x_102.toNatClampNeg = (d + 1) from (by have q : x_102.toNatClampNeg = x_102.toInt.toNat := rfl; omega)]
      refine lv_astore (lv' := [(4, .ref (fa (d + 1))), (3, .ref (ad 3)), (0, .ref (ad 6)), (1, .int p2), (2, .int p3)]) hx hb dX4_guess_33 hl (by decide) rfl (fun ls hl => ?_)
      refine lv_iconst (v := 0) hx hb dX4_guess_35 (by decide) ?_
      refine lv_istore (lv' := [(5, .int 0), (4, .ref (fa (d + 1))), (3, .ref (ad 3)), (0, .ref (ad 6)), (1, .int p2), (2, .int p3)]) hx hb dX4_guess_36 hl (by decide) rfl (fun ls hl => ?_)
      have q0_0 : (0 : Int32).toInt = 0 := rfl
      exact (hcut (((2 - (0 : Int32).toInt).toNat) + 1)) 0 fv fp (a 17) (a 16) (v 16) (v 17) (v 18) (v 15) _ _ (fun f hf => rfl) (by omega) (by omega) (by omega) (by omega) (Nat.lt_succ_self _) hP hD hS ls (lv_sub hl [3, 4, 5, 2, 1, 0] rfl)
    ·
      have kc_101 : (12 : Int) ≤ p2.toInt := i_nlt c_101
      refine lv_aload_n hx hb dX4_guess_19 rfl (lv_at hl 1 rfl) ?_
      refine lv_iload_n hx hb dX4_guess_20 rfl (lv_at hl 3 rfl) ?_
      refine cV_v (As := [.int p3]) (rest := []) ⟨hx, hb, hml, hown, hg⟩ (k_X4_take l D cs A ad fa fq rv v a w fv fp  p3 ) ca_X4_take q4_61 ⟨rfl, rfl⟩ ⟨(show 1 + 1 ≤ 2 * n + 8 by omega), (show 8 + (3 + 11) + (20) ≤ 100 * n + 300 by omega)⟩ (rc_hearing hK hP) hK hP hD hS hZ rfl hl.1 rfl (Nat.le_of_ble_eq_true rfl) ⟨Nat.zero_le _, Nat.zero_le _⟩ dX4_guess_21 (fun z_108 H locs wr_103 hP hD hS => ?_)
      obtain ⟨o_v16_104, o_v17_105, o_v18_106, o_v15_107⟩ := z_108
      have hP : va_P D vwCl (CW cs ad fa fq rv (va_up (va_up (va_up (va_up v 16 o_v16_104) 17 o_v17_105) 18 o_v18_106) 15 o_v15_107) a w fv fp) H := hP
      have hD : va_D A (CW cs ad fa fq rv (va_up (va_up (va_up (va_up v 16 o_v16_104) 17 o_v17_105) 18 o_v18_106) 15 o_v15_107) a w fv fp) := hD
      have wr_103_0 : True := wr_103
      have hP : va_P D vwCl (CW cs ad fa fq rv (va_up (va_up (va_up (va_up v 16 o_v16_104) 17 o_v17_105) 18 o_v18_106) 15 o_v15_107) (va_up (va_up a 17 (a 17)) 16 (a 16)) w fv fp) _ := hP
      have hD : va_D A (CW cs ad fa fq rv (va_up (va_up (va_up (va_up v 16 o_v16_104) 17 o_v17_105) 18 o_v18_106) 15 o_v15_107) (va_up (va_up a 17 (a 17)) 16 (a 16)) w fv fp) := hD
      exact W.vret hx hb hr (fun tt ht hW => ⟨⟨⟨fv, fp, o_v16_104, o_v17_105, o_v18_106, o_v15_107, (a 17), (a 16)⟩, rfl, (fun f hf => rfl), by rw [ht]; exact hP, hD⟩, hS.F ht⟩) hS.2.2 dX4_guess_24
theorem k_X4_guess : ∀ n, C_X4_guess n := by
  intro n
  induction n with
  | zero => exact s_X4_guess 0 (fun k h => absurd h (by omega))
  | succ n ih => exact s_X4_guess (n + 1) (fun k h => by (have e : k = n := by omega); subst e; exact ih)
set_option maxHeartbeats 4000000 in
set_option maxRecDepth 100000 in
theorem k_X4_listen (l : Launch) (D : va_G) (cs : Nat → ClassId) (A : Nat → Prop) (ad fa fq rv : Nat → Nat) (v : Nat → Int32) (a : Nat → Nat → Int32) (w : Nat → Nat → Int64) (fv fp : Nat → Nat → Int32)  (p3 : Int32) (h1 : 0 ≤ p3.toInt) (h2 : p3.toInt < 6) (iv14_0 : (-1) ≤ (v 14).toInt) (iv14_1 : (v 14).toInt ≤ 12) (iv1_0 : 0 ≤ (v 1).toInt) (iv1_1 : (v 1).toInt ≤ 8) (ifv14_0 : (fv 14 2).toInt = -2 ∨ (0 ≤ (fv 14 2).toInt ∧ (fv 14 2).toInt < (v 1).toInt)) (iv6_0 : 0 ≤ (v 6).toInt) (iv6_1 : (v 6).toInt ≤ 24) (iv6_2 : DOK (v 6) (a 20) (v 1)) (iv5_0 : 0 ≤ (v 5).toInt) (iv5_1 : (v 5).toInt ≤ 256) (ia18_0 : AB (-1000) 20000 (a 18)) (ia28_0 : AB (-1) 5 (a 28)) (ia29_0 : AB (-1) 60 (a 29)) : Met l yX4_listen (Cond.code yX4_listen cX4_listen 5 none :: gw) ({ frames := 33, cells := 0, slots := 0, locals := 1525 }) (va_Pc [.ref (ad 6), .ref (fa 14), .ref (ad 8), .int p3] (XPre D (TY cs) (CW cs ad fa fq rv v a w fv fp) A)) (va_Qv (fun (z : (Nat → Nat → Int32) × (Nat → Nat → Int32) × Int32 × Int32 × Int32 × Int32 × (Nat → Int32) × (Nat → Int32) × Int32 × (Nat → Int32)) => (∀ f : Nat, 14 ≤ f → z.1 f = fv f) ∧ ((-1) ≤ z.2.2.2.2.2.2.2.2.1.toInt) ∧ (z.2.2.2.2.2.2.2.2.1.toInt ≤ 12)) (XPo D (fun (z : (Nat → Nat → Int32) × (Nat → Nat → Int32) × Int32 × Int32 × Int32 × Int32 × (Nat → Int32) × (Nat → Int32) × Int32 × (Nat → Int32)) => CW cs ad fa fq rv (va_up (va_up (va_up (va_up (va_up v 16 z.2.2.1) 17 z.2.2.2.1) 18 z.2.2.2.2.1) 15 z.2.2.2.2.2.1) 14 z.2.2.2.2.2.2.2.2.1) (va_up (va_up (va_up a 17 z.2.2.2.2.2.2.1) 16 z.2.2.2.2.2.2.2.1) 23 z.2.2.2.2.2.2.2.2.2) w z.1 z.2.1) A) A) 0 0 A := by
  refine Met.ofW (cc := cX4_listen) (maxL := 5) (ret := none) (by decide) rfl ?_
  intro p e s m args below meth c s₁ B hml hv
  obtain ⟨rfl, hP, hK, hD, hZ⟩ := hv
  have hx := B.exec
  have hb := B.bytes
  have hr := B.returns
  have hts := atoms_spec (ws := (Cond.code yX4_listen cX4_listen 5 none :: gw)) B.pre
  have hg : ∀ w ∈ gw, w.before ([.ref (ad 6), .ref (fa 14), .ref (ad 8), .int p3] : List Value).toArray s = true := fun w h => hts w (List.mem_cons_of_mem _ h)
  have hown : s.vm.findClass RX4 = some m.cls := findClass_of_methodNamed B.named
  have hlocks := B.notSynchronized
  have hS : va_S A s.heap s.heap [] := va_S.rf
  have hP : va_P D vwCl (CW cs ad fa fq rv v a w fv fp) s.heap := hP
  have hl := lv_entry ([.ref (ad 6), .ref (fa 14), .ref (ad 8), .int p3]) (n := 5) (Nat.le_of_ble_eq_true rfl)
  rw [lg_entry_eq]
  generalize (lg_sl ([.ref (ad 6), .ref (fa 14), .ref (ad 8), .int p3]) ++ List.replicate (5 - (lg_sl ([.ref (ad 6), .ref (fa 14), .ref (ad 8), .int p3])).length) Slot.unset).toArray = ls at hl ⊢
  have hl : lv_has ls 5 [(0, .ref (ad 6)), (1, .ref (fa 14)), (2, .ref (ad 8)), (3, .int p3)] := hl
  have hcut : ∀ nk : Nat, (∀ (x4 : Int32) (c17_a23 : Nat → Int32) (c17_v14 : Int32) (H : Heap) (locs : List Loc) (i4 : 0 ≤ x4.toInt) (jv14_0 : (-1) ≤ c17_v14.toInt) (jv14_1 : c17_v14.toInt ≤ 12) (hmu : (c17_v14.toInt - x4.toInt).toNat < nk) (hP : va_P D vwCl (CW cs ad fa fq rv (va_up v 14 c17_v14) (va_up a 23 c17_a23) w fv fp) H) (hD : va_D A (CW cs ad fa fq rv (va_up v 14 c17_v14) (va_up a 23 c17_a23) w fv fp)) (hS : va_S A s.heap H locs) (ls : Array Slot) (hl : lv_has ls 5 [(0, .ref (ad 6)), (1, .ref (fa 14)), (2, .ref (ad 8)), (3, .int p3), (4, .int x4)]), W p l e (headSpec (Cond.code yX4_listen cX4_listen 5 none :: gw) ({ frames := 33, cells := 0, slots := 0, locals := 1525 })).room s m ([.ref (ad 6), .ref (fa 14), .ref (ad 8), .int p3] : List Value).toArray below meth c H locs 0 0 (MQ below (va_Qv (fun (z : (Nat → Nat → Int32) × (Nat → Nat → Int32) × Int32 × Int32 × Int32 × Int32 × (Nat → Int32) × (Nat → Int32) × Int32 × (Nat → Int32)) => (∀ f : Nat, 14 ≤ f → z.1 f = fv f) ∧ ((-1) ≤ z.2.2.2.2.2.2.2.2.1.toInt) ∧ (z.2.2.2.2.2.2.2.2.1.toInt ≤ 12)) (XPo D (fun (z : (Nat → Nat → Int32) × (Nat → Nat → Int32) × Int32 × Int32 × Int32 × Int32 × (Nat → Int32) × (Nat → Int32) × Int32 × (Nat → Int32)) => CW cs ad fa fq rv (va_up (va_up (va_up (va_up (va_up v 16 z.2.2.1) 17 z.2.2.2.1) 18 z.2.2.2.2.1) 15 z.2.2.2.2.2.1) 14 z.2.2.2.2.2.2.2.2.1) (va_up (va_up (va_up a 17 z.2.2.2.2.2.2.1) 16 z.2.2.2.2.2.2.2.1) 23 z.2.2.2.2.2.2.2.2.2) w z.1 z.2.1) A) A) ([.ref (ad 6), .ref (fa 14), .ref (ad 8), .int p3] : List Value).toArray s 0 0 A) (F0 m 17 ls [])) := by
    intro nk
    induction nk with
    | zero => exact (fun x4 c17_a23 c17_v14 H locs i4 jv14_0 jv14_1 hmu hP hD hS ls hl => absurd hmu (Nat.not_lt_zero _))
    | succ nk ih =>
      intro x4 c17_a23 c17_v14 H locs i4 jv14_0 jv14_1 hmu hP hD hS ls hl
      refine lv_iload hx hb dX4_listen_17 (lv_at hl 4 rfl) ?_
      refine lv_aload_n hx hb dX4_listen_19 rfl (lv_at hl 0 rfl) ?_
      refine gf_hearing_known hx hb hg hown hK hP (x := c17_v14) rfl (hg _ q2_95) dX4_listen_20 ?_
      refine lv_icmp_ge (tgt := 47) hx hb dX4_listen_23 (by decide) (fun c_1 => ?_) (fun c_1 => ?_)
      ·
        have kc_1 : c17_v14.toInt ≤ x4.toInt := i_le c_1
        refine lv_aload_n hx hb dX4_listen_47 rfl (lv_at hl 0 rfl) ?_
        refine lv_iconst (v := 0) hx hb dX4_listen_48 (by decide) ?_
        refine pf_hearing_ways hx hb hg hown hK hP hD hS (hg _ q2_96) dX4_listen_49 (fun H locs hP hD hS => ?_)
        refine lv_aload_n hx hb dX4_listen_52 rfl (lv_at hl 0 rfl) ?_
        refine lv_bipush (v := (-2)) hx hb dX4_listen_53 (by decide) ?_
        refine pf_hearing_fewest hx hb hg hown hK hP hD hS (hg _ q2_98) dX4_listen_55 (fun H locs hP hD hS => ?_)
        refine lv_aload_n hx hb dX4_listen_58 rfl (lv_at hl 0 rfl) ?_
        refine lv_bipush (v := (-2)) hx hb dX4_listen_59 (by decide) ?_
        refine pf_hearing_which hx hb hg hown hK hP hD hS (hg _ q2_100) dX4_listen_61 (fun H locs hP hD hS => ?_)
        refine lv_aload_n hx hb dX4_listen_64 rfl (lv_at hl 0 rfl) ?_
        refine lv_iconst (v := 0) hx hb dX4_listen_65 (by decide) ?_
        refine pf_hearing_certain hx hb hg hown hK hP hD hS (hg _ q2_102) dX4_listen_66 (fun H locs hP hD hS => ?_)
        refine lv_aload_n hx hb dX4_listen_69 rfl (lv_at hl 0 rfl) ?_
        refine gf_hearing_flights hx hb hg hown hK hP rfl (hg _ q2_91) dX4_listen_70 ?_
        refine lv_iconst (v := 0) hx hb dX4_listen_73 (by decide) ?_
        refine ld_flights hx hb hK hP (i_in (by decide) (by decide)) dX4_listen_74 ?_
        refine lv_aload_n hx hb dX4_listen_75 rfl (lv_at hl 1 rfl) ?_
        refine cV_v (As := [.ref (fa 14)]) (rest := []) ⟨hx, hb, hml, hown, hg⟩ (k_X3_begin l D cs A ad fa fq rv (va_up (va_up (va_up (va_up (va_up v 14 c17_v14) 15 0) 16 (-2)) 17 (-2)) 18 0) (va_up a 23 c17_a23) w fv fp 0 14  (by omega) (by omega) (by omega) (show 0 ≤ (v 1).toInt by first | omega | decide) (show (v 1).toInt ≤ 8 by first | omega | decide) (show (fv 14 2).toInt = -2 ∨ (0 ≤ (fv 14 2).toInt ∧ (fv 14 2).toInt < (v 1).toInt) by first | omega | decide)) ca_X3_begin q4_57 ⟨rfl, rfl⟩ ⟨Nat.le_of_ble_eq_true rfl, Nat.le_of_ble_eq_true rfl⟩ (rc_fl (f := 0) (by decide) hK hP) hK hP hD hS hZ rfl hl.1 rfl (Nat.le_of_ble_eq_true rfl) ⟨Nat.zero_le _, Nat.zero_le _⟩ dX4_listen_76 (fun z_5 H locs wr_2 hP hD hS => ?_)
        obtain ⟨o_fvf_3, o_fpf_4⟩ := z_5
        have hP : va_P D vwCl (CW cs ad fa fq rv (va_up (va_up (va_up (va_up (va_up v 14 c17_v14) 15 0) 16 (-2)) 17 (-2)) 18 0) (va_up a 23 c17_a23) w (va_up fv 0 o_fvf_3) (va_up fp 0 o_fpf_4)) H := hP
        have hD : va_D A (CW cs ad fa fq rv (va_up (va_up (va_up (va_up (va_up v 14 c17_v14) 15 0) 16 (-2)) 17 (-2)) 18 0) (va_up a 23 c17_a23) w (va_up fv 0 o_fvf_3) (va_up fp 0 o_fpf_4)) := hD
        obtain ⟨wr_2_0, wr_2_1, wr_2_2, wr_2_3, wr_2_4, wr_2_5, wr_2_6, wr_2_7, wr_2_8⟩ : (o_fvf_3 0 = (fv 14 0)) ∧ (o_fvf_3 1 = (fv 14 1)) ∧ (o_fvf_3 2 = (fv 14 2)) ∧ (o_fvf_3 3 = 0) ∧ (o_fvf_3 4 = 0) ∧ (o_fvf_3 5 = 0) ∧ (o_fvf_3 6 = 0) ∧ (o_fvf_3 7 = 0) ∧ ((o_fvf_3 2).toInt = -2 ∨ (0 ≤ (o_fvf_3 2).toInt ∧ (o_fvf_3 2).toInt < (v 1).toInt)) := wr_2
        refine lv_aload_n hx hb dX4_listen_79 rfl (lv_at hl 0 rfl) ?_
        refine lv_iconst (v := 0) hx hb dX4_listen_80 (by decide) ?_
        refine lv_iconst (v := 0) hx hb dX4_listen_81 (by decide) ?_
        refine cS_v (As := [.ref (ad 6), .int 0, .int 0]) (rest := []) ⟨hx, hb, hml, hown, hg⟩ ((k_X4_guess 12) l D cs A ad fa fq rv (va_up (va_up (va_up (va_up (va_up v 14 c17_v14) 15 0) 16 (-2)) 17 (-2)) 18 0) (va_up a 23 c17_a23) w (va_up fv 0 o_fvf_3) (va_up fp 0 o_fpf_4) 0 0 0 (show (0 : Int) = (0 : Int) by first | omega | decide) (show 0 ≤ 12 by first | omega | decide) (show 12 ≤ 0 + (12 : Nat) by first | omega | decide) (show 0 ≤ (v 1).toInt by first | omega | decide) (show (v 1).toInt ≤ 8 by first | omega | decide) (show (o_fvf_3 2).toInt = -2 ∨ (0 ≤ (o_fvf_3 2).toInt ∧ (o_fvf_3 2).toInt < (v 1).toInt) by first | omega | decide) (show 0 ≤ (v 6).toInt by first | omega | decide) (show (v 6).toInt ≤ 24 by first | omega | decide) iv6_2 (show 0 ≤ (v 5).toInt by first | omega | decide) (show (v 5).toInt ≤ 256 by first | omega | decide) ia18_0 (show (-1) ≤ c17_v14.toInt by first | omega | decide) (show c17_v14.toInt ≤ 12 by first | omega | decide)) ca_X4_guess q4_58 ⟨rfl, rfl⟩ ⟨Nat.le_of_ble_eq_true rfl, Nat.le_of_ble_eq_true rfl⟩  hK hP hD hS hZ rfl hl.1 rfl (Nat.le_of_ble_eq_true rfl) ⟨Nat.zero_le _, Nat.zero_le _⟩ dX4_listen_82 (fun z_15 H locs wr_6 hP hD hS => ?_)
        obtain ⟨o_fv_7, o_fp_8, o_v16_9, o_v17_10, o_v18_11, o_v15_12, o_a17_13, o_a16_14⟩ := z_15
        have hP : va_P D vwCl (CW cs ad fa fq rv (va_up (va_up (va_up (va_up (va_up v 14 c17_v14) 16 o_v16_9) 17 o_v17_10) 18 o_v18_11) 15 o_v15_12) (va_up (va_up (va_up a 23 c17_a23) 17 o_a17_13) 16 o_a16_14) w o_fv_7 o_fp_8) H := hP
        have hD : va_D A (CW cs ad fa fq rv (va_up (va_up (va_up (va_up (va_up v 14 c17_v14) 16 o_v16_9) 17 o_v17_10) 18 o_v18_11) 15 o_v15_12) (va_up (va_up (va_up a 23 c17_a23) 17 o_a17_13) 16 o_a16_14) w o_fv_7 o_fp_8) := hD
        have wr_6_0 : ∀ f : Nat, f ≤ 0 ∨ 14 ≤ f → o_fv_7 f = (va_up fv 0 o_fvf_3) f := wr_6
        have hg_16 : ∀ f : Nat, 14 ≤ f → o_fv_7 f = fv f := fun f hf => (wr_6_0 f (Or.inr hf)).trans (va_up_ne _ _ (by omega))
        have hP : va_P D vwCl (CW cs ad fa fq rv (va_up (va_up (va_up (va_up (va_up v 16 o_v16_9) 17 o_v17_10) 18 o_v18_11) 15 o_v15_12) 14 c17_v14) (va_up (va_up (va_up a 17 o_a17_13) 16 o_a16_14) 23 c17_a23) w o_fv_7 o_fp_8) _ := hP
        have hD : va_D A (CW cs ad fa fq rv (va_up (va_up (va_up (va_up (va_up v 16 o_v16_9) 17 o_v17_10) 18 o_v18_11) 15 o_v15_12) 14 c17_v14) (va_up (va_up (va_up a 17 o_a17_13) 16 o_a16_14) 23 c17_a23) w o_fv_7 o_fp_8) := hD
        exact W.vret hx hb hr (fun tt ht hW => ⟨⟨⟨o_fv_7, o_fp_8, o_v16_9, o_v17_10, o_v18_11, o_v15_12, o_a17_13, o_a16_14, c17_v14, c17_a23⟩, rfl, ⟨hg_16, (show (-1) ≤ c17_v14.toInt by first | omega | assumption), (show c17_v14.toInt ≤ 12 by first | omega | assumption)⟩, by rw [ht]; exact hP, hD⟩, hS.F ht⟩) hS.2.2 dX4_listen_85
      ·
        have kc_1 : x4.toInt < c17_v14.toInt := i_nle c_1
        refine lv_aload_n hx hb dX4_listen_26 rfl (lv_at hl 0 rfl) ?_
        refine gf_hearing_seen hx hb hg hown hK hP rfl (hg _ q2_94) dX4_listen_27 ?_
        refine lv_iload hx hb dX4_listen_30 (lv_at hl 4 rfl) ?_
        refine lv_aload_n hx hb dX4_listen_32 rfl (lv_at hl 2 rfl) ?_
        refine lv_iload_n hx hb dX4_listen_33 rfl (lv_at hl 3 rfl) ?_
        refine lv_iload hx hb dX4_listen_34 (lv_at hl 4 rfl) ?_
        refine cV_rol (As := [.int p3, .int x4]) (rest := [.int x4, .ref (ad 23)]) ⟨hx, hb, hml, hown, hg⟩ (k_X10_get l D cs A ad fa fq rv (va_up v 14 c17_v14) (va_up a 23 c17_a23) w fv fp  p3 x4 (show 0 ≤ p3.toInt by first | omega | decide) (show p3.toInt < 6 by first | omega | decide) (show 0 ≤ x4.toInt by first | omega | decide) (show x4.toInt < 60 by first | omega | decide)) ca_X10_get q4_56 ⟨rfl, rfl⟩ ⟨Nat.le_of_ble_eq_true rfl, Nat.le_of_ble_eq_true rfl⟩ (rc_shelves hK hP) hK hP hD hS hZ rfl hl.1 rfl (Nat.le_of_ble_eq_true rfl) ⟨Nat.zero_le _, Nat.zero_le _⟩ dX4_listen_36 (fun r_17 wr_17 => ?_)
        have wr_17_0 : r_17 = ((w p3.toNatClampNeg) x4.toNatClampNeg) := wr_17
        refine lv_l2i hx hb dX4_listen_39 rfl ?_
        refine lv_topi (fun x_18 ex_18 => ?_)
        refine st_Hseen hx hb hK hP hD hS (i_in (by omega) (by omega)) dX4_listen_40 (fun H locs hP hD hS => ?_)
        obtain ⟨x_19, ex_19⟩ : ∃ y : Int32, y = x4 + 1 := ⟨_, rfl⟩
        have fx_19 : x_19.toInt = x4.toInt + 1 := by rw [ex_19]; exact i_add (by first | omega | (show (_ : Int) ≤ x4.toInt + 1; omega)) (by first | omega | (show x4.toInt + 1 ≤ (_ : Int); omega))
        refine lv_iinc (v := x_19) (lv' := [(4, .int x_19), (0, .ref (ad 6)), (1, .ref (fa 14)), (2, .ref (ad 8)), (3, .int p3)]) hx hb dX4_listen_41 hl (k := 4) rfl (by rw [ex_19]; rfl) (by decide) rfl (fun ls hl => ?_)
        refine lv_goto (tgt := 17) hx hb dX4_listen_44 (by decide) ?_
        exact ih x_19 (upd c17_a23 x4.toNatClampNeg x_18) c17_v14 _ _ (by omega) (show (-1) ≤ c17_v14.toInt by first | omega | assumption) (show c17_v14.toInt ≤ 12 by first | omega | assumption) (by omega) hP hD hS ls (lv_sub hl [1, 2, 3, 4, 0] rfl)
  refine lv_aload_n hx hb dX4_listen_0 rfl (lv_at hl 0 rfl) ?_
  refine lv_bipush (v := 12) hx hb dX4_listen_1 (by decide) ?_
  refine lv_aload_n hx hb dX4_listen_3 rfl (lv_at hl 2 rfl) ?_
  refine lv_iload_n hx hb dX4_listen_4 rfl (lv_at hl 3 rfl) ?_
  refine cV_ro (As := [.int p3]) (rest := [.int 12, .ref (ad 6)]) ⟨hx, hb, hml, hown, hg⟩ (k_X10_sizeOf l D cs A ad fa fq rv v a w fv fp  p3 (show 0 ≤ p3.toInt by first | omega | decide) (show p3.toInt < 6 by first | omega | decide) ia28_0 ia29_0) ca_X10_sizeOf q4_54 ⟨rfl, rfl⟩ ⟨Nat.le_of_ble_eq_true rfl, Nat.le_of_ble_eq_true rfl⟩ (rc_shelves hK hP) hK hP hD hS hZ rfl hl.1 rfl (Nat.le_of_ble_eq_true rfl) ⟨Nat.zero_le _, Nat.zero_le _⟩ dX4_listen_5 (fun r_20 wr_20 => ?_)
  obtain ⟨wr_20_0, wr_20_1, wr_20_2⟩ : (((((a 28) p3.toNatClampNeg).toInt ≠ -1 ∧ ((a 28) p3.toNatClampNeg).toInt ≠ 5) ∧ r_20.toInt = ((a 29) p3.toNatClampNeg).toInt) ∨ (¬ (((a 28) p3.toNatClampNeg).toInt ≠ -1 ∧ ((a 28) p3.toNatClampNeg).toInt ≠ 5) ∧ r_20.toInt = 0)) ∧ (-1 ≤ r_20.toInt) ∧ (r_20.toInt ≤ 60) := wr_20
  refine va_mmin hx hb (hml.trans hl.1.symm) hown (hg _ q4_55) (hg _ q3_61) (hg _ q1_16) (hg _ q3_62) (Nat.le_of_ble_eq_true rfl) (Nat.le_of_ble_eq_true rfl) (Nat.zero_le _) (Nat.zero_le _) dX4_listen_8 ?_
  refine lv_topi (fun x_21 ex_21 => ?_)
  have fx_21 := i_min ex_21
  have fx_21 : (r_20.toInt ≤ (12 : Int) ∧ x_21.toInt = r_20.toInt) ∨ ((12 : Int) ≤ r_20.toInt ∧ x_21.toInt = (12 : Int)) := fx_21
  refine pf_hearing_known hx hb hg hown hK hP hD hS (hg _ q2_95) dX4_listen_11 (fun H locs hP hD hS => ?_)
  refine lv_iconst (v := 0) hx hb dX4_listen_14 (by decide) ?_
  refine lv_istore (lv' := [(4, .int 0), (0, .ref (ad 6)), (1, .ref (fa 14)), (2, .ref (ad 8)), (3, .int p3)]) hx hb dX4_listen_15 hl (by decide) rfl (fun ls hl => ?_)
  have q0_0 : (0 : Int32).toInt = 0 := rfl
  exact (hcut (((x_21.toInt - (0 : Int32).toInt).toNat) + 1)) 0 (a 23) x_21 _ _ (by omega) (show (-1) ≤ x_21.toInt by first | omega | assumption) (show x_21.toInt ≤ 12 by first | omega | assumption) (Nat.lt_succ_self _) hP hD hS ls (lv_sub hl [1, 2, 3, 4, 0] rfl)
set_option maxHeartbeats 4000000 in
set_option maxRecDepth 100000 in
theorem k_X11_orders (l : Launch) (D : va_G) (cs : Nat → ClassId) (A : Nat → Prop) (ad fa fq rv : Nat → Nat) (v : Nat → Int32) (a : Nat → Nat → Int32) (w : Nat → Nat → Int64) (fv fp : Nat → Nat → Int32)  (p1 : Int32) (p2 : Int32) (ia28_0 : AB (-1) 5 (a 28)) (iv1_0 : 0 ≤ (v 1).toInt) (iv1_1 : (v 1).toInt ≤ 8) (iv6_0 : 0 ≤ (v 6).toInt) (iv6_1 : (v 6).toInt ≤ 24) (iv6_2 : DOK (v 6) (a 20) (v 1)) (ia29_0 : AB (-1) 60 (a 29)) (ifv14_0 : (fv 14 2).toInt = -2 ∨ (0 ≤ (fv 14 2).toInt ∧ (fv 14 2).toInt < (v 1).toInt)) (iv5_0 : 0 ≤ (v 5).toInt) (iv5_1 : (v 5).toInt ≤ 256) (ia18_0 : AB (-1000) 20000 (a 18)) : Met l yX11_orders (Cond.code yX11_orders cX11_orders 4 (some .int) :: gw) ({ frames := 24, cells := 0, slots := 0, locals := 1047 }) (va_Pc [.ref (ad 0), .int p1, .int p2] (XPre D (TY cs) (CW cs ad fa fq rv v a w fv fp) A)) (va_Qi (fun (r : Int32) (z : (Nat → Nat → Int32) × (Nat → Nat → Int32) × Int32 × Int32 × Int32 × (Nat → Int32) × (Nat → Int32) × (Nat → Int32) × (Nat → Int32) × (Nat → Int32)) => (∀ f : Nat, 14 ≤ f → z.1 f = fv f) ∧ (0 ≤ z.2.2.1.toInt) ∧ (z.2.2.1.toInt ≤ 24) ∧ (DOK z.2.2.1 z.2.2.2.2.2.1 (v 1))) (XPo D (fun (z : (Nat → Nat → Int32) × (Nat → Nat → Int32) × Int32 × Int32 × Int32 × (Nat → Int32) × (Nat → Int32) × (Nat → Int32) × (Nat → Int32) × (Nat → Int32)) => CW cs ad fa fq rv (va_up (va_up (va_up v 6 z.2.2.1) 7 z.2.2.2.1) 8 z.2.2.2.2.1) (va_up (va_up (va_up (va_up (va_up a 20 z.2.2.2.2.2.1) 22 z.2.2.2.2.2.2.1) 21 z.2.2.2.2.2.2.2.1) 17 z.2.2.2.2.2.2.2.2.1) 16 z.2.2.2.2.2.2.2.2.2) w z.1 z.2.1) A) A) 0 0 A := by
  refine Met.ofW (cc := cX11_orders) (maxL := 4) (ret := (some .int)) (by decide) rfl ?_
  intro p e s m args below meth c s₁ B hml hv
  obtain ⟨rfl, hP, hK, hD, hZ⟩ := hv
  have hx := B.exec
  have hb := B.bytes
  have hr := B.returns
  have hts := atoms_spec (ws := (Cond.code yX11_orders cX11_orders 4 (some .int) :: gw)) B.pre
  have hg : ∀ w ∈ gw, w.before ([.ref (ad 0), .int p1, .int p2] : List Value).toArray s = true := fun w h => hts w (List.mem_cons_of_mem _ h)
  have hown : s.vm.findClass RX11 = some m.cls := findClass_of_methodNamed B.named
  have hlocks := B.notSynchronized
  have hS : va_S A s.heap s.heap [] := va_S.rf
  have hP : va_P D vwCl (CW cs ad fa fq rv v a w fv fp) s.heap := hP
  have hl := lv_entry ([.ref (ad 0), .int p1, .int p2]) (n := 4) (Nat.le_of_ble_eq_true rfl)
  rw [lg_entry_eq]
  generalize (lg_sl ([.ref (ad 0), .int p1, .int p2]) ++ List.replicate (4 - (lg_sl ([.ref (ad 0), .int p1, .int p2])).length) Slot.unset).toArray = ls at hl ⊢
  have hl : lv_has ls 4 [(0, .ref (ad 0)), (1, .int p1), (2, .int p2)] := hl
  refine lv_iload_n hx hb dX11_orders_0 rfl (lv_at hl 1 rfl) ?_
  refine cS_p (As := [.int p1]) (rest := []) ⟨hx, hb, hml, hown, hg⟩ (k_X10_isShelf l   p1 ) ca_X10_isShelf q2_205 ⟨rfl, rfl⟩ ⟨Nat.le_of_ble_eq_true rfl, Nat.le_of_ble_eq_true rfl⟩ rfl hl.1 rfl (Nat.le_of_ble_eq_true rfl) ⟨Nat.zero_le _, Nat.zero_le _⟩ dX11_orders_1 (fun r_1 wr_1 => ?_)
  have wr_1 : (r_1.toInt = 1 ∧ 0 ≤ p1.toInt ∧ p1.toInt < 6) ∨ (r_1.toInt = 0 ∧ ¬ (0 ≤ p1.toInt ∧ p1.toInt < 6)) := wr_1
  refine lv_if_eq (tgt := 13) hx hb dX11_orders_4 (by decide) (fun c_2 => ?_) (fun c_2 => ?_)
  ·
    have kc_2 : r_1.toInt = (0 : Int) := i_eq c_2
    refine lv_iconst (v := (-1)) hx hb dX11_orders_13 (by decide) ?_
    have q0_m1 : ((-1) : Int32).toInt = (-1) := rfl
    have hP : va_P D vwCl (CW cs ad fa fq rv (va_up (va_up (va_up v 6 (v 6)) 7 (v 7)) 8 (v 8)) (va_up (va_up (va_up (va_up (va_up a 20 (a 20)) 22 (a 22)) 21 (a 21)) 17 (a 17)) 16 (a 16)) w fv fp) _ := hP
    have hD : va_D A (CW cs ad fa fq rv (va_up (va_up (va_up v 6 (v 6)) 7 (v 7)) 8 (v 8)) (va_up (va_up (va_up (va_up (va_up a 20 (a 20)) 22 (a 22)) 21 (a 21)) 17 (a 17)) 16 (a 16)) w fv fp) := hD
    exact W.iret (v := (-1)) hx hb hr (fun tt ht hW => ⟨⟨(-1), ⟨fv, fp, (v 6), (v 7), (v 8), (a 20), (a 22), (a 21), (a 17), (a 16)⟩, rfl, ⟨(fun f hf => rfl), (show 0 ≤ (v 6).toInt by first | omega | assumption), (show (v 6).toInt ≤ 24 by first | omega | assumption), iv6_2⟩, by rw [ht]; exact hP, hD⟩, hS.F ht⟩) hS.2.2 dX11_orders_14
  ·
    have kc_2 : r_1.toInt ≠ (0 : Int) := i_ne c_2
    refine lv_iload_n hx hb dX11_orders_7 rfl (lv_at hl 2 rfl) ?_
    refine lv_bipush (v := (-2)) hx hb dX11_orders_8 (by decide) ?_
    refine lv_icmp_ge (tgt := 15) hx hb dX11_orders_10 (by decide) (fun c_3 => ?_) (fun c_3 => ?_)
    ·
      have kc_3 : (-2 : Int) ≤ p2.toInt := i_le c_3
      refine lv_aload_n hx hb dX11_orders_15 rfl (lv_at hl 0 rfl) ?_
      refine lv_iload_n hx hb dX11_orders_16 rfl (lv_at hl 1 rfl) ?_
      refine cV_i (As := [.int p1]) (rest := []) ⟨hx, hb, hml, hown, hg⟩ (k_X11_openDay l D cs A ad fa fq rv v a w fv fp  p1 (show 0 ≤ p1.toInt by first | omega | decide) (show p1.toInt < 6 by first | omega | decide) ia28_0 (show 0 ≤ (v 1).toInt by first | omega | decide) (show (v 1).toInt ≤ 8 by first | omega | decide) (show 0 ≤ (v 6).toInt by first | omega | decide) (show (v 6).toInt ≤ 24 by first | omega | decide) iv6_2 ia29_0) ca_X11_openDay q3_147 ⟨rfl, rfl⟩ ⟨Nat.le_of_ble_eq_true rfl, Nat.le_of_ble_eq_true rfl⟩ (rc_main hK hP) hK hP hD hS hZ rfl hl.1 rfl (Nat.le_of_ble_eq_true rfl) ⟨Nat.zero_le _, Nat.zero_le _⟩ dX11_orders_17 (fun r_4 z_7 H locs wr_4 hP hD hS => ?_)
      obtain ⟨o_v6_5, o_a20_6⟩ := z_7
      have hP : va_P D vwCl (CW cs ad fa fq rv (va_up v 6 o_v6_5) (va_up a 20 o_a20_6) w fv fp) H := hP
      have hD : va_D A (CW cs ad fa fq rv (va_up v 6 o_v6_5) (va_up a 20 o_a20_6) w fv fp) := hD
      obtain ⟨wr_4_0, wr_4_1, wr_4_2, wr_4_3⟩ : (r_4.toInt = 0 ∨ r_4.toInt = -11 ∨ r_4.toInt = -12) ∧ (0 ≤ o_v6_5.toInt) ∧ (o_v6_5.toInt ≤ 24) ∧ (DOK o_v6_5 o_a20_6 (v 1)) := wr_4
      refine lv_istore_n (lv' := [(3, .int r_4), (0, .ref (ad 0)), (1, .int p1), (2, .int p2)]) hx hb dX11_orders_20 rfl hl (by decide) rfl (fun ls hl => ?_)
      refine lv_iload_n hx hb dX11_orders_21 rfl (lv_at hl 0 rfl) ?_
      refine lv_if_ge (tgt := 27) hx hb dX11_orders_22 (by decide) (fun c_8 => ?_) (fun c_8 => ?_)
      ·
        have kc_8 : (0 : Int) ≤ r_4.toInt := i_le c_8
        refine lv_aload_n hx hb dX11_orders_27 rfl (lv_at hl 1 rfl) ?_
        refine gf_main_today hx hb hg hown hK hP rfl (hg _ q2_128) dX11_orders_28 ?_
        refine gf_today_size hx hb hg hown hK hP (x := o_v6_5) rfl (hg _ q1_208) dX11_orders_31 ?_
        refine lv_bipush (v := 7) hx hb dX11_orders_34 (by decide) ?_
        refine lv_icmp_le (tgt := 42) hx hb dX11_orders_36 (by decide) (fun c_9 => ?_) (fun c_9 => ?_)
        ·
          have kc_9 : o_v6_5.toInt ≤ (7 : Int) := i_le c_9
          refine lv_iload_n hx hb dX11_orders_42 rfl (lv_at hl 3 rfl) ?_
          refine lv_aload_n hx hb dX11_orders_43 rfl (lv_at hl 1 rfl) ?_
          refine gf_main_today hx hb hg hown hK hP rfl (hg _ q2_128) dX11_orders_44 ?_
          refine gf_today_size hx hb hg hown hK hP (x := o_v6_5) rfl (hg _ q1_208) dX11_orders_47 ?_
          refine lv_icmp_lt (tgt := 56) hx hb dX11_orders_50 (by decide) (fun c_10 => ?_) (fun c_10 => ?_)
          ·
            have kc_10 : p2.toInt < o_v6_5.toInt := i_lt c_10
            refine lv_aload_n hx hb dX11_orders_56 rfl (lv_at hl 1 rfl) ?_
            refine gf_main_arranging hx hb hg hown hK hP rfl (hg _ q2_129) dX11_orders_57 ?_
            refine lv_aload_n hx hb dX11_orders_60 rfl (lv_at hl 1 rfl) ?_
            refine gf_main_deed hx hb hg hown hK hP rfl (hg _ q2_125) dX11_orders_61 ?_
            refine cV_v (As := [.ref (fa 14)]) (rest := []) ⟨hx, hb, hml, hown, hg⟩ (k_X8_tryAll l D cs A ad fa fq rv (va_up v 6 o_v6_5) (va_up a 20 o_a20_6) w fv fp   (show 0 ≤ (v 1).toInt by first | omega | decide) (show (v 1).toInt ≤ 8 by first | omega | decide) (show (fv 14 2).toInt = -2 ∨ (0 ≤ (fv 14 2).toInt ∧ (fv 14 2).toInt < (v 1).toInt) by first | omega | decide) (show 0 ≤ o_v6_5.toInt by first | omega | decide) (show o_v6_5.toInt ≤ 24 by first | omega | decide) wr_4_3 (show 0 ≤ (v 5).toInt by first | omega | decide) (show (v 5).toInt ≤ 256 by first | omega | decide) ia18_0) ca_X8_tryAll q3_218 ⟨rfl, rfl⟩ ⟨Nat.le_of_ble_eq_true rfl, Nat.le_of_ble_eq_true rfl⟩ (rc_arranging hK hP) hK hP hD hS hZ rfl hl.1 rfl (Nat.le_of_ble_eq_true rfl) ⟨Nat.zero_le _, Nat.zero_le _⟩ dX11_orders_64 (fun z_20 H locs wr_11 hP hD hS => ?_)
            obtain ⟨o_fv_12, o_fp_13, o_v7_14, o_v8_15, o_a22_16, o_a21_17, o_a17_18, o_a16_19⟩ := z_20
            have hP : va_P D vwCl (CW cs ad fa fq rv (va_up (va_up (va_up v 6 o_v6_5) 7 o_v7_14) 8 o_v8_15) (va_up (va_up (va_up (va_up (va_up a 20 o_a20_6) 22 o_a22_16) 21 o_a21_17) 17 o_a17_18) 16 o_a16_19) w o_fv_12 o_fp_13) H := hP
            have hD : va_D A (CW cs ad fa fq rv (va_up (va_up (va_up v 6 o_v6_5) 7 o_v7_14) 8 o_v8_15) (va_up (va_up (va_up (va_up (va_up a 20 o_a20_6) 22 o_a22_16) 21 o_a21_17) 17 o_a17_18) 16 o_a16_19) w o_fv_12 o_fp_13) := hD
            have wr_11_0 : ∀ f : Nat, 14 ≤ f → o_fv_12 f = fv f := wr_11
            refine lv_iload_n hx hb dX11_orders_67 rfl (lv_at hl 3 rfl) ?_
            refine lv_iconst (v := (-1)) hx hb dX11_orders_68 (by decide) ?_
            refine lv_icmp_ne (tgt := 82) hx hb dX11_orders_69 (by decide) (fun c_21 => ?_) (fun c_21 => ?_)
            ·
              have kc_21 : p2.toInt ≠ (-1 : Int) := i_ne c_21
              refine lv_iload_n hx hb dX11_orders_82 rfl (lv_at hl 3 rfl) ?_
              refine lv_bipush (v := (-2)) hx hb dX11_orders_83 (by decide) ?_
              refine lv_icmp_ne (tgt := 98) hx hb dX11_orders_85 (by decide) (fun c_22 => ?_) (fun c_22 => ?_)
              ·
                have kc_22 : p2.toInt ≠ (-2 : Int) := i_ne c_22
                refine lv_aload_n hx hb dX11_orders_98 rfl (lv_at hl 1 rfl) ?_
                refine gf_main_arranging hx hb hg hown hK hP rfl (hg _ q2_129) dX11_orders_99 ?_
                refine lv_iload_n hx hb dX11_orders_102 rfl (lv_at hl 3 rfl) ?_
                refine cV_ro (As := [.int p2]) (rest := []) ⟨hx, hb, hml, hown, hg⟩ (k_X8_placeOf l D cs A ad fa fq rv (va_up (va_up (va_up v 6 o_v6_5) 7 o_v7_14) 8 o_v8_15) (va_up (va_up (va_up (va_up (va_up a 20 o_a20_6) 22 o_a22_16) 21 o_a21_17) 17 o_a17_18) 16 o_a16_19) w o_fv_12 o_fp_13  p2 ) ca_X8_placeOf q3_235 ⟨rfl, rfl⟩ ⟨Nat.le_of_ble_eq_true rfl, Nat.le_of_ble_eq_true rfl⟩ (rc_arranging hK hP) hK hP hD hS hZ rfl hl.1 rfl (Nat.le_of_ble_eq_true rfl) ⟨Nat.zero_le _, Nat.zero_le _⟩ dX11_orders_103 (fun r_23 wr_23 => ?_)
                have wr_23_0 : True := wr_23
                exact W.iret (v := r_23) hx hb hr (fun tt ht hW => ⟨⟨r_23, ⟨o_fv_12, o_fp_13, o_v6_5, o_v7_14, o_v8_15, o_a20_6, o_a22_16, o_a21_17, o_a17_18, o_a16_19⟩, rfl, ⟨wr_11_0, (show 0 ≤ o_v6_5.toInt by first | omega | assumption), (show o_v6_5.toInt ≤ 24 by first | omega | assumption), wr_4_3⟩, by rw [ht]; exact hP, hD⟩, hS.F ht⟩) hS.2.2 dX11_orders_106
              ·
                have kc_22 : p2.toInt = (-2 : Int) := i_eq c_22
                refine lv_aload_n hx hb dX11_orders_88 rfl (lv_at hl 1 rfl) ?_
                refine gf_main_arranging hx hb hg hown hK hP rfl (hg _ q2_129) dX11_orders_89 ?_
                refine gf_arranging_quiet hx hb hg hown hK hP (x := o_v8_15) rfl (hg _ q2_44) dX11_orders_92 ?_
                refine lv_goto (tgt := 106) hx hb dX11_orders_95 (by decide) ?_
                exact W.iret (v := o_v8_15) hx hb hr (fun tt ht hW => ⟨⟨o_v8_15, ⟨o_fv_12, o_fp_13, o_v6_5, o_v7_14, o_v8_15, o_a20_6, o_a22_16, o_a21_17, o_a17_18, o_a16_19⟩, rfl, ⟨wr_11_0, (show 0 ≤ o_v6_5.toInt by first | omega | assumption), (show o_v6_5.toInt ≤ 24 by first | omega | assumption), wr_4_3⟩, by rw [ht]; exact hP, hD⟩, hS.F ht⟩) hS.2.2 dX11_orders_106
            ·
              have kc_21 : p2.toInt = (-1 : Int) := i_eq c_21
              refine lv_aload_n hx hb dX11_orders_72 rfl (lv_at hl 1 rfl) ?_
              refine gf_main_arranging hx hb hg hown hK hP rfl (hg _ q2_129) dX11_orders_73 ?_
              refine gf_arranging_fewest hx hb hg hown hK hP (x := o_v7_14) rfl (hg _ q2_42) dX11_orders_76 ?_
              refine lv_goto (tgt := 106) hx hb dX11_orders_79 (by decide) ?_
              exact W.iret (v := o_v7_14) hx hb hr (fun tt ht hW => ⟨⟨o_v7_14, ⟨o_fv_12, o_fp_13, o_v6_5, o_v7_14, o_v8_15, o_a20_6, o_a22_16, o_a21_17, o_a17_18, o_a16_19⟩, rfl, ⟨wr_11_0, (show 0 ≤ o_v6_5.toInt by first | omega | assumption), (show o_v6_5.toInt ≤ 24 by first | omega | assumption), wr_4_3⟩, by rw [ht]; exact hP, hD⟩, hS.F ht⟩) hS.2.2 dX11_orders_106
          ·
            have kc_10 : o_v6_5.toInt ≤ p2.toInt := i_nlt c_10
            refine lv_bipush (v := (-2)) hx hb dX11_orders_53 (by decide) ?_
            have q0_m2 : ((-2) : Int32).toInt = (-2) := rfl
            have hP : va_P D vwCl (CW cs ad fa fq rv (va_up (va_up (va_up v 6 o_v6_5) 7 (v 7)) 8 (v 8)) (va_up (va_up (va_up (va_up (va_up a 20 o_a20_6) 22 (a 22)) 21 (a 21)) 17 (a 17)) 16 (a 16)) w fv fp) _ := hP
            have hD : va_D A (CW cs ad fa fq rv (va_up (va_up (va_up v 6 o_v6_5) 7 (v 7)) 8 (v 8)) (va_up (va_up (va_up (va_up (va_up a 20 o_a20_6) 22 (a 22)) 21 (a 21)) 17 (a 17)) 16 (a 16)) w fv fp) := hD
            exact W.iret (v := (-2)) hx hb hr (fun tt ht hW => ⟨⟨(-2), ⟨fv, fp, o_v6_5, (v 7), (v 8), o_a20_6, (a 22), (a 21), (a 17), (a 16)⟩, rfl, ⟨(fun f hf => rfl), (show 0 ≤ o_v6_5.toInt by first | omega | assumption), (show o_v6_5.toInt ≤ 24 by first | omega | assumption), wr_4_3⟩, by rw [ht]; exact hP, hD⟩, hS.F ht⟩) hS.2.2 dX11_orders_55
        ·
          have kc_9 : (7 : Int) < o_v6_5.toInt := i_nle c_9
          refine lv_bipush (v := (-5)) hx hb dX11_orders_39 (by decide) ?_
          have q0_m5 : ((-5) : Int32).toInt = (-5) := rfl
          have hP : va_P D vwCl (CW cs ad fa fq rv (va_up (va_up (va_up v 6 o_v6_5) 7 (v 7)) 8 (v 8)) (va_up (va_up (va_up (va_up (va_up a 20 o_a20_6) 22 (a 22)) 21 (a 21)) 17 (a 17)) 16 (a 16)) w fv fp) _ := hP
          have hD : va_D A (CW cs ad fa fq rv (va_up (va_up (va_up v 6 o_v6_5) 7 (v 7)) 8 (v 8)) (va_up (va_up (va_up (va_up (va_up a 20 o_a20_6) 22 (a 22)) 21 (a 21)) 17 (a 17)) 16 (a 16)) w fv fp) := hD
          exact W.iret (v := (-5)) hx hb hr (fun tt ht hW => ⟨⟨(-5), ⟨fv, fp, o_v6_5, (v 7), (v 8), o_a20_6, (a 22), (a 21), (a 17), (a 16)⟩, rfl, ⟨(fun f hf => rfl), (show 0 ≤ o_v6_5.toInt by first | omega | assumption), (show o_v6_5.toInt ≤ 24 by first | omega | assumption), wr_4_3⟩, by rw [ht]; exact hP, hD⟩, hS.F ht⟩) hS.2.2 dX11_orders_41
      ·
        have kc_8 : r_4.toInt < (0 : Int) := i_nle c_8
        refine lv_iload_n hx hb dX11_orders_25 rfl (lv_at hl 0 rfl) ?_
        have hP : va_P D vwCl (CW cs ad fa fq rv (va_up (va_up (va_up v 6 o_v6_5) 7 (v 7)) 8 (v 8)) (va_up (va_up (va_up (va_up (va_up a 20 o_a20_6) 22 (a 22)) 21 (a 21)) 17 (a 17)) 16 (a 16)) w fv fp) _ := hP
        have hD : va_D A (CW cs ad fa fq rv (va_up (va_up (va_up v 6 o_v6_5) 7 (v 7)) 8 (v 8)) (va_up (va_up (va_up (va_up (va_up a 20 o_a20_6) 22 (a 22)) 21 (a 21)) 17 (a 17)) 16 (a 16)) w fv fp) := hD
        exact W.iret (v := r_4) hx hb hr (fun tt ht hW => ⟨⟨r_4, ⟨fv, fp, o_v6_5, (v 7), (v 8), o_a20_6, (a 22), (a 21), (a 17), (a 16)⟩, rfl, ⟨(fun f hf => rfl), (show 0 ≤ o_v6_5.toInt by first | omega | assumption), (show o_v6_5.toInt ≤ 24 by first | omega | assumption), wr_4_3⟩, by rw [ht]; exact hP, hD⟩, hS.F ht⟩) hS.2.2 dX11_orders_26
    ·
      have kc_3 : p2.toInt < (-2 : Int) := i_nle c_3
      refine lv_iconst (v := (-1)) hx hb dX11_orders_13 (by decide) ?_
      have q0_m1 : ((-1) : Int32).toInt = (-1) := rfl
      have hP : va_P D vwCl (CW cs ad fa fq rv (va_up (va_up (va_up v 6 (v 6)) 7 (v 7)) 8 (v 8)) (va_up (va_up (va_up (va_up (va_up a 20 (a 20)) 22 (a 22)) 21 (a 21)) 17 (a 17)) 16 (a 16)) w fv fp) _ := hP
      have hD : va_D A (CW cs ad fa fq rv (va_up (va_up (va_up v 6 (v 6)) 7 (v 7)) 8 (v 8)) (va_up (va_up (va_up (va_up (va_up a 20 (a 20)) 22 (a 22)) 21 (a 21)) 17 (a 17)) 16 (a 16)) w fv fp) := hD
      exact W.iret (v := (-1)) hx hb hr (fun tt ht hW => ⟨⟨(-1), ⟨fv, fp, (v 6), (v 7), (v 8), (a 20), (a 22), (a 21), (a 17), (a 16)⟩, rfl, ⟨(fun f hf => rfl), (show 0 ≤ (v 6).toInt by first | omega | assumption), (show (v 6).toInt ≤ 24 by first | omega | assumption), iv6_2⟩, by rw [ht]; exact hP, hD⟩, hS.F ht⟩) hS.2.2 dX11_orders_14
set_option maxHeartbeats 4000000 in
set_option maxRecDepth 100000 in
theorem k_X11_lastWord (l : Launch) (D : va_G) (cs : Nat → ClassId) (A : Nat → Prop) (ad fa fq rv : Nat → Nat) (v : Nat → Int32) (a : Nat → Nat → Int32) (w : Nat → Nat → Int64) (fv fp : Nat → Nat → Int32)  (p1 : Int32) (p2 : Int32) (p3 : Int32) (iv1_0 : 0 ≤ (v 1).toInt) (iv1_1 : (v 1).toInt ≤ 8) (ifv14_0 : (fv 14 2).toInt = -2 ∨ (0 ≤ (fv 14 2).toInt ∧ (fv 14 2).toInt < (v 1).toInt)) (iv11_0 : 0 ≤ (v 11).toInt) (iv11_1 : (v 11).toInt ≤ 6) (iv5_0 : 0 ≤ (v 5).toInt) (iv5_1 : (v 5).toInt ≤ 256) (ia18_0 : AB (-1000) 20000 (a 18)) : Met l yX11_lastWord (Cond.code yX11_lastWord cX11_lastWord 6 (some .int) :: gw) ({ frames := 22, cells := 0, slots := 0, locals := 952 }) (va_Pc [.ref (ad 0), .int p1, .int p2, .int p3] (XPre D (TY cs) (CW cs ad fa fq rv v a w fv fp) A)) (va_Qi (fun (r : Int32) (z : (Nat → Nat → Int32) × (Nat → Nat → Int32) × Int32 × Int32 × Int32 × Int32 × Int32 × (Nat → Int32) × (Nat → Int32)) => (∀ f : Nat, 14 ≤ f → z.1 f = fv f) ∧ (0 ≤ z.2.2.2.2.1.toInt) ∧ (z.2.2.2.2.1.toInt ≤ 6)) (XPo D (fun (z : (Nat → Nat → Int32) × (Nat → Nat → Int32) × Int32 × Int32 × Int32 × Int32 × Int32 × (Nat → Int32) × (Nat → Int32)) => CW cs ad fa fq rv (va_up (va_up (va_up (va_up (va_up v 9 z.2.2.1) 10 z.2.2.2.1) 11 z.2.2.2.2.1) 13 z.2.2.2.2.2.1) 12 z.2.2.2.2.2.2.1) (va_up (va_up a 17 z.2.2.2.2.2.2.2.1) 16 z.2.2.2.2.2.2.2.2) w z.1 z.2.1) A) A) 0 0 A := by
  refine Met.ofW (cc := cX11_lastWord) (maxL := 6) (ret := (some .int)) (by decide) rfl ?_
  intro p e s m args below meth c s₁ B hml hv
  obtain ⟨rfl, hP, hK, hD, hZ⟩ := hv
  have hx := B.exec
  have hb := B.bytes
  have hr := B.returns
  have hts := atoms_spec (ws := (Cond.code yX11_lastWord cX11_lastWord 6 (some .int) :: gw)) B.pre
  have hg : ∀ w ∈ gw, w.before ([.ref (ad 0), .int p1, .int p2, .int p3] : List Value).toArray s = true := fun w h => hts w (List.mem_cons_of_mem _ h)
  have hown : s.vm.findClass RX11 = some m.cls := findClass_of_methodNamed B.named
  have hlocks := B.notSynchronized
  have hS : va_S A s.heap s.heap [] := va_S.rf
  have hP : va_P D vwCl (CW cs ad fa fq rv v a w fv fp) s.heap := hP
  have hl := lv_entry ([.ref (ad 0), .int p1, .int p2, .int p3]) (n := 6) (Nat.le_of_ble_eq_true rfl)
  rw [lg_entry_eq]
  generalize (lg_sl ([.ref (ad 0), .int p1, .int p2, .int p3]) ++ List.replicate (6 - (lg_sl ([.ref (ad 0), .int p1, .int p2, .int p3])).length) Slot.unset).toArray = ls at hl ⊢
  have hl : lv_has ls 6 [(0, .ref (ad 0)), (1, .int p1), (2, .int p2), (3, .int p3)] := hl
  refine lv_iload_n hx hb dX11_lastWord_0 rfl (lv_at hl 1 rfl) ?_
  refine lv_if_lt (tgt := 24) hx hb dX11_lastWord_1 (by decide) (fun c_1 => ?_) (fun c_1 => ?_)
  ·
    have kc_1 : p1.toInt < (0 : Int) := i_lt c_1
    refine lv_iconst (v := (-1)) hx hb dX11_lastWord_24 (by decide) ?_
    have q0_m1 : ((-1) : Int32).toInt = (-1) := rfl
    have hP : va_P D vwCl (CW cs ad fa fq rv (va_up (va_up (va_up (va_up (va_up v 9 (v 9)) 10 (v 10)) 11 (v 11)) 13 (v 13)) 12 (v 12)) (va_up (va_up a 17 (a 17)) 16 (a 16)) w fv fp) _ := hP
    have hD : va_D A (CW cs ad fa fq rv (va_up (va_up (va_up (va_up (va_up v 9 (v 9)) 10 (v 10)) 11 (v 11)) 13 (v 13)) 12 (v 12)) (va_up (va_up a 17 (a 17)) 16 (a 16)) w fv fp) := hD
    exact W.iret (v := (-1)) hx hb hr (fun tt ht hW => ⟨⟨(-1), ⟨fv, fp, (v 9), (v 10), (v 11), (v 13), (v 12), (a 17), (a 16)⟩, rfl, ⟨(fun f hf => rfl), (show 0 ≤ (v 11).toInt by first | omega | assumption), (show (v 11).toInt ≤ 6 by first | omega | assumption)⟩, by rw [ht]; exact hP, hD⟩, hS.F ht⟩) hS.2.2 dX11_lastWord_25
  ·
    have kc_1 : (0 : Int) ≤ p1.toInt := i_nlt c_1
    refine lv_iload_n hx hb dX11_lastWord_4 rfl (lv_at hl 2 rfl) ?_
    refine lv_iconst (v := 1) hx hb dX11_lastWord_5 (by decide) ?_
    refine lv_icmp_lt (tgt := 24) hx hb dX11_lastWord_6 (by decide) (fun c_2 => ?_) (fun c_2 => ?_)
    ·
      have kc_2 : p2.toInt < (1 : Int) := i_lt c_2
      refine lv_iconst (v := (-1)) hx hb dX11_lastWord_24 (by decide) ?_
      have q0_m1 : ((-1) : Int32).toInt = (-1) := rfl
      have hP : va_P D vwCl (CW cs ad fa fq rv (va_up (va_up (va_up (va_up (va_up v 9 (v 9)) 10 (v 10)) 11 (v 11)) 13 (v 13)) 12 (v 12)) (va_up (va_up a 17 (a 17)) 16 (a 16)) w fv fp) _ := hP
      have hD : va_D A (CW cs ad fa fq rv (va_up (va_up (va_up (va_up (va_up v 9 (v 9)) 10 (v 10)) 11 (v 11)) 13 (v 13)) 12 (v 12)) (va_up (va_up a 17 (a 17)) 16 (a 16)) w fv fp) := hD
      exact W.iret (v := (-1)) hx hb hr (fun tt ht hW => ⟨⟨(-1), ⟨fv, fp, (v 9), (v 10), (v 11), (v 13), (v 12), (a 17), (a 16)⟩, rfl, ⟨(fun f hf => rfl), (show 0 ≤ (v 11).toInt by first | omega | assumption), (show (v 11).toInt ≤ 6 by first | omega | assumption)⟩, by rw [ht]; exact hP, hD⟩, hS.F ht⟩) hS.2.2 dX11_lastWord_25
    ·
      have kc_2 : (1 : Int) ≤ p2.toInt := i_nlt c_2
      refine lv_iload_n hx hb dX11_lastWord_9 rfl (lv_at hl 2 rfl) ?_
      refine lv_bipush (v := 6) hx hb dX11_lastWord_10 (by decide) ?_
      refine lv_icmp_gt (tgt := 24) hx hb dX11_lastWord_12 (by decide) (fun c_3 => ?_) (fun c_3 => ?_)
      ·
        have kc_3 : (6 : Int) < p2.toInt := i_lt c_3
        refine lv_iconst (v := (-1)) hx hb dX11_lastWord_24 (by decide) ?_
        have q0_m1 : ((-1) : Int32).toInt = (-1) := rfl
        have hP : va_P D vwCl (CW cs ad fa fq rv (va_up (va_up (va_up (va_up (va_up v 9 (v 9)) 10 (v 10)) 11 (v 11)) 13 (v 13)) 12 (v 12)) (va_up (va_up a 17 (a 17)) 16 (a 16)) w fv fp) _ := hP
        have hD : va_D A (CW cs ad fa fq rv (va_up (va_up (va_up (va_up (va_up v 9 (v 9)) 10 (v 10)) 11 (v 11)) 13 (v 13)) 12 (v 12)) (va_up (va_up a 17 (a 17)) 16 (a 16)) w fv fp) := hD
        exact W.iret (v := (-1)) hx hb hr (fun tt ht hW => ⟨⟨(-1), ⟨fv, fp, (v 9), (v 10), (v 11), (v 13), (v 12), (a 17), (a 16)⟩, rfl, ⟨(fun f hf => rfl), (show 0 ≤ (v 11).toInt by first | omega | assumption), (show (v 11).toInt ≤ 6 by first | omega | assumption)⟩, by rw [ht]; exact hP, hD⟩, hS.F ht⟩) hS.2.2 dX11_lastWord_25
      ·
        have kc_3 : p2.toInt ≤ (6 : Int) := i_nlt c_3
        refine lv_iload_n hx hb dX11_lastWord_15 rfl (lv_at hl 3 rfl) ?_
        refine lv_if_lt (tgt := 24) hx hb dX11_lastWord_16 (by decide) (fun c_4 => ?_) (fun c_4 => ?_)
        ·
          have kc_4 : p3.toInt < (0 : Int) := i_lt c_4
          refine lv_iconst (v := (-1)) hx hb dX11_lastWord_24 (by decide) ?_
          have q0_m1 : ((-1) : Int32).toInt = (-1) := rfl
          have hP : va_P D vwCl (CW cs ad fa fq rv (va_up (va_up (va_up (va_up (va_up v 9 (v 9)) 10 (v 10)) 11 (v 11)) 13 (v 13)) 12 (v 12)) (va_up (va_up a 17 (a 17)) 16 (a 16)) w fv fp) _ := hP
          have hD : va_D A (CW cs ad fa fq rv (va_up (va_up (va_up (va_up (va_up v 9 (v 9)) 10 (v 10)) 11 (v 11)) 13 (v 13)) 12 (v 12)) (va_up (va_up a 17 (a 17)) 16 (a 16)) w fv fp) := hD
          exact W.iret (v := (-1)) hx hb hr (fun tt ht hW => ⟨⟨(-1), ⟨fv, fp, (v 9), (v 10), (v 11), (v 13), (v 12), (a 17), (a 16)⟩, rfl, ⟨(fun f hf => rfl), (show 0 ≤ (v 11).toInt by first | omega | assumption), (show (v 11).toInt ≤ 6 by first | omega | assumption)⟩, by rw [ht]; exact hP, hD⟩, hS.F ht⟩) hS.2.2 dX11_lastWord_25
        ·
          have kc_4 : (0 : Int) ≤ p3.toInt := i_nlt c_4
          refine lv_iload_n hx hb dX11_lastWord_19 rfl (lv_at hl 3 rfl) ?_
          refine lv_iconst (v := 1) hx hb dX11_lastWord_20 (by decide) ?_
          refine lv_icmp_le (tgt := 26) hx hb dX11_lastWord_21 (by decide) (fun c_5 => ?_) (fun c_5 => ?_)
          ·
            have kc_5 : p3.toInt ≤ (1 : Int) := i_le c_5
            refine lv_iload_n hx hb dX11_lastWord_26 rfl (lv_at hl 1 rfl) ?_
            refine lv_bipush (v := 10) hx hb dX11_lastWord_27 (by decide) ?_
            refine lv_idiv hx hb dX11_lastWord_29 (by decide) ?_
            refine lv_topi (fun x_6 ex_6 => ?_)
            have fx_6 : x_6.toInt = p1.toInt / (10 : Int) := by rw [ex_6]; exact i_div (by omega) (by first | omega | decide)
            refine lv_istore (lv' := [(4, .int x_6), (0, .ref (ad 0)), (1, .int p1), (2, .int p2), (3, .int p3)]) hx hb dX11_lastWord_30 hl (by decide) rfl (fun ls hl => ?_)
            refine lv_iload_n hx hb dX11_lastWord_32 rfl (lv_at hl 2 rfl) ?_
            refine lv_bipush (v := 10) hx hb dX11_lastWord_33 (by decide) ?_
            refine lv_irem hx hb dX11_lastWord_35 (by decide) ?_
            refine lv_topi (fun x_7 ex_7 => ?_)
            have fx_7 : x_7.toInt = p1.toInt % (10 : Int) := by rw [ex_7]; exact i_rem (by omega) (by first | omega | decide)
            refine lv_istore (lv' := [(5, .int x_7), (4, .int x_6), (0, .ref (ad 0)), (1, .int p1), (2, .int p2), (3, .int p3)]) hx hb dX11_lastWord_36 hl (by decide) rfl (fun ls hl => ?_)
            refine lv_iload hx hb dX11_lastWord_38 (lv_at hl 1 rfl) ?_
            refine lv_iload hx hb dX11_lastWord_40 (lv_at hl 0 rfl) ?_
            refine lv_icmp_eq (tgt := 69) hx hb dX11_lastWord_42 (by decide) (fun c_8 => ?_) (fun c_8 => ?_)
            ·
              have kc_8 : x_6.toInt = x_7.toInt := i_eq c_8
              refine lv_iconst (v := (-1)) hx hb dX11_lastWord_69 (by decide) ?_
              have q0_m1 : ((-1) : Int32).toInt = (-1) := rfl
              have hP : va_P D vwCl (CW cs ad fa fq rv (va_up (va_up (va_up (va_up (va_up v 9 (v 9)) 10 (v 10)) 11 (v 11)) 13 (v 13)) 12 (v 12)) (va_up (va_up a 17 (a 17)) 16 (a 16)) w fv fp) _ := hP
              have hD : va_D A (CW cs ad fa fq rv (va_up (va_up (va_up (va_up (va_up v 9 (v 9)) 10 (v 10)) 11 (v 11)) 13 (v 13)) 12 (v 12)) (va_up (va_up a 17 (a 17)) 16 (a 16)) w fv fp) := hD
              exact W.iret (v := (-1)) hx hb hr (fun tt ht hW => ⟨⟨(-1), ⟨fv, fp, (v 9), (v 10), (v 11), (v 13), (v 12), (a 17), (a 16)⟩, rfl, ⟨(fun f hf => rfl), (show 0 ≤ (v 11).toInt by first | omega | assumption), (show (v 11).toInt ≤ 6 by first | omega | assumption)⟩, by rw [ht]; exact hP, hD⟩, hS.F ht⟩) hS.2.2 dX11_lastWord_70
            ·
              have kc_8 : x_6.toInt ≠ x_7.toInt := i_ne c_8
              refine lv_aload_n hx hb dX11_lastWord_45 rfl (lv_at hl 2 rfl) ?_
              refine gf_main_parish hx hb hg hown hK hP rfl (hg _ q2_123) dX11_lastWord_46 ?_
              refine lv_iload hx hb dX11_lastWord_49 (lv_at hl 1 rfl) ?_
              refine cV_ro (As := [.int x_6]) (rest := []) ⟨hx, hb, hml, hown, hg⟩ (k_X9_has l D cs A ad fa fq rv v a w fv fp  x_6 (show 0 ≤ (v 1).toInt by first | omega | decide) (show (v 1).toInt ≤ 8 by first | omega | decide)) ca_X9_has q3_4 ⟨rfl, rfl⟩ ⟨Nat.le_of_ble_eq_true rfl, Nat.le_of_ble_eq_true rfl⟩ (rc_parish hK hP) hK hP hD hS hZ rfl hl.1 rfl (Nat.le_of_ble_eq_true rfl) ⟨Nat.zero_le _, Nat.zero_le _⟩ dX11_lastWord_51 (fun r_9 wr_9 => ?_)
              have wr_9_0 : (r_9.toInt = 1 ∧ 0 ≤ x_6.toInt ∧ x_6.toInt < (v 1).toInt) ∨ (r_9.toInt = 0 ∧ ¬ (0 ≤ x_6.toInt ∧ x_6.toInt < (v 1).toInt)) := wr_9
              refine lv_if_eq (tgt := 69) hx hb dX11_lastWord_54 (by decide) (fun c_10 => ?_) (fun c_10 => ?_)
              ·
                have kc_10 : r_9.toInt = (0 : Int) := i_eq c_10
                refine lv_iconst (v := (-1)) hx hb dX11_lastWord_69 (by decide) ?_
                have q0_m1 : ((-1) : Int32).toInt = (-1) := rfl
                have hP : va_P D vwCl (CW cs ad fa fq rv (va_up (va_up (va_up (va_up (va_up v 9 (v 9)) 10 (v 10)) 11 (v 11)) 13 (v 13)) 12 (v 12)) (va_up (va_up a 17 (a 17)) 16 (a 16)) w fv fp) _ := hP
                have hD : va_D A (CW cs ad fa fq rv (va_up (va_up (va_up (va_up (va_up v 9 (v 9)) 10 (v 10)) 11 (v 11)) 13 (v 13)) 12 (v 12)) (va_up (va_up a 17 (a 17)) 16 (a 16)) w fv fp) := hD
                exact W.iret (v := (-1)) hx hb hr (fun tt ht hW => ⟨⟨(-1), ⟨fv, fp, (v 9), (v 10), (v 11), (v 13), (v 12), (a 17), (a 16)⟩, rfl, ⟨(fun f hf => rfl), (show 0 ≤ (v 11).toInt by first | omega | assumption), (show (v 11).toInt ≤ 6 by first | omega | assumption)⟩, by rw [ht]; exact hP, hD⟩, hS.F ht⟩) hS.2.2 dX11_lastWord_70
              ·
                have kc_10 : r_9.toInt ≠ (0 : Int) := i_ne c_10
                refine lv_aload_n hx hb dX11_lastWord_57 rfl (lv_at hl 2 rfl) ?_
                refine gf_main_parish hx hb hg hown hK hP rfl (hg _ q2_123) dX11_lastWord_58 ?_
                refine lv_iload hx hb dX11_lastWord_61 (lv_at hl 0 rfl) ?_
                refine cV_ro (As := [.int x_7]) (rest := []) ⟨hx, hb, hml, hown, hg⟩ (k_X9_has l D cs A ad fa fq rv v a w fv fp  x_7 (show 0 ≤ (v 1).toInt by first | omega | decide) (show (v 1).toInt ≤ 8 by first | omega | decide)) ca_X9_has q3_4 ⟨rfl, rfl⟩ ⟨Nat.le_of_ble_eq_true rfl, Nat.le_of_ble_eq_true rfl⟩ (rc_parish hK hP) hK hP hD hS hZ rfl hl.1 rfl (Nat.le_of_ble_eq_true rfl) ⟨Nat.zero_le _, Nat.zero_le _⟩ dX11_lastWord_63 (fun r_11 wr_11 => ?_)
                have wr_11_0 : (r_11.toInt = 1 ∧ 0 ≤ x_7.toInt ∧ x_7.toInt < (v 1).toInt) ∨ (r_11.toInt = 0 ∧ ¬ (0 ≤ x_7.toInt ∧ x_7.toInt < (v 1).toInt)) := wr_11
                refine lv_if_ne (tgt := 71) hx hb dX11_lastWord_66 (by decide) (fun c_12 => ?_) (fun c_12 => ?_)
                ·
                  have kc_12 : r_11.toInt ≠ (0 : Int) := i_ne c_12
                  refine lv_aload_n hx hb dX11_lastWord_71 rfl (lv_at hl 2 rfl) ?_
                  refine gf_main_talking hx hb hg hown hK hP rfl (hg _ q2_130) dX11_lastWord_72 ?_
                  refine lv_aload_n hx hb dX11_lastWord_75 rfl (lv_at hl 2 rfl) ?_
                  refine gf_main_deed hx hb hg hown hK hP rfl (hg _ q2_125) dX11_lastWord_76 ?_
                  refine lv_iload hx hb dX11_lastWord_79 (lv_at hl 1 rfl) ?_
                  refine lv_iload hx hb dX11_lastWord_81 (lv_at hl 0 rfl) ?_
                  refine lv_iload_n hx hb dX11_lastWord_83 rfl (lv_at hl 4 rfl) ?_
                  refine cV_v (As := [.ref (fa 14), .int x_6, .int x_7, .int p2]) (rest := []) ⟨hx, hb, hml, hown, hg⟩ (k_X5_talk l D cs A ad fa fq rv v a w fv fp  x_6 x_7 p2 (show 0 ≤ x_6.toInt by first | omega | decide) (show x_6.toInt < (v 1).toInt by first | omega | decide) (show 0 ≤ x_7.toInt by first | omega | decide) (show x_7.toInt < (v 1).toInt by first | omega | decide) (show 0 ≤ p2.toInt by first | omega | decide) (show 0 ≤ (v 1).toInt by first | omega | decide) (show (v 1).toInt ≤ 8 by first | omega | decide) (show (fv 14 2).toInt = -2 ∨ (0 ≤ (fv 14 2).toInt ∧ (fv 14 2).toInt < (v 1).toInt) by first | omega | decide) (show 0 ≤ (v 11).toInt by first | omega | decide) (show (v 11).toInt ≤ 6 by first | omega | decide) (show 0 ≤ (v 5).toInt by first | omega | decide) (show (v 5).toInt ≤ 256 by first | omega | decide) ia18_0) ca_X5_talk q4_11 ⟨rfl, rfl⟩ ⟨Nat.le_of_ble_eq_true rfl, Nat.le_of_ble_eq_true rfl⟩ (rc_talking hK hP) hK hP hD hS hZ rfl hl.1 rfl (Nat.le_of_ble_eq_true rfl) ⟨Nat.zero_le _, Nat.zero_le _⟩ dX11_lastWord_84 (fun z_23 H locs wr_13 hP hD hS => ?_)
                  obtain ⟨o_fv_14, o_fp_15, o_v9_16, o_v10_17, o_v11_18, o_v13_19, o_v12_20, o_a17_21, o_a16_22⟩ := z_23
                  have hP : va_P D vwCl (CW cs ad fa fq rv (va_up (va_up (va_up (va_up (va_up v 9 o_v9_16) 10 o_v10_17) 11 o_v11_18) 13 o_v13_19) 12 o_v12_20) (va_up (va_up a 17 o_a17_21) 16 o_a16_22) w o_fv_14 o_fp_15) H := hP
                  have hD : va_D A (CW cs ad fa fq rv (va_up (va_up (va_up (va_up (va_up v 9 o_v9_16) 10 o_v10_17) 11 o_v11_18) 13 o_v13_19) 12 o_v12_20) (va_up (va_up a 17 o_a17_21) 16 o_a16_22) w o_fv_14 o_fp_15) := hD
                  obtain ⟨wr_13_0, wr_13_1, wr_13_2⟩ : (∀ f : Nat, 14 ≤ f → o_fv_14 f = fv f) ∧ (0 ≤ o_v11_18.toInt) ∧ (o_v11_18.toInt ≤ 6) := wr_13
                  refine lv_iload_n hx hb dX11_lastWord_87 rfl (lv_at hl 5 rfl) ?_
                  refine lv_if_ne (tgt := 101) hx hb dX11_lastWord_88 (by decide) (fun c_24 => ?_) (fun c_24 => ?_)
                  ·
                    have kc_24 : p3.toInt ≠ (0 : Int) := i_ne c_24
                    refine lv_aload_n hx hb dX11_lastWord_101 rfl (lv_at hl 2 rfl) ?_
                    refine gf_main_talking hx hb hg hown hK hP rfl (hg _ q2_130) dX11_lastWord_102 ?_
                    refine gf_talking_opening hx hb hg hown hK hP (x := o_v13_19) rfl (hg _ q2_71) dX11_lastWord_105 ?_
                    exact W.iret (v := o_v13_19) hx hb hr (fun tt ht hW => ⟨⟨o_v13_19, ⟨o_fv_14, o_fp_15, o_v9_16, o_v10_17, o_v11_18, o_v13_19, o_v12_20, o_a17_21, o_a16_22⟩, rfl, ⟨wr_13_0, (show 0 ≤ o_v11_18.toInt by first | omega | assumption), (show o_v11_18.toInt ≤ 6 by first | omega | assumption)⟩, by rw [ht]; exact hP, hD⟩, hS.F ht⟩) hS.2.2 dX11_lastWord_108
                  ·
                    have kc_24 : p3.toInt = (0 : Int) := i_eq c_24
                    refine lv_aload_n hx hb dX11_lastWord_91 rfl (lv_at hl 2 rfl) ?_
                    refine gf_main_talking hx hb hg hown hK hP rfl (hg _ q2_130) dX11_lastWord_92 ?_
                    refine gf_talking_stings hx hb hg hown hK hP (x := o_v12_20) rfl (hg _ q2_69) dX11_lastWord_95 ?_
                    refine lv_goto (tgt := 108) hx hb dX11_lastWord_98 (by decide) ?_
                    exact W.iret (v := o_v12_20) hx hb hr (fun tt ht hW => ⟨⟨o_v12_20, ⟨o_fv_14, o_fp_15, o_v9_16, o_v10_17, o_v11_18, o_v13_19, o_v12_20, o_a17_21, o_a16_22⟩, rfl, ⟨wr_13_0, (show 0 ≤ o_v11_18.toInt by first | omega | assumption), (show o_v11_18.toInt ≤ 6 by first | omega | assumption)⟩, by rw [ht]; exact hP, hD⟩, hS.F ht⟩) hS.2.2 dX11_lastWord_108
                ·
                  have kc_12 : r_11.toInt = (0 : Int) := i_eq c_12
                  refine lv_iconst (v := (-1)) hx hb dX11_lastWord_69 (by decide) ?_
                  have q0_m1 : ((-1) : Int32).toInt = (-1) := rfl
                  have hP : va_P D vwCl (CW cs ad fa fq rv (va_up (va_up (va_up (va_up (va_up v 9 (v 9)) 10 (v 10)) 11 (v 11)) 13 (v 13)) 12 (v 12)) (va_up (va_up a 17 (a 17)) 16 (a 16)) w fv fp) _ := hP
                  have hD : va_D A (CW cs ad fa fq rv (va_up (va_up (va_up (va_up (va_up v 9 (v 9)) 10 (v 10)) 11 (v 11)) 13 (v 13)) 12 (v 12)) (va_up (va_up a 17 (a 17)) 16 (a 16)) w fv fp) := hD
                  exact W.iret (v := (-1)) hx hb hr (fun tt ht hW => ⟨⟨(-1), ⟨fv, fp, (v 9), (v 10), (v 11), (v 13), (v 12), (a 17), (a 16)⟩, rfl, ⟨(fun f hf => rfl), (show 0 ≤ (v 11).toInt by first | omega | assumption), (show (v 11).toInt ≤ 6 by first | omega | assumption)⟩, by rw [ht]; exact hP, hD⟩, hS.F ht⟩) hS.2.2 dX11_lastWord_70
          ·
            have kc_5 : (1 : Int) < p3.toInt := i_nle c_5
            refine lv_iconst (v := (-1)) hx hb dX11_lastWord_24 (by decide) ?_
            have q0_m1 : ((-1) : Int32).toInt = (-1) := rfl
            have hP : va_P D vwCl (CW cs ad fa fq rv (va_up (va_up (va_up (va_up (va_up v 9 (v 9)) 10 (v 10)) 11 (v 11)) 13 (v 13)) 12 (v 12)) (va_up (va_up a 17 (a 17)) 16 (a 16)) w fv fp) _ := hP
            have hD : va_D A (CW cs ad fa fq rv (va_up (va_up (va_up (va_up (va_up v 9 (v 9)) 10 (v 10)) 11 (v 11)) 13 (v 13)) 12 (v 12)) (va_up (va_up a 17 (a 17)) 16 (a 16)) w fv fp) := hD
            exact W.iret (v := (-1)) hx hb hr (fun tt ht hW => ⟨⟨(-1), ⟨fv, fp, (v 9), (v 10), (v 11), (v 13), (v 12), (a 17), (a 16)⟩, rfl, ⟨(fun f hf => rfl), (show 0 ≤ (v 11).toInt by first | omega | assumption), (show (v 11).toInt ≤ 6 by first | omega | assumption)⟩, by rw [ht]; exact hP, hD⟩, hS.F ht⟩) hS.2.2 dX11_lastWord_25
set_option maxHeartbeats 4000000 in
set_option maxRecDepth 100000 in
theorem k_X11_heard (l : Launch) (D : va_G) (cs : Nat → ClassId) (A : Nat → Prop) (ad fa fq rv : Nat → Nat) (v : Nat → Int32) (a : Nat → Nat → Int32) (w : Nat → Nat → Int64) (fv fp : Nat → Nat → Int32)  (p1 : Int32) (p2 : Int32) (p3 : Int32) (ia28_0 : AB (-1) 5 (a 28)) (iv1_0 : 0 ≤ (v 1).toInt) (iv1_1 : (v 1).toInt ≤ 8) (iv6_0 : 0 ≤ (v 6).toInt) (iv6_1 : (v 6).toInt ≤ 24) (iv6_2 : DOK (v 6) (a 20) (v 1)) (ia29_0 : AB (-1) 60 (a 29)) (iv14_0 : (-1) ≤ (v 14).toInt) (iv14_1 : (v 14).toInt ≤ 12) (ifv14_0 : (fv 14 2).toInt = -2 ∨ (0 ≤ (fv 14 2).toInt ∧ (fv 14 2).toInt < (v 1).toInt)) (iv5_0 : 0 ≤ (v 5).toInt) (iv5_1 : (v 5).toInt ≤ 256) (ia18_0 : AB (-1000) 20000 (a 18)) : Met l yX11_heard (Cond.code yX11_heard cX11_heard 5 (some .int) :: gw) ({ frames := 34, cells := 0, slots := 0, locals := 1549 }) (va_Pc [.ref (ad 0), .int p1, .int p2, .int p3] (XPre D (TY cs) (CW cs ad fa fq rv v a w fv fp) A)) (va_Qi (fun (r : Int32) (z : (Nat → Nat → Int32) × (Nat → Nat → Int32) × Int32 × Int32 × Int32 × Int32 × Int32 × Int32 × (Nat → Int32) × (Nat → Int32) × (Nat → Int32) × (Nat → Int32)) => (∀ f : Nat, 14 ≤ f → z.1 f = fv f) ∧ (0 ≤ z.2.2.1.toInt) ∧ (z.2.2.1.toInt ≤ 24) ∧ (DOK z.2.2.1 z.2.2.2.2.2.2.2.2.1 (v 1)) ∧ ((-1) ≤ z.2.2.2.2.2.2.2.1.toInt) ∧ (z.2.2.2.2.2.2.2.1.toInt ≤ 12)) (XPo D (fun (z : (Nat → Nat → Int32) × (Nat → Nat → Int32) × Int32 × Int32 × Int32 × Int32 × Int32 × Int32 × (Nat → Int32) × (Nat → Int32) × (Nat → Int32) × (Nat → Int32)) => CW cs ad fa fq rv (va_up (va_up (va_up (va_up (va_up (va_up v 6 z.2.2.1) 16 z.2.2.2.1) 17 z.2.2.2.2.1) 18 z.2.2.2.2.2.1) 15 z.2.2.2.2.2.2.1) 14 z.2.2.2.2.2.2.2.1) (va_up (va_up (va_up (va_up a 20 z.2.2.2.2.2.2.2.2.1) 17 z.2.2.2.2.2.2.2.2.2.1) 16 z.2.2.2.2.2.2.2.2.2.2.1) 23 z.2.2.2.2.2.2.2.2.2.2.2) w z.1 z.2.1) A) A) 0 0 A := by
  refine Met.ofW (cc := cX11_heard) (maxL := 5) (ret := (some .int)) (by decide) rfl ?_
  intro p e s m args below meth c s₁ B hml hv
  obtain ⟨rfl, hP, hK, hD, hZ⟩ := hv
  have hx := B.exec
  have hb := B.bytes
  have hr := B.returns
  have hts := atoms_spec (ws := (Cond.code yX11_heard cX11_heard 5 (some .int) :: gw)) B.pre
  have hg : ∀ w ∈ gw, w.before ([.ref (ad 0), .int p1, .int p2, .int p3] : List Value).toArray s = true := fun w h => hts w (List.mem_cons_of_mem _ h)
  have hown : s.vm.findClass RX11 = some m.cls := findClass_of_methodNamed B.named
  have hlocks := B.notSynchronized
  have hS : va_S A s.heap s.heap [] := va_S.rf
  have hP : va_P D vwCl (CW cs ad fa fq rv v a w fv fp) s.heap := hP
  have hl := lv_entry ([.ref (ad 0), .int p1, .int p2, .int p3]) (n := 5) (Nat.le_of_ble_eq_true rfl)
  rw [lg_entry_eq]
  generalize (lg_sl ([.ref (ad 0), .int p1, .int p2, .int p3]) ++ List.replicate (5 - (lg_sl ([.ref (ad 0), .int p1, .int p2, .int p3])).length) Slot.unset).toArray = ls at hl ⊢
  have hl : lv_has ls 5 [(0, .ref (ad 0)), (1, .int p1), (2, .int p2), (3, .int p3)] := hl
  refine lv_iload_n hx hb dX11_heard_0 rfl (lv_at hl 1 rfl) ?_
  refine cS_p (As := [.int p1]) (rest := []) ⟨hx, hb, hml, hown, hg⟩ (k_X10_isShelf l   p1 ) ca_X10_isShelf q2_205 ⟨rfl, rfl⟩ ⟨Nat.le_of_ble_eq_true rfl, Nat.le_of_ble_eq_true rfl⟩ rfl hl.1 rfl (Nat.le_of_ble_eq_true rfl) ⟨Nat.zero_le _, Nat.zero_le _⟩ dX11_heard_1 (fun r_1 wr_1 => ?_)
  have wr_1 : (r_1.toInt = 1 ∧ 0 ≤ p1.toInt ∧ p1.toInt < 6) ∨ (r_1.toInt = 0 ∧ ¬ (0 ≤ p1.toInt ∧ p1.toInt < 6)) := wr_1
  refine lv_if_eq (tgt := 23) hx hb dX11_heard_4 (by decide) (fun c_2 => ?_) (fun c_2 => ?_)
  ·
    have kc_2 : r_1.toInt = (0 : Int) := i_eq c_2
    refine lv_iconst (v := (-1)) hx hb dX11_heard_23 (by decide) ?_
    have q0_m1 : ((-1) : Int32).toInt = (-1) := rfl
    have hP : va_P D vwCl (CW cs ad fa fq rv (va_up (va_up (va_up (va_up (va_up (va_up v 6 (v 6)) 16 (v 16)) 17 (v 17)) 18 (v 18)) 15 (v 15)) 14 (v 14)) (va_up (va_up (va_up (va_up a 20 (a 20)) 17 (a 17)) 16 (a 16)) 23 (a 23)) w fv fp) _ := hP
    have hD : va_D A (CW cs ad fa fq rv (va_up (va_up (va_up (va_up (va_up (va_up v 6 (v 6)) 16 (v 16)) 17 (v 17)) 18 (v 18)) 15 (v 15)) 14 (v 14)) (va_up (va_up (va_up (va_up a 20 (a 20)) 17 (a 17)) 16 (a 16)) 23 (a 23)) w fv fp) := hD
    exact W.iret (v := (-1)) hx hb hr (fun tt ht hW => ⟨⟨(-1), ⟨fv, fp, (v 6), (v 16), (v 17), (v 18), (v 15), (v 14), (a 20), (a 17), (a 16), (a 23)⟩, rfl, ⟨(fun f hf => rfl), (show 0 ≤ (v 6).toInt by first | omega | assumption), (show (v 6).toInt ≤ 24 by first | omega | assumption), iv6_2, (show (-1) ≤ (v 14).toInt by first | omega | assumption), (show (v 14).toInt ≤ 12 by first | omega | assumption)⟩, by rw [ht]; exact hP, hD⟩, hS.F ht⟩) hS.2.2 dX11_heard_24
  ·
    have kc_2 : r_1.toInt ≠ (0 : Int) := i_ne c_2
    refine lv_iload_n hx hb dX11_heard_7 rfl (lv_at hl 2 rfl) ?_
    refine cS_p (As := [.int p2]) (rest := []) ⟨hx, hb, hml, hown, hg⟩ (k_X10_isShelf l   p2 ) ca_X10_isShelf q2_205 ⟨rfl, rfl⟩ ⟨Nat.le_of_ble_eq_true rfl, Nat.le_of_ble_eq_true rfl⟩ rfl hl.1 rfl (Nat.le_of_ble_eq_true rfl) ⟨Nat.zero_le _, Nat.zero_le _⟩ dX11_heard_8 (fun r_3 wr_3 => ?_)
    have wr_3 : (r_3.toInt = 1 ∧ 0 ≤ p2.toInt ∧ p2.toInt < 6) ∨ (r_3.toInt = 0 ∧ ¬ (0 ≤ p2.toInt ∧ p2.toInt < 6)) := wr_3
    refine lv_if_eq (tgt := 23) hx hb dX11_heard_11 (by decide) (fun c_4 => ?_) (fun c_4 => ?_)
    ·
      have kc_4 : r_3.toInt = (0 : Int) := i_eq c_4
      refine lv_iconst (v := (-1)) hx hb dX11_heard_23 (by decide) ?_
      have q0_m1 : ((-1) : Int32).toInt = (-1) := rfl
      have hP : va_P D vwCl (CW cs ad fa fq rv (va_up (va_up (va_up (va_up (va_up (va_up v 6 (v 6)) 16 (v 16)) 17 (v 17)) 18 (v 18)) 15 (v 15)) 14 (v 14)) (va_up (va_up (va_up (va_up a 20 (a 20)) 17 (a 17)) 16 (a 16)) 23 (a 23)) w fv fp) _ := hP
      have hD : va_D A (CW cs ad fa fq rv (va_up (va_up (va_up (va_up (va_up (va_up v 6 (v 6)) 16 (v 16)) 17 (v 17)) 18 (v 18)) 15 (v 15)) 14 (v 14)) (va_up (va_up (va_up (va_up a 20 (a 20)) 17 (a 17)) 16 (a 16)) 23 (a 23)) w fv fp) := hD
      exact W.iret (v := (-1)) hx hb hr (fun tt ht hW => ⟨⟨(-1), ⟨fv, fp, (v 6), (v 16), (v 17), (v 18), (v 15), (v 14), (a 20), (a 17), (a 16), (a 23)⟩, rfl, ⟨(fun f hf => rfl), (show 0 ≤ (v 6).toInt by first | omega | assumption), (show (v 6).toInt ≤ 24 by first | omega | assumption), iv6_2, (show (-1) ≤ (v 14).toInt by first | omega | assumption), (show (v 14).toInt ≤ 12 by first | omega | assumption)⟩, by rw [ht]; exact hP, hD⟩, hS.F ht⟩) hS.2.2 dX11_heard_24
    ·
      have kc_4 : r_3.toInt ≠ (0 : Int) := i_ne c_4
      refine lv_iload_n hx hb dX11_heard_14 rfl (lv_at hl 3 rfl) ?_
      refine lv_if_lt (tgt := 23) hx hb dX11_heard_15 (by decide) (fun c_5 => ?_) (fun c_5 => ?_)
      ·
        have kc_5 : p3.toInt < (0 : Int) := i_lt c_5
        refine lv_iconst (v := (-1)) hx hb dX11_heard_23 (by decide) ?_
        have q0_m1 : ((-1) : Int32).toInt = (-1) := rfl
        have hP : va_P D vwCl (CW cs ad fa fq rv (va_up (va_up (va_up (va_up (va_up (va_up v 6 (v 6)) 16 (v 16)) 17 (v 17)) 18 (v 18)) 15 (v 15)) 14 (v 14)) (va_up (va_up (va_up (va_up a 20 (a 20)) 17 (a 17)) 16 (a 16)) 23 (a 23)) w fv fp) _ := hP
        have hD : va_D A (CW cs ad fa fq rv (va_up (va_up (va_up (va_up (va_up (va_up v 6 (v 6)) 16 (v 16)) 17 (v 17)) 18 (v 18)) 15 (v 15)) 14 (v 14)) (va_up (va_up (va_up (va_up a 20 (a 20)) 17 (a 17)) 16 (a 16)) 23 (a 23)) w fv fp) := hD
        exact W.iret (v := (-1)) hx hb hr (fun tt ht hW => ⟨⟨(-1), ⟨fv, fp, (v 6), (v 16), (v 17), (v 18), (v 15), (v 14), (a 20), (a 17), (a 16), (a 23)⟩, rfl, ⟨(fun f hf => rfl), (show 0 ≤ (v 6).toInt by first | omega | assumption), (show (v 6).toInt ≤ 24 by first | omega | assumption), iv6_2, (show (-1) ≤ (v 14).toInt by first | omega | assumption), (show (v 14).toInt ≤ 12 by first | omega | assumption)⟩, by rw [ht]; exact hP, hD⟩, hS.F ht⟩) hS.2.2 dX11_heard_24
      ·
        have kc_5 : (0 : Int) ≤ p3.toInt := i_nlt c_5
        refine lv_iload_n hx hb dX11_heard_18 rfl (lv_at hl 3 rfl) ?_
        refine lv_iconst (v := 3) hx hb dX11_heard_19 (by decide) ?_
        refine lv_icmp_le (tgt := 25) hx hb dX11_heard_20 (by decide) (fun c_6 => ?_) (fun c_6 => ?_)
        ·
          have kc_6 : p3.toInt ≤ (3 : Int) := i_le c_6
          refine lv_aload_n hx hb dX11_heard_25 rfl (lv_at hl 0 rfl) ?_
          refine gf_main_shelves hx hb hg hown hK hP rfl (hg _ q2_133) dX11_heard_26 ?_
          refine lv_iload_n hx hb dX11_heard_29 rfl (lv_at hl 1 rfl) ?_
          refine lv_iload_n hx hb dX11_heard_30 rfl (lv_at hl 2 rfl) ?_
          refine cV_ro (As := [.int p1, .int p2]) (rest := []) ⟨hx, hb, hml, hown, hg⟩ (k_X10_faultOfBytes l D cs A ad fa fq rv v a w fv fp  p1 p2 (show 0 ≤ p1.toInt by first | omega | decide) (show p1.toInt < 6 by first | omega | decide) (show 0 ≤ p2.toInt by first | omega | decide) (show p2.toInt < 6 by first | omega | decide) ia28_0) ca_X10_faultOfBytes q3_151 ⟨rfl, rfl⟩ ⟨Nat.le_of_ble_eq_true rfl, Nat.le_of_ble_eq_true rfl⟩ (rc_shelves hK hP) hK hP hD hS hZ rfl hl.1 rfl (Nat.le_of_ble_eq_true rfl) ⟨Nat.zero_le _, Nat.zero_le _⟩ dX11_heard_31 (fun r_7 wr_7 => ?_)
          have wr_7_0 : r_7.toInt = 0 ∨ r_7.toInt = -11 ∨ r_7.toInt = -12 := wr_7
          refine lv_istore (lv' := [(4, .int r_7), (0, .ref (ad 0)), (1, .int p1), (2, .int p2), (3, .int p3)]) hx hb dX11_heard_34 hl (by decide) rfl (fun ls hl => ?_)
          refine lv_iload hx hb dX11_heard_36 (lv_at hl 0 rfl) ?_
          refine lv_if_ge (tgt := 44) hx hb dX11_heard_38 (by decide) (fun c_8 => ?_) (fun c_8 => ?_)
          ·
            have kc_8 : (0 : Int) ≤ r_7.toInt := i_le c_8
            refine lv_aload_n hx hb dX11_heard_44 rfl (lv_at hl 1 rfl) ?_
            refine gf_main_today hx hb hg hown hK hP rfl (hg _ q2_128) dX11_heard_45 ?_
            refine lv_aload_n hx hb dX11_heard_48 rfl (lv_at hl 1 rfl) ?_
            refine gf_main_shelves hx hb hg hown hK hP rfl (hg _ q2_133) dX11_heard_49 ?_
            refine lv_iload_n hx hb dX11_heard_52 rfl (lv_at hl 2 rfl) ?_
            refine lv_aload_n hx hb dX11_heard_53 rfl (lv_at hl 1 rfl) ?_
            refine gf_main_parish hx hb hg hown hK hP rfl (hg _ q2_123) dX11_heard_54 ?_
            refine gf_parish_people hx hb hg hown hK hP (x := (v 1)) rfl (hg _ q1_109) dX11_heard_57 ?_
            refine cV_v (As := [.ref (ad 8), .int p1, .int (v 1)]) (rest := []) ⟨hx, hb, hml, hown, hg⟩ (k_X2_read l D cs A ad fa fq rv v a w fv fp  p1 (v 1) (show 0 ≤ p1.toInt by first | omega | decide) (show p1.toInt < 6 by first | omega | decide) (show (v 1).toInt = (v 1).toInt by first | omega | decide) (show 0 ≤ (v 1).toInt by first | omega | decide) (show (v 1).toInt ≤ 8 by first | omega | decide) (show 0 ≤ (v 6).toInt by first | omega | decide) (show (v 6).toInt ≤ 24 by first | omega | decide) iv6_2 ia28_0 ia29_0) ca_X2_read q3_157 ⟨rfl, rfl⟩ ⟨Nat.le_of_ble_eq_true rfl, Nat.le_of_ble_eq_true rfl⟩ (rc_today hK hP) hK hP hD hS hZ rfl hl.1 rfl (Nat.le_of_ble_eq_true rfl) ⟨Nat.zero_le _, Nat.zero_le _⟩ dX11_heard_60 (fun z_12 H locs wr_9 hP hD hS => ?_)
            obtain ⟨o_v6_10, o_a20_11⟩ := z_12
            have hP : va_P D vwCl (CW cs ad fa fq rv (va_up v 6 o_v6_10) (va_up a 20 o_a20_11) w fv fp) H := hP
            have hD : va_D A (CW cs ad fa fq rv (va_up v 6 o_v6_10) (va_up a 20 o_a20_11) w fv fp) := hD
            obtain ⟨wr_9_0, wr_9_1, wr_9_2⟩ : (0 ≤ o_v6_10.toInt) ∧ (o_v6_10.toInt ≤ 24) ∧ (DOK o_v6_10 o_a20_11 (v 1)) := wr_9
            refine lv_aload_n hx hb dX11_heard_63 rfl (lv_at hl 1 rfl) ?_
            refine gf_main_today hx hb hg hown hK hP rfl (hg _ q2_128) dX11_heard_64 ?_
            refine gf_today_size hx hb hg hown hK hP (x := o_v6_10) rfl (hg _ q1_208) dX11_heard_67 ?_
            refine lv_bipush (v := 12) hx hb dX11_heard_70 (by decide) ?_
            refine lv_icmp_le (tgt := 78) hx hb dX11_heard_72 (by decide) (fun c_13 => ?_) (fun c_13 => ?_)
            ·
              have kc_13 : o_v6_10.toInt ≤ (12 : Int) := i_le c_13
              refine lv_aload_n hx hb dX11_heard_78 rfl (lv_at hl 1 rfl) ?_
              refine gf_main_hearing hx hb hg hown hK hP rfl (hg _ q2_131) dX11_heard_79 ?_
              refine lv_aload_n hx hb dX11_heard_82 rfl (lv_at hl 1 rfl) ?_
              refine gf_main_deed hx hb hg hown hK hP rfl (hg _ q2_125) dX11_heard_83 ?_
              refine lv_aload_n hx hb dX11_heard_86 rfl (lv_at hl 1 rfl) ?_
              refine gf_main_shelves hx hb hg hown hK hP rfl (hg _ q2_133) dX11_heard_87 ?_
              refine lv_iload_n hx hb dX11_heard_90 rfl (lv_at hl 3 rfl) ?_
              refine cV_v (As := [.ref (fa 14), .ref (ad 8), .int p2]) (rest := []) ⟨hx, hb, hml, hown, hg⟩ (k_X4_listen l D cs A ad fa fq rv (va_up v 6 o_v6_10) (va_up a 20 o_a20_11) w fv fp  p2 (show 0 ≤ p2.toInt by first | omega | decide) (show p2.toInt < 6 by first | omega | decide) (show (-1) ≤ (v 14).toInt by first | omega | decide) (show (v 14).toInt ≤ 12 by first | omega | decide) (show 0 ≤ (v 1).toInt by first | omega | decide) (show (v 1).toInt ≤ 8 by first | omega | decide) (show (fv 14 2).toInt = -2 ∨ (0 ≤ (fv 14 2).toInt ∧ (fv 14 2).toInt < (v 1).toInt) by first | omega | decide) (show 0 ≤ o_v6_10.toInt by first | omega | decide) (show o_v6_10.toInt ≤ 24 by first | omega | decide) wr_9_2 (show 0 ≤ (v 5).toInt by first | omega | decide) (show (v 5).toInt ≤ 256 by first | omega | decide) ia18_0 ia28_0 ia29_0) ca_X4_listen q4_50 ⟨rfl, rfl⟩ ⟨Nat.le_of_ble_eq_true rfl, Nat.le_of_ble_eq_true rfl⟩ (rc_hearing hK hP) hK hP hD hS hZ rfl hl.1 rfl (Nat.le_of_ble_eq_true rfl) ⟨Nat.zero_le _, Nat.zero_le _⟩ dX11_heard_91 (fun z_25 H locs wr_14 hP hD hS => ?_)
              obtain ⟨o_fv_15, o_fp_16, o_v16_17, o_v17_18, o_v18_19, o_v15_20, o_a17_21, o_a16_22, o_v14_23, o_a23_24⟩ := z_25
              have hP : va_P D vwCl (CW cs ad fa fq rv (va_up (va_up (va_up (va_up (va_up (va_up v 6 o_v6_10) 16 o_v16_17) 17 o_v17_18) 18 o_v18_19) 15 o_v15_20) 14 o_v14_23) (va_up (va_up (va_up (va_up a 20 o_a20_11) 17 o_a17_21) 16 o_a16_22) 23 o_a23_24) w o_fv_15 o_fp_16) H := hP
              have hD : va_D A (CW cs ad fa fq rv (va_up (va_up (va_up (va_up (va_up (va_up v 6 o_v6_10) 16 o_v16_17) 17 o_v17_18) 18 o_v18_19) 15 o_v15_20) 14 o_v14_23) (va_up (va_up (va_up (va_up a 20 o_a20_11) 17 o_a17_21) 16 o_a16_22) 23 o_a23_24) w o_fv_15 o_fp_16) := hD
              obtain ⟨wr_14_0, wr_14_1, wr_14_2⟩ : (∀ f : Nat, 14 ≤ f → o_fv_15 f = fv f) ∧ ((-1) ≤ o_v14_23.toInt) ∧ (o_v14_23.toInt ≤ 12) := wr_14
              refine lv_iload_n hx hb dX11_heard_94 rfl (lv_at hl 4 rfl) ?_
              refine lv_if_ne (tgt := 106) hx hb dX11_heard_95 (by decide) (fun c_26 => ?_) (fun c_26 => ?_)
              ·
                have kc_26 : p3.toInt ≠ (0 : Int) := i_ne c_26
                refine lv_iload_n hx hb dX11_heard_106 rfl (lv_at hl 4 rfl) ?_
                refine lv_iconst (v := 1) hx hb dX11_heard_107 (by decide) ?_
                refine lv_icmp_ne (tgt := 121) hx hb dX11_heard_108 (by decide) (fun c_27 => ?_) (fun c_27 => ?_)
                ·
                  have kc_27 : p3.toInt ≠ (1 : Int) := i_ne c_27
                  refine lv_iload_n hx hb dX11_heard_121 rfl (lv_at hl 4 rfl) ?_
                  refine lv_iconst (v := 2) hx hb dX11_heard_122 (by decide) ?_
                  refine lv_icmp_ne (tgt := 136) hx hb dX11_heard_123 (by decide) (fun c_28 => ?_) (fun c_28 => ?_)
                  ·
                    have kc_28 : p3.toInt ≠ (2 : Int) := i_ne c_28
                    refine lv_aload_n hx hb dX11_heard_136 rfl (lv_at hl 1 rfl) ?_
                    refine gf_main_hearing hx hb hg hown hK hP rfl (hg _ q2_131) dX11_heard_137 ?_
                    refine gf_hearing_certain hx hb hg hown hK hP (x := o_v18_19) rfl (hg _ q2_103) dX11_heard_140 ?_
                    exact W.iret (v := o_v18_19) hx hb hr (fun tt ht hW => ⟨⟨o_v18_19, ⟨o_fv_15, o_fp_16, o_v6_10, o_v16_17, o_v17_18, o_v18_19, o_v15_20, o_v14_23, o_a20_11, o_a17_21, o_a16_22, o_a23_24⟩, rfl, ⟨wr_14_0, (show 0 ≤ o_v6_10.toInt by first | omega | assumption), (show o_v6_10.toInt ≤ 24 by first | omega | assumption), wr_9_2, (show (-1) ≤ o_v14_23.toInt by first | omega | assumption), (show o_v14_23.toInt ≤ 12 by first | omega | assumption)⟩, by rw [ht]; exact hP, hD⟩, hS.F ht⟩) hS.2.2 dX11_heard_143
                  ·
                    have kc_28 : p3.toInt = (2 : Int) := i_eq c_28
                    refine lv_aload_n hx hb dX11_heard_126 rfl (lv_at hl 1 rfl) ?_
                    refine gf_main_hearing hx hb hg hown hK hP rfl (hg _ q2_131) dX11_heard_127 ?_
                    refine gf_hearing_which hx hb hg hown hK hP (x := o_v17_18) rfl (hg _ q2_101) dX11_heard_130 ?_
                    refine lv_goto (tgt := 143) hx hb dX11_heard_133 (by decide) ?_
                    exact W.iret (v := o_v17_18) hx hb hr (fun tt ht hW => ⟨⟨o_v17_18, ⟨o_fv_15, o_fp_16, o_v6_10, o_v16_17, o_v17_18, o_v18_19, o_v15_20, o_v14_23, o_a20_11, o_a17_21, o_a16_22, o_a23_24⟩, rfl, ⟨wr_14_0, (show 0 ≤ o_v6_10.toInt by first | omega | assumption), (show o_v6_10.toInt ≤ 24 by first | omega | assumption), wr_9_2, (show (-1) ≤ o_v14_23.toInt by first | omega | assumption), (show o_v14_23.toInt ≤ 12 by first | omega | assumption)⟩, by rw [ht]; exact hP, hD⟩, hS.F ht⟩) hS.2.2 dX11_heard_143
                ·
                  have kc_27 : p3.toInt = (1 : Int) := i_eq c_27
                  refine lv_aload_n hx hb dX11_heard_111 rfl (lv_at hl 1 rfl) ?_
                  refine gf_main_hearing hx hb hg hown hK hP rfl (hg _ q2_131) dX11_heard_112 ?_
                  refine gf_hearing_fewest hx hb hg hown hK hP (x := o_v16_17) rfl (hg _ q2_99) dX11_heard_115 ?_
                  refine lv_goto (tgt := 143) hx hb dX11_heard_118 (by decide) ?_
                  exact W.iret (v := o_v16_17) hx hb hr (fun tt ht hW => ⟨⟨o_v16_17, ⟨o_fv_15, o_fp_16, o_v6_10, o_v16_17, o_v17_18, o_v18_19, o_v15_20, o_v14_23, o_a20_11, o_a17_21, o_a16_22, o_a23_24⟩, rfl, ⟨wr_14_0, (show 0 ≤ o_v6_10.toInt by first | omega | assumption), (show o_v6_10.toInt ≤ 24 by first | omega | assumption), wr_9_2, (show (-1) ≤ o_v14_23.toInt by first | omega | assumption), (show o_v14_23.toInt ≤ 12 by first | omega | assumption)⟩, by rw [ht]; exact hP, hD⟩, hS.F ht⟩) hS.2.2 dX11_heard_143
              ·
                have kc_26 : p3.toInt = (0 : Int) := i_eq c_26
                refine lv_aload_n hx hb dX11_heard_98 rfl (lv_at hl 1 rfl) ?_
                refine gf_main_hearing hx hb hg hown hK hP rfl (hg _ q2_131) dX11_heard_99 ?_
                refine gf_hearing_ways hx hb hg hown hK hP (x := o_v15_20) rfl (hg _ q2_97) dX11_heard_102 ?_
                exact W.iret (v := o_v15_20) hx hb hr (fun tt ht hW => ⟨⟨o_v15_20, ⟨o_fv_15, o_fp_16, o_v6_10, o_v16_17, o_v17_18, o_v18_19, o_v15_20, o_v14_23, o_a20_11, o_a17_21, o_a16_22, o_a23_24⟩, rfl, ⟨wr_14_0, (show 0 ≤ o_v6_10.toInt by first | omega | assumption), (show o_v6_10.toInt ≤ 24 by first | omega | assumption), wr_9_2, (show (-1) ≤ o_v14_23.toInt by first | omega | assumption), (show o_v14_23.toInt ≤ 12 by first | omega | assumption)⟩, by rw [ht]; exact hP, hD⟩, hS.F ht⟩) hS.2.2 dX11_heard_105
            ·
              have kc_13 : (12 : Int) < o_v6_10.toInt := i_nle c_13
              refine lv_bipush (v := (-5)) hx hb dX11_heard_75 (by decide) ?_
              have q0_m5 : ((-5) : Int32).toInt = (-5) := rfl
              have hP : va_P D vwCl (CW cs ad fa fq rv (va_up (va_up (va_up (va_up (va_up (va_up v 6 o_v6_10) 16 (v 16)) 17 (v 17)) 18 (v 18)) 15 (v 15)) 14 (v 14)) (va_up (va_up (va_up (va_up a 20 o_a20_11) 17 (a 17)) 16 (a 16)) 23 (a 23)) w fv fp) _ := hP
              have hD : va_D A (CW cs ad fa fq rv (va_up (va_up (va_up (va_up (va_up (va_up v 6 o_v6_10) 16 (v 16)) 17 (v 17)) 18 (v 18)) 15 (v 15)) 14 (v 14)) (va_up (va_up (va_up (va_up a 20 o_a20_11) 17 (a 17)) 16 (a 16)) 23 (a 23)) w fv fp) := hD
              exact W.iret (v := (-5)) hx hb hr (fun tt ht hW => ⟨⟨(-5), ⟨fv, fp, o_v6_10, (v 16), (v 17), (v 18), (v 15), (v 14), o_a20_11, (a 17), (a 16), (a 23)⟩, rfl, ⟨(fun f hf => rfl), (show 0 ≤ o_v6_10.toInt by first | omega | assumption), (show o_v6_10.toInt ≤ 24 by first | omega | assumption), wr_9_2, (show (-1) ≤ (v 14).toInt by first | omega | assumption), (show (v 14).toInt ≤ 12 by first | omega | assumption)⟩, by rw [ht]; exact hP, hD⟩, hS.F ht⟩) hS.2.2 dX11_heard_77
          ·
            have kc_8 : r_7.toInt < (0 : Int) := i_nle c_8
            refine lv_iload hx hb dX11_heard_41 (lv_at hl 0 rfl) ?_
            have hP : va_P D vwCl (CW cs ad fa fq rv (va_up (va_up (va_up (va_up (va_up (va_up v 6 (v 6)) 16 (v 16)) 17 (v 17)) 18 (v 18)) 15 (v 15)) 14 (v 14)) (va_up (va_up (va_up (va_up a 20 (a 20)) 17 (a 17)) 16 (a 16)) 23 (a 23)) w fv fp) _ := hP
            have hD : va_D A (CW cs ad fa fq rv (va_up (va_up (va_up (va_up (va_up (va_up v 6 (v 6)) 16 (v 16)) 17 (v 17)) 18 (v 18)) 15 (v 15)) 14 (v 14)) (va_up (va_up (va_up (va_up a 20 (a 20)) 17 (a 17)) 16 (a 16)) 23 (a 23)) w fv fp) := hD
            exact W.iret (v := r_7) hx hb hr (fun tt ht hW => ⟨⟨r_7, ⟨fv, fp, (v 6), (v 16), (v 17), (v 18), (v 15), (v 14), (a 20), (a 17), (a 16), (a 23)⟩, rfl, ⟨(fun f hf => rfl), (show 0 ≤ (v 6).toInt by first | omega | assumption), (show (v 6).toInt ≤ 24 by first | omega | assumption), iv6_2, (show (-1) ≤ (v 14).toInt by first | omega | assumption), (show (v 14).toInt ≤ 12 by first | omega | assumption)⟩, by rw [ht]; exact hP, hD⟩, hS.F ht⟩) hS.2.2 dX11_heard_43
        ·
          have kc_6 : (3 : Int) < p3.toInt := i_nle c_6
          refine lv_iconst (v := (-1)) hx hb dX11_heard_23 (by decide) ?_
          have q0_m1 : ((-1) : Int32).toInt = (-1) := rfl
          have hP : va_P D vwCl (CW cs ad fa fq rv (va_up (va_up (va_up (va_up (va_up (va_up v 6 (v 6)) 16 (v 16)) 17 (v 17)) 18 (v 18)) 15 (v 15)) 14 (v 14)) (va_up (va_up (va_up (va_up a 20 (a 20)) 17 (a 17)) 16 (a 16)) 23 (a 23)) w fv fp) _ := hP
          have hD : va_D A (CW cs ad fa fq rv (va_up (va_up (va_up (va_up (va_up (va_up v 6 (v 6)) 16 (v 16)) 17 (v 17)) 18 (v 18)) 15 (v 15)) 14 (v 14)) (va_up (va_up (va_up (va_up a 20 (a 20)) 17 (a 17)) 16 (a 16)) 23 (a 23)) w fv fp) := hD
          exact W.iret (v := (-1)) hx hb hr (fun tt ht hW => ⟨⟨(-1), ⟨fv, fp, (v 6), (v 16), (v 17), (v 18), (v 15), (v 14), (a 20), (a 17), (a 16), (a 23)⟩, rfl, ⟨(fun f hf => rfl), (show 0 ≤ (v 6).toInt by first | omega | assumption), (show (v 6).toInt ≤ 24 by first | omega | assumption), iv6_2, (show (-1) ≤ (v 14).toInt by first | omega | assumption), (show (v 14).toInt ≤ 12 by first | omega | assumption)⟩, by rw [ht]; exact hP, hD⟩, hS.F ht⟩) hS.2.2 dX11_heard_24
