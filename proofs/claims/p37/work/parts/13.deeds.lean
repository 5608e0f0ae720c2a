set_option maxHeartbeats 4000000 in
set_option maxRecDepth 100000 in
theorem k_X11_person (l : Launch) (D : va_G) (cs : Nat → ClassId) (A : Nat → Prop) (ad fa fq rv : Nat → Nat) (v : Nat → Int32) (a : Nat → Nat → Int32) (w : Nat → Nat → Int64) (fv fp : Nat → Nat → Int32)  (p1 : Int32) (iv1_0 : 0 ≤ (v 1).toInt) (iv1_1 : (v 1).toInt ≤ 8) : Met l yX11_person (Cond.code yX11_person cX11_person 2 (some .int) :: gw) ({ frames := 5, cells := 0, slots := 0, locals := 114 }) (va_Pc [.ref (ad 0), .int p1] (XPre D (TY cs) (CW cs ad fa fq rv v a w fv fp) A)) (va_Qi (fun (r : Int32) (z : Int32 × (Nat → Int32) × (Nat → Int32) × (Nat → Int32) × (Nat → Int32) × (Nat → Int32)) => ((((0 ≤ p1.toInt ∧ p1.toInt < 256) ∧ (v 1).toInt < 8) ∧ r.toInt = (v 1).toInt ∧ z.1.toInt = (v 1).toInt + 1) ∨ ((0 ≤ p1.toInt ∧ p1.toInt < 256) ∧ (v 1).toInt = 8 ∧ r.toInt = -3 ∧ z.1.toInt = (v 1).toInt) ∨ (¬ (0 ≤ p1.toInt ∧ p1.toInt < 256) ∧ r.toInt = -1 ∧ z.1.toInt = (v 1).toInt)) ∧ (0 ≤ z.1.toInt) ∧ (z.1.toInt ≤ 8)) (XPo D (fun (z : Int32 × (Nat → Int32) × (Nat → Int32) × (Nat → Int32) × (Nat → Int32) × (Nat → Int32)) => CW cs ad fa fq rv (va_up v 1 z.1) (va_up (va_up (va_up (va_up a 11 z.2.1) 12 z.2.2.1) 13 z.2.2.2.1) 14 z.2.2.2.2.1) w fv (va_up fp 14 z.2.2.2.2.2)) A) A) 0 0 A := by
  refine Met.ofW (cc := cX11_person) (maxL := 2) (ret := (some .int)) (by decide) rfl ?_
  intro p e s m args below meth c s₁ B hml hv
  obtain ⟨rfl, hP, hK, hD, hZ⟩ := hv
  have hx := B.exec
  have hb := B.bytes
  have hr := B.returns
  have hts := atoms_spec (ws := (Cond.code yX11_person cX11_person 2 (some .int) :: gw)) B.pre
  have hg : ∀ w ∈ gw, w.before ([.ref (ad 0), .int p1] : List Value).toArray s = true := fun w h => hts w (List.mem_cons_of_mem _ h)
  have hown : s.vm.findClass RX11 = some m.cls := findClass_of_methodNamed B.named
  have hlocks := B.notSynchronized
  have hS : va_S A s.heap s.heap [] := va_S.rf
  have hP : va_P D vwCl (CW cs ad fa fq rv v a w fv fp) s.heap := hP
  have hl := lv_entry ([.ref (ad 0), .int p1]) (n := 2) (Nat.le_of_ble_eq_true rfl)
  rw [lg_entry_eq]
  generalize (lg_sl ([.ref (ad 0), .int p1]) ++ List.replicate (2 - (lg_sl ([.ref (ad 0), .int p1])).length) Slot.unset).toArray = ls at hl ⊢
  have hl : lv_has ls 2 [(0, .ref (ad 0)), (1, .int p1)] := hl
  refine lv_iload_n hx hb dX11_person_0 rfl (lv_at hl 1 rfl) ?_
  refine cS_p (As := [.int p1]) (rest := []) ⟨hx, hb, hml, hown, hg⟩ (k_X11_isCell l   p1 ) ca_X11_isCell q2_173 ⟨rfl, rfl⟩ ⟨Nat.le_of_ble_eq_true rfl, Nat.le_of_ble_eq_true rfl⟩ rfl hl.1 rfl (Nat.le_of_ble_eq_true rfl) ⟨Nat.zero_le _, Nat.zero_le _⟩ dX11_person_1 (fun r_1 wr_1 => ?_)
  have wr_1 : (r_1.toInt = 1 ∧ 0 ≤ p1.toInt ∧ p1.toInt < 256) ∨ (r_1.toInt = 0 ∧ ¬ (0 ≤ p1.toInt ∧ p1.toInt < 256)) := wr_1
  refine lv_if_ne (tgt := 9) hx hb dX11_person_4 (by decide) (fun c_2 => ?_) (fun c_2 => ?_)
  ·
    have kc_2 : r_1.toInt ≠ (0 : Int) := i_ne c_2
    refine lv_aload_n hx hb dX11_person_9 rfl (lv_at hl 0 rfl) ?_
    refine gf_main_parish hx hb hg hown hK hP rfl (hg _ q2_123) dX11_person_10 ?_
    refine gf_parish_people hx hb hg hown hK hP (x := (v 1)) rfl (hg _ q1_109) dX11_person_13 ?_
    refine lv_bipush (v := 8) hx hb dX11_person_16 (by decide) ?_
    refine lv_icmp_lt (tgt := 24) hx hb dX11_person_18 (by decide) (fun c_3 => ?_) (fun c_3 => ?_)
    ·
      have kc_3 : (v 1).toInt < (8 : Int) := i_lt c_3
      refine lv_aload_n hx hb dX11_person_24 rfl (lv_at hl 0 rfl) ?_
      refine lv_iload_n hx hb dX11_person_25 rfl (lv_at hl 1 rfl) ?_
      refine lv_bipush (v := 6) hx hb dX11_person_26 (by decide) ?_
      refine lv_iconst (v := 0) hx hb dX11_person_28 (by decide) ?_
      refine cV_i (As := [.int p1, .int 6, .int 0]) (rest := []) ⟨hx, hb, hml, hown, hg⟩ (k_X11_join l D cs A ad fa fq rv v a w fv fp  p1 6 0 (show (v 1).toInt ≤ 7 by first | omega | decide) (show 0 ≤ (v 1).toInt by first | omega | decide) (show (v 1).toInt ≤ 8 by first | omega | decide)) ca_X11_join q2_176 ⟨rfl, rfl⟩ ⟨Nat.le_of_ble_eq_true rfl, Nat.le_of_ble_eq_true rfl⟩ (rc_main hK hP) hK hP hD hS hZ rfl hl.1 rfl (Nat.le_of_ble_eq_true rfl) ⟨Nat.zero_le _, Nat.zero_le _⟩ dX11_person_29 (fun r_4 z_11 H locs wr_4 hP hD hS => ?_)
      obtain ⟨o_v1_5, o_a11_6, o_a12_7, o_a13_8, o_a14_9, o_fp14_10⟩ := z_11
      have hP : va_P D vwCl (CW cs ad fa fq rv (va_up v 1 o_v1_5) (va_up (va_up (va_up (va_up a 11 o_a11_6) 12 o_a12_7) 13 o_a13_8) 14 o_a14_9) w fv (va_up fp 14 o_fp14_10)) H := hP
      have hD : va_D A (CW cs ad fa fq rv (va_up v 1 o_v1_5) (va_up (va_up (va_up (va_up a 11 o_a11_6) 12 o_a12_7) 13 o_a13_8) 14 o_a14_9) w fv (va_up fp 14 o_fp14_10)) := hD
      obtain ⟨wr_4_0, wr_4_1, wr_4_2, wr_4_3⟩ : (r_4.toInt = (v 1).toInt) ∧ (o_v1_5.toInt = (v 1).toInt + 1) ∧ (0 ≤ o_v1_5.toInt) ∧ (o_v1_5.toInt ≤ 8) := wr_4
      exact W.iret (v := r_4) hx hb hr (fun tt ht hW => ⟨⟨r_4, ⟨o_v1_5, o_a11_6, o_a12_7, o_a13_8, o_a14_9, o_fp14_10⟩, rfl, ⟨(by first | rfl | omega | trivial | assumption | (dsimp only; first | omega | assumption)), (show 0 ≤ o_v1_5.toInt by first | omega | assumption), (show o_v1_5.toInt ≤ 8 by first | omega | assumption)⟩, by rw [ht]; exact hP, hD⟩, hS.F ht⟩) hS.2.2 dX11_person_32
    ·
      have kc_3 : (8 : Int) ≤ (v 1).toInt := i_nlt c_3
      refine lv_bipush (v := (-3)) hx hb dX11_person_21 (by decide) ?_
      have q0_m3 : ((-3) : Int32).toInt = (-3) := rfl
      have hP : va_P D vwCl (CW cs ad fa fq rv (va_up v 1 (v 1)) (va_up (va_up (va_up (va_up a 11 (a 11)) 12 (a 12)) 13 (a 13)) 14 (a 14)) w fv (va_up fp 14 (fp 14))) _ := hP
      have hD : va_D A (CW cs ad fa fq rv (va_up v 1 (v 1)) (va_up (va_up (va_up (va_up a 11 (a 11)) 12 (a 12)) 13 (a 13)) 14 (a 14)) w fv (va_up fp 14 (fp 14))) := hD
      exact W.iret (v := (-3)) hx hb hr (fun tt ht hW => ⟨⟨(-3), ⟨(v 1), (a 11), (a 12), (a 13), (a 14), (fp 14)⟩, rfl, ⟨(by first | rfl | omega | trivial | assumption | (dsimp only; first | omega | assumption)), (show 0 ≤ (v 1).toInt by first | omega | assumption), (show (v 1).toInt ≤ 8 by first | omega | assumption)⟩, by rw [ht]; exact hP, hD⟩, hS.F ht⟩) hS.2.2 dX11_person_23
  ·
    have kc_2 : r_1.toInt = (0 : Int) := i_eq c_2
    refine lv_iconst (v := (-1)) hx hb dX11_person_7 (by decide) ?_
    have q0_m1 : ((-1) : Int32).toInt = (-1) := rfl
    have hP : va_P D vwCl (CW cs ad fa fq rv (va_up v 1 (v 1)) (va_up (va_up (va_up (va_up a 11 (a 11)) 12 (a 12)) 13 (a 13)) 14 (a 14)) w fv (va_up fp 14 (fp 14))) _ := hP
    have hD : va_D A (CW cs ad fa fq rv (va_up v 1 (v 1)) (va_up (va_up (va_up (va_up a 11 (a 11)) 12 (a 12)) 13 (a 13)) 14 (a 14)) w fv (va_up fp 14 (fp 14))) := hD
    exact W.iret (v := (-1)) hx hb hr (fun tt ht hW => ⟨⟨(-1), ⟨(v 1), (a 11), (a 12), (a 13), (a 14), (fp 14)⟩, rfl, ⟨(by first | rfl | omega | trivial | assumption | (dsimp only; first | omega | assumption)), (show 0 ≤ (v 1).toInt by first | omega | assumption), (show (v 1).toInt ≤ 8 by first | omega | assumption)⟩, by rw [ht]; exact hP, hD⟩, hS.F ht⟩) hS.2.2 dX11_person_8
set_option maxHeartbeats 4000000 in
set_option maxRecDepth 100000 in
theorem k_X11_comes (l : Launch) (D : va_G) (cs : Nat → ClassId) (A : Nat → Prop) (ad fa fq rv : Nat → Nat) (v : Nat → Int32) (a : Nat → Nat → Int32) (w : Nat → Nat → Int64) (fv fp : Nat → Nat → Int32)  (p1 : Int32) (p2 : Int64) (h1 : 0 ≤ p1.toInt) (h2 : p1.toInt < 6) (h3 : 0 ≤ p2.toInt) (h4 : p2.toInt ≤ 4294967296) (hrow : ((a 28) p1.toNatClampNeg).toInt = 1) (ia28_0 : AB (-1) 5 (a 28)) (ia29_0 : AB (-1) 60 (a 29)) (iv1_0 : 0 ≤ (v 1).toInt) (iv1_1 : (v 1).toInt ≤ 8) : Met l yX11_comes (Cond.code yX11_comes cX11_comes 8 (some .boolean) :: gw) ({ frames := 5, cells := 0, slots := 0, locals := 114 }) (va_Pc [.ref (ad 0), .int p1, .long p2] (XPre D (TY cs) (CW cs ad fa fq rv v a w fv fp) A)) (va_Qi (fun (r : Int32) (z : Int32 × (Nat → Int32) × (Nat → Int32) × (Nat → Int32) × (Nat → Int32) × (Nat → Int32)) => (0 ≤ r.toInt) ∧ (r.toInt ≤ 1) ∧ (z.1.toInt = (v 1).toInt + r.toInt) ∧ (r.toInt = 1 → p2.toInt + 2 < ((a 29) p1.toNatClampNeg).toInt ∧ (v 1).toInt < 8 ∧ IS3 (w p1.toNatClampNeg) p2.toInt.toNat) ∧ (r.toInt = 0 → ¬ (p2.toInt + 2 < ((a 29) p1.toNatClampNeg).toInt ∧ (v 1).toInt < 8 ∧ IS3 (w p1.toNatClampNeg) p2.toInt.toNat)) ∧ (0 ≤ z.1.toInt) ∧ (z.1.toInt ≤ 8)) (XPo D (fun (z : Int32 × (Nat → Int32) × (Nat → Int32) × (Nat → Int32) × (Nat → Int32) × (Nat → Int32)) => CW cs ad fa fq rv (va_up v 1 z.1) (va_up (va_up (va_up (va_up a 11 z.2.1) 12 z.2.2.1) 13 z.2.2.2.1) 14 z.2.2.2.2.1) w fv (va_up fp 14 z.2.2.2.2.2)) A) A) 0 0 A := by
  refine Met.ofW (cc := cX11_comes) (maxL := 8) (ret := (some .boolean)) (by decide) rfl ?_
  intro p e s m args below meth c s₁ B hml hv
  obtain ⟨rfl, hP, hK, hD, hZ⟩ := hv
  have hx := B.exec
  have hb := B.bytes
  have hr := B.returns
  have hts := atoms_spec (ws := (Cond.code yX11_comes cX11_comes 8 (some .boolean) :: gw)) B.pre
  have hg : ∀ w ∈ gw, w.before ([.ref (ad 0), .int p1, .long p2] : List Value).toArray s = true := fun w h => hts w (List.mem_cons_of_mem _ h)
  have hown : s.vm.findClass RX11 = some m.cls := findClass_of_methodNamed B.named
  have hlocks := B.notSynchronized
  have hS : va_S A s.heap s.heap [] := va_S.rf
  have hP : va_P D vwCl (CW cs ad fa fq rv v a w fv fp) s.heap := hP
  have zp1 : p1.toNatClampNeg = p1.toInt.toNat := rfl
  have hl := lv_entry ([.ref (ad 0), .int p1, .long p2]) (n := 8) (Nat.le_of_ble_eq_true rfl)
  rw [lg_entry_eq]
  generalize (lg_sl ([.ref (ad 0), .int p1, .long p2]) ++ List.replicate (8 - (lg_sl ([.ref (ad 0), .int p1, .long p2])).length) Slot.unset).toArray = ls at hl ⊢
  have hl : lv_has ls 8 [(0, .ref (ad 0)), (1, .int p1), (2, .long p2)] := hl
  refine lv_lload_n hx hb dX11_comes_0 rfl (lv_at hl 2 rfl) ?_
  refine lv_ldc2 hx hb hown (v := 2) (hg _ q2_221) dX11_comes_1 ?_
  refine lv_ladd hx hb dX11_comes_4 ?_
  refine lv_topl (fun x_1 ex_1 => ?_)
  have ql_2 : (2 : Int64).toInt = 2 := rfl
  have fx_1 : x_1.toInt = p2.toInt + (2 : Int) := by rw [ex_1]; exact l_add (by show (_ : Int) ≤ p2.toInt + (2 : Int); omega) (by show p2.toInt + (2 : Int) ≤ (_ : Int); omega)
  refine lv_aload_n hx hb dX11_comes_5 rfl (lv_at hl 0 rfl) ?_
  refine gf_main_shelves hx hb hg hown hK hP rfl (hg _ q2_133) dX11_comes_6 ?_
  refine lv_iload_n hx hb dX11_comes_9 rfl (lv_at hl 1 rfl) ?_
  refine cV_ro (As := [.int p1]) (rest := [.long x_1]) ⟨hx, hb, hml, hown, hg⟩ (k_X10_sizeOf l D cs A ad fa fq rv v a w fv fp  p1 (show 0 ≤ p1.toInt by first | omega | decide) (show p1.toInt < 6 by first | omega | decide) ia28_0 ia29_0) ca_X10_sizeOf q2_222 ⟨rfl, rfl⟩ ⟨Nat.le_of_ble_eq_true rfl, Nat.le_of_ble_eq_true rfl⟩ (rc_shelves hK hP) hK hP hD hS hZ rfl hl.1 rfl (Nat.le_of_ble_eq_true rfl) ⟨Nat.zero_le _, Nat.zero_le _⟩ dX11_comes_10 (fun r_2 wr_2 => ?_)
  obtain ⟨wr_2_0, wr_2_1, wr_2_2⟩ : (((((a 28) p1.toNatClampNeg).toInt ≠ -1 ∧ ((a 28) p1.toNatClampNeg).toInt ≠ 5) ∧ r_2.toInt = ((a 29) p1.toNatClampNeg).toInt) ∨ (¬ (((a 28) p1.toNatClampNeg).toInt ≠ -1 ∧ ((a 28) p1.toNatClampNeg).toInt ≠ 5) ∧ r_2.toInt = 0)) ∧ (-1 ≤ r_2.toInt) ∧ (r_2.toInt ≤ 60) := wr_2
  refine lv_i2l hx hb dX11_comes_13 rfl ?_
  refine lv_topl (fun x_3 ex_3 => ?_)
  have fx_3 : x_3.toInt = r_2.toInt := by rw [ex_3]; exact l_i2l r_2
  refine W.lcmp hx hb dX11_comes_14 ?_
  refine lv_topi (fun x_4 ex_4 => ?_)
  have fx_4 : (x_4.toInt = 1 ∧ x_3.toInt < x_1.toInt) ∨ (x_4.toInt = 0 ∧ x_1.toInt = x_3.toInt) ∨ (x_4.toInt = -1 ∧ x_1.toInt < x_3.toInt) := by rw [ex_4]; exact l_cmp _ _
  refine lv_if_ge (tgt := 30) hx hb dX11_comes_15 (by decide) (fun c_5 => ?_) (fun c_5 => ?_)
  ·
    have kc_5 : (0 : Int) ≤ x_4.toInt := i_le c_5
    refine lv_iconst (v := 0) hx hb dX11_comes_30 (by decide) ?_
    have q0_0 : (0 : Int32).toInt = 0 := rfl
    have hP : va_P D vwCl (CW cs ad fa fq rv (va_up v 1 (v 1)) (va_up (va_up (va_up (va_up a 11 (a 11)) 12 (a 12)) 13 (a 13)) 14 (a 14)) w fv (va_up fp 14 (fp 14))) _ := hP
    have hD : va_D A (CW cs ad fa fq rv (va_up v 1 (v 1)) (va_up (va_up (va_up (va_up a 11 (a 11)) 12 (a 12)) 13 (a 13)) 14 (a 14)) w fv (va_up fp 14 (fp 14))) := hD
    exact W.zret (v := 0) hx hb hr rfl (fun tt ht hW => ⟨⟨0, ⟨(v 1), (a 11), (a 12), (a 13), (a 14), (fp 14)⟩, rfl, ⟨(by first | rfl | omega | trivial | assumption | (dsimp only; first | omega | assumption)), (by first | rfl | omega | trivial | assumption | (dsimp only; first | omega | assumption)), (by first | rfl | omega | trivial | assumption | (dsimp only; first | omega | assumption)), (fun q => absurd q (by decide)), (fun _ q => by have q1 := q.1; have q2 := q.2.1; omega), (show 0 ≤ (v 1).toInt by first | omega | assumption), (show (v 1).toInt ≤ 8 by first | omega | assumption)⟩, by rw [ht]; exact hP, hD⟩, hS.F ht⟩) hS.2.2 dX11_comes_31
  ·
    have kc_5 : x_4.toInt < (0 : Int) := i_nle c_5
    refine lv_aload_n hx hb dX11_comes_18 rfl (lv_at hl 0 rfl) ?_
    refine gf_main_parish hx hb hg hown hK hP rfl (hg _ q2_123) dX11_comes_19 ?_
    refine gf_parish_people hx hb hg hown hK hP (x := (v 1)) rfl (hg _ q1_109) dX11_comes_22 ?_
    refine lv_bipush (v := 8) hx hb dX11_comes_25 (by decide) ?_
    refine lv_icmp_lt (tgt := 32) hx hb dX11_comes_27 (by decide) (fun c_6 => ?_) (fun c_6 => ?_)
    ·
      have kc_6 : (v 1).toInt < (8 : Int) := i_lt c_6
      refine lv_lload_n hx hb dX11_comes_32 rfl (lv_at hl 2 rfl) ?_
      refine lv_l2i hx hb dX11_comes_33 rfl ?_
      refine lv_topi (fun x_7 ex_7 => ?_)
      have fx_7 : x_7.toInt = p2.toInt := by rw [ex_7]; exact l_l2i (by omega) (by omega)
      refine lv_istore (lv' := [(4, .int x_7), (0, .ref (ad 0)), (1, .int p1), (2, .long p2)]) hx hb dX11_comes_34 hl (by decide) rfl (fun ls hl => ?_)
      refine lv_aload_n hx hb dX11_comes_36 rfl (lv_at hl 1 rfl) ?_
      refine gf_main_shelves hx hb hg hown hK hP rfl (hg _ q2_133) dX11_comes_37 ?_
      refine lv_iload_n hx hb dX11_comes_40 rfl (lv_at hl 2 rfl) ?_
      refine lv_iload hx hb dX11_comes_41 (lv_at hl 0 rfl) ?_
      refine cV_rol (As := [.int p1, .int x_7]) (rest := []) ⟨hx, hb, hml, hown, hg⟩ (k_X10_get l D cs A ad fa fq rv v a w fv fp  p1 x_7 (show 0 ≤ p1.toInt by first | omega | decide) (show p1.toInt < 6 by first | omega | decide) (show 0 ≤ x_7.toInt by first | omega | decide) (show x_7.toInt < 60 by first | omega | decide)) ca_X10_get q2_230 ⟨rfl, rfl⟩ ⟨Nat.le_of_ble_eq_true rfl, Nat.le_of_ble_eq_true rfl⟩ (rc_shelves hK hP) hK hP hD hS hZ rfl hl.1 rfl (Nat.le_of_ble_eq_true rfl) ⟨Nat.zero_le _, Nat.zero_le _⟩ dX11_comes_43 (fun r_8 wr_8 => ?_)
      have wr_8_0 : r_8 = ((w p1.toNatClampNeg) x_7.toNatClampNeg) := wr_8
      refine lv_l2i hx hb dX11_comes_46 rfl ?_
      refine lv_topi (fun x_9 ex_9 => ?_)
      have kg0 : x_9.toInt = ((w p1.toNatClampNeg) (p2.toInt.toNat)).toInt32.toInt := by rw [ex_9, wr_8_0, show (x_7).toNatClampNeg = p2.toInt.toNat from (by show (x_7).toInt.toNat = _; omega)]
      refine lv_istore (lv' := [(5, .int x_9), (4, .int x_7), (0, .ref (ad 0)), (1, .int p1), (2, .long p2)]) hx hb dX11_comes_47 hl (by decide) rfl (fun ls hl => ?_)
      refine lv_aload_n hx hb dX11_comes_49 rfl (lv_at hl 2 rfl) ?_
      refine gf_main_shelves hx hb hg hown hK hP rfl (hg _ q2_133) dX11_comes_50 ?_
      refine lv_iload_n hx hb dX11_comes_53 rfl (lv_at hl 3 rfl) ?_
      refine lv_iload hx hb dX11_comes_54 (lv_at hl 1 rfl) ?_
      refine lv_iconst (v := 1) hx hb dX11_comes_56 (by decide) ?_
      refine lv_iadd hx hb dX11_comes_57 ?_
      refine lv_topi (fun x_10 ex_10 => ?_)
      have fx_10 : x_10.toInt = x_7.toInt + (1 : Int) := by rw [ex_10]; exact i_add (by first | omega | (show (_ : Int) ≤ x_7.toInt + (1 : Int); omega)) (by first | omega | (show x_7.toInt + (1 : Int) ≤ (_ : Int); omega))
      refine cV_rol (As := [.int p1, .int x_10]) (rest := []) ⟨hx, hb, hml, hown, hg⟩ (k_X10_get l D cs A ad fa fq rv v a w fv fp  p1 x_10 (show 0 ≤ p1.toInt by first | omega | decide) (show p1.toInt < 6 by first | omega | decide) (show 0 ≤ x_10.toInt by first | omega | decide) (show x_10.toInt < 60 by first | omega | decide)) ca_X10_get q2_230 ⟨rfl, rfl⟩ ⟨Nat.le_of_ble_eq_true rfl, Nat.le_of_ble_eq_true rfl⟩ (rc_shelves hK hP) hK hP hD hS hZ rfl hl.1 rfl (Nat.le_of_ble_eq_true rfl) ⟨Nat.zero_le _, Nat.zero_le _⟩ dX11_comes_58 (fun r_11 wr_11 => ?_)
      have wr_11_0 : r_11 = ((w p1.toNatClampNeg) x_10.toNatClampNeg) := wr_11
      refine lv_l2i hx hb dX11_comes_61 rfl ?_
      refine lv_topi (fun x_12 ex_12 => ?_)
      have kg1 : x_12.toInt = ((w p1.toNatClampNeg) (p2.toInt.toNat + 1)).toInt32.toInt := by rw [ex_12, wr_11_0, show (x_10).toNatClampNeg = p2.toInt.toNat + 1 from (by show (x_10).toInt.toNat = _; omega)]
      refine lv_istore (lv' := [(6, .int x_12), (5, .int x_9), (4, .int x_7), (0, .ref (ad 0)), (1, .int p1), (2, .long p2)]) hx hb dX11_comes_62 hl (by decide) rfl (fun ls hl => ?_)
      refine lv_aload_n hx hb dX11_comes_64 rfl (lv_at hl 3 rfl) ?_
      refine gf_main_shelves hx hb hg hown hK hP rfl (hg _ q2_133) dX11_comes_65 ?_
      refine lv_iload_n hx hb dX11_comes_68 rfl (lv_at hl 4 rfl) ?_
      refine lv_iload hx hb dX11_comes_69 (lv_at hl 2 rfl) ?_
      refine lv_iconst (v := 2) hx hb dX11_comes_71 (by decide) ?_
      refine lv_iadd hx hb dX11_comes_72 ?_
      refine lv_topi (fun x_13 ex_13 => ?_)
      have fx_13 : x_13.toInt = x_7.toInt + (2 : Int) := by rw [ex_13]; exact i_add (by first | omega | (show (_ : Int) ≤ x_7.toInt + (2 : Int); omega)) (by first | omega | (show x_7.toInt + (2 : Int) ≤ (_ : Int); omega))
      refine cV_rol (As := [.int p1, .int x_13]) (rest := []) ⟨hx, hb, hml, hown, hg⟩ (k_X10_get l D cs A ad fa fq rv v a w fv fp  p1 x_13 (show 0 ≤ p1.toInt by first | omega | decide) (show p1.toInt < 6 by first | omega | decide) (show 0 ≤ x_13.toInt by first | omega | decide) (show x_13.toInt < 60 by first | omega | decide)) ca_X10_get q2_230 ⟨rfl, rfl⟩ ⟨Nat.le_of_ble_eq_true rfl, Nat.le_of_ble_eq_true rfl⟩ (rc_shelves hK hP) hK hP hD hS hZ rfl hl.1 rfl (Nat.le_of_ble_eq_true rfl) ⟨Nat.zero_le _, Nat.zero_le _⟩ dX11_comes_73 (fun r_14 wr_14 => ?_)
      have wr_14_0 : r_14 = ((w p1.toNatClampNeg) x_13.toNatClampNeg) := wr_14
      refine lv_l2i hx hb dX11_comes_76 rfl ?_
      refine lv_topi (fun x_15 ex_15 => ?_)
      have kg2 : x_15.toInt = ((w p1.toNatClampNeg) (p2.toInt.toNat + 2)).toInt32.toInt := by rw [ex_15, wr_14_0, show (x_13).toNatClampNeg = p2.toInt.toNat + 2 from (by show (x_13).toInt.toNat = _; omega)]
      refine lv_istore (lv' := [(7, .int x_15), (6, .int x_12), (5, .int x_9), (4, .int x_7), (0, .ref (ad 0)), (1, .int p1), (2, .long p2)]) hx hb dX11_comes_77 hl (by decide) rfl (fun ls hl => ?_)
      refine lv_iload hx hb dX11_comes_79 (lv_at hl 2 rfl) ?_
      refine cS_p (As := [.int x_9]) (rest := []) ⟨hx, hb, hml, hown, hg⟩ (k_X11_isCell l   x_9 ) ca_X11_isCell q2_173 ⟨rfl, rfl⟩ ⟨Nat.le_of_ble_eq_true rfl, Nat.le_of_ble_eq_true rfl⟩ rfl hl.1 rfl (Nat.le_of_ble_eq_true rfl) ⟨Nat.zero_le _, Nat.zero_le _⟩ dX11_comes_81 (fun r_16 wr_16 => ?_)
      have wr_16 : (r_16.toInt = 1 ∧ 0 ≤ x_9.toInt ∧ x_9.toInt < 256) ∨ (r_16.toInt = 0 ∧ ¬ (0 ≤ x_9.toInt ∧ x_9.toInt < 256)) := wr_16
      refine lv_if_eq (tgt := 117) hx hb dX11_comes_84 (by decide) (fun c_17 => ?_) (fun c_17 => ?_)
      ·
        have kc_17 : r_16.toInt = (0 : Int) := i_eq c_17
        refine lv_iconst (v := 0) hx hb dX11_comes_117 (by decide) ?_
        have q0_0 : (0 : Int32).toInt = 0 := rfl
        have hP : va_P D vwCl (CW cs ad fa fq rv (va_up v 1 (v 1)) (va_up (va_up (va_up (va_up a 11 (a 11)) 12 (a 12)) 13 (a 13)) 14 (a 14)) w fv (va_up fp 14 (fp 14))) _ := hP
        have hD : va_D A (CW cs ad fa fq rv (va_up v 1 (v 1)) (va_up (va_up (va_up (va_up a 11 (a 11)) 12 (a 12)) 13 (a 13)) 14 (a 14)) w fv (va_up fp 14 (fp 14))) := hD
        exact W.zret (v := 0) hx hb hr rfl (fun tt ht hW => ⟨⟨0, ⟨(v 1), (a 11), (a 12), (a 13), (a 14), (fp 14)⟩, rfl, ⟨(by first | rfl | omega | trivial | assumption | (dsimp only; first | omega | assumption)), (by first | rfl | omega | trivial | assumption | (dsimp only; first | omega | assumption)), (by first | rfl | omega | trivial | assumption | (dsimp only; first | omega | assumption)), (fun q => absurd q (by decide)), (fun _ q => by have q3 := q.2.2; unfold IS3 at q3; omega), (show 0 ≤ (v 1).toInt by first | omega | assumption), (show (v 1).toInt ≤ 8 by first | omega | assumption)⟩, by rw [ht]; exact hP, hD⟩, hS.F ht⟩) hS.2.2 dX11_comes_118
      ·
        have kc_17 : r_16.toInt ≠ (0 : Int) := i_ne c_17
        refine lv_iload hx hb dX11_comes_87 (lv_at hl 1 rfl) ?_
        refine lv_if_lt (tgt := 117) hx hb dX11_comes_89 (by decide) (fun c_18 => ?_) (fun c_18 => ?_)
        ·
          have kc_18 : x_12.toInt < (0 : Int) := i_lt c_18
          refine lv_iconst (v := 0) hx hb dX11_comes_117 (by decide) ?_
          have q0_0 : (0 : Int32).toInt = 0 := rfl
          have hP : va_P D vwCl (CW cs ad fa fq rv (va_up v 1 (v 1)) (va_up (va_up (va_up (va_up a 11 (a 11)) 12 (a 12)) 13 (a 13)) 14 (a 14)) w fv (va_up fp 14 (fp 14))) _ := hP
          have hD : va_D A (CW cs ad fa fq rv (va_up v 1 (v 1)) (va_up (va_up (va_up (va_up a 11 (a 11)) 12 (a 12)) 13 (a 13)) 14 (a 14)) w fv (va_up fp 14 (fp 14))) := hD
          exact W.zret (v := 0) hx hb hr rfl (fun tt ht hW => ⟨⟨0, ⟨(v 1), (a 11), (a 12), (a 13), (a 14), (fp 14)⟩, rfl, ⟨(by first | rfl | omega | trivial | assumption | (dsimp only; first | omega | assumption)), (by first | rfl | omega | trivial | assumption | (dsimp only; first | omega | assumption)), (by first | rfl | omega | trivial | assumption | (dsimp only; first | omega | assumption)), (fun q => absurd q (by decide)), (fun _ q => by have q3 := q.2.2; unfold IS3 at q3; omega), (show 0 ≤ (v 1).toInt by first | omega | assumption), (show (v 1).toInt ≤ 8 by first | omega | assumption)⟩, by rw [ht]; exact hP, hD⟩, hS.F ht⟩) hS.2.2 dX11_comes_118
        ·
          have kc_18 : (0 : Int) ≤ x_12.toInt := i_nlt c_18
          refine lv_iload hx hb dX11_comes_92 (lv_at hl 1 rfl) ?_
          obtain ⟨t0, t1, t2, ⟨a0, b0⟩, ⟨a1, b1⟩, ⟨a2, b2⟩⟩ := id hZ
          refine va_gets hx hb a0 hS hown (hg _ q2_234) (fun _ h9 => h9) dX11_comes_94 ?_
          refine lv_iconst (v := 1) hx hb dX11_comes_97 (by decide) ?_
          refine va_ti hx hb b0 hS (i_in (by decide) (by decide)) (v := .int 12) rfl dX11_comes_98 ?_
          refine lv_icmp_gt (tgt := 117) hx hb dX11_comes_99 (by decide) (fun c_19 => ?_) (fun c_19 => ?_)
          ·
            have kc_19 : (12 : Int) < x_12.toInt := i_lt c_19
            refine lv_iconst (v := 0) hx hb dX11_comes_117 (by decide) ?_
            have q0_0 : (0 : Int32).toInt = 0 := rfl
            have hP : va_P D vwCl (CW cs ad fa fq rv (va_up v 1 (v 1)) (va_up (va_up (va_up (va_up a 11 (a 11)) 12 (a 12)) 13 (a 13)) 14 (a 14)) w fv (va_up fp 14 (fp 14))) _ := hP
            have hD : va_D A (CW cs ad fa fq rv (va_up v 1 (v 1)) (va_up (va_up (va_up (va_up a 11 (a 11)) 12 (a 12)) 13 (a 13)) 14 (a 14)) w fv (va_up fp 14 (fp 14))) := hD
            exact W.zret (v := 0) hx hb hr rfl (fun tt ht hW => ⟨⟨0, ⟨(v 1), (a 11), (a 12), (a 13), (a 14), (fp 14)⟩, rfl, ⟨(by first | rfl | omega | trivial | assumption | (dsimp only; first | omega | assumption)), (by first | rfl | omega | trivial | assumption | (dsimp only; first | omega | assumption)), (by first | rfl | omega | trivial | assumption | (dsimp only; first | omega | assumption)), (fun q => absurd q (by decide)), (fun _ q => by have q3 := q.2.2; unfold IS3 at q3; omega), (show 0 ≤ (v 1).toInt by first | omega | assumption), (show (v 1).toInt ≤ 8 by first | omega | assumption)⟩, by rw [ht]; exact hP, hD⟩, hS.F ht⟩) hS.2.2 dX11_comes_118
          ·
            have kc_19 : x_12.toInt ≤ (12 : Int) := i_nlt c_19
            refine lv_iload hx hb dX11_comes_102 (lv_at hl 0 rfl) ?_
            refine lv_if_lt (tgt := 117) hx hb dX11_comes_104 (by decide) (fun c_20 => ?_) (fun c_20 => ?_)
            ·
              have kc_20 : x_15.toInt < (0 : Int) := i_lt c_20
              refine lv_iconst (v := 0) hx hb dX11_comes_117 (by decide) ?_
              have q0_0 : (0 : Int32).toInt = 0 := rfl
              have hP : va_P D vwCl (CW cs ad fa fq rv (va_up v 1 (v 1)) (va_up (va_up (va_up (va_up a 11 (a 11)) 12 (a 12)) 13 (a 13)) 14 (a 14)) w fv (va_up fp 14 (fp 14))) _ := hP
              have hD : va_D A (CW cs ad fa fq rv (va_up v 1 (v 1)) (va_up (va_up (va_up (va_up a 11 (a 11)) 12 (a 12)) 13 (a 13)) 14 (a 14)) w fv (va_up fp 14 (fp 14))) := hD
              exact W.zret (v := 0) hx hb hr rfl (fun tt ht hW => ⟨⟨0, ⟨(v 1), (a 11), (a 12), (a 13), (a 14), (fp 14)⟩, rfl, ⟨(by first | rfl | omega | trivial | assumption | (dsimp only; first | omega | assumption)), (by first | rfl | omega | trivial | assumption | (dsimp only; first | omega | assumption)), (by first | rfl | omega | trivial | assumption | (dsimp only; first | omega | assumption)), (fun q => absurd q (by decide)), (fun _ q => by have q3 := q.2.2; unfold IS3 at q3; omega), (show 0 ≤ (v 1).toInt by first | omega | assumption), (show (v 1).toInt ≤ 8 by first | omega | assumption)⟩, by rw [ht]; exact hP, hD⟩, hS.F ht⟩) hS.2.2 dX11_comes_118
            ·
              have kc_20 : (0 : Int) ≤ x_15.toInt := i_nlt c_20
              refine lv_iload hx hb dX11_comes_107 (lv_at hl 0 rfl) ?_
              obtain ⟨t0, t1, t2, ⟨a0, b0⟩, ⟨a1, b1⟩, ⟨a2, b2⟩⟩ := id hZ
              refine va_gets hx hb a0 hS hown (hg _ q2_234) (fun _ h9 => h9) dX11_comes_109 ?_
              refine lv_iconst (v := 2) hx hb dX11_comes_112 (by decide) ?_
              refine va_ti hx hb b0 hS (i_in (by decide) (by decide)) (v := .int 9) rfl dX11_comes_113 ?_
              refine lv_icmp_le (tgt := 119) hx hb dX11_comes_114 (by decide) (fun c_21 => ?_) (fun c_21 => ?_)
              ·
                have kc_21 : x_15.toInt ≤ (9 : Int) := i_le c_21
                refine lv_aload_n hx hb dX11_comes_119 rfl (lv_at hl 4 rfl) ?_
                refine lv_iload hx hb dX11_comes_120 (lv_at hl 2 rfl) ?_
                refine lv_iload hx hb dX11_comes_122 (lv_at hl 1 rfl) ?_
                refine lv_iload hx hb dX11_comes_124 (lv_at hl 0 rfl) ?_
                refine cV_i (As := [.int x_9, .int x_12, .int x_15]) (rest := []) ⟨hx, hb, hml, hown, hg⟩ (k_X11_join l D cs A ad fa fq rv v a w fv fp  x_9 x_12 x_15 (show (v 1).toInt ≤ 7 by first | omega | decide) (show 0 ≤ (v 1).toInt by first | omega | decide) (show (v 1).toInt ≤ 8 by first | omega | decide)) ca_X11_join q2_176 ⟨rfl, rfl⟩ ⟨Nat.le_of_ble_eq_true rfl, Nat.le_of_ble_eq_true rfl⟩ (rc_main hK hP) hK hP hD hS hZ rfl hl.1 rfl (Nat.le_of_ble_eq_true rfl) ⟨Nat.zero_le _, Nat.zero_le _⟩ dX11_comes_126 (fun r_22 z_29 H locs wr_22 hP hD hS => ?_)
                obtain ⟨o_v1_23, o_a11_24, o_a12_25, o_a13_26, o_a14_27, o_fp14_28⟩ := z_29
                have hP : va_P D vwCl (CW cs ad fa fq rv (va_up v 1 o_v1_23) (va_up (va_up (va_up (va_up a 11 o_a11_24) 12 o_a12_25) 13 o_a13_26) 14 o_a14_27) w fv (va_up fp 14 o_fp14_28)) H := hP
                have hD : va_D A (CW cs ad fa fq rv (va_up v 1 o_v1_23) (va_up (va_up (va_up (va_up a 11 o_a11_24) 12 o_a12_25) 13 o_a13_26) 14 o_a14_27) w fv (va_up fp 14 o_fp14_28)) := hD
                obtain ⟨wr_22_0, wr_22_1, wr_22_2, wr_22_3⟩ : (r_22.toInt = (v 1).toInt) ∧ (o_v1_23.toInt = (v 1).toInt + 1) ∧ (0 ≤ o_v1_23.toInt) ∧ (o_v1_23.toInt ≤ 8) := wr_22
                refine lv_pop hx hb dX11_comes_129 rfl ?_
                refine lv_iconst (v := 1) hx hb dX11_comes_130 (by decide) ?_
                have q0_1 : (1 : Int32).toInt = 1 := rfl
                exact W.zret (v := 1) hx hb hr rfl (fun tt ht hW => ⟨⟨1, ⟨o_v1_23, o_a11_24, o_a12_25, o_a13_26, o_a14_27, o_fp14_28⟩, rfl, ⟨(by first | rfl | omega | trivial | assumption | (dsimp only; first | omega | assumption)), (by first | rfl | omega | trivial | assumption | (dsimp only; first | omega | assumption)), (by first | rfl | omega | trivial | assumption | (dsimp only; first | omega | assumption)), (fun _ => ⟨by omega, by omega, ⟨by omega, by omega⟩, ⟨by omega, by omega⟩, ⟨by omega, by omega⟩⟩), (fun q => absurd q (by decide)), (show 0 ≤ o_v1_23.toInt by first | omega | assumption), (show o_v1_23.toInt ≤ 8 by first | omega | assumption)⟩, by rw [ht]; exact hP, hD⟩, hS.F ht⟩) hS.2.2 dX11_comes_131
              ·
                have kc_21 : (9 : Int) < x_15.toInt := i_nle c_21
                refine lv_iconst (v := 0) hx hb dX11_comes_117 (by decide) ?_
                have q0_0 : (0 : Int32).toInt = 0 := rfl
                have hP : va_P D vwCl (CW cs ad fa fq rv (va_up v 1 (v 1)) (va_up (va_up (va_up (va_up a 11 (a 11)) 12 (a 12)) 13 (a 13)) 14 (a 14)) w fv (va_up fp 14 (fp 14))) _ := hP
                have hD : va_D A (CW cs ad fa fq rv (va_up v 1 (v 1)) (va_up (va_up (va_up (va_up a 11 (a 11)) 12 (a 12)) 13 (a 13)) 14 (a 14)) w fv (va_up fp 14 (fp 14))) := hD
                exact W.zret (v := 0) hx hb hr rfl (fun tt ht hW => ⟨⟨0, ⟨(v 1), (a 11), (a 12), (a 13), (a 14), (fp 14)⟩, rfl, ⟨(by first | rfl | omega | trivial | assumption | (dsimp only; first | omega | assumption)), (by first | rfl | omega | trivial | assumption | (dsimp only; first | omega | assumption)), (by first | rfl | omega | trivial | assumption | (dsimp only; first | omega | assumption)), (fun q => absurd q (by decide)), (fun _ q => by have q3 := q.2.2; unfold IS3 at q3; omega), (show 0 ≤ (v 1).toInt by first | omega | assumption), (show (v 1).toInt ≤ 8 by first | omega | assumption)⟩, by rw [ht]; exact hP, hD⟩, hS.F ht⟩) hS.2.2 dX11_comes_118
    ·
      have kc_6 : (8 : Int) ≤ (v 1).toInt := i_nlt c_6
      refine lv_iconst (v := 0) hx hb dX11_comes_30 (by decide) ?_
      have q0_0 : (0 : Int32).toInt = 0 := rfl
      have hP : va_P D vwCl (CW cs ad fa fq rv (va_up v 1 (v 1)) (va_up (va_up (va_up (va_up a 11 (a 11)) 12 (a 12)) 13 (a 13)) 14 (a 14)) w fv (va_up fp 14 (fp 14))) _ := hP
      have hD : va_D A (CW cs ad fa fq rv (va_up v 1 (v 1)) (va_up (va_up (va_up (va_up a 11 (a 11)) 12 (a 12)) 13 (a 13)) 14 (a 14)) w fv (va_up fp 14 (fp 14))) := hD
      exact W.zret (v := 0) hx hb hr rfl (fun tt ht hW => ⟨⟨0, ⟨(v 1), (a 11), (a 12), (a 13), (a 14), (fp 14)⟩, rfl, ⟨(by first | rfl | omega | trivial | assumption | (dsimp only; first | omega | assumption)), (by first | rfl | omega | trivial | assumption | (dsimp only; first | omega | assumption)), (by first | rfl | omega | trivial | assumption | (dsimp only; first | omega | assumption)), (fun q => absurd q (by decide)), (fun _ q => by have q1 := q.1; have q2 := q.2.1; omega), (show 0 ≤ (v 1).toInt by first | omega | assumption), (show (v 1).toInt ≤ 8 by first | omega | assumption)⟩, by rw [ht]; exact hP, hD⟩, hS.F ht⟩) hS.2.2 dX11_comes_31
set_option maxHeartbeats 4000000 in
set_option maxRecDepth 100000 in
theorem k_X11_people (l : Launch) (D : va_G) (cs : Nat → ClassId) (A : Nat → Prop) (ad fa fq rv : Nat → Nat) (v : Nat → Int32) (a : Nat → Nat → Int32) (w : Nat → Nat → Int64) (fv fp : Nat → Nat → Int32)  (p1 : Int32) (p2 : Int32) (p3 : Int32) (ia28_0 : AB (-1) 5 (a 28)) (ia29_0 : AB (-1) 60 (a 29)) (iv1_0 : 0 ≤ (v 1).toInt) (iv1_1 : (v 1).toInt ≤ 8) : Met l yX11_people (Cond.code yX11_people cX11_people 5 (some .int) :: gw) ({ frames := 6, cells := 0, slots := 0, locals := 141 }) (va_Pc [.ref (ad 0), .int p1, .int p2, .int p3] (XPre D (TY cs) (CW cs ad fa fq rv v a w fv fp) A)) (va_Qi (fun (r : Int32) (z : Int32 × (Nat → Int32) × (Nat → Int32) × (Nat → Int32) × (Nat → Int32) × (Nat → Int32)) => ((v 1).toInt ≤ z.1.toInt) ∧ ((¬ ((0 ≤ p1.toInt ∧ p1.toInt < 6) ∧ 1 ≤ p3.toInt ∧ p3.toInt ≤ 8) ∧ r.toInt = -1 ∧ z.1.toInt = (v 1).toInt) ∨ (((0 ≤ p1.toInt ∧ p1.toInt < 6) ∧ 1 ≤ p3.toInt ∧ p3.toInt ≤ 8) ∧ ((((a 28) p1.toNatClampNeg).toInt = -1 ∧ r.toInt = 0 ∧ z.1.toInt = (v 1).toInt) ∨ (((a 28) p1.toNatClampNeg).toInt ≠ -1 ∧ ((a 28) p1.toNatClampNeg).toInt ≠ 1 ∧ r.toInt = -12 ∧ z.1.toInt = (v 1).toInt) ∨ (((a 28) p1.toNatClampNeg).toInt = 1 ∧ CAME (w p1.toNatClampNeg) ((a 29) p1.toNatClampNeg).toInt (v 1).toInt p2.toInt p3.toInt r.toInt ∧ z.1.toInt = (v 1).toInt + r.toInt)))) ∧ (0 ≤ z.1.toInt) ∧ (z.1.toInt ≤ 8)) (XPo D (fun (z : Int32 × (Nat → Int32) × (Nat → Int32) × (Nat → Int32) × (Nat → Int32) × (Nat → Int32)) => CW cs ad fa fq rv (va_up v 1 z.1) (va_up (va_up (va_up (va_up a 11 z.2.1) 12 z.2.2.1) 13 z.2.2.2.1) 14 z.2.2.2.2.1) w fv (va_up fp 14 z.2.2.2.2.2)) A) A) 0 0 A := by
  refine Met.ofW (cc := cX11_people) (maxL := 5) (ret := (some .int)) (by decide) rfl ?_
  intro p e s m args below meth c s₁ B hml hv
  obtain ⟨rfl, hP, hK, hD, hZ⟩ := hv
  have hx := B.exec
  have hb := B.bytes
  have hr := B.returns
  have hts := atoms_spec (ws := (Cond.code yX11_people cX11_people 5 (some .int) :: gw)) B.pre
  have hg : ∀ w ∈ gw, w.before ([.ref (ad 0), .int p1, .int p2, .int p3] : List Value).toArray s = true := fun w h => hts w (List.mem_cons_of_mem _ h)
  have hown : s.vm.findClass RX11 = some m.cls := findClass_of_methodNamed B.named
  have hlocks := B.notSynchronized
  have hS : va_S A s.heap s.heap [] := va_S.rf
  have hP : va_P D vwCl (CW cs ad fa fq rv v a w fv fp) s.heap := hP
  have hl := lv_entry ([.ref (ad 0), .int p1, .int p2, .int p3]) (n := 5) (Nat.le_of_ble_eq_true rfl)
  rw [lg_entry_eq]
  generalize (lg_sl ([.ref (ad 0), .int p1, .int p2, .int p3]) ++ List.replicate (5 - (lg_sl ([.ref (ad 0), .int p1, .int p2, .int p3])).length) Slot.unset).toArray = ls at hl ⊢
  have hl : lv_has ls 5 [(0, .ref (ad 0)), (1, .int p1), (2, .int p2), (3, .int p3)] := hl
  have hcut : ∀ nk : Nat, (∀ (x4 : Int32) (c51_v1 : Int32) (c51_a11 : Nat → Int32) (c51_a12 : Nat → Int32) (c51_a13 : Nat → Int32) (c51_a14 : Nat → Int32) (c51_fp14 : Nat → Int32) (H : Heap) (locs : List Loc) (j1 : 0 ≤ p1.toInt) (j2 : p1.toInt < 6) (j3 : p3.toInt ≤ 8) (j31 : 1 ≤ p3.toInt) (i4 : 0 ≤ x4.toInt) (i4n : x4.toInt ≤ p3.toInt) (i5 : (v 1).toInt ≤ c51_v1.toInt) (hrow : ((a 28) p1.toNatClampNeg).toInt = 1) (hv : c51_v1.toInt = (v 1).toInt + x4.toInt) (hi : 0 < x4.toInt → 0 ≤ p2.toInt) (hc : ∀ t : Nat, t < x4.toInt.toNat → OKP (w p1.toNatClampNeg) ((a 29) p1.toNatClampNeg).toInt (v 1).toInt p2.toInt t) (jv1_0 : 0 ≤ c51_v1.toInt) (jv1_1 : c51_v1.toInt ≤ 8) (hmu : (p3.toInt - x4.toInt).toNat < nk) (hP : va_P D vwCl (CW cs ad fa fq rv (va_up v 1 c51_v1) (va_up (va_up (va_up (va_up a 11 c51_a11) 12 c51_a12) 13 c51_a13) 14 c51_a14) w fv (va_up fp 14 c51_fp14)) H) (hD : va_D A (CW cs ad fa fq rv (va_up v 1 c51_v1) (va_up (va_up (va_up (va_up a 11 c51_a11) 12 c51_a12) 13 c51_a13) 14 c51_a14) w fv (va_up fp 14 c51_fp14))) (hS : va_S A s.heap H locs) (ls : Array Slot) (hl : lv_has ls 5 [(0, .ref (ad 0)), (1, .int p1), (2, .int p2), (3, .int p3), (4, .int x4)]), W p l e (headSpec (Cond.code yX11_people cX11_people 5 (some .int) :: gw) ({ frames := 6, cells := 0, slots := 0, locals := 141 })).room s m ([.ref (ad 0), .int p1, .int p2, .int p3] : List Value).toArray below meth c H locs 0 0 (MQ below (va_Qi (fun (r : Int32) (z : Int32 × (Nat → Int32) × (Nat → Int32) × (Nat → Int32) × (Nat → Int32) × (Nat → Int32)) => ((v 1).toInt ≤ z.1.toInt) ∧ ((¬ ((0 ≤ p1.toInt ∧ p1.toInt < 6) ∧ 1 ≤ p3.toInt ∧ p3.toInt ≤ 8) ∧ r.toInt = -1 ∧ z.1.toInt = (v 1).toInt) ∨ (((0 ≤ p1.toInt ∧ p1.toInt < 6) ∧ 1 ≤ p3.toInt ∧ p3.toInt ≤ 8) ∧ ((((a 28) p1.toNatClampNeg).toInt = -1 ∧ r.toInt = 0 ∧ z.1.toInt = (v 1).toInt) ∨ (((a 28) p1.toNatClampNeg).toInt ≠ -1 ∧ ((a 28) p1.toNatClampNeg).toInt ≠ 1 ∧ r.toInt = -12 ∧ z.1.toInt = (v 1).toInt) ∨ (((a 28) p1.toNatClampNeg).toInt = 1 ∧ CAME (w p1.toNatClampNeg) ((a 29) p1.toNatClampNeg).toInt (v 1).toInt p2.toInt p3.toInt r.toInt ∧ z.1.toInt = (v 1).toInt + r.toInt)))) ∧ (0 ≤ z.1.toInt) ∧ (z.1.toInt ≤ 8)) (XPo D (fun (z : Int32 × (Nat → Int32) × (Nat → Int32) × (Nat → Int32) × (Nat → Int32) × (Nat → Int32)) => CW cs ad fa fq rv (va_up v 1 z.1) (va_up (va_up (va_up (va_up a 11 z.2.1) 12 z.2.2.1) 13 z.2.2.2.1) 14 z.2.2.2.2.1) w fv (va_up fp 14 z.2.2.2.2.2)) A) A) ([.ref (ad 0), .int p1, .int p2, .int p3] : List Value).toArray s 0 0 A) (F0 m 51 ls [])) := by
    intro nk
    induction nk with
    | zero => exact (fun x4 c51_v1 c51_a11 c51_a12 c51_a13 c51_a14 c51_fp14 H locs j1 j2 j3 j31 i4 i4n i5 hrow hv hi hc jv1_0 jv1_1 hmu hP hD hS ls hl => absurd hmu (Nat.not_lt_zero _))
    | succ nk ih =>
      intro x4 c51_v1 c51_a11 c51_a12 c51_a13 c51_a14 c51_fp14 H locs j1 j2 j3 j31 i4 i4n i5 hrow hv hi hc jv1_0 jv1_1 hmu hP hD hS ls hl
      refine lv_iload hx hb dX11_people_51 (lv_at hl 4 rfl) ?_
      refine lv_iload_n hx hb dX11_people_53 rfl (lv_at hl 3 rfl) ?_
      refine lv_icmp_ge (tgt := 85) hx hb dX11_people_54 (by decide) (fun c_1 => ?_) (fun c_1 => ?_)
      ·
        have kc_1 : p3.toInt ≤ x4.toInt := i_le c_1
        refine lv_iload hx hb dX11_people_85 (lv_at hl 4 rfl) ?_
        exact W.iret (v := x4) hx hb hr (fun tt ht hW => ⟨⟨x4, ⟨c51_v1, c51_a11, c51_a12, c51_a13, c51_a14, c51_fp14⟩, rfl, ⟨(by first | rfl | omega | trivial | assumption | (dsimp only; first | omega | assumption)), (by (try dsimp only); first | exact Or.inr ⟨by omega, Or.inr (Or.inr ⟨by omega, ⟨by omega, by omega, fun t ht => hc t (by omega), by first | exact Or.inl (by omega) | exact Or.inr (kc0 (by omega)) | exact Or.inr (fun h => by have h1 := h.1; omega) | exact Or.inr (fun h => by have h1 := h.1; have h2 := h.2.1; have h3 := h.2.2.1; omega) | exact Or.inr (fun h => kn0 (by first | exact h | simpa using h))⟩, by omega⟩)⟩), (show 0 ≤ c51_v1.toInt by first | omega | assumption), (show c51_v1.toInt ≤ 8 by first | omega | assumption)⟩, by rw [ht]; exact hP, hD⟩, hS.F ht⟩) hS.2.2 dX11_people_87
      ·
        have kc_1 : x4.toInt < p3.toInt := i_nle c_1
        refine lv_iload_n hx hb dX11_people_57 rfl (lv_at hl 2 rfl) ?_
        refine lv_if_lt (tgt := 85) hx hb dX11_people_58 (by decide) (fun c_2 => ?_) (fun c_2 => ?_)
        ·
          have kc_2 : p2.toInt < (0 : Int) := i_lt c_2
          refine lv_iload hx hb dX11_people_85 (lv_at hl 4 rfl) ?_
          exact W.iret (v := x4) hx hb hr (fun tt ht hW => ⟨⟨x4, ⟨c51_v1, c51_a11, c51_a12, c51_a13, c51_a14, c51_fp14⟩, rfl, ⟨(by first | rfl | omega | trivial | assumption | (dsimp only; first | omega | assumption)), (by (try dsimp only); first | exact Or.inr ⟨by omega, Or.inr (Or.inr ⟨by omega, ⟨by omega, by omega, fun t ht => hc t (by omega), by first | exact Or.inl (by omega) | exact Or.inr (kc0 (by omega)) | exact Or.inr (fun h => by have h1 := h.1; omega) | exact Or.inr (fun h => by have h1 := h.1; have h2 := h.2.1; have h3 := h.2.2.1; omega) | exact Or.inr (fun h => kn0 (by first | exact h | simpa using h))⟩, by omega⟩)⟩), (show 0 ≤ c51_v1.toInt by first | omega | assumption), (show c51_v1.toInt ≤ 8 by first | omega | assumption)⟩, by rw [ht]; exact hP, hD⟩, hS.F ht⟩) hS.2.2 dX11_people_87
        ·
          have kc_2 : (0 : Int) ≤ p2.toInt := i_nlt c_2
          refine lv_aload_n hx hb dX11_people_61 rfl (lv_at hl 0 rfl) ?_
          refine lv_iload_n hx hb dX11_people_62 rfl (lv_at hl 1 rfl) ?_
          refine lv_iload_n hx hb dX11_people_63 rfl (lv_at hl 2 rfl) ?_
          refine lv_i2l hx hb dX11_people_64 rfl ?_
          refine lv_topl (fun x_3 ex_3 => ?_)
          have fx_3 : x_3.toInt = p2.toInt := by rw [ex_3]; exact l_i2l p2
          have gx_3 := i_bd p2
          refine lv_ldc2 hx hb hown (v := 3) (hg _ q2_216) dX11_people_65 ?_
          refine lv_iload hx hb dX11_people_68 (lv_at hl 4 rfl) ?_
          refine lv_i2l hx hb dX11_people_70 rfl ?_
          refine lv_topl (fun x_4 ex_4 => ?_)
          have fx_4 : x_4.toInt = x4.toInt := by rw [ex_4]; exact l_i2l x4
          refine lv_lmul hx hb dX11_people_71 ?_
          refine lv_topl (fun x_5 ex_5 => ?_)
          have ql_3 : (3 : Int64).toInt = 3 := rfl
          have fx_5 : x_5.toInt = (3 : Int) * x_4.toInt := by rw [ex_5]; exact l_mul (by show (_ : Int) ≤ (3 : Int) * x_4.toInt; omega) (by show (3 : Int) * x_4.toInt ≤ (_ : Int); omega)
          refine lv_ladd hx hb dX11_people_72 ?_
          refine lv_topl (fun x_6 ex_6 => ?_)
          have fx_6 : x_6.toInt = x_3.toInt + x_5.toInt := by rw [ex_6]; exact l_add (by show (_ : Int) ≤ x_3.toInt + x_5.toInt; omega) (by show x_3.toInt + x_5.toInt ≤ (_ : Int); omega)
          refine cV_i (As := [.int p1, .long x_6]) (rest := []) ⟨hx, hb, hml, hown, hg⟩ (k_X11_comes l D cs A ad fa fq rv (va_up v 1 c51_v1) (va_up (va_up (va_up (va_up a 11 c51_a11) 12 c51_a12) 13 c51_a13) 14 c51_a14) w fv (va_up fp 14 c51_fp14)  p1 x_6 (show 0 ≤ p1.toInt by first | omega | decide) (show p1.toInt < 6 by first | omega | decide) (show 0 ≤ x_6.toInt by first | omega | decide) (show x_6.toInt ≤ 4294967296 by first | omega | decide) (show ((a 28) p1.toNatClampNeg).toInt = 1 by first | omega | decide) ia28_0 ia29_0 (show 0 ≤ c51_v1.toInt by first | omega | decide) (show c51_v1.toInt ≤ 8 by first | omega | decide)) ca_X11_comes q2_217 ⟨rfl, rfl⟩ ⟨Nat.le_of_ble_eq_true rfl, Nat.le_of_ble_eq_true rfl⟩ (rc_main hK hP) hK hP hD hS hZ rfl hl.1 rfl (Nat.le_of_ble_eq_true rfl) ⟨Nat.zero_le _, Nat.zero_le _⟩ dX11_people_73 (fun r_7 z_14 H locs wr_7 hP hD hS => ?_)
          obtain ⟨o_v1_8, o_a11_9, o_a12_10, o_a13_11, o_a14_12, o_fp14_13⟩ := z_14
          have hP : va_P D vwCl (CW cs ad fa fq rv (va_up v 1 o_v1_8) (va_up (va_up (va_up (va_up a 11 o_a11_9) 12 o_a12_10) 13 o_a13_11) 14 o_a14_12) w fv (va_up fp 14 o_fp14_13)) H := hP
          have hD : va_D A (CW cs ad fa fq rv (va_up v 1 o_v1_8) (va_up (va_up (va_up (va_up a 11 o_a11_9) 12 o_a12_10) 13 o_a13_11) 14 o_a14_12) w fv (va_up fp 14 o_fp14_13)) := hD
          obtain ⟨wr_7_0, wr_7_1, wr_7_2, wr_7_3, wr_7_4, wr_7_5, wr_7_6⟩ : (0 ≤ r_7.toInt) ∧ (r_7.toInt ≤ 1) ∧ (o_v1_8.toInt = c51_v1.toInt + r_7.toInt) ∧ (r_7.toInt = 1 → x_6.toInt + 2 < ((a 29) p1.toNatClampNeg).toInt ∧ c51_v1.toInt < 8 ∧ IS3 (w p1.toNatClampNeg) x_6.toInt.toNat) ∧ (r_7.toInt = 0 → ¬ (x_6.toInt + 2 < ((a 29) p1.toNatClampNeg).toInt ∧ c51_v1.toInt < 8 ∧ IS3 (w p1.toNatClampNeg) x_6.toInt.toNat)) ∧ (0 ≤ o_v1_8.toInt) ∧ (o_v1_8.toInt ≤ 8) := wr_7
          have ek : x_6.toInt.toNat = (p2.toInt + 3 * ((x4.toInt.toNat : Nat) : Int)).toNat := by omega
          have kc1 : r_7.toInt = 1 → OKP (w p1.toNatClampNeg) ((a 29) p1.toNatClampNeg).toInt (v 1).toInt p2.toInt x4.toInt.toNat := fun q => by have h := wr_7_3 q; rw [ek] at h; exact ⟨by omega, by omega, by omega, h.2.2⟩
          have kc0 : r_7.toInt = 0 → ¬ OKP (w p1.toNatClampNeg) ((a 29) p1.toNatClampNeg).toInt (v 1).toInt p2.toInt x4.toInt.toNat := fun q h => wr_7_4 q (by rw [ek]; exact ⟨by (have h1 := h.2.1; omega), by (have h1 := h.2.2.1; omega), h.2.2.2⟩)
          refine lv_if_eq (tgt := 85) hx hb dX11_people_76 (by decide) (fun c_15 => ?_) (fun c_15 => ?_)
          ·
            have kc_15 : r_7.toInt = (0 : Int) := i_eq c_15
            refine lv_iload hx hb dX11_people_85 (lv_at hl 4 rfl) ?_
            exact W.iret (v := x4) hx hb hr (fun tt ht hW => ⟨⟨x4, ⟨o_v1_8, o_a11_9, o_a12_10, o_a13_11, o_a14_12, o_fp14_13⟩, rfl, ⟨(by first | rfl | omega | trivial | assumption | (dsimp only; first | omega | assumption)), (by (try dsimp only); first | exact Or.inr ⟨by omega, Or.inr (Or.inr ⟨by omega, ⟨by omega, by omega, fun t ht => hc t (by omega), by first | exact Or.inl (by omega) | exact Or.inr (kc0 (by omega)) | exact Or.inr (fun h => by have h1 := h.1; omega) | exact Or.inr (fun h => by have h1 := h.1; have h2 := h.2.1; have h3 := h.2.2.1; omega) | exact Or.inr (fun h => kn0 (by first | exact h | simpa using h))⟩, by omega⟩)⟩), (show 0 ≤ o_v1_8.toInt by first | omega | assumption), (show o_v1_8.toInt ≤ 8 by first | omega | assumption)⟩, by rw [ht]; exact hP, hD⟩, hS.F ht⟩) hS.2.2 dX11_people_87
          ·
            have kc_15 : r_7.toInt ≠ (0 : Int) := i_ne c_15
            obtain ⟨x_16, ex_16⟩ : ∃ y : Int32, y = x4 + 1 := ⟨_, rfl⟩
            have fx_16 : x_16.toInt = x4.toInt + 1 := by rw [ex_16]; exact i_add (by first | omega | (show (_ : Int) ≤ x4.toInt + 1; omega)) (by first | omega | (show x4.toInt + 1 ≤ (_ : Int); omega))
            refine lv_iinc (v := x_16) (lv' := [(4, .int x_16), (0, .ref (ad 0)), (1, .int p1), (2, .int p2), (3, .int p3)]) hx hb dX11_people_79 hl (k := 4) rfl (by rw [ex_16]; rfl) (by decide) rfl (fun ls hl => ?_)
            refine lv_goto (tgt := 51) hx hb dX11_people_82 (by decide) ?_
            exact ih x_16 o_v1_8 o_a11_9 o_a12_10 o_a13_11 o_a14_12 o_fp14_13 _ _ (by omega) (by omega) (by omega) (by omega) (by omega) (by omega) (by omega) (by omega) (by omega) (fun _ => by omega) (fun t ht => (Classical.em (t = x4.toInt.toNat)).elim (fun q => by rw [q]; exact kc1 (by omega)) (fun q => hc t (by omega))) (show 0 ≤ o_v1_8.toInt by first | omega | assumption) (show o_v1_8.toInt ≤ 8 by first | omega | assumption) (by omega) hP hD hS ls (lv_sub hl [1, 2, 3, 4, 0] rfl)
  refine lv_iload_n hx hb dX11_people_0 rfl (lv_at hl 1 rfl) ?_
  refine cS_p (As := [.int p1]) (rest := []) ⟨hx, hb, hml, hown, hg⟩ (k_X10_isShelf l   p1 ) ca_X10_isShelf q2_205 ⟨rfl, rfl⟩ ⟨Nat.le_of_ble_eq_true rfl, Nat.le_of_ble_eq_true rfl⟩ rfl hl.1 rfl (Nat.le_of_ble_eq_true rfl) ⟨Nat.zero_le _, Nat.zero_le _⟩ dX11_people_1 (fun r_17 wr_17 => ?_)
  have wr_17 : (r_17.toInt = 1 ∧ 0 ≤ p1.toInt ∧ p1.toInt < 6) ∨ (r_17.toInt = 0 ∧ ¬ (0 ≤ p1.toInt ∧ p1.toInt < 6)) := wr_17
  refine lv_if_eq (tgt := 18) hx hb dX11_people_4 (by decide) (fun c_18 => ?_) (fun c_18 => ?_)
  ·
    have kc_18 : r_17.toInt = (0 : Int) := i_eq c_18
    refine lv_iconst (v := (-1)) hx hb dX11_people_18 (by decide) ?_
    have q0_m1 : ((-1) : Int32).toInt = (-1) := rfl
    have hP : va_P D vwCl (CW cs ad fa fq rv (va_up v 1 (v 1)) (va_up (va_up (va_up (va_up a 11 (a 11)) 12 (a 12)) 13 (a 13)) 14 (a 14)) w fv (va_up fp 14 (fp 14))) _ := hP
    have hD : va_D A (CW cs ad fa fq rv (va_up v 1 (v 1)) (va_up (va_up (va_up (va_up a 11 (a 11)) 12 (a 12)) 13 (a 13)) 14 (a 14)) w fv (va_up fp 14 (fp 14))) := hD
    exact W.iret (v := (-1)) hx hb hr (fun tt ht hW => ⟨⟨(-1), ⟨(v 1), (a 11), (a 12), (a 13), (a 14), (fp 14)⟩, rfl, ⟨(by first | rfl | omega | trivial | assumption | (dsimp only; first | omega | assumption)), (by (try dsimp only); first | exact Or.inl (by omega) | exact Or.inr ⟨by omega, Or.inl (by omega)⟩ | exact Or.inr ⟨by omega, Or.inr (Or.inl (by omega))⟩), (show 0 ≤ (v 1).toInt by first | omega | assumption), (show (v 1).toInt ≤ 8 by first | omega | assumption)⟩, by rw [ht]; exact hP, hD⟩, hS.F ht⟩) hS.2.2 dX11_people_19
  ·
    have kc_18 : r_17.toInt ≠ (0 : Int) := i_ne c_18
    refine lv_iload_n hx hb dX11_people_7 rfl (lv_at hl 3 rfl) ?_
    refine lv_iconst (v := 1) hx hb dX11_people_8 (by decide) ?_
    refine lv_icmp_lt (tgt := 18) hx hb dX11_people_9 (by decide) (fun c_19 => ?_) (fun c_19 => ?_)
    ·
      have kc_19 : p3.toInt < (1 : Int) := i_lt c_19
      refine lv_iconst (v := (-1)) hx hb dX11_people_18 (by decide) ?_
      have q0_m1 : ((-1) : Int32).toInt = (-1) := rfl
      have hP : va_P D vwCl (CW cs ad fa fq rv (va_up v 1 (v 1)) (va_up (va_up (va_up (va_up a 11 (a 11)) 12 (a 12)) 13 (a 13)) 14 (a 14)) w fv (va_up fp 14 (fp 14))) _ := hP
      have hD : va_D A (CW cs ad fa fq rv (va_up v 1 (v 1)) (va_up (va_up (va_up (va_up a 11 (a 11)) 12 (a 12)) 13 (a 13)) 14 (a 14)) w fv (va_up fp 14 (fp 14))) := hD
      exact W.iret (v := (-1)) hx hb hr (fun tt ht hW => ⟨⟨(-1), ⟨(v 1), (a 11), (a 12), (a 13), (a 14), (fp 14)⟩, rfl, ⟨(by first | rfl | omega | trivial | assumption | (dsimp only; first | omega | assumption)), (by (try dsimp only); first | exact Or.inl (by omega) | exact Or.inr ⟨by omega, Or.inl (by omega)⟩ | exact Or.inr ⟨by omega, Or.inr (Or.inl (by omega))⟩), (show 0 ≤ (v 1).toInt by first | omega | assumption), (show (v 1).toInt ≤ 8 by first | omega | assumption)⟩, by rw [ht]; exact hP, hD⟩, hS.F ht⟩) hS.2.2 dX11_people_19
    ·
      have kc_19 : (1 : Int) ≤ p3.toInt := i_nlt c_19
      refine lv_iload_n hx hb dX11_people_12 rfl (lv_at hl 3 rfl) ?_
      refine lv_bipush (v := 8) hx hb dX11_people_13 (by decide) ?_
      refine lv_icmp_le (tgt := 20) hx hb dX11_people_15 (by decide) (fun c_20 => ?_) (fun c_20 => ?_)
      ·
        have kc_20 : p3.toInt ≤ (8 : Int) := i_le c_20
        refine lv_aload_n hx hb dX11_people_20 rfl (lv_at hl 0 rfl) ?_
        refine gf_main_shelves hx hb hg hown hK hP rfl (hg _ q2_133) dX11_people_21 ?_
        refine lv_iload_n hx hb dX11_people_24 rfl (lv_at hl 1 rfl) ?_
        refine cV_ro (As := [.int p1]) (rest := []) ⟨hx, hb, hml, hown, hg⟩ (k_X10_isEmpty l D cs A ad fa fq rv v a w fv fp  p1 (show 0 ≤ p1.toInt by first | omega | decide) (show p1.toInt < 6 by first | omega | decide) ia28_0) ca_X10_isEmpty q2_208 ⟨rfl, rfl⟩ ⟨Nat.le_of_ble_eq_true rfl, Nat.le_of_ble_eq_true rfl⟩ (rc_shelves hK hP) hK hP hD hS hZ rfl hl.1 rfl (Nat.le_of_ble_eq_true rfl) ⟨Nat.zero_le _, Nat.zero_le _⟩ dX11_people_25 (fun r_21 wr_21 => ?_)
        have wr_21_0 : (r_21.toInt = 1 ∧ ((a 28) p1.toNatClampNeg).toInt = -1) ∨ (r_21.toInt = 0 ∧ ¬ (((a 28) p1.toNatClampNeg).toInt = -1)) := wr_21
        refine lv_if_eq (tgt := 33) hx hb dX11_people_28 (by decide) (fun c_22 => ?_) (fun c_22 => ?_)
        ·
          have kc_22 : r_21.toInt = (0 : Int) := i_eq c_22
          refine lv_aload_n hx hb dX11_people_33 rfl (lv_at hl 0 rfl) ?_
          refine gf_main_shelves hx hb hg hown hK hP rfl (hg _ q2_133) dX11_people_34 ?_
          refine lv_iload_n hx hb dX11_people_37 rfl (lv_at hl 1 rfl) ?_
          refine lv_iconst (v := 1) hx hb dX11_people_38 (by decide) ?_
          refine cV_ro (As := [.int p1, .int 1]) (rest := []) ⟨hx, hb, hml, hown, hg⟩ (k_X10_holdsRow l D cs A ad fa fq rv v a w fv fp  p1 1 (show 0 ≤ p1.toInt by first | omega | decide) (show p1.toInt < 6 by first | omega | decide) ia28_0) ca_X10_holdsRow q2_212 ⟨rfl, rfl⟩ ⟨Nat.le_of_ble_eq_true rfl, Nat.le_of_ble_eq_true rfl⟩ (rc_shelves hK hP) hK hP hD hS hZ rfl hl.1 rfl (Nat.le_of_ble_eq_true rfl) ⟨Nat.zero_le _, Nat.zero_le _⟩ dX11_people_39 (fun r_23 wr_23 => ?_)
          have wr_23_0 : (r_23.toInt = 1 ∧ ((a 28) p1.toNatClampNeg).toInt = (1 : Int)) ∨ (r_23.toInt = 0 ∧ ¬ (((a 28) p1.toNatClampNeg).toInt = (1 : Int))) := wr_23
          refine lv_if_ne (tgt := 48) hx hb dX11_people_42 (by decide) (fun c_24 => ?_) (fun c_24 => ?_)
          ·
            have kc_24 : r_23.toInt ≠ (0 : Int) := i_ne c_24
            refine lv_iconst (v := 0) hx hb dX11_people_48 (by decide) ?_
            refine lv_istore (lv' := [(4, .int 0), (0, .ref (ad 0)), (1, .int p1), (2, .int p2), (3, .int p3)]) hx hb dX11_people_49 hl (by decide) rfl (fun ls hl => ?_)
            have q0_0 : (0 : Int32).toInt = 0 := rfl
            exact (hcut (((p3.toInt - (0 : Int32).toInt).toNat) + 1)) 0 (v 1) (a 11) (a 12) (a 13) (a 14) (fp 14) _ _ (by omega) (by omega) (by omega) (by omega) (by omega) (by omega) (by omega) (by omega) (by omega) (fun q => absurd q (by decide)) (fun t ht => absurd ht (by have q : (0 : Int32).toInt = 0 := rfl; omega)) (show 0 ≤ (v 1).toInt by first | omega | assumption) (show (v 1).toInt ≤ 8 by first | omega | assumption) (Nat.lt_succ_self _) hP hD hS ls (lv_sub hl [1, 2, 3, 4, 0] rfl)
          ·
            have kc_24 : r_23.toInt = (0 : Int) := i_eq c_24
            refine lv_bipush (v := (-12)) hx hb dX11_people_45 (by decide) ?_
            have q0_m12 : ((-12) : Int32).toInt = (-12) := rfl
            have hP : va_P D vwCl (CW cs ad fa fq rv (va_up v 1 (v 1)) (va_up (va_up (va_up (va_up a 11 (a 11)) 12 (a 12)) 13 (a 13)) 14 (a 14)) w fv (va_up fp 14 (fp 14))) _ := hP
            have hD : va_D A (CW cs ad fa fq rv (va_up v 1 (v 1)) (va_up (va_up (va_up (va_up a 11 (a 11)) 12 (a 12)) 13 (a 13)) 14 (a 14)) w fv (va_up fp 14 (fp 14))) := hD
            exact W.iret (v := (-12)) hx hb hr (fun tt ht hW => ⟨⟨(-12), ⟨(v 1), (a 11), (a 12), (a 13), (a 14), (fp 14)⟩, rfl, ⟨(by first | rfl | omega | trivial | assumption | (dsimp only; first | omega | assumption)), (by (try dsimp only); first | exact Or.inl (by omega) | exact Or.inr ⟨by omega, Or.inl (by omega)⟩ | exact Or.inr ⟨by omega, Or.inr (Or.inl (by omega))⟩), (show 0 ≤ (v 1).toInt by first | omega | assumption), (show (v 1).toInt ≤ 8 by first | omega | assumption)⟩, by rw [ht]; exact hP, hD⟩, hS.F ht⟩) hS.2.2 dX11_people_47
        ·
          have kc_22 : r_21.toInt ≠ (0 : Int) := i_ne c_22
          refine lv_iconst (v := 0) hx hb dX11_people_31 (by decide) ?_
          have q0_0 : (0 : Int32).toInt = 0 := rfl
          have hP : va_P D vwCl (CW cs ad fa fq rv (va_up v 1 (v 1)) (va_up (va_up (va_up (va_up a 11 (a 11)) 12 (a 12)) 13 (a 13)) 14 (a 14)) w fv (va_up fp 14 (fp 14))) _ := hP
          have hD : va_D A (CW cs ad fa fq rv (va_up v 1 (v 1)) (va_up (va_up (va_up (va_up a 11 (a 11)) 12 (a 12)) 13 (a 13)) 14 (a 14)) w fv (va_up fp 14 (fp 14))) := hD
          exact W.iret (v := 0) hx hb hr (fun tt ht hW => ⟨⟨0, ⟨(v 1), (a 11), (a 12), (a 13), (a 14), (fp 14)⟩, rfl, ⟨(by first | rfl | omega | trivial | assumption | (dsimp only; first | omega | assumption)), (by (try dsimp only); first | exact Or.inl (by omega) | exact Or.inr ⟨by omega, Or.inl (by omega)⟩ | exact Or.inr ⟨by omega, Or.inr (Or.inl (by omega))⟩), (show 0 ≤ (v 1).toInt by first | omega | assumption), (show (v 1).toInt ≤ 8 by first | omega | assumption)⟩, by rw [ht]; exact hP, hD⟩, hS.F ht⟩) hS.2.2 dX11_people_32
      ·
        have kc_20 : (8 : Int) < p3.toInt := i_nle c_20
        refine lv_iconst (v := (-1)) hx hb dX11_people_18 (by decide) ?_
        have q0_m1 : ((-1) : Int32).toInt = (-1) := rfl
        have hP : va_P D vwCl (CW cs ad fa fq rv (va_up v 1 (v 1)) (va_up (va_up (va_up (va_up a 11 (a 11)) 12 (a 12)) 13 (a 13)) 14 (a 14)) w fv (va_up fp 14 (fp 14))) _ := hP
        have hD : va_D A (CW cs ad fa fq rv (va_up v 1 (v 1)) (va_up (va_up (va_up (va_up a 11 (a 11)) 12 (a 12)) 13 (a 13)) 14 (a 14)) w fv (va_up fp 14 (fp 14))) := hD
        exact W.iret (v := (-1)) hx hb hr (fun tt ht hW => ⟨⟨(-1), ⟨(v 1), (a 11), (a 12), (a 13), (a 14), (fp 14)⟩, rfl, ⟨(by first | rfl | omega | trivial | assumption | (dsimp only; first | omega | assumption)), (by (try dsimp only); first | exact Or.inl (by omega) | exact Or.inr ⟨by omega, Or.inl (by omega)⟩ | exact Or.inr ⟨by omega, Or.inr (Or.inl (by omega))⟩), (show 0 ≤ (v 1).toInt by first | omega | assumption), (show (v 1).toInt ≤ 8 by first | omega | assumption)⟩, by rw [ht]; exact hP, hD⟩, hS.F ht⟩) hS.2.2 dX11_people_19
set_option maxHeartbeats 4000000 in
set_option maxRecDepth 100000 in
theorem k_X11_isTold (l : Launch) (D : va_G) (cs : Nat → ClassId) (A : Nat → Prop) (ad fa fq rv : Nat → Nat) (v : Nat → Int32) (a : Nat → Nat → Int32) (w : Nat → Nat → Int64) (fv fp : Nat → Nat → Int32)  (p1 : Int32) (p2 : Int32) (iv1_0 : 0 ≤ (v 1).toInt) (iv1_1 : (v 1).toInt ≤ 8) : Met l yX11_isTold (Cond.code yX11_isTold cX11_isTold 3 (some .boolean) :: gw) ({ frames := 1, cells := 0, slots := 0, locals := 21 }) (va_Pc [.ref (ad 0), .int p1, .int p2] (XPre D (TY cs) (CW cs ad fa fq rv v a w fv fp) A)) (vp_Si (fun (r : Int32) => ((r.toInt = 1 ∧ ((0 ≤ p2.toInt ∧ p2.toInt ≤ 3 ∧ 0 ≤ p1.toInt ∧ p1.toInt < (v 1).toInt) ∨ (4 ≤ p2.toInt ∧ p2.toInt ≤ 7 ∧ p1.toInt = 0))) ∨ (r.toInt = 0 ∧ ¬ (((0 ≤ p2.toInt ∧ p2.toInt ≤ 3 ∧ 0 ≤ p1.toInt ∧ p1.toInt < (v 1).toInt) ∨ (4 ≤ p2.toInt ∧ p2.toInt ≤ 7 ∧ p1.toInt = 0))))))) 0 0 (fun _ => False) := by
  refine Met.ofW (cc := cX11_isTold) (maxL := 3) (ret := (some .boolean)) (by decide) rfl ?_
  intro p e s m args below meth c s₁ B hml hv
  obtain ⟨rfl, hP, hK, hD, hZ⟩ := hv
  have hx := B.exec
  have hb := B.bytes
  have hr := B.returns
  have hts := atoms_spec (ws := (Cond.code yX11_isTold cX11_isTold 3 (some .boolean) :: gw)) B.pre
  have hg : ∀ w ∈ gw, w.before ([.ref (ad 0), .int p1, .int p2] : List Value).toArray s = true := fun w h => hts w (List.mem_cons_of_mem _ h)
  have hown : s.vm.findClass RX11 = some m.cls := findClass_of_methodNamed B.named
  have hlocks := B.notSynchronized
  have hS : va_S A s.heap s.heap [] := va_S.rf
  have hl := lv_entry ([.ref (ad 0), .int p1, .int p2]) (n := 3) (Nat.le_of_ble_eq_true rfl)
  rw [lg_entry_eq]
  generalize (lg_sl ([.ref (ad 0), .int p1, .int p2]) ++ List.replicate (3 - (lg_sl ([.ref (ad 0), .int p1, .int p2])).length) Slot.unset).toArray = ls at hl ⊢
  have hl : lv_has ls 3 [(0, .ref (ad 0)), (1, .int p1), (2, .int p2)] := hl
  refine lv_iload_n hx hb dX11_isTold_0 rfl (lv_at hl 2 rfl) ?_
  refine lv_if_lt (tgt := 18) hx hb dX11_isTold_1 (by decide) (fun c_1 => ?_) (fun c_1 => ?_)
  ·
    have kc_1 : p2.toInt < (0 : Int) := i_lt c_1
    refine lv_iload_n hx hb dX11_isTold_18 rfl (lv_at hl 2 rfl) ?_
    refine lv_iconst (v := 4) hx hb dX11_isTold_19 (by decide) ?_
    refine lv_icmp_lt (tgt := 37) hx hb dX11_isTold_20 (by decide) (fun c_2 => ?_) (fun c_2 => ?_)
    ·
      have kc_2 : p2.toInt < (4 : Int) := i_lt c_2
      refine lv_iconst (v := 0) hx hb dX11_isTold_37 (by decide) ?_
      have q0_0 : (0 : Int32).toInt = 0 := rfl
      exact W.zret (v := 0) hx hb hr rfl (fun tt ht hW => ⟨0, rfl, (by first | rfl | omega | trivial | assumption | (dsimp only; first | omega | assumption)), ht⟩) (fun _ h => by cases h) dX11_isTold_38
    ·
      have kc_2 : (4 : Int) ≤ p2.toInt := i_nlt c_2
      exfalso; omega
  ·
    have kc_1 : (0 : Int) ≤ p2.toInt := i_nlt c_1
    refine lv_iload_n hx hb dX11_isTold_4 rfl (lv_at hl 2 rfl) ?_
    refine lv_iconst (v := 3) hx hb dX11_isTold_5 (by decide) ?_
    refine lv_icmp_gt (tgt := 18) hx hb dX11_isTold_6 (by decide) (fun c_3 => ?_) (fun c_3 => ?_)
    ·
      have kc_3 : (3 : Int) < p2.toInt := i_lt c_3
      refine lv_iload_n hx hb dX11_isTold_18 rfl (lv_at hl 2 rfl) ?_
      refine lv_iconst (v := 4) hx hb dX11_isTold_19 (by decide) ?_
      refine lv_icmp_lt (tgt := 37) hx hb dX11_isTold_20 (by decide) (fun c_4 => ?_) (fun c_4 => ?_)
      ·
        have kc_4 : p2.toInt < (4 : Int) := i_lt c_4
        exfalso; omega
      ·
        have kc_4 : (4 : Int) ≤ p2.toInt := i_nlt c_4
        refine lv_iload_n hx hb dX11_isTold_23 rfl (lv_at hl 2 rfl) ?_
        refine lv_bipush (v := 7) hx hb dX11_isTold_24 (by decide) ?_
        refine lv_icmp_gt (tgt := 37) hx hb dX11_isTold_26 (by decide) (fun c_5 => ?_) (fun c_5 => ?_)
        ·
          have kc_5 : (7 : Int) < p2.toInt := i_lt c_5
          refine lv_iconst (v := 0) hx hb dX11_isTold_37 (by decide) ?_
          have q0_0 : (0 : Int32).toInt = 0 := rfl
          exact W.zret (v := 0) hx hb hr rfl (fun tt ht hW => ⟨0, rfl, (by first | rfl | omega | trivial | assumption | (dsimp only; first | omega | assumption)), ht⟩) (fun _ h => by cases h) dX11_isTold_38
        ·
          have kc_5 : p2.toInt ≤ (7 : Int) := i_nlt c_5
          refine lv_iload_n hx hb dX11_isTold_29 rfl (lv_at hl 1 rfl) ?_
          refine lv_if_ne (tgt := 37) hx hb dX11_isTold_30 (by decide) (fun c_6 => ?_) (fun c_6 => ?_)
          ·
            have kc_6 : p1.toInt ≠ (0 : Int) := i_ne c_6
            refine lv_iconst (v := 0) hx hb dX11_isTold_37 (by decide) ?_
            have q0_0 : (0 : Int32).toInt = 0 := rfl
            exact W.zret (v := 0) hx hb hr rfl (fun tt ht hW => ⟨0, rfl, (by first | rfl | omega | trivial | assumption | (dsimp only; first | omega | assumption)), ht⟩) (fun _ h => by cases h) dX11_isTold_38
          ·
            have kc_6 : p1.toInt = (0 : Int) := i_eq c_6
            refine lv_iconst (v := 1) hx hb dX11_isTold_33 (by decide) ?_
            refine lv_goto (tgt := 38) hx hb dX11_isTold_34 (by decide) ?_
            have q0_1 : (1 : Int32).toInt = 1 := rfl
            exact W.zret (v := 1) hx hb hr rfl (fun tt ht hW => ⟨1, rfl, (by first | rfl | omega | trivial | assumption | (dsimp only; first | omega | assumption)), ht⟩) (fun _ h => by cases h) dX11_isTold_38
    ·
      have kc_3 : p2.toInt ≤ (3 : Int) := i_nlt c_3
      refine lv_aload_n hx hb dX11_isTold_9 rfl (lv_at hl 0 rfl) ?_
      refine gf_main_parish hx hb hg hown hK hP rfl (hg _ q2_123) dX11_isTold_10 ?_
      refine lv_iload_n hx hb dX11_isTold_13 rfl (lv_at hl 1 rfl) ?_
      refine cV_ro (As := [.int p1]) (rest := []) ⟨hx, hb, hml, hown, hg⟩ (k_X9_has l D cs A ad fa fq rv v a w fv fp  p1 (show 0 ≤ (v 1).toInt by first | omega | decide) (show (v 1).toInt ≤ 8 by first | omega | decide)) ca_X9_has q3_4 ⟨rfl, rfl⟩ ⟨Nat.le_of_ble_eq_true rfl, Nat.le_of_ble_eq_true rfl⟩ (rc_parish hK hP) hK hP hD hS hZ rfl hl.1 rfl (Nat.le_of_ble_eq_true rfl) ⟨Nat.zero_le _, Nat.zero_le _⟩ dX11_isTold_14 (fun r_7 wr_7 => ?_)
      have wr_7_0 : (r_7.toInt = 1 ∧ 0 ≤ p1.toInt ∧ p1.toInt < (v 1).toInt) ∨ (r_7.toInt = 0 ∧ ¬ (0 ≤ p1.toInt ∧ p1.toInt < (v 1).toInt)) := wr_7
      exact W.zret (v := r_7) hx hb hr (i_nb (by omega) (by omega)) (fun tt ht hW => ⟨r_7, rfl, (by first | rfl | omega | trivial | assumption | (dsimp only; first | omega | assumption)), ht⟩) (fun _ h => by cases h) dX11_isTold_17
set_option maxHeartbeats 4000000 in
set_option maxRecDepth 100000 in
theorem k_X11_told (l : Launch) (D : va_G) (cs : Nat → ClassId) (A : Nat → Prop) (ad fa fq rv : Nat → Nat) (v : Nat → Int32) (a : Nat → Nat → Int32) (w : Nat → Nat → Int64) (fv fp : Nat → Nat → Int32)  (p1 : Int32) (p2 : Int32) (h1 : 0 ≤ p1.toInt) (h2 : p1.toInt < 8) : Met l yX11_told (Cond.code yX11_told cX11_told 3 (some .int) :: gw) ({ frames := 0, cells := 0, slots := 0, locals := 0 }) (va_Pc [.ref (ad 0), .int p1, .int p2] (XPre D (TY cs) (CW cs ad fa fq rv v a w fv fp) A)) (vp_Si (fun (r : Int32) => True)) 0 0 (fun _ => False) := by
  refine Met.ofW (cc := cX11_told) (maxL := 3) (ret := (some .int)) (by decide) rfl ?_
  intro p e s m args below meth c s₁ B hml hv
  obtain ⟨rfl, hP, hK, hD, hZ⟩ := hv
  have hx := B.exec
  have hb := B.bytes
  have hr := B.returns
  have hts := atoms_spec (ws := (Cond.code yX11_told cX11_told 3 (some .int) :: gw)) B.pre
  have hg : ∀ w ∈ gw, w.before ([.ref (ad 0), .int p1, .int p2] : List Value).toArray s = true := fun w h => hts w (List.mem_cons_of_mem _ h)
  have hown : s.vm.findClass RX11 = some m.cls := findClass_of_methodNamed B.named
  have hlocks := B.notSynchronized
  have hS : va_S A s.heap s.heap [] := va_S.rf
  have hl := lv_entry ([.ref (ad 0), .int p1, .int p2]) (n := 3) (Nat.le_of_ble_eq_true rfl)
  rw [lg_entry_eq]
  generalize (lg_sl ([.ref (ad 0), .int p1, .int p2]) ++ List.replicate (3 - (lg_sl ([.ref (ad 0), .int p1, .int p2])).length) Slot.unset).toArray = ls at hl ⊢
  have hl : lv_has ls 3 [(0, .ref (ad 0)), (1, .int p1), (2, .int p2)] := hl
  refine lv_iload_n hx hb dX11_told_0 rfl (lv_at hl 2 rfl) ?_
  rcases (show p2.toInt = 0 ∨ p2.toInt = 1 ∨ p2.toInt = 2 ∨ p2.toInt = 3 ∨ p2.toInt = 4 ∨ p2.toInt = 5 ∨ p2.toInt = 6 ∨ (p2.toInt < 0 ∨ 6 < p2.toInt) by omega) with kc_1 | kc_1 | kc_1 | kc_1 | kc_1 | kc_1 | kc_1 | kc_1
  ·
    refine lv_tableIn (tgt := 44) hx hb dX11_told_1 (by omega) (by omega) (off := 43) (by rw [kc_1]; rfl) (by decide) ?_
    refine lv_aload_n hx hb dX11_told_44 rfl (lv_at hl 0 rfl) ?_
    refine gf_main_parish hx hb hg hown hK hP rfl (hg _ q2_123) dX11_told_45 ?_
    refine gf_parish_cell hx hb hg hown hK hP rfl (hg _ q1_119) dX11_told_48 ?_
    refine lv_iload_n hx hb dX11_told_51 rfl (lv_at hl 1 rfl) ?_
    refine ld_Pcell hx hb hK hP (i_in (by omega) (by omega)) dX11_told_52 ?_
    refine lv_topi (fun x_2 ex_2 => ?_)
    have ex_2 : x_2 = (a 11) p1.toNatClampNeg := ex_2
    have hx_2 : x_2.toInt = ((a 11) p1.toNatClampNeg).toInt := by rw [ex_2]
    exact W.iret (v := x_2) hx hb hr (fun tt ht hW => ⟨x_2, rfl, trivial, ht⟩) (fun _ h => by cases h) dX11_told_53
  ·
    refine lv_tableIn (tgt := 54) hx hb dX11_told_1 (by omega) (by omega) (off := 53) (by rw [kc_1]; rfl) (by decide) ?_
    refine lv_aload_n hx hb dX11_told_54 rfl (lv_at hl 0 rfl) ?_
    refine gf_main_parish hx hb hg hown hK hP rfl (hg _ q2_123) dX11_told_55 ?_
    refine gf_parish_cheek hx hb hg hown hK hP rfl (hg _ q1_122) dX11_told_58 ?_
    refine lv_iload_n hx hb dX11_told_61 rfl (lv_at hl 1 rfl) ?_
    refine ld_Pcheek hx hb hK hP (i_in (by omega) (by omega)) dX11_told_62 ?_
    refine lv_topi (fun x_3 ex_3 => ?_)
    have ex_3 : x_3 = (a 12) p1.toNatClampNeg := ex_3
    have hx_3 : x_3.toInt = ((a 12) p1.toNatClampNeg).toInt := by rw [ex_3]
    exact W.iret (v := x_3) hx hb hr (fun tt ht hW => ⟨x_3, rfl, trivial, ht⟩) (fun _ h => by cases h) dX11_told_63
  ·
    refine lv_tableIn (tgt := 64) hx hb dX11_told_1 (by omega) (by omega) (off := 63) (by rw [kc_1]; rfl) (by decide) ?_
    refine lv_aload_n hx hb dX11_told_64 rfl (lv_at hl 0 rfl) ?_
    refine gf_main_deed hx hb hg hown hK hP rfl (hg _ q2_125) dX11_told_65 ?_
    refine gf_fl_pads (f := 14) (by decide) hx hb hg hown hK hP (hg _ q1_226) dX11_told_68 ?_
    refine lv_iload_n hx hb dX11_told_71 rfl (lv_at hl 1 rfl) ?_
    refine ld_pads (f := 14) (by decide) hx hb hK hP (i_in (by omega) (by omega)) dX11_told_72 ?_
    refine lv_topi (fun x_4 ex_4 => ?_)
    have ex_4 : x_4 = (fp 14) p1.toNatClampNeg := ex_4
    have hx_4 : x_4.toInt = ((fp 14) p1.toNatClampNeg).toInt := by rw [ex_4]
    exact W.iret (v := x_4) hx hb hr (fun tt ht hW => ⟨x_4, rfl, trivial, ht⟩) (fun _ h => by cases h) dX11_told_73
  ·
    refine lv_tableIn (tgt := 74) hx hb dX11_told_1 (by omega) (by omega) (off := 73) (by rw [kc_1]; rfl) (by decide) ?_
    refine lv_aload_n hx hb dX11_told_74 rfl (lv_at hl 0 rfl) ?_
    refine gf_main_parish hx hb hg hown hK hP rfl (hg _ q2_123) dX11_told_75 ?_
    refine gf_parish_pay hx hb hg hown hK hP rfl (hg _ q1_124) dX11_told_78 ?_
    refine lv_iload_n hx hb dX11_told_81 rfl (lv_at hl 1 rfl) ?_
    refine ld_Ppay hx hb hK hP (i_in (by omega) (by omega)) dX11_told_82 ?_
    refine lv_topi (fun x_5 ex_5 => ?_)
    have ex_5 : x_5 = (a 13) p1.toNatClampNeg := ex_5
    have hx_5 : x_5.toInt = ((a 13) p1.toNatClampNeg).toInt := by rw [ex_5]
    exact W.iret (v := x_5) hx hb hr (fun tt ht hW => ⟨x_5, rfl, trivial, ht⟩) (fun _ h => by cases h) dX11_told_83
  ·
    refine lv_tableIn (tgt := 84) hx hb dX11_told_1 (by omega) (by omega) (off := 83) (by rw [kc_1]; rfl) (by decide) ?_
    refine lv_aload_n hx hb dX11_told_84 rfl (lv_at hl 0 rfl) ?_
    refine gf_main_deed hx hb hg hown hK hP rfl (hg _ q2_125) dX11_told_85 ?_
    refine gf_fl_swarm (f := 14) (by decide) hx hb hg hown hK hP (x := (fv 14 1)) rfl (hg _ q1_233) dX11_told_88 ?_
    exact W.iret (v := (fv 14 1)) hx hb hr (fun tt ht hW => ⟨(fv 14 1), rfl, trivial, ht⟩) (fun _ h => by cases h) dX11_told_91
  ·
    refine lv_tableIn (tgt := 92) hx hb dX11_told_1 (by omega) (by omega) (off := 91) (by rw [kc_1]; rfl) (by decide) ?_
    refine lv_aload_n hx hb dX11_told_92 rfl (lv_at hl 0 rfl) ?_
    refine gf_main_parish hx hb hg hown hK hP rfl (hg _ q2_123) dX11_told_93 ?_
    refine gf_parish_mile hx hb hg hown hK hP (x := (v 2)) rfl (hg _ q1_112) dX11_told_96 ?_
    exact W.iret (v := (v 2)) hx hb hr (fun tt ht hW => ⟨(v 2), rfl, trivial, ht⟩) (fun _ h => by cases h) dX11_told_99
  ·
    refine lv_tableIn (tgt := 100) hx hb dX11_told_1 (by omega) (by omega) (off := 99) (by rw [kc_1]; rfl) (by decide) ?_
    refine lv_aload_n hx hb dX11_told_100 rfl (lv_at hl 0 rfl) ?_
    refine gf_main_deed hx hb hg hown hK hP rfl (hg _ q2_125) dX11_told_101 ?_
    refine gf_fl_hour (f := 14) (by decide) hx hb hg hown hK hP (x := (fv 14 0)) rfl (hg _ q1_229) dX11_told_104 ?_
    exact W.iret (v := (fv 14 0)) hx hb hr (fun tt ht hW => ⟨(fv 14 0), rfl, trivial, ht⟩) (fun _ h => by cases h) dX11_told_107
  ·
    refine lv_tableOut (tgt := 108) hx hb dX11_told_1 kc_1 (by decide) ?_
    refine lv_aload_n hx hb dX11_told_108 rfl (lv_at hl 0 rfl) ?_
    refine gf_main_parish hx hb hg hown hK hP rfl (hg _ q2_123) dX11_told_109 ?_
    refine gf_parish_pace hx hb hg hown hK hP (x := (v 3)) rfl (hg _ q1_115) dX11_told_112 ?_
    exact W.iret (v := (v 3)) hx hb hr (fun tt ht hW => ⟨(v 3), rfl, trivial, ht⟩) (fun _ h => by cases h) dX11_told_115
set_option maxHeartbeats 4000000 in
set_option maxRecDepth 100000 in
theorem k_X11_tell (l : Launch) (D : va_G) (cs : Nat → ClassId) (A : Nat → Prop) (ad fa fq rv : Nat → Nat) (v : Nat → Int32) (a : Nat → Nat → Int32) (w : Nat → Nat → Int64) (fv fp : Nat → Nat → Int32)  (p1 : Int32) (p2 : Int32) (p3 : Int32) (h1 : 0 ≤ p1.toInt) (h2 : p1.toInt < 8) (iv1_0 : 0 ≤ (v 1).toInt) (iv1_1 : (v 1).toInt ≤ 8) (ifv14_0 : (fv 14 2).toInt = -2 ∨ (0 ≤ (fv 14 2).toInt ∧ (fv 14 2).toInt < (v 1).toInt)) : Met l yX11_tell (Cond.code yX11_tell cX11_tell 4 none :: gw) ({ frames := 4, cells := 0, slots := 0, locals := 89 }) (va_Pc [.ref (ad 0), .int p1, .int p2, .int p3] (XPre D (TY cs) (CW cs ad fa fq rv v a w fv fp) A)) (va_Qv (fun (z : (Nat → Int32) × (Nat → Int32) × (Nat → Int32) × (Nat → Int32) × (Nat → Int32) × (Nat → Int32) × Int32 × Int32) => (z.2.2.2.2.2.1 3 = (fv 14 3)) ∧ ((z.2.2.2.2.2.1 2).toInt = -2 ∨ (0 ≤ (z.2.2.2.2.2.1 2).toInt ∧ (z.2.2.2.2.2.1 2).toInt < (v 1).toInt))) (XPo D (fun (z : (Nat → Int32) × (Nat → Int32) × (Nat → Int32) × (Nat → Int32) × (Nat → Int32) × (Nat → Int32) × Int32 × Int32) => CW cs ad fa fq rv (va_up (va_up v 2 z.2.2.2.2.2.2.1) 3 z.2.2.2.2.2.2.2) (va_up (va_up (va_up (va_up a 11 z.1) 14 z.2.1) 12 z.2.2.1) 13 z.2.2.2.2.1) w (va_up fv 14 z.2.2.2.2.2.1) (va_up fp 14 z.2.2.2.1)) A) A) 0 0 A := by
  refine Met.ofW (cc := cX11_tell) (maxL := 4) (ret := none) (by decide) rfl ?_
  intro p e s m args below meth c s₁ B hml hv
  obtain ⟨rfl, hP, hK, hD, hZ⟩ := hv
  have hx := B.exec
  have hb := B.bytes
  have hr := B.returns
  have hts := atoms_spec (ws := (Cond.code yX11_tell cX11_tell 4 none :: gw)) B.pre
  have hg : ∀ w ∈ gw, w.before ([.ref (ad 0), .int p1, .int p2, .int p3] : List Value).toArray s = true := fun w h => hts w (List.mem_cons_of_mem _ h)
  have hown : s.vm.findClass RX11 = some m.cls := findClass_of_methodNamed B.named
  have hlocks := B.notSynchronized
  have hS : va_S A s.heap s.heap [] := va_S.rf
  have hP : va_P D vwCl (CW cs ad fa fq rv v a w fv fp) s.heap := hP
  have hl := lv_entry ([.ref (ad 0), .int p1, .int p2, .int p3]) (n := 4) (Nat.le_of_ble_eq_true rfl)
  rw [lg_entry_eq]
  generalize (lg_sl ([.ref (ad 0), .int p1, .int p2, .int p3]) ++ List.replicate (4 - (lg_sl ([.ref (ad 0), .int p1, .int p2, .int p3])).length) Slot.unset).toArray = ls at hl ⊢
  have hl : lv_has ls 4 [(0, .ref (ad 0)), (1, .int p1), (2, .int p2), (3, .int p3)] := hl
  refine lv_iload_n hx hb dX11_tell_0 rfl (lv_at hl 2 rfl) ?_
  rcases (show p2.toInt = 0 ∨ p2.toInt = 1 ∨ p2.toInt = 2 ∨ p2.toInt = 3 ∨ p2.toInt = 4 ∨ p2.toInt = 5 ∨ p2.toInt = 6 ∨ (p2.toInt < 0 ∨ 6 < p2.toInt) by omega) with kc_1 | kc_1 | kc_1 | kc_1 | kc_1 | kc_1 | kc_1 | kc_1
  ·
    refine lv_tableIn (tgt := 44) hx hb dX11_tell_1 (by omega) (by omega) (off := 43) (by rw [kc_1]; rfl) (by decide) ?_
    refine lv_aload_n hx hb dX11_tell_44 rfl (lv_at hl 0 rfl) ?_
    refine gf_main_parish hx hb hg hown hK hP rfl (hg _ q2_123) dX11_tell_45 ?_
    refine lv_iload_n hx hb dX11_tell_48 rfl (lv_at hl 1 rfl) ?_
    refine lv_iload_n hx hb dX11_tell_49 rfl (lv_at hl 3 rfl) ?_
    refine cV_v (As := [.int p1, .int p3]) (rest := []) ⟨hx, hb, hml, hown, hg⟩ (k_X9_place l D cs A ad fa fq rv v a w fv fp  p1 p3 (show 0 ≤ p1.toInt by first | omega | decide) (show p1.toInt < 8 by first | omega | decide) (show 0 ≤ (v 1).toInt by first | omega | decide) (show (v 1).toInt ≤ 8 by first | omega | decide)) ca_X9_place q3_28 ⟨rfl, rfl⟩ ⟨Nat.le_of_ble_eq_true rfl, Nat.le_of_ble_eq_true rfl⟩ (rc_parish hK hP) hK hP hD hS hZ rfl hl.1 rfl (Nat.le_of_ble_eq_true rfl) ⟨Nat.zero_le _, Nat.zero_le _⟩ dX11_tell_50 (fun z_5 H locs wr_2 hP hD hS => ?_)
    obtain ⟨o_a11_3, o_a14_4⟩ := z_5
    have hP : va_P D vwCl (CW cs ad fa fq rv v (va_up (va_up a 11 o_a11_3) 14 o_a14_4) w fv fp) H := hP
    have hD : va_D A (CW cs ad fa fq rv v (va_up (va_up a 11 o_a11_3) 14 o_a14_4) w fv fp) := hD
    have wr_2_0 : True := wr_2
    refine lv_goto (tgt := 136) hx hb dX11_tell_53 (by decide) ?_
    have hP : va_P D vwCl (CW cs ad fa fq rv (va_up (va_up v 2 (v 2)) 3 (v 3)) (va_up (va_up (va_up (va_up a 11 o_a11_3) 14 o_a14_4) 12 (a 12)) 13 (a 13)) w (va_up fv 14 (fv 14)) (va_up fp 14 (fp 14))) _ := hP
    have hD : va_D A (CW cs ad fa fq rv (va_up (va_up v 2 (v 2)) 3 (v 3)) (va_up (va_up (va_up (va_up a 11 o_a11_3) 14 o_a14_4) 12 (a 12)) 13 (a 13)) w (va_up fv 14 (fv 14)) (va_up fp 14 (fp 14))) := hD
    exact W.vret hx hb hr (fun tt ht hW => ⟨⟨⟨o_a11_3, o_a14_4, (a 12), (fp 14), (a 13), (fv 14), (v 2), (v 3)⟩, rfl, ⟨(by rfl), (show (fv 14 2).toInt = -2 ∨ (0 ≤ (fv 14 2).toInt ∧ (fv 14 2).toInt < (v 1).toInt) by first | omega | assumption)⟩, by rw [ht]; exact hP, hD⟩, hS.F ht⟩) hS.2.2 dX11_tell_136
  ·
    refine lv_tableIn (tgt := 56) hx hb dX11_tell_1 (by omega) (by omega) (off := 55) (by rw [kc_1]; rfl) (by decide) ?_
    refine lv_aload_n hx hb dX11_tell_56 rfl (lv_at hl 0 rfl) ?_
    refine gf_main_parish hx hb hg hown hK hP rfl (hg _ q2_123) dX11_tell_57 ?_
    refine gf_parish_cheek hx hb hg hown hK hP rfl (hg _ q1_122) dX11_tell_60 ?_
    refine lv_iload_n hx hb dX11_tell_63 rfl (lv_at hl 1 rfl) ?_
    refine lv_iload_n hx hb dX11_tell_64 rfl (lv_at hl 3 rfl) ?_
    refine st_Pcheek hx hb hK hP hD hS (i_in (by omega) (by omega)) dX11_tell_65 (fun H locs hP hD hS => ?_)
    refine lv_goto (tgt := 136) hx hb dX11_tell_66 (by decide) ?_
    have hP : va_P D vwCl (CW cs ad fa fq rv (va_up (va_up v 2 (v 2)) 3 (v 3)) (va_up (va_up (va_up (va_up a 11 (a 11)) 14 (a 14)) 12 (upd (a 12) p1.toNatClampNeg p3)) 13 (a 13)) w (va_up fv 14 (fv 14)) (va_up fp 14 (fp 14))) _ := hP
    have hD : va_D A (CW cs ad fa fq rv (va_up (va_up v 2 (v 2)) 3 (v 3)) (va_up (va_up (va_up (va_up a 11 (a 11)) 14 (a 14)) 12 (upd (a 12) p1.toNatClampNeg p3)) 13 (a 13)) w (va_up fv 14 (fv 14)) (va_up fp 14 (fp 14))) := hD
    exact W.vret hx hb hr (fun tt ht hW => ⟨⟨⟨(a 11), (a 14), (upd (a 12) p1.toNatClampNeg p3), (fp 14), (a 13), (fv 14), (v 2), (v 3)⟩, rfl, ⟨(by rfl), (show (fv 14 2).toInt = -2 ∨ (0 ≤ (fv 14 2).toInt ∧ (fv 14 2).toInt < (v 1).toInt) by first | omega | assumption)⟩, by rw [ht]; exact hP, hD⟩, hS.F ht⟩) hS.2.2 dX11_tell_136
  ·
    refine lv_tableIn (tgt := 69) hx hb dX11_tell_1 (by omega) (by omega) (off := 68) (by rw [kc_1]; rfl) (by decide) ?_
    refine lv_aload_n hx hb dX11_tell_69 rfl (lv_at hl 0 rfl) ?_
    refine gf_main_deed hx hb hg hown hK hP rfl (hg _ q2_125) dX11_tell_70 ?_
    refine gf_fl_pads (f := 14) (by decide) hx hb hg hown hK hP (hg _ q1_226) dX11_tell_73 ?_
    refine lv_iload_n hx hb dX11_tell_76 rfl (lv_at hl 1 rfl) ?_
    refine lv_iload_n hx hb dX11_tell_77 rfl (lv_at hl 3 rfl) ?_
    refine st_pads (f := 14) (by decide) hx hb hK hP hD hS (i_in (by omega) (by omega)) dX11_tell_78 (fun H locs hP hD hS => ?_)
    refine lv_goto (tgt := 136) hx hb dX11_tell_79 (by decide) ?_
    have hP : va_P D vwCl (CW cs ad fa fq rv (va_up (va_up v 2 (v 2)) 3 (v 3)) (va_up (va_up (va_up (va_up a 11 (a 11)) 14 (a 14)) 12 (a 12)) 13 (a 13)) w (va_up fv 14 (fv 14)) (va_up fp 14 (upd (fp 14) p1.toNatClampNeg p3))) _ := hP
    have hD : va_D A (CW cs ad fa fq rv (va_up (va_up v 2 (v 2)) 3 (v 3)) (va_up (va_up (va_up (va_up a 11 (a 11)) 14 (a 14)) 12 (a 12)) 13 (a 13)) w (va_up fv 14 (fv 14)) (va_up fp 14 (upd (fp 14) p1.toNatClampNeg p3))) := hD
    exact W.vret hx hb hr (fun tt ht hW => ⟨⟨⟨(a 11), (a 14), (a 12), (upd (fp 14) p1.toNatClampNeg p3), (a 13), (fv 14), (v 2), (v 3)⟩, rfl, ⟨(by rfl), (show (fv 14 2).toInt = -2 ∨ (0 ≤ (fv 14 2).toInt ∧ (fv 14 2).toInt < (v 1).toInt) by first | omega | assumption)⟩, by rw [ht]; exact hP, hD⟩, hS.F ht⟩) hS.2.2 dX11_tell_136
  ·
    refine lv_tableIn (tgt := 82) hx hb dX11_tell_1 (by omega) (by omega) (off := 81) (by rw [kc_1]; rfl) (by decide) ?_
    refine lv_aload_n hx hb dX11_tell_82 rfl (lv_at hl 0 rfl) ?_
    refine gf_main_parish hx hb hg hown hK hP rfl (hg _ q2_123) dX11_tell_83 ?_
    refine gf_parish_pay hx hb hg hown hK hP rfl (hg _ q1_124) dX11_tell_86 ?_
    refine lv_iload_n hx hb dX11_tell_89 rfl (lv_at hl 1 rfl) ?_
    refine lv_iload_n hx hb dX11_tell_90 rfl (lv_at hl 3 rfl) ?_
    refine st_Ppay hx hb hK hP hD hS (i_in (by omega) (by omega)) dX11_tell_91 (fun H locs hP hD hS => ?_)
    refine lv_goto (tgt := 136) hx hb dX11_tell_92 (by decide) ?_
    have hP : va_P D vwCl (CW cs ad fa fq rv (va_up (va_up v 2 (v 2)) 3 (v 3)) (va_up (va_up (va_up (va_up a 11 (a 11)) 14 (a 14)) 12 (a 12)) 13 (upd (a 13) p1.toNatClampNeg p3)) w (va_up fv 14 (fv 14)) (va_up fp 14 (fp 14))) _ := hP
    have hD : va_D A (CW cs ad fa fq rv (va_up (va_up v 2 (v 2)) 3 (v 3)) (va_up (va_up (va_up (va_up a 11 (a 11)) 14 (a 14)) 12 (a 12)) 13 (upd (a 13) p1.toNatClampNeg p3)) w (va_up fv 14 (fv 14)) (va_up fp 14 (fp 14))) := hD
    exact W.vret hx hb hr (fun tt ht hW => ⟨⟨⟨(a 11), (a 14), (a 12), (fp 14), (upd (a 13) p1.toNatClampNeg p3), (fv 14), (v 2), (v 3)⟩, rfl, ⟨(by rfl), (show (fv 14 2).toInt = -2 ∨ (0 ≤ (fv 14 2).toInt ∧ (fv 14 2).toInt < (v 1).toInt) by first | omega | assumption)⟩, by rw [ht]; exact hP, hD⟩, hS.F ht⟩) hS.2.2 dX11_tell_136
  ·
    refine lv_tableIn (tgt := 95) hx hb dX11_tell_1 (by omega) (by omega) (off := 94) (by rw [kc_1]; rfl) (by decide) ?_
    refine lv_aload_n hx hb dX11_tell_95 rfl (lv_at hl 0 rfl) ?_
    refine gf_main_deed hx hb hg hown hK hP rfl (hg _ q2_125) dX11_tell_96 ?_
    refine lv_iload_n hx hb dX11_tell_99 rfl (lv_at hl 3 rfl) ?_
    refine pf_fl_swarm (f := 14) (by decide) hx hb hg hown hK hP hD hS (hg _ q1_233) dX11_tell_100 (fun H locs hP hD hS => ?_)
    refine lv_goto (tgt := 136) hx hb dX11_tell_103 (by decide) ?_
    have hP : va_P D vwCl (CW cs ad fa fq rv (va_up (va_up v 2 (v 2)) 3 (v 3)) (va_up (va_up (va_up (va_up a 11 (a 11)) 14 (a 14)) 12 (a 12)) 13 (a 13)) w (va_up fv 14 (va_up (fv 14) 1 p3)) (va_up fp 14 (fp 14))) _ := hP
    have hD : va_D A (CW cs ad fa fq rv (va_up (va_up v 2 (v 2)) 3 (v 3)) (va_up (va_up (va_up (va_up a 11 (a 11)) 14 (a 14)) 12 (a 12)) 13 (a 13)) w (va_up fv 14 (va_up (fv 14) 1 p3)) (va_up fp 14 (fp 14))) := hD
    exact W.vret hx hb hr (fun tt ht hW => ⟨⟨⟨(a 11), (a 14), (a 12), (fp 14), (a 13), (va_up (fv 14) 1 p3), (v 2), (v 3)⟩, rfl, ⟨(by rfl), (show (fv 14 2).toInt = -2 ∨ (0 ≤ (fv 14 2).toInt ∧ (fv 14 2).toInt < (v 1).toInt) by first | omega | assumption)⟩, by rw [ht]; exact hP, hD⟩, hS.F ht⟩) hS.2.2 dX11_tell_136
  ·
    refine lv_tableIn (tgt := 106) hx hb dX11_tell_1 (by omega) (by omega) (off := 105) (by rw [kc_1]; rfl) (by decide) ?_
    refine lv_aload_n hx hb dX11_tell_106 rfl (lv_at hl 0 rfl) ?_
    refine gf_main_parish hx hb hg hown hK hP rfl (hg _ q2_123) dX11_tell_107 ?_
    refine lv_iload_n hx hb dX11_tell_110 rfl (lv_at hl 3 rfl) ?_
    refine cV_v (As := [.int p3]) (rest := []) ⟨hx, hb, hml, hown, hg⟩ (k_X9_setMile l D cs A ad fa fq rv v a w fv fp  p3 (show 0 ≤ (v 1).toInt by first | omega | decide) (show (v 1).toInt ≤ 8 by first | omega | decide)) ca_X9_setMile q3_32 ⟨rfl, rfl⟩ ⟨Nat.le_of_ble_eq_true rfl, Nat.le_of_ble_eq_true rfl⟩ (rc_parish hK hP) hK hP hD hS hZ rfl hl.1 rfl (Nat.le_of_ble_eq_true rfl) ⟨Nat.zero_le _, Nat.zero_le _⟩ dX11_tell_111 (fun z_9 H locs wr_6 hP hD hS => ?_)
    obtain ⟨o_v2_7, o_a14_8⟩ := z_9
    have hP : va_P D vwCl (CW cs ad fa fq rv (va_up v 2 o_v2_7) (va_up a 14 o_a14_8) w fv fp) H := hP
    have hD : va_D A (CW cs ad fa fq rv (va_up v 2 o_v2_7) (va_up a 14 o_a14_8) w fv fp) := hD
    have wr_6_0 : True := wr_6
    refine lv_goto (tgt := 136) hx hb dX11_tell_114 (by decide) ?_
    have hP : va_P D vwCl (CW cs ad fa fq rv (va_up (va_up v 2 o_v2_7) 3 (v 3)) (va_up (va_up (va_up (va_up a 11 (a 11)) 14 o_a14_8) 12 (a 12)) 13 (a 13)) w (va_up fv 14 (fv 14)) (va_up fp 14 (fp 14))) _ := hP
    have hD : va_D A (CW cs ad fa fq rv (va_up (va_up v 2 o_v2_7) 3 (v 3)) (va_up (va_up (va_up (va_up a 11 (a 11)) 14 o_a14_8) 12 (a 12)) 13 (a 13)) w (va_up fv 14 (fv 14)) (va_up fp 14 (fp 14))) := hD
    exact W.vret hx hb hr (fun tt ht hW => ⟨⟨⟨(a 11), o_a14_8, (a 12), (fp 14), (a 13), (fv 14), o_v2_7, (v 3)⟩, rfl, ⟨(by rfl), (show (fv 14 2).toInt = -2 ∨ (0 ≤ (fv 14 2).toInt ∧ (fv 14 2).toInt < (v 1).toInt) by first | omega | assumption)⟩, by rw [ht]; exact hP, hD⟩, hS.F ht⟩) hS.2.2 dX11_tell_136
  ·
    refine lv_tableIn (tgt := 117) hx hb dX11_tell_1 (by omega) (by omega) (off := 116) (by rw [kc_1]; rfl) (by decide) ?_
    refine lv_aload_n hx hb dX11_tell_117 rfl (lv_at hl 0 rfl) ?_
    refine gf_main_deed hx hb hg hown hK hP rfl (hg _ q2_125) dX11_tell_118 ?_
    refine lv_iload_n hx hb dX11_tell_121 rfl (lv_at hl 3 rfl) ?_
    refine pf_fl_hour (f := 14) (by decide) hx hb hg hown hK hP hD hS (hg _ q1_229) dX11_tell_122 (fun H locs hP hD hS => ?_)
    refine lv_goto (tgt := 136) hx hb dX11_tell_125 (by decide) ?_
    have hP : va_P D vwCl (CW cs ad fa fq rv (va_up (va_up v 2 (v 2)) 3 (v 3)) (va_up (va_up (va_up (va_up a 11 (a 11)) 14 (a 14)) 12 (a 12)) 13 (a 13)) w (va_up fv 14 (va_up (fv 14) 0 p3)) (va_up fp 14 (fp 14))) _ := hP
    have hD : va_D A (CW cs ad fa fq rv (va_up (va_up v 2 (v 2)) 3 (v 3)) (va_up (va_up (va_up (va_up a 11 (a 11)) 14 (a 14)) 12 (a 12)) 13 (a 13)) w (va_up fv 14 (va_up (fv 14) 0 p3)) (va_up fp 14 (fp 14))) := hD
    exact W.vret hx hb hr (fun tt ht hW => ⟨⟨⟨(a 11), (a 14), (a 12), (fp 14), (a 13), (va_up (fv 14) 0 p3), (v 2), (v 3)⟩, rfl, ⟨(by rfl), (show (fv 14 2).toInt = -2 ∨ (0 ≤ (fv 14 2).toInt ∧ (fv 14 2).toInt < (v 1).toInt) by first | omega | assumption)⟩, by rw [ht]; exact hP, hD⟩, hS.F ht⟩) hS.2.2 dX11_tell_136
  ·
    refine lv_tableOut (tgt := 128) hx hb dX11_tell_1 kc_1 (by decide) ?_
    refine lv_aload_n hx hb dX11_tell_128 rfl (lv_at hl 0 rfl) ?_
    refine gf_main_parish hx hb hg hown hK hP rfl (hg _ q2_123) dX11_tell_129 ?_
    refine lv_iload_n hx hb dX11_tell_132 rfl (lv_at hl 3 rfl) ?_
    refine pf_parish_pace hx hb hg hown hK hP hD hS (hg _ q1_115) dX11_tell_133 (fun H locs hP hD hS => ?_)
    have hP : va_P D vwCl (CW cs ad fa fq rv (va_up (va_up v 2 (v 2)) 3 p3) (va_up (va_up (va_up (va_up a 11 (a 11)) 14 (a 14)) 12 (a 12)) 13 (a 13)) w (va_up fv 14 (fv 14)) (va_up fp 14 (fp 14))) _ := hP
    have hD : va_D A (CW cs ad fa fq rv (va_up (va_up v 2 (v 2)) 3 p3) (va_up (va_up (va_up (va_up a 11 (a 11)) 14 (a 14)) 12 (a 12)) 13 (a 13)) w (va_up fv 14 (fv 14)) (va_up fp 14 (fp 14))) := hD
    exact W.vret hx hb hr (fun tt ht hW => ⟨⟨⟨(a 11), (a 14), (a 12), (fp 14), (a 13), (fv 14), (v 2), p3⟩, rfl, ⟨(by rfl), (show (fv 14 2).toInt = -2 ∨ (0 ≤ (fv 14 2).toInt ∧ (fv 14 2).toInt < (v 1).toInt) by first | omega | assumption)⟩, by rw [ht]; exact hP, hD⟩, hS.F ht⟩) hS.2.2 dX11_tell_136
set_option maxHeartbeats 4000000 in
set_option maxRecDepth 100000 in
theorem k_X11_of (l : Launch) (D : va_G) (cs : Nat → ClassId) (A : Nat → Prop) (ad fa fq rv : Nat → Nat) (v : Nat → Int32) (a : Nat → Nat → Int32) (w : Nat → Nat → Int64) (fv fp : Nat → Nat → Int32)  (p1 : Int32) (p2 : Int32) (iv1_0 : 0 ≤ (v 1).toInt) (iv1_1 : (v 1).toInt ≤ 8) : Met l yX11_of (Cond.code yX11_of cX11_of 3 (some .int) :: gw) ({ frames := 2, cells := 0, slots := 0, locals := 43 }) (va_Pc [.ref (ad 0), .int p1, .int p2] (XPre D (TY cs) (CW cs ad fa fq rv v a w fv fp) A)) (vp_Si (fun (r : Int32) => True)) 0 0 (fun _ => False) := by
  refine Met.ofW (cc := cX11_of) (maxL := 3) (ret := (some .int)) (by decide) rfl ?_
  intro p e s m args below meth c s₁ B hml hv
  obtain ⟨rfl, hP, hK, hD, hZ⟩ := hv
  have hx := B.exec
  have hb := B.bytes
  have hr := B.returns
  have hts := atoms_spec (ws := (Cond.code yX11_of cX11_of 3 (some .int) :: gw)) B.pre
  have hg : ∀ w ∈ gw, w.before ([.ref (ad 0), .int p1, .int p2] : List Value).toArray s = true := fun w h => hts w (List.mem_cons_of_mem _ h)
  have hown : s.vm.findClass RX11 = some m.cls := findClass_of_methodNamed B.named
  have hlocks := B.notSynchronized
  have hS : va_S A s.heap s.heap [] := va_S.rf
  have hl := lv_entry ([.ref (ad 0), .int p1, .int p2]) (n := 3) (Nat.le_of_ble_eq_true rfl)
  rw [lg_entry_eq]
  generalize (lg_sl ([.ref (ad 0), .int p1, .int p2]) ++ List.replicate (3 - (lg_sl ([.ref (ad 0), .int p1, .int p2])).length) Slot.unset).toArray = ls at hl ⊢
  have hl : lv_has ls 3 [(0, .ref (ad 0)), (1, .int p1), (2, .int p2)] := hl
  refine lv_aload_n hx hb dX11_of_0 rfl (lv_at hl 0 rfl) ?_
  refine lv_iload_n hx hb dX11_of_1 rfl (lv_at hl 1 rfl) ?_
  refine lv_iload_n hx hb dX11_of_2 rfl (lv_at hl 2 rfl) ?_
  refine cV_ro (As := [.int p1, .int p2]) (rest := []) ⟨hx, hb, hml, hown, hg⟩ (k_X11_isTold l D cs A ad fa fq rv v a w fv fp  p1 p2 (show 0 ≤ (v 1).toInt by first | omega | decide) (show (v 1).toInt ≤ 8 by first | omega | decide)) ca_X11_isTold q3_0 ⟨rfl, rfl⟩ ⟨Nat.le_of_ble_eq_true rfl, Nat.le_of_ble_eq_true rfl⟩ (rc_main hK hP) hK hP hD hS hZ rfl hl.1 rfl (Nat.le_of_ble_eq_true rfl) ⟨Nat.zero_le _, Nat.zero_le _⟩ dX11_of_3 (fun r_1 wr_1 => ?_)
  have wr_1_0 : (r_1.toInt = 1 ∧ ((0 ≤ p2.toInt ∧ p2.toInt ≤ 3 ∧ 0 ≤ p1.toInt ∧ p1.toInt < (v 1).toInt) ∨ (4 ≤ p2.toInt ∧ p2.toInt ≤ 7 ∧ p1.toInt = 0))) ∨ (r_1.toInt = 0 ∧ ¬ (((0 ≤ p2.toInt ∧ p2.toInt ≤ 3 ∧ 0 ≤ p1.toInt ∧ p1.toInt < (v 1).toInt) ∨ (4 ≤ p2.toInt ∧ p2.toInt ≤ 7 ∧ p1.toInt = 0)))) := wr_1
  refine lv_if_eq (tgt := 18) hx hb dX11_of_6 (by decide) (fun c_2 => ?_) (fun c_2 => ?_)
  ·
    have kc_2 : r_1.toInt = (0 : Int) := i_eq c_2
    refine lv_iconst (v := (-1)) hx hb dX11_of_18 (by decide) ?_
    have q0_m1 : ((-1) : Int32).toInt = (-1) := rfl
    exact W.iret (v := (-1)) hx hb hr (fun tt ht hW => ⟨(-1), rfl, trivial, ht⟩) (fun _ h => by cases h) dX11_of_19
  ·
    have kc_2 : r_1.toInt ≠ (0 : Int) := i_ne c_2
    refine lv_aload_n hx hb dX11_of_9 rfl (lv_at hl 0 rfl) ?_
    refine lv_iload_n hx hb dX11_of_10 rfl (lv_at hl 1 rfl) ?_
    refine lv_iload_n hx hb dX11_of_11 rfl (lv_at hl 2 rfl) ?_
    refine cV_ro (As := [.int p1, .int p2]) (rest := []) ⟨hx, hb, hml, hown, hg⟩ (k_X11_told l D cs A ad fa fq rv v a w fv fp  p1 p2 (show 0 ≤ p1.toInt by first | omega | decide) (show p1.toInt < 8 by first | omega | decide)) ca_X11_told q3_10 ⟨rfl, rfl⟩ ⟨Nat.le_of_ble_eq_true rfl, Nat.le_of_ble_eq_true rfl⟩ (rc_main hK hP) hK hP hD hS hZ rfl hl.1 rfl (Nat.le_of_ble_eq_true rfl) ⟨Nat.zero_le _, Nat.zero_le _⟩ dX11_of_12 (fun r_3 wr_3 => ?_)
    have wr_3_0 : True := wr_3
    refine lv_goto (tgt := 19) hx hb dX11_of_15 (by decide) ?_
    exact W.iret (v := r_3) hx hb hr (fun tt ht hW => ⟨r_3, rfl, trivial, ht⟩) (fun _ h => by cases h) dX11_of_19
set_option maxHeartbeats 4000000 in
set_option maxRecDepth 100000 in
theorem k_X6_takeLetter (l : Launch) (D : va_G) (cs : Nat → ClassId) (A : Nat → Prop) (ad fa fq rv : Nat → Nat) (v : Nat → Int32) (a : Nat → Nat → Int32) (w : Nat → Nat → Int64) (fv fp : Nat → Nat → Int32)  (p1 : Int32) (iv4_0 : 0 ≤ (v 4).toInt) (iv4_1 : (v 4).toInt ≤ 120) : Met l yX6_takeLetter (Cond.code yX6_takeLetter cX6_takeLetter 2 (some .int) :: gw) ({ frames := 0, cells := 0, slots := 0, locals := 0 }) (va_Pc [.ref (ad 2), .int p1] (XPre D (TY cs) (CW cs ad fa fq rv v a w fv fp) A)) (va_Qi (fun (r : Int32) (z : Int32 × (Nat → Int32)) => (((v 4).toInt < 120 ∧ r.toInt = (v 4).toInt + 1 ∧ z.1.toInt = (v 4).toInt + 1) ∨ ((v 4).toInt = 120 ∧ r.toInt = -3 ∧ z.1.toInt = (v 4).toInt)) ∧ (0 ≤ z.1.toInt) ∧ (z.1.toInt ≤ 120)) (XPo D (fun (z : Int32 × (Nat → Int32)) => CW cs ad fa fq rv (va_up v 4 z.1) (va_up a 15 z.2) w fv fp) A) A) 0 0 A := by
  refine Met.ofW (cc := cX6_takeLetter) (maxL := 2) (ret := (some .int)) (by decide) rfl ?_
  intro p e s m args below meth c s₁ B hml hv
  obtain ⟨rfl, hP, hK, hD, hZ⟩ := hv
  have hx := B.exec
  have hb := B.bytes
  have hr := B.returns
  have hts := atoms_spec (ws := (Cond.code yX6_takeLetter cX6_takeLetter 2 (some .int) :: gw)) B.pre
  have hg : ∀ w ∈ gw, w.before ([.ref (ad 2), .int p1] : List Value).toArray s = true := fun w h => hts w (List.mem_cons_of_mem _ h)
  have hown : s.vm.findClass RX6 = some m.cls := findClass_of_methodNamed B.named
  have hlocks := B.notSynchronized
  have hS : va_S A s.heap s.heap [] := va_S.rf
  have hP : va_P D vwCl (CW cs ad fa fq rv v a w fv fp) s.heap := hP
  have hl := lv_entry ([.ref (ad 2), .int p1]) (n := 2) (Nat.le_of_ble_eq_true rfl)
  rw [lg_entry_eq]
  generalize (lg_sl ([.ref (ad 2), .int p1]) ++ List.replicate (2 - (lg_sl ([.ref (ad 2), .int p1])).length) Slot.unset).toArray = ls at hl ⊢
  have hl : lv_has ls 2 [(0, .ref (ad 2)), (1, .int p1)] := hl
  refine lv_aload_n hx hb dX6_takeLetter_0 rfl (lv_at hl 0 rfl) ?_
  refine gf_rules_fed hx hb hg hown hK hP (x := (v 4)) rfl (hg _ q1_173) dX6_takeLetter_1 ?_
  refine lv_bipush (v := 120) hx hb dX6_takeLetter_4 (by decide) ?_
  refine lv_icmp_lt (tgt := 12) hx hb dX6_takeLetter_6 (by decide) (fun c_1 => ?_) (fun c_1 => ?_)
  ·
    have kc_1 : (v 4).toInt < (120 : Int) := i_lt c_1
    refine lv_aload_n hx hb dX6_takeLetter_12 rfl (lv_at hl 0 rfl) ?_
    refine gf_rules_tape hx hb hg hown hK hP rfl (hg _ q1_172) dX6_takeLetter_13 ?_
    refine lv_aload_n hx hb dX6_takeLetter_16 rfl (lv_at hl 0 rfl) ?_
    refine gf_rules_fed hx hb hg hown hK hP (x := (v 4)) rfl (hg _ q1_173) dX6_takeLetter_17 ?_
    refine lv_iload_n hx hb dX6_takeLetter_20 rfl (lv_at hl 1 rfl) ?_
    refine st_Ltape hx hb hK hP hD hS (i_in (by omega) (by omega)) dX6_takeLetter_21 (fun H locs hP hD hS => ?_)
    refine lv_aload_n hx hb dX6_takeLetter_22 rfl (lv_at hl 0 rfl) ?_
    refine lv_dup hx hb dX6_takeLetter_23 rfl ?_
    refine gf_rules_fed hx hb hg hown hK hP (x := (v 4)) rfl (hg _ q1_173) dX6_takeLetter_24 ?_
    refine lv_iconst (v := 1) hx hb dX6_takeLetter_27 (by decide) ?_
    refine lv_iadd hx hb dX6_takeLetter_28 ?_
    refine lv_topi (fun x_2 ex_2 => ?_)
    have fx_2 : x_2.toInt = (v 4).toInt + (1 : Int) := by rw [ex_2]; exact i_add (by first | omega | (show (_ : Int) ≤ (v 4).toInt + (1 : Int); omega)) (by first | omega | (show (v 4).toInt + (1 : Int) ≤ (_ : Int); omega))
    refine pf_rules_fed hx hb hg hown hK hP hD hS (hg _ q1_173) dX6_takeLetter_29 (fun H locs hP hD hS => ?_)
    refine lv_aload_n hx hb dX6_takeLetter_32 rfl (lv_at hl 0 rfl) ?_
    refine gf_rules_fed hx hb hg hown hK hP (x := x_2) rfl (hg _ q1_173) dX6_takeLetter_33 ?_
    exact W.iret (v := x_2) hx hb hr (fun tt ht hW => ⟨⟨x_2, ⟨x_2, (upd (a 15) (v 4).toNatClampNeg p1)⟩, rfl, ⟨(by first | rfl | omega | trivial | assumption | (dsimp only; first | omega | assumption)), (show 0 ≤ x_2.toInt by first | omega | assumption), (show x_2.toInt ≤ 120 by first | omega | assumption)⟩, by rw [ht]; exact hP, hD⟩, hS.F ht⟩) hS.2.2 dX6_takeLetter_36
  ·
    have kc_1 : (120 : Int) ≤ (v 4).toInt := i_nlt c_1
    refine lv_bipush (v := (-3)) hx hb dX6_takeLetter_9 (by decide) ?_
    have q0_m3 : ((-3) : Int32).toInt = (-3) := rfl
    have hP : va_P D vwCl (CW cs ad fa fq rv (va_up v 4 (v 4)) (va_up a 15 (a 15)) w fv fp) _ := hP
    have hD : va_D A (CW cs ad fa fq rv (va_up v 4 (v 4)) (va_up a 15 (a 15)) w fv fp) := hD
    exact W.iret (v := (-3)) hx hb hr (fun tt ht hW => ⟨⟨(-3), ⟨(v 4), (a 15)⟩, rfl, ⟨(by first | rfl | omega | trivial | assumption | (dsimp only; first | omega | assumption)), (show 0 ≤ (v 4).toInt by first | omega | assumption), (show (v 4).toInt ≤ 120 by first | omega | assumption)⟩, by rw [ht]; exact hP, hD⟩, hS.F ht⟩) hS.2.2 dX6_takeLetter_11
set_option maxHeartbeats 4000000 in
set_option maxRecDepth 100000 in
theorem k_X11_feed (l : Launch) (D : va_G) (cs : Nat → ClassId) (A : Nat → Prop) (ad fa fq rv : Nat → Nat) (v : Nat → Int32) (a : Nat → Nat → Int32) (w : Nat → Nat → Int64) (fv fp : Nat → Nat → Int32)  (p1 : Int32) (iv4_0 : 0 ≤ (v 4).toInt) (iv4_1 : (v 4).toInt ≤ 120) : Met l yX11_feed (Cond.code yX11_feed cX11_feed 2 (some .int) :: gw) ({ frames := 1, cells := 0, slots := 0, locals := 21 }) (va_Pc [.ref (ad 0), .int p1] (XPre D (TY cs) (CW cs ad fa fq rv v a w fv fp) A)) (va_Qi (fun (r : Int32) (z : Int32 × (Nat → Int32)) => (((0 ≤ p1.toInt ∧ p1.toInt ≤ 255) ∧ (v 4).toInt < 120 ∧ r.toInt = (v 4).toInt + 1 ∧ z.1.toInt = (v 4).toInt + 1) ∨ ((0 ≤ p1.toInt ∧ p1.toInt ≤ 255) ∧ (v 4).toInt = 120 ∧ r.toInt = -3 ∧ z.1.toInt = (v 4).toInt) ∨ (¬ (0 ≤ p1.toInt ∧ p1.toInt ≤ 255) ∧ r.toInt = -1 ∧ z.1.toInt = (v 4).toInt)) ∧ (0 ≤ z.1.toInt) ∧ (z.1.toInt ≤ 120)) (XPo D (fun (z : Int32 × (Nat → Int32)) => CW cs ad fa fq rv (va_up v 4 z.1) (va_up a 15 z.2) w fv fp) A) A) 0 0 A := by
  refine Met.ofW (cc := cX11_feed) (maxL := 2) (ret := (some .int)) (by decide) rfl ?_
  intro p e s m args below meth c s₁ B hml hv
  obtain ⟨rfl, hP, hK, hD, hZ⟩ := hv
  have hx := B.exec
  have hb := B.bytes
  have hr := B.returns
  have hts := atoms_spec (ws := (Cond.code yX11_feed cX11_feed 2 (some .int) :: gw)) B.pre
  have hg : ∀ w ∈ gw, w.before ([.ref (ad 0), .int p1] : List Value).toArray s = true := fun w h => hts w (List.mem_cons_of_mem _ h)
  have hown : s.vm.findClass RX11 = some m.cls := findClass_of_methodNamed B.named
  have hlocks := B.notSynchronized
  have hS : va_S A s.heap s.heap [] := va_S.rf
  have hP : va_P D vwCl (CW cs ad fa fq rv v a w fv fp) s.heap := hP
  have hl := lv_entry ([.ref (ad 0), .int p1]) (n := 2) (Nat.le_of_ble_eq_true rfl)
  rw [lg_entry_eq]
  generalize (lg_sl ([.ref (ad 0), .int p1]) ++ List.replicate (2 - (lg_sl ([.ref (ad 0), .int p1])).length) Slot.unset).toArray = ls at hl ⊢
  have hl : lv_has ls 2 [(0, .ref (ad 0)), (1, .int p1)] := hl
  refine lv_iload_n hx hb dX11_feed_0 rfl (lv_at hl 1 rfl) ?_
  refine lv_if_lt (tgt := 11) hx hb dX11_feed_1 (by decide) (fun c_1 => ?_) (fun c_1 => ?_)
  ·
    have kc_1 : p1.toInt < (0 : Int) := i_lt c_1
    refine lv_iconst (v := (-1)) hx hb dX11_feed_11 (by decide) ?_
    have q0_m1 : ((-1) : Int32).toInt = (-1) := rfl
    have hP : va_P D vwCl (CW cs ad fa fq rv (va_up v 4 (v 4)) (va_up a 15 (a 15)) w fv fp) _ := hP
    have hD : va_D A (CW cs ad fa fq rv (va_up v 4 (v 4)) (va_up a 15 (a 15)) w fv fp) := hD
    exact W.iret (v := (-1)) hx hb hr (fun tt ht hW => ⟨⟨(-1), ⟨(v 4), (a 15)⟩, rfl, ⟨(by first | rfl | omega | trivial | assumption | (dsimp only; first | omega | assumption)), (show 0 ≤ (v 4).toInt by first | omega | assumption), (show (v 4).toInt ≤ 120 by first | omega | assumption)⟩, by rw [ht]; exact hP, hD⟩, hS.F ht⟩) hS.2.2 dX11_feed_12
  ·
    have kc_1 : (0 : Int) ≤ p1.toInt := i_nlt c_1
    refine lv_iload_n hx hb dX11_feed_4 rfl (lv_at hl 1 rfl) ?_
    refine lv_sipush (v := 255) hx hb dX11_feed_5 (by decide) ?_
    refine lv_icmp_le (tgt := 13) hx hb dX11_feed_8 (by decide) (fun c_2 => ?_) (fun c_2 => ?_)
    ·
      have kc_2 : p1.toInt ≤ (255 : Int) := i_le c_2
      refine lv_aload_n hx hb dX11_feed_13 rfl (lv_at hl 0 rfl) ?_
      refine gf_main_rules hx hb hg hown hK hP rfl (hg _ q2_124) dX11_feed_14 ?_
      refine lv_iload_n hx hb dX11_feed_17 rfl (lv_at hl 1 rfl) ?_
      refine cV_i (As := [.int p1]) (rest := []) ⟨hx, hb, hml, hown, hg⟩ (k_X6_takeLetter l D cs A ad fa fq rv v a w fv fp  p1 (show 0 ≤ (v 4).toInt by first | omega | decide) (show (v 4).toInt ≤ 120 by first | omega | decide)) ca_X6_takeLetter q3_44 ⟨rfl, rfl⟩ ⟨Nat.le_of_ble_eq_true rfl, Nat.le_of_ble_eq_true rfl⟩ (rc_rules hK hP) hK hP hD hS hZ rfl hl.1 rfl (Nat.le_of_ble_eq_true rfl) ⟨Nat.zero_le _, Nat.zero_le _⟩ dX11_feed_18 (fun r_3 z_6 H locs wr_3 hP hD hS => ?_)
      obtain ⟨o_v4_4, o_a15_5⟩ := z_6
      have hP : va_P D vwCl (CW cs ad fa fq rv (va_up v 4 o_v4_4) (va_up a 15 o_a15_5) w fv fp) H := hP
      have hD : va_D A (CW cs ad fa fq rv (va_up v 4 o_v4_4) (va_up a 15 o_a15_5) w fv fp) := hD
      obtain ⟨wr_3_0, wr_3_1, wr_3_2⟩ : (((v 4).toInt < 120 ∧ r_3.toInt = (v 4).toInt + 1 ∧ o_v4_4.toInt = (v 4).toInt + 1) ∨ ((v 4).toInt = 120 ∧ r_3.toInt = -3 ∧ o_v4_4.toInt = (v 4).toInt)) ∧ (0 ≤ o_v4_4.toInt) ∧ (o_v4_4.toInt ≤ 120) := wr_3
      exact W.iret (v := r_3) hx hb hr (fun tt ht hW => ⟨⟨r_3, ⟨o_v4_4, o_a15_5⟩, rfl, ⟨(by first | rfl | omega | trivial | assumption | (dsimp only; first | omega | assumption)), (show 0 ≤ o_v4_4.toInt by first | omega | assumption), (show o_v4_4.toInt ≤ 120 by first | omega | assumption)⟩, by rw [ht]; exact hP, hD⟩, hS.F ht⟩) hS.2.2 dX11_feed_21
    ·
      have kc_2 : (255 : Int) < p1.toInt := i_nle c_2
      refine lv_iconst (v := (-1)) hx hb dX11_feed_11 (by decide) ?_
      have q0_m1 : ((-1) : Int32).toInt = (-1) := rfl
      have hP : va_P D vwCl (CW cs ad fa fq rv (va_up v 4 (v 4)) (va_up a 15 (a 15)) w fv fp) _ := hP
      have hD : va_D A (CW cs ad fa fq rv (va_up v 4 (v 4)) (va_up a 15 (a 15)) w fv fp) := hD
      exact W.iret (v := (-1)) hx hb hr (fun tt ht hW => ⟨⟨(-1), ⟨(v 4), (a 15)⟩, rfl, ⟨(by first | rfl | omega | trivial | assumption | (dsimp only; first | omega | assumption)), (show 0 ≤ (v 4).toInt by first | omega | assumption), (show (v 4).toInt ≤ 120 by first | omega | assumption)⟩, by rw [ht]; exact hP, hD⟩, hS.F ht⟩) hS.2.2 dX11_feed_12
set_option maxHeartbeats 4000000 in
set_option maxRecDepth 100000 in
theorem k_X11_loud (l : Launch) (D : va_G) (cs : Nat → ClassId) (A : Nat → Prop) (ad fa fq rv : Nat → Nat) (v : Nat → Int32) (a : Nat → Nat → Int32) (w : Nat → Nat → Int64) (fv fp : Nat → Nat → Int32)  (p1 : Int32) (iv1_0 : 0 ≤ (v 1).toInt) (iv1_1 : (v 1).toInt ≤ 8) (ifv14_0 : (fv 14 2).toInt = -2 ∨ (0 ≤ (fv 14 2).toInt ∧ (fv 14 2).toInt < (v 1).toInt)) (iv5_0 : 0 ≤ (v 5).toInt) (iv5_1 : (v 5).toInt ≤ 256) (ia18_0 : AB (-1000) 20000 (a 18)) : Met l yX11_loud (Cond.code yX11_loud cX11_loud 2 (some .int) :: gw) ({ frames := 3, cells := 0, slots := 0, locals := 103 }) (va_Pc [.ref (ad 0), .int p1] (XPre D (TY cs) (CW cs ad fa fq rv v a w fv fp) A)) (va_Qi (fun (r : Int32) (z : (Nat → Int32) × (Nat → Int32) × (Nat → Int32) × (Nat → Int32)) => True) (XPo D (fun (z : (Nat → Int32) × (Nat → Int32) × (Nat → Int32) × (Nat → Int32)) => CW cs ad fa fq rv v (va_up (va_up a 17 z.1) 16 z.2.1) w (va_up fv 15 z.2.2.1) (va_up fp 15 z.2.2.2)) A) A) 0 0 A := by
  refine Met.ofW (cc := cX11_loud) (maxL := 2) (ret := (some .int)) (by decide) rfl ?_
  intro p e s m args below meth c s₁ B hml hv
  obtain ⟨rfl, hP, hK, hD, hZ⟩ := hv
  have hx := B.exec
  have hb := B.bytes
  have hr := B.returns
  have hts := atoms_spec (ws := (Cond.code yX11_loud cX11_loud 2 (some .int) :: gw)) B.pre
  have hg : ∀ w ∈ gw, w.before ([.ref (ad 0), .int p1] : List Value).toArray s = true := fun w h => hts w (List.mem_cons_of_mem _ h)
  have hown : s.vm.findClass RX11 = some m.cls := findClass_of_methodNamed B.named
  have hlocks := B.notSynchronized
  have hS : va_S A s.heap s.heap [] := va_S.rf
  have hP : va_P D vwCl (CW cs ad fa fq rv v a w fv fp) s.heap := hP
  have hl := lv_entry ([.ref (ad 0), .int p1]) (n := 2) (Nat.le_of_ble_eq_true rfl)
  rw [lg_entry_eq]
  generalize (lg_sl ([.ref (ad 0), .int p1]) ++ List.replicate (2 - (lg_sl ([.ref (ad 0), .int p1])).length) Slot.unset).toArray = ls at hl ⊢
  have hl : lv_has ls 2 [(0, .ref (ad 0)), (1, .int p1)] := hl
  refine lv_aload_n hx hb dX11_loud_0 rfl (lv_at hl 0 rfl) ?_
  refine gf_main_parish hx hb hg hown hK hP rfl (hg _ q2_123) dX11_loud_1 ?_
  refine lv_iload_n hx hb dX11_loud_4 rfl (lv_at hl 1 rfl) ?_
  refine cV_ro (As := [.int p1]) (rest := []) ⟨hx, hb, hml, hown, hg⟩ (k_X9_has l D cs A ad fa fq rv v a w fv fp  p1 (show 0 ≤ (v 1).toInt by first | omega | decide) (show (v 1).toInt ≤ 8 by first | omega | decide)) ca_X9_has q3_4 ⟨rfl, rfl⟩ ⟨Nat.le_of_ble_eq_true rfl, Nat.le_of_ble_eq_true rfl⟩ (rc_parish hK hP) hK hP hD hS hZ rfl hl.1 rfl (Nat.le_of_ble_eq_true rfl) ⟨Nat.zero_le _, Nat.zero_le _⟩ dX11_loud_5 (fun r_1 wr_1 => ?_)
  have wr_1_0 : (r_1.toInt = 1 ∧ 0 ≤ p1.toInt ∧ p1.toInt < (v 1).toInt) ∨ (r_1.toInt = 0 ∧ ¬ (0 ≤ p1.toInt ∧ p1.toInt < (v 1).toInt)) := wr_1
  refine lv_if_ne (tgt := 13) hx hb dX11_loud_8 (by decide) (fun c_2 => ?_) (fun c_2 => ?_)
  ·
    have kc_2 : r_1.toInt ≠ (0 : Int) := i_ne c_2
    refine lv_aload_n hx hb dX11_loud_13 rfl (lv_at hl 0 rfl) ?_
    refine gf_main_thought hx hb hg hown hK hP rfl (hg _ q2_126) dX11_loud_14 ?_
    refine lv_aload_n hx hb dX11_loud_17 rfl (lv_at hl 0 rfl) ?_
    refine gf_main_deed hx hb hg hown hK hP rfl (hg _ q2_125) dX11_loud_18 ?_
    refine cV_v (As := [.ref (fa 14)]) (rest := []) ⟨hx, hb, hml, hown, hg⟩ (k_X3_begin l D cs A ad fa fq rv v a w fv fp 15 14  (by omega) (by omega) (by omega) (show 0 ≤ (v 1).toInt by first | omega | decide) (show (v 1).toInt ≤ 8 by first | omega | decide) (show (fv 14 2).toInt = -2 ∨ (0 ≤ (fv 14 2).toInt ∧ (fv 14 2).toInt < (v 1).toInt) by first | omega | decide)) ca_X3_begin q3_117 ⟨rfl, rfl⟩ ⟨Nat.le_of_ble_eq_true rfl, Nat.le_of_ble_eq_true rfl⟩ (rc_fl (f := 15) (by decide) hK hP) hK hP hD hS hZ rfl hl.1 rfl (Nat.le_of_ble_eq_true rfl) ⟨Nat.zero_le _, Nat.zero_le _⟩ dX11_loud_21 (fun z_6 H locs wr_3 hP hD hS => ?_)
    obtain ⟨o_fvf_4, o_fpf_5⟩ := z_6
    have hP : va_P D vwCl (CW cs ad fa fq rv v a w (va_up fv 15 o_fvf_4) (va_up fp 15 o_fpf_5)) H := hP
    have hD : va_D A (CW cs ad fa fq rv v a w (va_up fv 15 o_fvf_4) (va_up fp 15 o_fpf_5)) := hD
    obtain ⟨wr_3_0, wr_3_1, wr_3_2, wr_3_3, wr_3_4, wr_3_5, wr_3_6, wr_3_7, wr_3_8⟩ : (o_fvf_4 0 = (fv 14 0)) ∧ (o_fvf_4 1 = (fv 14 1)) ∧ (o_fvf_4 2 = (fv 14 2)) ∧ (o_fvf_4 3 = 0) ∧ (o_fvf_4 4 = 0) ∧ (o_fvf_4 5 = 0) ∧ (o_fvf_4 6 = 0) ∧ (o_fvf_4 7 = 0) ∧ ((o_fvf_4 2).toInt = -2 ∨ (0 ≤ (o_fvf_4 2).toInt ∧ (o_fvf_4 2).toInt < (v 1).toInt)) := wr_3
    refine lv_aload_n hx hb dX11_loud_24 rfl (lv_at hl 0 rfl) ?_
    refine gf_main_rules hx hb hg hown hK hP rfl (hg _ q2_124) dX11_loud_25 ?_
    refine lv_aload_n hx hb dX11_loud_28 rfl (lv_at hl 0 rfl) ?_
    refine gf_main_thought hx hb hg hown hK hP rfl (hg _ q2_126) dX11_loud_29 ?_
    refine lv_iload_n hx hb dX11_loud_32 rfl (lv_at hl 1 rfl) ?_
    refine cV_i (As := [.ref (fa 15), .int p1]) (rest := []) ⟨hx, hb, hml, hown, hg⟩ (k_X6_loudness l D cs A ad fa fq rv v a w (va_up fv 15 o_fvf_4) (va_up fp 15 o_fpf_5) 15 p1 (by omega) (show 0 ≤ p1.toInt by first | omega | decide) (show p1.toInt < 8 by first | omega | decide) (show 0 ≤ (v 5).toInt by first | omega | decide) (show (v 5).toInt ≤ 256 by first | omega | decide) ia18_0) ca_X6_loudness q3_127 ⟨rfl, rfl⟩ ⟨Nat.le_of_ble_eq_true rfl, Nat.le_of_ble_eq_true rfl⟩ (rc_rules hK hP) hK hP hD hS hZ rfl hl.1 rfl (Nat.le_of_ble_eq_true rfl) ⟨Nat.zero_le _, Nat.zero_le _⟩ dX11_loud_33 (fun r_7 z_10 H locs wr_7 hP hD hS => ?_)
    obtain ⟨o_a17_8, o_a16_9⟩ := z_10
    have hP : va_P D vwCl (CW cs ad fa fq rv v (va_up (va_up a 17 o_a17_8) 16 o_a16_9) w (va_up fv 15 o_fvf_4) (va_up fp 15 o_fpf_5)) H := hP
    have hD : va_D A (CW cs ad fa fq rv v (va_up (va_up a 17 o_a17_8) 16 o_a16_9) w (va_up fv 15 o_fvf_4) (va_up fp 15 o_fpf_5)) := hD
    obtain ⟨wr_7_0, wr_7_1⟩ : (0 ≤ r_7.toInt) ∧ (r_7.toInt ≤ 99) := wr_7
    exact W.iret (v := r_7) hx hb hr (fun tt ht hW => ⟨⟨r_7, ⟨o_a17_8, o_a16_9, o_fvf_4, o_fpf_5⟩, rfl, trivial, by rw [ht]; exact hP, hD⟩, hS.F ht⟩) hS.2.2 dX11_loud_36
  ·
    have kc_2 : r_1.toInt = (0 : Int) := i_eq c_2
    refine lv_iconst (v := (-1)) hx hb dX11_loud_11 (by decide) ?_
    have q0_m1 : ((-1) : Int32).toInt = (-1) := rfl
    have hP : va_P D vwCl (CW cs ad fa fq rv v (va_up (va_up a 17 (a 17)) 16 (a 16)) w (va_up fv 15 (fv 15)) (va_up fp 15 (fp 15))) _ := hP
    have hD : va_D A (CW cs ad fa fq rv v (va_up (va_up a 17 (a 17)) 16 (a 16)) w (va_up fv 15 (fv 15)) (va_up fp 15 (fp 15))) := hD
    exact W.iret (v := (-1)) hx hb hr (fun tt ht hW => ⟨⟨(-1), ⟨(a 17), (a 16), (fv 15), (fp 15)⟩, rfl, trivial, by rw [ht]; exact hP, hD⟩, hS.F ht⟩) hS.2.2 dX11_loud_12
set_option maxHeartbeats 4000000 in
set_option maxRecDepth 100000 in
theorem k_X1_dropOldest_24 (l : Launch) (D : va_G) (cs : Nat → ClassId) (A : Nat → Prop) (ad fa fq rv : Nat → Nat) (v : Nat → Int32) (a : Nat → Nat → Int32) (w : Nat → Nat → Int64) (fv fp : Nat → Nat → Int32)   (ia24_0 : AB 0 7 (a 24)) : Met l yX1_dropOldest (Cond.code yX1_dropOldest cX1_dropOldest 1 none :: gw) ({ frames := 1, cells := 0, slots := 0, locals := 60 }) (va_Pc [.ref (ad 24)] (XPre D (TY cs) (CW cs ad fa fq rv v a w fv fp) A)) (va_Qv (fun (z : Nat → Int32) => (AB 0 7 z)) (XPo D (fun (z : Nat → Int32) => CW cs ad fa fq rv v (va_up a 24 z) w fv fp) A) A) 0 0 A := by
  refine Met.ofW (cc := cX1_dropOldest) (maxL := 1) (ret := none) (by decide) rfl ?_
  intro p e s m args below meth c s₁ B hml hv
  obtain ⟨rfl, hP, hK, hD, hZ⟩ := hv
  have hx := B.exec
  have hb := B.bytes
  have hr := B.returns
  have hts := atoms_spec (ws := (Cond.code yX1_dropOldest cX1_dropOldest 1 none :: gw)) B.pre
  have hg : ∀ w ∈ gw, w.before ([.ref (ad 24)] : List Value).toArray s = true := fun w h => hts w (List.mem_cons_of_mem _ h)
  have hown : s.vm.findClass RX1 = some m.cls := findClass_of_methodNamed B.named
  have hlocks := B.notSynchronized
  have hS : va_S A s.heap s.heap [] := va_S.rf
  have hP : va_P D vwCl (CW cs ad fa fq rv v a w fv fp) s.heap := hP
  have hl := lv_entry ([.ref (ad 24)]) (n := 1) (Nat.le_of_ble_eq_true rfl)
  rw [lg_entry_eq]
  generalize (lg_sl ([.ref (ad 24)]) ++ List.replicate (1 - (lg_sl ([.ref (ad 24)])).length) Slot.unset).toArray = ls at hl ⊢
  have hl : lv_has ls 1 [(0, .ref (ad 24))] := hl
  refine lv_aload_n hx hb dX1_dropOldest_0 rfl (lv_at hl 0 rfl) ?_
  refine lv_iconst (v := 1) hx hb dX1_dropOldest_1 (by decide) ?_
  refine lv_aload_n hx hb dX1_dropOldest_2 rfl (lv_at hl 0 rfl) ?_
  refine lv_iconst (v := 0) hx hb dX1_dropOldest_3 (by decide) ?_
  refine lv_bipush (v := 39) hx hb dX1_dropOldest_4 (by decide) ?_
  refine va_copyi hx hb (hml.trans hl.1.symm) hown (hg _ q3_21) (hg _ q3_23) (hg _ q3_22) (hg _ q1_15) hK hP hD hS 24 24 0 0 rfl rfl rfl rfl rfl (fun q => absurd q (by decide)) (fun q => absurd q (by decide)) (fun q => absurd q (by decide)) (by show 1 + 39 ≤ 40; omega) (by show 0 + 39 ≤ 40; omega) (fun _ _ => rfl) (Nat.le_of_ble_eq_true rfl) (Nat.le_of_ble_eq_true rfl) dX1_dropOldest_6 (fun H locs hP hD hS => ?_)
  have hab_1 : AB 0 7 (va_cpy (a 24) (a 24) (1 : Int32).toNatClampNeg (0 : Int32).toNatClampNeg (39 : Int32).toNatClampNeg) := AB_cpy ia24_0 ia24_0
  have hP : va_P D vwCl (CW cs ad fa fq rv v (va_up a 24 (va_cpy (a 24) (a 24) (1 : Int32).toNatClampNeg (0 : Int32).toNatClampNeg (39 : Int32).toNatClampNeg)) w fv fp) H := hP
  have hD : va_D A (CW cs ad fa fq rv v (va_up a 24 (va_cpy (a 24) (a 24) (1 : Int32).toNatClampNeg (0 : Int32).toNatClampNeg (39 : Int32).toNatClampNeg)) w fv fp) := hD
  exact W.vret hx hb hr (fun tt ht hW => ⟨⟨(va_cpy (a 24) (a 24) (1 : Int32).toNatClampNeg (0 : Int32).toNatClampNeg (39 : Int32).toNatClampNeg), rfl, hab_1, by rw [ht]; exact hP, hD⟩, hS.F ht⟩) hS.2.2 dX1_dropOldest_9
set_option maxHeartbeats 4000000 in
set_option maxRecDepth 100000 in
theorem k_X1_dropOldest_25 (l : Launch) (D : va_G) (cs : Nat → ClassId) (A : Nat → Prop) (ad fa fq rv : Nat → Nat) (v : Nat → Int32) (a : Nat → Nat → Int32) (w : Nat → Nat → Int64) (fv fp : Nat → Nat → Int32)   (ia25_0 : AB 0 7 (a 25)) : Met l yX1_dropOldest (Cond.code yX1_dropOldest cX1_dropOldest 1 none :: gw) ({ frames := 1, cells := 0, slots := 0, locals := 60 }) (va_Pc [.ref (ad 25)] (XPre D (TY cs) (CW cs ad fa fq rv v a w fv fp) A)) (va_Qv (fun (z : Nat → Int32) => (AB 0 7 z)) (XPo D (fun (z : Nat → Int32) => CW cs ad fa fq rv v (va_up a 25 z) w fv fp) A) A) 0 0 A := by
  refine Met.ofW (cc := cX1_dropOldest) (maxL := 1) (ret := none) (by decide) rfl ?_
  intro p e s m args below meth c s₁ B hml hv
  obtain ⟨rfl, hP, hK, hD, hZ⟩ := hv
  have hx := B.exec
  have hb := B.bytes
  have hr := B.returns
  have hts := atoms_spec (ws := (Cond.code yX1_dropOldest cX1_dropOldest 1 none :: gw)) B.pre
  have hg : ∀ w ∈ gw, w.before ([.ref (ad 25)] : List Value).toArray s = true := fun w h => hts w (List.mem_cons_of_mem _ h)
  have hown : s.vm.findClass RX1 = some m.cls := findClass_of_methodNamed B.named
  have hlocks := B.notSynchronized
  have hS : va_S A s.heap s.heap [] := va_S.rf
  have hP : va_P D vwCl (CW cs ad fa fq rv v a w fv fp) s.heap := hP
  have hl := lv_entry ([.ref (ad 25)]) (n := 1) (Nat.le_of_ble_eq_true rfl)
  rw [lg_entry_eq]
  generalize (lg_sl ([.ref (ad 25)]) ++ List.replicate (1 - (lg_sl ([.ref (ad 25)])).length) Slot.unset).toArray = ls at hl ⊢
  have hl : lv_has ls 1 [(0, .ref (ad 25))] := hl
  refine lv_aload_n hx hb dX1_dropOldest_0 rfl (lv_at hl 0 rfl) ?_
  refine lv_iconst (v := 1) hx hb dX1_dropOldest_1 (by decide) ?_
  refine lv_aload_n hx hb dX1_dropOldest_2 rfl (lv_at hl 0 rfl) ?_
  refine lv_iconst (v := 0) hx hb dX1_dropOldest_3 (by decide) ?_
  refine lv_bipush (v := 39) hx hb dX1_dropOldest_4 (by decide) ?_
  refine va_copyi hx hb (hml.trans hl.1.symm) hown (hg _ q3_21) (hg _ q3_23) (hg _ q3_22) (hg _ q1_15) hK hP hD hS 25 25 0 0 rfl rfl rfl rfl rfl (fun q => absurd q (by decide)) (fun q => absurd q (by decide)) (fun q => absurd q (by decide)) (by show 1 + 39 ≤ 40; omega) (by show 0 + 39 ≤ 40; omega) (fun _ _ => rfl) (Nat.le_of_ble_eq_true rfl) (Nat.le_of_ble_eq_true rfl) dX1_dropOldest_6 (fun H locs hP hD hS => ?_)
  have hab_1 : AB 0 7 (va_cpy (a 25) (a 25) (1 : Int32).toNatClampNeg (0 : Int32).toNatClampNeg (39 : Int32).toNatClampNeg) := AB_cpy ia25_0 ia25_0
  have hP : va_P D vwCl (CW cs ad fa fq rv v (va_up a 25 (va_cpy (a 25) (a 25) (1 : Int32).toNatClampNeg (0 : Int32).toNatClampNeg (39 : Int32).toNatClampNeg)) w fv fp) H := hP
  have hD : va_D A (CW cs ad fa fq rv v (va_up a 25 (va_cpy (a 25) (a 25) (1 : Int32).toNatClampNeg (0 : Int32).toNatClampNeg (39 : Int32).toNatClampNeg)) w fv fp) := hD
  exact W.vret hx hb hr (fun tt ht hW => ⟨⟨(va_cpy (a 25) (a 25) (1 : Int32).toNatClampNeg (0 : Int32).toNatClampNeg (39 : Int32).toNatClampNeg), rfl, hab_1, by rw [ht]; exact hP, hD⟩, hS.F ht⟩) hS.2.2 dX1_dropOldest_9
set_option maxHeartbeats 4000000 in
set_option maxRecDepth 100000 in
theorem k_X1_dropOldest_26 (l : Launch) (D : va_G) (cs : Nat → ClassId) (A : Nat → Prop) (ad fa fq rv : Nat → Nat) (v : Nat → Int32) (a : Nat → Nat → Int32) (w : Nat → Nat → Int64) (fv fp : Nat → Nat → Int32)    : Met l yX1_dropOldest (Cond.code yX1_dropOldest cX1_dropOldest 1 none :: gw) ({ frames := 1, cells := 0, slots := 0, locals := 60 }) (va_Pc [.ref (ad 26)] (XPre D (TY cs) (CW cs ad fa fq rv v a w fv fp) A)) (va_Qv (fun (z : Nat → Int32) => True) (XPo D (fun (z : Nat → Int32) => CW cs ad fa fq rv v (va_up a 26 z) w fv fp) A) A) 0 0 A := by
  refine Met.ofW (cc := cX1_dropOldest) (maxL := 1) (ret := none) (by decide) rfl ?_
  intro p e s m args below meth c s₁ B hml hv
  obtain ⟨rfl, hP, hK, hD, hZ⟩ := hv
  have hx := B.exec
  have hb := B.bytes
  have hr := B.returns
  have hts := atoms_spec (ws := (Cond.code yX1_dropOldest cX1_dropOldest 1 none :: gw)) B.pre
  have hg : ∀ w ∈ gw, w.before ([.ref (ad 26)] : List Value).toArray s = true := fun w h => hts w (List.mem_cons_of_mem _ h)
  have hown : s.vm.findClass RX1 = some m.cls := findClass_of_methodNamed B.named
  have hlocks := B.notSynchronized
  have hS : va_S A s.heap s.heap [] := va_S.rf
  have hP : va_P D vwCl (CW cs ad fa fq rv v a w fv fp) s.heap := hP
  have hl := lv_entry ([.ref (ad 26)]) (n := 1) (Nat.le_of_ble_eq_true rfl)
  rw [lg_entry_eq]
  generalize (lg_sl ([.ref (ad 26)]) ++ List.replicate (1 - (lg_sl ([.ref (ad 26)])).length) Slot.unset).toArray = ls at hl ⊢
  have hl : lv_has ls 1 [(0, .ref (ad 26))] := hl
  refine lv_aload_n hx hb dX1_dropOldest_0 rfl (lv_at hl 0 rfl) ?_
  refine lv_iconst (v := 1) hx hb dX1_dropOldest_1 (by decide) ?_
  refine lv_aload_n hx hb dX1_dropOldest_2 rfl (lv_at hl 0 rfl) ?_
  refine lv_iconst (v := 0) hx hb dX1_dropOldest_3 (by decide) ?_
  refine lv_bipush (v := 39) hx hb dX1_dropOldest_4 (by decide) ?_
  refine va_copyi hx hb (hml.trans hl.1.symm) hown (hg _ q3_21) (hg _ q3_23) (hg _ q3_22) (hg _ q1_15) hK hP hD hS 26 26 0 0 rfl rfl rfl rfl rfl (fun q => absurd q (by decide)) (fun q => absurd q (by decide)) (fun q => absurd q (by decide)) (by show 1 + 39 ≤ 40; omega) (by show 0 + 39 ≤ 40; omega) (fun _ _ => rfl) (Nat.le_of_ble_eq_true rfl) (Nat.le_of_ble_eq_true rfl) dX1_dropOldest_6 (fun H locs hP hD hS => ?_)
  have hP : va_P D vwCl (CW cs ad fa fq rv v (va_up a 26 (va_cpy (a 26) (a 26) (1 : Int32).toNatClampNeg (0 : Int32).toNatClampNeg (39 : Int32).toNatClampNeg)) w fv fp) H := hP
  have hD : va_D A (CW cs ad fa fq rv v (va_up a 26 (va_cpy (a 26) (a 26) (1 : Int32).toNatClampNeg (0 : Int32).toNatClampNeg (39 : Int32).toNatClampNeg)) w fv fp) := hD
  exact W.vret hx hb hr (fun tt ht hW => ⟨⟨(va_cpy (a 26) (a 26) (1 : Int32).toNatClampNeg (0 : Int32).toNatClampNeg (39 : Int32).toNatClampNeg), rfl, trivial, by rw [ht]; exact hP, hD⟩, hS.F ht⟩) hS.2.2 dX1_dropOldest_9
set_option maxHeartbeats 4000000 in
set_option maxRecDepth 100000 in
theorem k_X1_dropOldest_27 (l : Launch) (D : va_G) (cs : Nat → ClassId) (A : Nat → Prop) (ad fa fq rv : Nat → Nat) (v : Nat → Int32) (a : Nat → Nat → Int32) (w : Nat → Nat → Int64) (fv fp : Nat → Nat → Int32)    : Met l yX1_dropOldest (Cond.code yX1_dropOldest cX1_dropOldest 1 none :: gw) ({ frames := 1, cells := 0, slots := 0, locals := 60 }) (va_Pc [.ref (ad 27)] (XPre D (TY cs) (CW cs ad fa fq rv v a w fv fp) A)) (va_Qv (fun (z : Nat → Int32) => True) (XPo D (fun (z : Nat → Int32) => CW cs ad fa fq rv v (va_up a 27 z) w fv fp) A) A) 0 0 A := by
  refine Met.ofW (cc := cX1_dropOldest) (maxL := 1) (ret := none) (by decide) rfl ?_
  intro p e s m args below meth c s₁ B hml hv
  obtain ⟨rfl, hP, hK, hD, hZ⟩ := hv
  have hx := B.exec
  have hb := B.bytes
  have hr := B.returns
  have hts := atoms_spec (ws := (Cond.code yX1_dropOldest cX1_dropOldest 1 none :: gw)) B.pre
  have hg : ∀ w ∈ gw, w.before ([.ref (ad 27)] : List Value).toArray s = true := fun w h => hts w (List.mem_cons_of_mem _ h)
  have hown : s.vm.findClass RX1 = some m.cls := findClass_of_methodNamed B.named
  have hlocks := B.notSynchronized
  have hS : va_S A s.heap s.heap [] := va_S.rf
  have hP : va_P D vwCl (CW cs ad fa fq rv v a w fv fp) s.heap := hP
  have hl := lv_entry ([.ref (ad 27)]) (n := 1) (Nat.le_of_ble_eq_true rfl)
  rw [lg_entry_eq]
  generalize (lg_sl ([.ref (ad 27)]) ++ List.replicate (1 - (lg_sl ([.ref (ad 27)])).length) Slot.unset).toArray = ls at hl ⊢
  have hl : lv_has ls 1 [(0, .ref (ad 27))] := hl
  refine lv_aload_n hx hb dX1_dropOldest_0 rfl (lv_at hl 0 rfl) ?_
  refine lv_iconst (v := 1) hx hb dX1_dropOldest_1 (by decide) ?_
  refine lv_aload_n hx hb dX1_dropOldest_2 rfl (lv_at hl 0 rfl) ?_
  refine lv_iconst (v := 0) hx hb dX1_dropOldest_3 (by decide) ?_
  refine lv_bipush (v := 39) hx hb dX1_dropOldest_4 (by decide) ?_
  refine va_copyi hx hb (hml.trans hl.1.symm) hown (hg _ q3_21) (hg _ q3_23) (hg _ q3_22) (hg _ q1_15) hK hP hD hS 27 27 0 0 rfl rfl rfl rfl rfl (fun q => absurd q (by decide)) (fun q => absurd q (by decide)) (fun q => absurd q (by decide)) (by show 1 + 39 ≤ 40; omega) (by show 0 + 39 ≤ 40; omega) (fun _ _ => rfl) (Nat.le_of_ble_eq_true rfl) (Nat.le_of_ble_eq_true rfl) dX1_dropOldest_6 (fun H locs hP hD hS => ?_)
  have hP : va_P D vwCl (CW cs ad fa fq rv v (va_up a 27 (va_cpy (a 27) (a 27) (1 : Int32).toNatClampNeg (0 : Int32).toNatClampNeg (39 : Int32).toNatClampNeg)) w fv fp) H := hP
  have hD : va_D A (CW cs ad fa fq rv v (va_up a 27 (va_cpy (a 27) (a 27) (1 : Int32).toNatClampNeg (0 : Int32).toNatClampNeg (39 : Int32).toNatClampNeg)) w fv fp) := hD
  exact W.vret hx hb hr (fun tt ht hW => ⟨⟨(va_cpy (a 27) (a 27) (1 : Int32).toNatClampNeg (0 : Int32).toNatClampNeg (39 : Int32).toNatClampNeg), rfl, trivial, by rw [ht]; exact hP, hD⟩, hS.F ht⟩) hS.2.2 dX1_dropOldest_9
set_option maxHeartbeats 4000000 in
set_option maxRecDepth 100000 in
theorem k_X1_add (l : Launch) (D : va_G) (cs : Nat → ClassId) (A : Nat → Prop) (ad fa fq rv : Nat → Nat) (v : Nat → Int32) (a : Nat → Nat → Int32) (w : Nat → Nat → Int64) (fv fp : Nat → Nat → Int32)  (p1 : Int32) (p2 : Int32) (p3 : Int32) (p4 : Int32) (h1 : 0 ≤ p1.toInt) (h2 : p1.toInt ≤ 7) (h3 : 0 ≤ p2.toInt) (h4 : p2.toInt ≤ 7) (iv20_0 : 0 ≤ (v 20).toInt) (iv20_1 : (v 20).toInt ≤ 40) (iv19_0 : 0 ≤ (v 19).toInt) (iv19_1 : (v 19).toInt ≤ 40) (iv19_2 : (v 19).toInt ≤ (v 20).toInt) (ia24_0 : AB 0 7 (a 24)) (ia25_0 : AB 0 7 (a 25)) : Met l yX1_add (Cond.code yX1_add cX1_add 5 none :: gw) ({ frames := 2, cells := 0, slots := 0, locals := 80 }) (va_Pc [.ref (ad 7), .int p1, .int p2, .int p3, .int p4] (XPre D (TY cs) (CW cs ad fa fq rv v a w fv fp) A)) (va_Qv (fun (z : Int32 × Int32 × (Nat → Int32) × (Nat → Int32) × (Nat → Int32) × (Nat → Int32)) => (0 ≤ z.1.toInt) ∧ (z.1.toInt ≤ 40) ∧ (z.1.toInt ≤ z.2.1.toInt) ∧ (0 ≤ z.2.1.toInt) ∧ (z.2.1.toInt ≤ 40) ∧ (AB 0 7 z.2.2.1) ∧ (AB 0 7 z.2.2.2.1)) (XPo D (fun (z : Int32 × Int32 × (Nat → Int32) × (Nat → Int32) × (Nat → Int32) × (Nat → Int32)) => CW cs ad fa fq rv (va_up (va_up v 19 z.1) 20 z.2.1) (va_up (va_up (va_up (va_up a 24 z.2.2.1) 25 z.2.2.2.1) 26 z.2.2.2.2.1) 27 z.2.2.2.2.2) w fv fp) A) A) 0 0 A := by
  refine Met.ofW (cc := cX1_add) (maxL := 5) (ret := none) (by decide) rfl ?_
  intro p e s m args below meth c s₁ B hml hv
  obtain ⟨rfl, hP, hK, hD, hZ⟩ := hv
  have hx := B.exec
  have hb := B.bytes
  have hr := B.returns
  have hts := atoms_spec (ws := (Cond.code yX1_add cX1_add 5 none :: gw)) B.pre
  have hg : ∀ w ∈ gw, w.before ([.ref (ad 7), .int p1, .int p2, .int p3, .int p4] : List Value).toArray s = true := fun w h => hts w (List.mem_cons_of_mem _ h)
  have hown : s.vm.findClass RX1 = some m.cls := findClass_of_methodNamed B.named
  have hlocks := B.notSynchronized
  have hS : va_S A s.heap s.heap [] := va_S.rf
  have hP : va_P D vwCl (CW cs ad fa fq rv v a w fv fp) s.heap := hP
  have hl := lv_entry ([.ref (ad 7), .int p1, .int p2, .int p3, .int p4]) (n := 5) (Nat.le_of_ble_eq_true rfl)
  rw [lg_entry_eq]
  generalize (lg_sl ([.ref (ad 7), .int p1, .int p2, .int p3, .int p4]) ++ List.replicate (5 - (lg_sl ([.ref (ad 7), .int p1, .int p2, .int p3, .int p4])).length) Slot.unset).toArray = ls at hl ⊢
  have hl : lv_has ls 5 [(0, .ref (ad 7)), (1, .int p1), (2, .int p2), (3, .int p3), (4, .int p4)] := hl
  refine lv_aload_n hx hb dX1_add_0 rfl (lv_at hl 0 rfl) ?_
  refine gf_changes_done hx hb hg hown hK hP (x := (v 19)) rfl (hg _ q1_40) dX1_add_1 ?_
  refine lv_bipush (v := 40) hx hb dX1_add_4 (by decide) ?_
  refine lv_icmp_lt (tgt := 43) hx hb dX1_add_6 (by decide) (fun c_1 => ?_) (fun c_1 => ?_)
  ·
    have kc_1 : (v 19).toInt < (40 : Int) := i_lt c_1
    refine lv_aload_n hx hb dX1_add_43 rfl (lv_at hl 0 rfl) ?_
    refine gf_changes_number hx hb hg hown hK hP rfl (hg _ q1_32) dX1_add_44 ?_
    refine lv_aload_n hx hb dX1_add_47 rfl (lv_at hl 0 rfl) ?_
    refine gf_changes_done hx hb hg hown hK hP (x := (v 19)) rfl (hg _ q1_40) dX1_add_48 ?_
    refine lv_iload_n hx hb dX1_add_51 rfl (lv_at hl 1 rfl) ?_
    refine st_Cnumber hx hb hK hP hD hS (i_in (by omega) (by omega)) dX1_add_52 (fun H locs hP hD hS => ?_)
    have hab_2 : AB 0 7 (upd (a 24) (v 19).toNatClampNeg p1) := AB_upd ia24_0 (by omega) (by omega)
    refine lv_aload_n hx hb dX1_add_53 rfl (lv_at hl 0 rfl) ?_
    refine gf_changes_what hx hb hg hown hK hP rfl (hg _ q1_34) dX1_add_54 ?_
    refine lv_aload_n hx hb dX1_add_57 rfl (lv_at hl 0 rfl) ?_
    refine gf_changes_done hx hb hg hown hK hP (x := (v 19)) rfl (hg _ q1_40) dX1_add_58 ?_
    refine lv_iload_n hx hb dX1_add_61 rfl (lv_at hl 2 rfl) ?_
    refine st_Cwhat hx hb hK hP hD hS (i_in (by omega) (by omega)) dX1_add_62 (fun H locs hP hD hS => ?_)
    have hab_3 : AB 0 7 (upd (a 25) (v 19).toNatClampNeg p2) := AB_upd ia25_0 (by omega) (by omega)
    refine lv_aload_n hx hb dX1_add_63 rfl (lv_at hl 0 rfl) ?_
    refine gf_changes_was hx hb hg hown hK hP rfl (hg _ q1_36) dX1_add_64 ?_
    refine lv_aload_n hx hb dX1_add_67 rfl (lv_at hl 0 rfl) ?_
    refine gf_changes_done hx hb hg hown hK hP (x := (v 19)) rfl (hg _ q1_40) dX1_add_68 ?_
    refine lv_iload_n hx hb dX1_add_71 rfl (lv_at hl 3 rfl) ?_
    refine st_Cwas hx hb hK hP hD hS (i_in (by omega) (by omega)) dX1_add_72 (fun H locs hP hD hS => ?_)
    refine lv_aload_n hx hb dX1_add_73 rfl (lv_at hl 0 rfl) ?_
    refine gf_changes_becomes hx hb hg hown hK hP rfl (hg _ q1_38) dX1_add_74 ?_
    refine lv_aload_n hx hb dX1_add_77 rfl (lv_at hl 0 rfl) ?_
    refine gf_changes_done hx hb hg hown hK hP (x := (v 19)) rfl (hg _ q1_40) dX1_add_78 ?_
    refine lv_iload hx hb dX1_add_81 (lv_at hl 4 rfl) ?_
    refine st_Cbecomes hx hb hK hP hD hS (i_in (by omega) (by omega)) dX1_add_83 (fun H locs hP hD hS => ?_)
    refine lv_aload_n hx hb dX1_add_84 rfl (lv_at hl 0 rfl) ?_
    refine lv_dup hx hb dX1_add_85 rfl ?_
    refine gf_changes_done hx hb hg hown hK hP (x := (v 19)) rfl (hg _ q1_40) dX1_add_86 ?_
    refine lv_iconst (v := 1) hx hb dX1_add_89 (by decide) ?_
    refine lv_iadd hx hb dX1_add_90 ?_
    refine lv_topi (fun x_4 ex_4 => ?_)
    have fx_4 : x_4.toInt = (v 19).toInt + (1 : Int) := by rw [ex_4]; exact i_add (by first | omega | (show (_ : Int) ≤ (v 19).toInt + (1 : Int); omega)) (by first | omega | (show (v 19).toInt + (1 : Int) ≤ (_ : Int); omega))
    refine pf_changes_done hx hb hg hown hK hP hD hS (hg _ q1_40) dX1_add_91 (fun H locs hP hD hS => ?_)
    refine lv_aload_n hx hb dX1_add_94 rfl (lv_at hl 0 rfl) ?_
    refine lv_aload_n hx hb dX1_add_95 rfl (lv_at hl 0 rfl) ?_
    refine gf_changes_done hx hb hg hown hK hP (x := x_4) rfl (hg _ q1_40) dX1_add_96 ?_
    refine pf_changes_all hx hb hg hown hK hP hD hS (hg _ q1_42) dX1_add_99 (fun H locs hP hD hS => ?_)
    exact W.vret hx hb hr (fun tt ht hW => ⟨⟨⟨x_4, x_4, (upd (a 24) (v 19).toNatClampNeg p1), (upd (a 25) (v 19).toNatClampNeg p2), (upd (a 26) (v 19).toNatClampNeg p3), (upd (a 27) (v 19).toNatClampNeg p4)⟩, rfl, ⟨(show 0 ≤ x_4.toInt by first | omega | assumption), (show x_4.toInt ≤ 40 by first | omega | assumption), (show x_4.toInt ≤ x_4.toInt by first | omega | assumption), (show 0 ≤ x_4.toInt by first | omega | assumption), (show x_4.toInt ≤ 40 by first | omega | assumption), hab_2, hab_3⟩, by rw [ht]; exact hP, hD⟩, hS.F ht⟩) hS.2.2 dX1_add_102
  ·
    have kc_1 : (40 : Int) ≤ (v 19).toInt := i_nlt c_1
    refine lv_aload_n hx hb dX1_add_9 rfl (lv_at hl 0 rfl) ?_
    refine gf_changes_number hx hb hg hown hK hP rfl (hg _ q1_32) dX1_add_10 ?_
    refine cS_v (As := [.ref (ad 24)]) (rest := []) ⟨hx, hb, hml, hown, hg⟩ (k_X1_dropOldest_24 l D cs A ad fa fq rv v a w fv fp   ia24_0) ca_X1_dropOldest q3_18 ⟨rfl, rfl⟩ ⟨Nat.le_of_ble_eq_true rfl, Nat.le_of_ble_eq_true rfl⟩  hK hP hD hS hZ rfl hl.1 rfl (Nat.le_of_ble_eq_true rfl) ⟨Nat.zero_le _, Nat.zero_le _⟩ dX1_add_13 (fun o_a24_6 H locs wr_5 hP hD hS => ?_)
    have hP : va_P D vwCl (CW cs ad fa fq rv v (va_up a 24 o_a24_6) w fv fp) H := hP
    have hD : va_D A (CW cs ad fa fq rv v (va_up a 24 o_a24_6) w fv fp) := hD
    have wr_5_0 : AB 0 7 o_a24_6 := wr_5
    refine lv_aload_n hx hb dX1_add_16 rfl (lv_at hl 0 rfl) ?_
    refine gf_changes_what hx hb hg hown hK hP rfl (hg _ q1_34) dX1_add_17 ?_
    refine cS_v (As := [.ref (ad 25)]) (rest := []) ⟨hx, hb, hml, hown, hg⟩ (k_X1_dropOldest_25 l D cs A ad fa fq rv v (va_up a 24 o_a24_6) w fv fp   ia25_0) ca_X1_dropOldest q3_18 ⟨rfl, rfl⟩ ⟨Nat.le_of_ble_eq_true rfl, Nat.le_of_ble_eq_true rfl⟩  hK hP hD hS hZ rfl hl.1 rfl (Nat.le_of_ble_eq_true rfl) ⟨Nat.zero_le _, Nat.zero_le _⟩ dX1_add_20 (fun o_a25_8 H locs wr_7 hP hD hS => ?_)
    have hP : va_P D vwCl (CW cs ad fa fq rv v (va_up (va_up a 24 o_a24_6) 25 o_a25_8) w fv fp) H := hP
    have hD : va_D A (CW cs ad fa fq rv v (va_up (va_up a 24 o_a24_6) 25 o_a25_8) w fv fp) := hD
    have wr_7_0 : AB 0 7 o_a25_8 := wr_7
    refine lv_aload_n hx hb dX1_add_23 rfl (lv_at hl 0 rfl) ?_
    refine gf_changes_was hx hb hg hown hK hP rfl (hg _ q1_36) dX1_add_24 ?_
    refine cS_v (As := [.ref (ad 26)]) (rest := []) ⟨hx, hb, hml, hown, hg⟩ (k_X1_dropOldest_26 l D cs A ad fa fq rv v (va_up (va_up a 24 o_a24_6) 25 o_a25_8) w fv fp   ) ca_X1_dropOldest q3_18 ⟨rfl, rfl⟩ ⟨Nat.le_of_ble_eq_true rfl, Nat.le_of_ble_eq_true rfl⟩  hK hP hD hS hZ rfl hl.1 rfl (Nat.le_of_ble_eq_true rfl) ⟨Nat.zero_le _, Nat.zero_le _⟩ dX1_add_27 (fun o_a26_10 H locs wr_9 hP hD hS => ?_)
    have hP : va_P D vwCl (CW cs ad fa fq rv v (va_up (va_up (va_up a 24 o_a24_6) 25 o_a25_8) 26 o_a26_10) w fv fp) H := hP
    have hD : va_D A (CW cs ad fa fq rv v (va_up (va_up (va_up a 24 o_a24_6) 25 o_a25_8) 26 o_a26_10) w fv fp) := hD
    have wr_9_0 : True := wr_9
    refine lv_aload_n hx hb dX1_add_30 rfl (lv_at hl 0 rfl) ?_
    refine gf_changes_becomes hx hb hg hown hK hP rfl (hg _ q1_38) dX1_add_31 ?_
    refine cS_v (As := [.ref (ad 27)]) (rest := []) ⟨hx, hb, hml, hown, hg⟩ (k_X1_dropOldest_27 l D cs A ad fa fq rv v (va_up (va_up (va_up a 24 o_a24_6) 25 o_a25_8) 26 o_a26_10) w fv fp   ) ca_X1_dropOldest q3_18 ⟨rfl, rfl⟩ ⟨Nat.le_of_ble_eq_true rfl, Nat.le_of_ble_eq_true rfl⟩  hK hP hD hS hZ rfl hl.1 rfl (Nat.le_of_ble_eq_true rfl) ⟨Nat.zero_le _, Nat.zero_le _⟩ dX1_add_34 (fun o_a27_12 H locs wr_11 hP hD hS => ?_)
    have hP : va_P D vwCl (CW cs ad fa fq rv v (va_up (va_up (va_up (va_up a 24 o_a24_6) 25 o_a25_8) 26 o_a26_10) 27 o_a27_12) w fv fp) H := hP
    have hD : va_D A (CW cs ad fa fq rv v (va_up (va_up (va_up (va_up a 24 o_a24_6) 25 o_a25_8) 26 o_a26_10) 27 o_a27_12) w fv fp) := hD
    have wr_11_0 : True := wr_11
    refine lv_aload_n hx hb dX1_add_37 rfl (lv_at hl 0 rfl) ?_
    refine lv_bipush (v := 39) hx hb dX1_add_38 (by decide) ?_
    refine pf_changes_done hx hb hg hown hK hP hD hS (hg _ q1_40) dX1_add_40 (fun H locs hP hD hS => ?_)
    refine lv_aload_n hx hb dX1_add_43 rfl (lv_at hl 0 rfl) ?_
    refine gf_changes_number hx hb hg hown hK hP rfl (hg _ q1_32) dX1_add_44 ?_
    refine lv_aload_n hx hb dX1_add_47 rfl (lv_at hl 0 rfl) ?_
    refine gf_changes_done hx hb hg hown hK hP (x := 39) rfl (hg _ q1_40) dX1_add_48 ?_
    refine lv_iload_n hx hb dX1_add_51 rfl (lv_at hl 1 rfl) ?_
    refine st_Cnumber hx hb hK hP hD hS (i_in (by decide) (by decide)) dX1_add_52 (fun H locs hP hD hS => ?_)
    have hab_13 : AB 0 7 (upd o_a24_6 (39 : Int32).toNatClampNeg p1) := AB_upd wr_5_0 (by omega) (by omega)
    refine lv_aload_n hx hb dX1_add_53 rfl (lv_at hl 0 rfl) ?_
    refine gf_changes_what hx hb hg hown hK hP rfl (hg _ q1_34) dX1_add_54 ?_
    refine lv_aload_n hx hb dX1_add_57 rfl (lv_at hl 0 rfl) ?_
    refine gf_changes_done hx hb hg hown hK hP (x := 39) rfl (hg _ q1_40) dX1_add_58 ?_
    refine lv_iload_n hx hb dX1_add_61 rfl (lv_at hl 2 rfl) ?_
    refine st_Cwhat hx hb hK hP hD hS (i_in (by decide) (by decide)) dX1_add_62 (fun H locs hP hD hS => ?_)
    have hab_14 : AB 0 7 (upd o_a25_8 (39 : Int32).toNatClampNeg p2) := AB_upd wr_7_0 (by omega) (by omega)
    refine lv_aload_n hx hb dX1_add_63 rfl (lv_at hl 0 rfl) ?_
    refine gf_changes_was hx hb hg hown hK hP rfl (hg _ q1_36) dX1_add_64 ?_
    refine lv_aload_n hx hb dX1_add_67 rfl (lv_at hl 0 rfl) ?_
    refine gf_changes_done hx hb hg hown hK hP (x := 39) rfl (hg _ q1_40) dX1_add_68 ?_
    refine lv_iload_n hx hb dX1_add_71 rfl (lv_at hl 3 rfl) ?_
    refine st_Cwas hx hb hK hP hD hS (i_in (by decide) (by decide)) dX1_add_72 (fun H locs hP hD hS => ?_)
    refine lv_aload_n hx hb dX1_add_73 rfl (lv_at hl 0 rfl) ?_
    refine gf_changes_becomes hx hb hg hown hK hP rfl (hg _ q1_38) dX1_add_74 ?_
    refine lv_aload_n hx hb dX1_add_77 rfl (lv_at hl 0 rfl) ?_
    refine gf_changes_done hx hb hg hown hK hP (x := 39) rfl (hg _ q1_40) dX1_add_78 ?_
    refine lv_iload hx hb dX1_add_81 (lv_at hl 4 rfl) ?_
    refine st_Cbecomes hx hb hK hP hD hS (i_in (by decide) (by decide)) dX1_add_83 (fun H locs hP hD hS => ?_)
    refine lv_aload_n hx hb dX1_add_84 rfl (lv_at hl 0 rfl) ?_
    refine lv_dup hx hb dX1_add_85 rfl ?_
    refine gf_changes_done hx hb hg hown hK hP (x := 39) rfl (hg _ q1_40) dX1_add_86 ?_
    refine lv_iconst (v := 1) hx hb dX1_add_89 (by decide) ?_
    refine lv_iadd hx hb dX1_add_90 ?_
    refine lv_topi (fun x_15 ex_15 => ?_)
    have fx_15 : x_15.toInt = (40 : Int) := by rw [ex_15]; rfl
    refine pf_changes_done hx hb hg hown hK hP hD hS (hg _ q1_40) dX1_add_91 (fun H locs hP hD hS => ?_)
    refine lv_aload_n hx hb dX1_add_94 rfl (lv_at hl 0 rfl) ?_
    refine lv_aload_n hx hb dX1_add_95 rfl (lv_at hl 0 rfl) ?_
    refine gf_changes_done hx hb hg hown hK hP (x := x_15) rfl (hg _ q1_40) dX1_add_96 ?_
    refine pf_changes_all hx hb hg hown hK hP hD hS (hg _ q1_42) dX1_add_99 (fun H locs hP hD hS => ?_)
    exact W.vret hx hb hr (fun tt ht hW => ⟨⟨⟨x_15, x_15, (upd o_a24_6 (39 : Int32).toNatClampNeg p1), (upd o_a25_8 (39 : Int32).toNatClampNeg p2), (upd o_a26_10 (39 : Int32).toNatClampNeg p3), (upd o_a27_12 (39 : Int32).toNatClampNeg p4)⟩, rfl, ⟨(show 0 ≤ x_15.toInt by first | omega | assumption), (show x_15.toInt ≤ 40 by first | omega | assumption), (show x_15.toInt ≤ x_15.toInt by first | omega | assumption), (show 0 ≤ x_15.toInt by first | omega | assumption), (show x_15.toInt ≤ 40 by first | omega | assumption), hab_13, hab_14⟩, by rw [ht]; exact hP, hD⟩, hS.F ht⟩) hS.2.2 dX1_add_102
set_option maxHeartbeats 4000000 in
set_option maxRecDepth 100000 in
theorem k_X11_mend (l : Launch) (D : va_G) (cs : Nat → ClassId) (A : Nat → Prop) (ad fa fq rv : Nat → Nat) (v : Nat → Int32) (a : Nat → Nat → Int32) (w : Nat → Nat → Int64) (fv fp : Nat → Nat → Int32)  (p1 : Int32) (p2 : Int32) (p3 : Int32) (iv1_0 : 0 ≤ (v 1).toInt) (iv1_1 : (v 1).toInt ≤ 8) (iv20_0 : 0 ≤ (v 20).toInt) (iv20_1 : (v 20).toInt ≤ 40) (iv19_0 : 0 ≤ (v 19).toInt) (iv19_1 : (v 19).toInt ≤ 40) (iv19_2 : (v 19).toInt ≤ (v 20).toInt) (ia24_0 : AB 0 7 (a 24)) (ia25_0 : AB 0 7 (a 25)) (ifv14_0 : (fv 14 2).toInt = -2 ∨ (0 ≤ (fv 14 2).toInt ∧ (fv 14 2).toInt < (v 1).toInt)) : Met l yX11_mend (Cond.code yX11_mend cX11_mend 5 (some .int) :: gw) ({ frames := 5, cells := 0, slots := 0, locals := 112 }) (va_Pc [.ref (ad 0), .int p1, .int p2, .int p3] (XPre D (TY cs) (CW cs ad fa fq rv v a w fv fp) A)) (va_Qi (fun (r : Int32) (z : Int32 × Int32 × Int32 × Int32 × (Nat → Int32) × (Nat → Int32) × (Nat → Int32) × (Nat → Int32) × (Nat → Int32) × (Nat → Int32) × (Nat → Int32) × (Nat → Int32) × (Nat → Int32) × (Nat → Int32)) => (z.2.2.2.2.2.2.2.2.2.2.2.2.1 3 = (fv 14 3)) ∧ (0 ≤ z.1.toInt) ∧ (z.1.toInt ≤ 40) ∧ (z.1.toInt ≤ z.2.1.toInt) ∧ (0 ≤ z.2.1.toInt) ∧ (z.2.1.toInt ≤ 40) ∧ (AB 0 7 z.2.2.2.2.1) ∧ (AB 0 7 z.2.2.2.2.2.1) ∧ ((z.2.2.2.2.2.2.2.2.2.2.2.2.1 2).toInt = -2 ∨ (0 ≤ (z.2.2.2.2.2.2.2.2.2.2.2.2.1 2).toInt ∧ (z.2.2.2.2.2.2.2.2.2.2.2.2.1 2).toInt < (v 1).toInt))) (XPo D (fun (z : Int32 × Int32 × Int32 × Int32 × (Nat → Int32) × (Nat → Int32) × (Nat → Int32) × (Nat → Int32) × (Nat → Int32) × (Nat → Int32) × (Nat → Int32) × (Nat → Int32) × (Nat → Int32) × (Nat → Int32)) => CW cs ad fa fq rv (va_up (va_up (va_up (va_up v 19 z.1) 20 z.2.1) 2 z.2.2.1) 3 z.2.2.2.1) (va_up (va_up (va_up (va_up (va_up (va_up (va_up (va_up a 24 z.2.2.2.2.1) 25 z.2.2.2.2.2.1) 26 z.2.2.2.2.2.2.1) 27 z.2.2.2.2.2.2.2.1) 11 z.2.2.2.2.2.2.2.2.1) 14 z.2.2.2.2.2.2.2.2.2.1) 12 z.2.2.2.2.2.2.2.2.2.2.1) 13 z.2.2.2.2.2.2.2.2.2.2.2.1) w (va_up fv 14 z.2.2.2.2.2.2.2.2.2.2.2.2.1) (va_up fp 14 z.2.2.2.2.2.2.2.2.2.2.2.2.2)) A) A) 0 0 A := by
  refine Met.ofW (cc := cX11_mend) (maxL := 5) (ret := (some .int)) (by decide) rfl ?_
  intro p e s m args below meth c s₁ B hml hv
  obtain ⟨rfl, hP, hK, hD, hZ⟩ := hv
  have hx := B.exec
  have hb := B.bytes
  have hr := B.returns
  have hts := atoms_spec (ws := (Cond.code yX11_mend cX11_mend 5 (some .int) :: gw)) B.pre
  have hg : ∀ w ∈ gw, w.before ([.ref (ad 0), .int p1, .int p2, .int p3] : List Value).toArray s = true := fun w h => hts w (List.mem_cons_of_mem _ h)
  have hown : s.vm.findClass RX11 = some m.cls := findClass_of_methodNamed B.named
  have hlocks := B.notSynchronized
  have hS : va_S A s.heap s.heap [] := va_S.rf
  have hP : va_P D vwCl (CW cs ad fa fq rv v a w fv fp) s.heap := hP
  have hl := lv_entry ([.ref (ad 0), .int p1, .int p2, .int p3]) (n := 5) (Nat.le_of_ble_eq_true rfl)
  rw [lg_entry_eq]
  generalize (lg_sl ([.ref (ad 0), .int p1, .int p2, .int p3]) ++ List.replicate (5 - (lg_sl ([.ref (ad 0), .int p1, .int p2, .int p3])).length) Slot.unset).toArray = ls at hl ⊢
  have hl : lv_has ls 5 [(0, .ref (ad 0)), (1, .int p1), (2, .int p2), (3, .int p3)] := hl
  refine lv_aload_n hx hb dX11_mend_0 rfl (lv_at hl 0 rfl) ?_
  refine lv_iload_n hx hb dX11_mend_1 rfl (lv_at hl 1 rfl) ?_
  refine lv_iload_n hx hb dX11_mend_2 rfl (lv_at hl 2 rfl) ?_
  refine cV_ro (As := [.int p1, .int p2]) (rest := []) ⟨hx, hb, hml, hown, hg⟩ (k_X11_isTold l D cs A ad fa fq rv v a w fv fp  p1 p2 (show 0 ≤ (v 1).toInt by first | omega | decide) (show (v 1).toInt ≤ 8 by first | omega | decide)) ca_X11_isTold q3_0 ⟨rfl, rfl⟩ ⟨Nat.le_of_ble_eq_true rfl, Nat.le_of_ble_eq_true rfl⟩ (rc_main hK hP) hK hP hD hS hZ rfl hl.1 rfl (Nat.le_of_ble_eq_true rfl) ⟨Nat.zero_le _, Nat.zero_le _⟩ dX11_mend_3 (fun r_1 wr_1 => ?_)
  have wr_1_0 : (r_1.toInt = 1 ∧ ((0 ≤ p2.toInt ∧ p2.toInt ≤ 3 ∧ 0 ≤ p1.toInt ∧ p1.toInt < (v 1).toInt) ∨ (4 ≤ p2.toInt ∧ p2.toInt ≤ 7 ∧ p1.toInt = 0))) ∨ (r_1.toInt = 0 ∧ ¬ (((0 ≤ p2.toInt ∧ p2.toInt ≤ 3 ∧ 0 ≤ p1.toInt ∧ p1.toInt < (v 1).toInt) ∨ (4 ≤ p2.toInt ∧ p2.toInt ≤ 7 ∧ p1.toInt = 0)))) := wr_1
  refine lv_if_eq (tgt := 27) hx hb dX11_mend_6 (by decide) (fun c_2 => ?_) (fun c_2 => ?_)
  ·
    have kc_2 : r_1.toInt = (0 : Int) := i_eq c_2
    refine lv_iconst (v := (-1)) hx hb dX11_mend_27 (by decide) ?_
    have q0_m1 : ((-1) : Int32).toInt = (-1) := rfl
    have hP : va_P D vwCl (CW cs ad fa fq rv (va_up (va_up (va_up (va_up v 19 (v 19)) 20 (v 20)) 2 (v 2)) 3 (v 3)) (va_up (va_up (va_up (va_up (va_up (va_up (va_up (va_up a 24 (a 24)) 25 (a 25)) 26 (a 26)) 27 (a 27)) 11 (a 11)) 14 (a 14)) 12 (a 12)) 13 (a 13)) w (va_up fv 14 (fv 14)) (va_up fp 14 (fp 14))) _ := hP
    have hD : va_D A (CW cs ad fa fq rv (va_up (va_up (va_up (va_up v 19 (v 19)) 20 (v 20)) 2 (v 2)) 3 (v 3)) (va_up (va_up (va_up (va_up (va_up (va_up (va_up (va_up a 24 (a 24)) 25 (a 25)) 26 (a 26)) 27 (a 27)) 11 (a 11)) 14 (a 14)) 12 (a 12)) 13 (a 13)) w (va_up fv 14 (fv 14)) (va_up fp 14 (fp 14))) := hD
    exact W.iret (v := (-1)) hx hb hr (fun tt ht hW => ⟨⟨(-1), ⟨(v 19), (v 20), (v 2), (v 3), (a 24), (a 25), (a 26), (a 27), (a 11), (a 14), (a 12), (a 13), (fv 14), (fp 14)⟩, rfl, ⟨(by first | rfl | assumption), (show 0 ≤ (v 19).toInt by first | omega | assumption), (show (v 19).toInt ≤ 40 by first | omega | assumption), (show (v 19).toInt ≤ (v 20).toInt by first | omega | assumption), (show 0 ≤ (v 20).toInt by first | omega | assumption), (show (v 20).toInt ≤ 40 by first | omega | assumption), ia24_0, ia25_0, (show (fv 14 2).toInt = -2 ∨ (0 ≤ (fv 14 2).toInt ∧ (fv 14 2).toInt < (v 1).toInt) by first | omega | assumption)⟩, by rw [ht]; exact hP, hD⟩, hS.F ht⟩) hS.2.2 dX11_mend_28
  ·
    have kc_2 : r_1.toInt ≠ (0 : Int) := i_ne c_2
    refine lv_iload_n hx hb dX11_mend_9 rfl (lv_at hl 3 rfl) ?_
    obtain ⟨t0, t1, t2, ⟨a0, b0⟩, ⟨a1, b1⟩, ⟨a2, b2⟩⟩ := id hZ
    refine va_gets hx hb a1 hS hown (hg _ q3_8) (fun _ h9 => h9) dX11_mend_10 ?_
    refine lv_iload_n hx hb dX11_mend_13 rfl (lv_at hl 2 rfl) ?_
    refine va_ti hx hb b1 hS (i_in (by omega) (by omega)) rfl dX11_mend_14 ?_
    refine lv_topi (fun x_3 ex_3 => ?_)
    have fx_3 := zt1 (i := p2) (by omega) (by omega)
    rw [← ex_3] at fx_3
    refine lv_icmp_lt (tgt := 27) hx hb dX11_mend_15 (by decide) (fun c_4 => ?_) (fun c_4 => ?_)
    ·
      have kc_4 : p3.toInt < x_3.toInt := i_lt c_4
      refine lv_iconst (v := (-1)) hx hb dX11_mend_27 (by decide) ?_
      have q0_m1 : ((-1) : Int32).toInt = (-1) := rfl
      have hP : va_P D vwCl (CW cs ad fa fq rv (va_up (va_up (va_up (va_up v 19 (v 19)) 20 (v 20)) 2 (v 2)) 3 (v 3)) (va_up (va_up (va_up (va_up (va_up (va_up (va_up (va_up a 24 (a 24)) 25 (a 25)) 26 (a 26)) 27 (a 27)) 11 (a 11)) 14 (a 14)) 12 (a 12)) 13 (a 13)) w (va_up fv 14 (fv 14)) (va_up fp 14 (fp 14))) _ := hP
      have hD : va_D A (CW cs ad fa fq rv (va_up (va_up (va_up (va_up v 19 (v 19)) 20 (v 20)) 2 (v 2)) 3 (v 3)) (va_up (va_up (va_up (va_up (va_up (va_up (va_up (va_up a 24 (a 24)) 25 (a 25)) 26 (a 26)) 27 (a 27)) 11 (a 11)) 14 (a 14)) 12 (a 12)) 13 (a 13)) w (va_up fv 14 (fv 14)) (va_up fp 14 (fp 14))) := hD
      exact W.iret (v := (-1)) hx hb hr (fun tt ht hW => ⟨⟨(-1), ⟨(v 19), (v 20), (v 2), (v 3), (a 24), (a 25), (a 26), (a 27), (a 11), (a 14), (a 12), (a 13), (fv 14), (fp 14)⟩, rfl, ⟨(by first | rfl | assumption), (show 0 ≤ (v 19).toInt by first | omega | assumption), (show (v 19).toInt ≤ 40 by first | omega | assumption), (show (v 19).toInt ≤ (v 20).toInt by first | omega | assumption), (show 0 ≤ (v 20).toInt by first | omega | assumption), (show (v 20).toInt ≤ 40 by first | omega | assumption), ia24_0, ia25_0, (show (fv 14 2).toInt = -2 ∨ (0 ≤ (fv 14 2).toInt ∧ (fv 14 2).toInt < (v 1).toInt) by first | omega | assumption)⟩, by rw [ht]; exact hP, hD⟩, hS.F ht⟩) hS.2.2 dX11_mend_28
    ·
      have kc_4 : x_3.toInt ≤ p3.toInt := i_nlt c_4
      refine lv_iload_n hx hb dX11_mend_18 rfl (lv_at hl 3 rfl) ?_
      obtain ⟨t0, t1, t2, ⟨a0, b0⟩, ⟨a1, b1⟩, ⟨a2, b2⟩⟩ := id hZ
      refine va_gets hx hb a0 hS hown (hg _ q2_234) (fun _ h9 => h9) dX11_mend_19 ?_
      refine lv_iload_n hx hb dX11_mend_22 rfl (lv_at hl 2 rfl) ?_
      refine va_ti hx hb b0 hS (i_in (by omega) (by omega)) rfl dX11_mend_23 ?_
      refine lv_topi (fun x_5 ex_5 => ?_)
      have fx_5 := zt0 (i := p2) (by omega) (by omega)
      rw [← ex_5] at fx_5
      refine lv_icmp_le (tgt := 29) hx hb dX11_mend_24 (by decide) (fun c_6 => ?_) (fun c_6 => ?_)
      ·
        have kc_6 : p3.toInt ≤ x_5.toInt := i_le c_6
        refine lv_aload_n hx hb dX11_mend_29 rfl (lv_at hl 0 rfl) ?_
        refine lv_iload_n hx hb dX11_mend_30 rfl (lv_at hl 1 rfl) ?_
        refine lv_iload_n hx hb dX11_mend_31 rfl (lv_at hl 2 rfl) ?_
        refine cV_ro (As := [.int p1, .int p2]) (rest := []) ⟨hx, hb, hml, hown, hg⟩ (k_X11_told l D cs A ad fa fq rv v a w fv fp  p1 p2 (show 0 ≤ p1.toInt by first | omega | decide) (show p1.toInt < 8 by first | omega | decide)) ca_X11_told q3_10 ⟨rfl, rfl⟩ ⟨Nat.le_of_ble_eq_true rfl, Nat.le_of_ble_eq_true rfl⟩ (rc_main hK hP) hK hP hD hS hZ rfl hl.1 rfl (Nat.le_of_ble_eq_true rfl) ⟨Nat.zero_le _, Nat.zero_le _⟩ dX11_mend_32 (fun r_7 wr_7 => ?_)
        have wr_7_0 : True := wr_7
        refine lv_istore (lv' := [(4, .int r_7), (0, .ref (ad 0)), (1, .int p1), (2, .int p2), (3, .int p3)]) hx hb dX11_mend_35 hl (by decide) rfl (fun ls hl => ?_)
        refine lv_iload hx hb dX11_mend_37 (lv_at hl 0 rfl) ?_
        refine lv_iload_n hx hb dX11_mend_39 rfl (lv_at hl 4 rfl) ?_
        refine lv_icmp_eq (tgt := 62) hx hb dX11_mend_40 (by decide) (fun c_8 => ?_) (fun c_8 => ?_)
        ·
          have kc_8 : r_7.toInt = p3.toInt := i_eq c_8
          refine lv_iload hx hb dX11_mend_62 (lv_at hl 0 rfl) ?_
          have hP : va_P D vwCl (CW cs ad fa fq rv (va_up (va_up (va_up (va_up v 19 (v 19)) 20 (v 20)) 2 (v 2)) 3 (v 3)) (va_up (va_up (va_up (va_up (va_up (va_up (va_up (va_up a 24 (a 24)) 25 (a 25)) 26 (a 26)) 27 (a 27)) 11 (a 11)) 14 (a 14)) 12 (a 12)) 13 (a 13)) w (va_up fv 14 (fv 14)) (va_up fp 14 (fp 14))) _ := hP
          have hD : va_D A (CW cs ad fa fq rv (va_up (va_up (va_up (va_up v 19 (v 19)) 20 (v 20)) 2 (v 2)) 3 (v 3)) (va_up (va_up (va_up (va_up (va_up (va_up (va_up (va_up a 24 (a 24)) 25 (a 25)) 26 (a 26)) 27 (a 27)) 11 (a 11)) 14 (a 14)) 12 (a 12)) 13 (a 13)) w (va_up fv 14 (fv 14)) (va_up fp 14 (fp 14))) := hD
          exact W.iret (v := r_7) hx hb hr (fun tt ht hW => ⟨⟨r_7, ⟨(v 19), (v 20), (v 2), (v 3), (a 24), (a 25), (a 26), (a 27), (a 11), (a 14), (a 12), (a 13), (fv 14), (fp 14)⟩, rfl, ⟨(by first | rfl | assumption), (show 0 ≤ (v 19).toInt by first | omega | assumption), (show (v 19).toInt ≤ 40 by first | omega | assumption), (show (v 19).toInt ≤ (v 20).toInt by first | omega | assumption), (show 0 ≤ (v 20).toInt by first | omega | assumption), (show (v 20).toInt ≤ 40 by first | omega | assumption), ia24_0, ia25_0, (show (fv 14 2).toInt = -2 ∨ (0 ≤ (fv 14 2).toInt ∧ (fv 14 2).toInt < (v 1).toInt) by first | omega | assumption)⟩, by rw [ht]; exact hP, hD⟩, hS.F ht⟩) hS.2.2 dX11_mend_64
        ·
          have kc_8 : r_7.toInt ≠ p3.toInt := i_ne c_8
          refine lv_aload_n hx hb dX11_mend_43 rfl (lv_at hl 1 rfl) ?_
          refine gf_main_changes hx hb hg hown hK hP rfl (hg _ q2_132) dX11_mend_44 ?_
          refine lv_iload_n hx hb dX11_mend_47 rfl (lv_at hl 2 rfl) ?_
          refine lv_iload_n hx hb dX11_mend_48 rfl (lv_at hl 3 rfl) ?_
          refine lv_iload hx hb dX11_mend_49 (lv_at hl 0 rfl) ?_
          refine lv_iload_n hx hb dX11_mend_51 rfl (lv_at hl 4 rfl) ?_
          refine cV_v (As := [.int p1, .int p2, .int r_7, .int p3]) (rest := []) ⟨hx, hb, hml, hown, hg⟩ (k_X1_add l D cs A ad fa fq rv v a w fv fp  p1 p2 r_7 p3 (show 0 ≤ p1.toInt by first | omega | decide) (show p1.toInt ≤ 7 by first | omega | decide) (show 0 ≤ p2.toInt by first | omega | decide) (show p2.toInt ≤ 7 by first | omega | decide) (show 0 ≤ (v 20).toInt by first | omega | decide) (show (v 20).toInt ≤ 40 by first | omega | decide) (show 0 ≤ (v 19).toInt by first | omega | decide) (show (v 19).toInt ≤ 40 by first | omega | decide) (show (v 19).toInt ≤ (v 20).toInt by first | omega | decide) ia24_0 ia25_0) ca_X1_add q3_14 ⟨rfl, rfl⟩ ⟨Nat.le_of_ble_eq_true rfl, Nat.le_of_ble_eq_true rfl⟩ (rc_changes hK hP) hK hP hD hS hZ rfl hl.1 rfl (Nat.le_of_ble_eq_true rfl) ⟨Nat.zero_le _, Nat.zero_le _⟩ dX11_mend_52 (fun z_16 H locs wr_9 hP hD hS => ?_)
          obtain ⟨o_v19_10, o_v20_11, o_a24_12, o_a25_13, o_a26_14, o_a27_15⟩ := z_16
          have hP : va_P D vwCl (CW cs ad fa fq rv (va_up (va_up v 19 o_v19_10) 20 o_v20_11) (va_up (va_up (va_up (va_up a 24 o_a24_12) 25 o_a25_13) 26 o_a26_14) 27 o_a27_15) w fv fp) H := hP
          have hD : va_D A (CW cs ad fa fq rv (va_up (va_up v 19 o_v19_10) 20 o_v20_11) (va_up (va_up (va_up (va_up a 24 o_a24_12) 25 o_a25_13) 26 o_a26_14) 27 o_a27_15) w fv fp) := hD
          obtain ⟨wr_9_0, wr_9_1, wr_9_2, wr_9_3, wr_9_4, wr_9_5, wr_9_6⟩ : (0 ≤ o_v19_10.toInt) ∧ (o_v19_10.toInt ≤ 40) ∧ (o_v19_10.toInt ≤ o_v20_11.toInt) ∧ (0 ≤ o_v20_11.toInt) ∧ (o_v20_11.toInt ≤ 40) ∧ (AB 0 7 o_a24_12) ∧ (AB 0 7 o_a25_13) := wr_9
          refine lv_aload_n hx hb dX11_mend_55 rfl (lv_at hl 1 rfl) ?_
          refine lv_iload_n hx hb dX11_mend_56 rfl (lv_at hl 2 rfl) ?_
          refine lv_iload_n hx hb dX11_mend_57 rfl (lv_at hl 3 rfl) ?_
          refine lv_iload_n hx hb dX11_mend_58 rfl (lv_at hl 4 rfl) ?_
          refine cV_v (As := [.int p1, .int p2, .int p3]) (rest := []) ⟨hx, hb, hml, hown, hg⟩ (k_X11_tell l D cs A ad fa fq rv (va_up (va_up v 19 o_v19_10) 20 o_v20_11) (va_up (va_up (va_up (va_up a 24 o_a24_12) 25 o_a25_13) 26 o_a26_14) 27 o_a27_15) w fv fp  p1 p2 p3 (show 0 ≤ p1.toInt by first | omega | decide) (show p1.toInt < 8 by first | omega | decide) (show 0 ≤ (v 1).toInt by first | omega | decide) (show (v 1).toInt ≤ 8 by first | omega | decide) (show (fv 14 2).toInt = -2 ∨ (0 ≤ (fv 14 2).toInt ∧ (fv 14 2).toInt < (v 1).toInt) by first | omega | decide)) ca_X11_tell q3_24 ⟨rfl, rfl⟩ ⟨Nat.le_of_ble_eq_true rfl, Nat.le_of_ble_eq_true rfl⟩ (rc_main hK hP) hK hP hD hS hZ rfl hl.1 rfl (Nat.le_of_ble_eq_true rfl) ⟨Nat.zero_le _, Nat.zero_le _⟩ dX11_mend_59 (fun z_26 H locs wr_17 hP hD hS => ?_)
          obtain ⟨o_a11_18, o_a14_19, o_a12_20, o_fp14_21, o_a13_22, o_fv14_23, o_v2_24, o_v3_25⟩ := z_26
          have hP : va_P D vwCl (CW cs ad fa fq rv (va_up (va_up (va_up (va_up v 19 o_v19_10) 20 o_v20_11) 2 o_v2_24) 3 o_v3_25) (va_up (va_up (va_up (va_up (va_up (va_up (va_up (va_up a 24 o_a24_12) 25 o_a25_13) 26 o_a26_14) 27 o_a27_15) 11 o_a11_18) 14 o_a14_19) 12 o_a12_20) 13 o_a13_22) w (va_up fv 14 o_fv14_23) (va_up fp 14 o_fp14_21)) H := hP
          have hD : va_D A (CW cs ad fa fq rv (va_up (va_up (va_up (va_up v 19 o_v19_10) 20 o_v20_11) 2 o_v2_24) 3 o_v3_25) (va_up (va_up (va_up (va_up (va_up (va_up (va_up (va_up a 24 o_a24_12) 25 o_a25_13) 26 o_a26_14) 27 o_a27_15) 11 o_a11_18) 14 o_a14_19) 12 o_a12_20) 13 o_a13_22) w (va_up fv 14 o_fv14_23) (va_up fp 14 o_fp14_21)) := hD
          obtain ⟨wr_17_0, wr_17_1⟩ : (o_fv14_23 3 = (fv 14 3)) ∧ ((o_fv14_23 2).toInt = -2 ∨ (0 ≤ (o_fv14_23 2).toInt ∧ (o_fv14_23 2).toInt < (v 1).toInt)) := wr_17
          refine lv_iload hx hb dX11_mend_62 (lv_at hl 0 rfl) ?_
          exact W.iret (v := r_7) hx hb hr (fun tt ht hW => ⟨⟨r_7, ⟨o_v19_10, o_v20_11, o_v2_24, o_v3_25, o_a24_12, o_a25_13, o_a26_14, o_a27_15, o_a11_18, o_a14_19, o_a12_20, o_a13_22, o_fv14_23, o_fp14_21⟩, rfl, ⟨(by first | rfl | assumption), (show 0 ≤ o_v19_10.toInt by first | omega | assumption), (show o_v19_10.toInt ≤ 40 by first | omega | assumption), (show o_v19_10.toInt ≤ o_v20_11.toInt by first | omega | assumption), (show 0 ≤ o_v20_11.toInt by first | omega | assumption), (show o_v20_11.toInt ≤ 40 by first | omega | assumption), wr_9_5, wr_9_6, (show (o_fv14_23 2).toInt = -2 ∨ (0 ≤ (o_fv14_23 2).toInt ∧ (o_fv14_23 2).toInt < (v 1).toInt) by first | omega | assumption)⟩, by rw [ht]; exact hP, hD⟩, hS.F ht⟩) hS.2.2 dX11_mend_64
      ·
        have kc_6 : x_5.toInt < p3.toInt := i_nle c_6
        refine lv_iconst (v := (-1)) hx hb dX11_mend_27 (by decide) ?_
        have q0_m1 : ((-1) : Int32).toInt = (-1) := rfl
        have hP : va_P D vwCl (CW cs ad fa fq rv (va_up (va_up (va_up (va_up v 19 (v 19)) 20 (v 20)) 2 (v 2)) 3 (v 3)) (va_up (va_up (va_up (va_up (va_up (va_up (va_up (va_up a 24 (a 24)) 25 (a 25)) 26 (a 26)) 27 (a 27)) 11 (a 11)) 14 (a 14)) 12 (a 12)) 13 (a 13)) w (va_up fv 14 (fv 14)) (va_up fp 14 (fp 14))) _ := hP
        have hD : va_D A (CW cs ad fa fq rv (va_up (va_up (va_up (va_up v 19 (v 19)) 20 (v 20)) 2 (v 2)) 3 (v 3)) (va_up (va_up (va_up (va_up (va_up (va_up (va_up (va_up a 24 (a 24)) 25 (a 25)) 26 (a 26)) 27 (a 27)) 11 (a 11)) 14 (a 14)) 12 (a 12)) 13 (a 13)) w (va_up fv 14 (fv 14)) (va_up fp 14 (fp 14))) := hD
        exact W.iret (v := (-1)) hx hb hr (fun tt ht hW => ⟨⟨(-1), ⟨(v 19), (v 20), (v 2), (v 3), (a 24), (a 25), (a 26), (a 27), (a 11), (a 14), (a 12), (a 13), (fv 14), (fp 14)⟩, rfl, ⟨(by first | rfl | assumption), (show 0 ≤ (v 19).toInt by first | omega | assumption), (show (v 19).toInt ≤ 40 by first | omega | assumption), (show (v 19).toInt ≤ (v 20).toInt by first | omega | assumption), (show 0 ≤ (v 20).toInt by first | omega | assumption), (show (v 20).toInt ≤ 40 by first | omega | assumption), ia24_0, ia25_0, (show (fv 14 2).toInt = -2 ∨ (0 ≤ (fv 14 2).toInt ∧ (fv 14 2).toInt < (v 1).toInt) by first | omega | assumption)⟩, by rw [ht]; exact hP, hD⟩, hS.F ht⟩) hS.2.2 dX11_mend_28
set_option maxHeartbeats 4000000 in
set_option maxRecDepth 100000 in
theorem k_X11_undo (l : Launch) (D : va_G) (cs : Nat → ClassId) (A : Nat → Prop) (ad fa fq rv : Nat → Nat) (v : Nat → Int32) (a : Nat → Nat → Int32) (w : Nat → Nat → Int64) (fv fp : Nat → Nat → Int32)   (iv20_0 : 0 ≤ (v 20).toInt) (iv20_1 : (v 20).toInt ≤ 40) (iv19_0 : 0 ≤ (v 19).toInt) (iv19_1 : (v 19).toInt ≤ 40) (iv19_2 : (v 19).toInt ≤ (v 20).toInt) (ia24_0 : AB 0 7 (a 24)) (ia25_0 : AB 0 7 (a 25)) (iv1_0 : 0 ≤ (v 1).toInt) (iv1_1 : (v 1).toInt ≤ 8) (ifv14_0 : (fv 14 2).toInt = -2 ∨ (0 ≤ (fv 14 2).toInt ∧ (fv 14 2).toInt < (v 1).toInt)) : Met l yX11_undo (Cond.code yX11_undo cX11_undo 2 (some .int) :: gw) ({ frames := 5, cells := 0, slots := 0, locals := 112 }) (va_Pc [.ref (ad 0)] (XPre D (TY cs) (CW cs ad fa fq rv v a w fv fp) A)) (va_Qi (fun (r : Int32) (z : Int32 × Int32 × Int32 × (Nat → Int32) × (Nat → Int32) × (Nat → Int32) × (Nat → Int32) × (Nat → Int32) × (Nat → Int32)) => (z.2.2.2.2.2.2.2.1 3 = (fv 14 3)) ∧ (0 ≤ z.1.toInt) ∧ (z.1.toInt ≤ 40) ∧ (z.1.toInt ≤ (v 20).toInt) ∧ ((z.2.2.2.2.2.2.2.1 2).toInt = -2 ∨ (0 ≤ (z.2.2.2.2.2.2.2.1 2).toInt ∧ (z.2.2.2.2.2.2.2.1 2).toInt < (v 1).toInt))) (XPo D (fun (z : Int32 × Int32 × Int32 × (Nat → Int32) × (Nat → Int32) × (Nat → Int32) × (Nat → Int32) × (Nat → Int32) × (Nat → Int32)) => CW cs ad fa fq rv (va_up (va_up (va_up v 19 z.1) 2 z.2.1) 3 z.2.2.1) (va_up (va_up (va_up (va_up a 11 z.2.2.2.1) 14 z.2.2.2.2.1) 12 z.2.2.2.2.2.1) 13 z.2.2.2.2.2.2.1) w (va_up fv 14 z.2.2.2.2.2.2.2.1) (va_up fp 14 z.2.2.2.2.2.2.2.2)) A) A) 0 0 A := by
  refine Met.ofW (cc := cX11_undo) (maxL := 2) (ret := (some .int)) (by decide) rfl ?_
  intro p e s m args below meth c s₁ B hml hv
  obtain ⟨rfl, hP, hK, hD, hZ⟩ := hv
  have hx := B.exec
  have hb := B.bytes
  have hr := B.returns
  have hts := atoms_spec (ws := (Cond.code yX11_undo cX11_undo 2 (some .int) :: gw)) B.pre
  have hg : ∀ w ∈ gw, w.before ([.ref (ad 0)] : List Value).toArray s = true := fun w h => hts w (List.mem_cons_of_mem _ h)
  have hown : s.vm.findClass RX11 = some m.cls := findClass_of_methodNamed B.named
  have hlocks := B.notSynchronized
  have hS : va_S A s.heap s.heap [] := va_S.rf
  have hP : va_P D vwCl (CW cs ad fa fq rv v a w fv fp) s.heap := hP
  have hl := lv_entry ([.ref (ad 0)]) (n := 2) (Nat.le_of_ble_eq_true rfl)
  rw [lg_entry_eq]
  generalize (lg_sl ([.ref (ad 0)]) ++ List.replicate (2 - (lg_sl ([.ref (ad 0)])).length) Slot.unset).toArray = ls at hl ⊢
  have hl : lv_has ls 2 [(0, .ref (ad 0))] := hl
  refine lv_aload_n hx hb dX11_undo_0 rfl (lv_at hl 0 rfl) ?_
  refine gf_main_changes hx hb hg hown hK hP rfl (hg _ q2_132) dX11_undo_1 ?_
  refine gf_changes_done hx hb hg hown hK hP (x := (v 19)) rfl (hg _ q1_41) dX11_undo_4 ?_
  refine lv_if_ne (tgt := 13) hx hb dX11_undo_7 (by decide) (fun c_1 => ?_) (fun c_1 => ?_)
  ·
    have kc_1 : (v 19).toInt ≠ (0 : Int) := i_ne c_1
    refine lv_aload_n hx hb dX11_undo_13 rfl (lv_at hl 0 rfl) ?_
    refine gf_main_changes hx hb hg hown hK hP rfl (hg _ q2_132) dX11_undo_14 ?_
    refine lv_dup hx hb dX11_undo_17 rfl ?_
    refine gf_changes_done hx hb hg hown hK hP (x := (v 19)) rfl (hg _ q1_41) dX11_undo_18 ?_
    refine lv_iconst (v := 1) hx hb dX11_undo_21 (by decide) ?_
    refine lv_isub hx hb dX11_undo_22 ?_
    refine lv_topi (fun x_2 ex_2 => ?_)
    have fx_2 : x_2.toInt = (v 19).toInt - (1 : Int) := by rw [ex_2]; exact i_sub (by first | omega | (show (_ : Int) ≤ (v 19).toInt - (1 : Int); omega)) (by first | omega | (show (v 19).toInt - (1 : Int) ≤ (_ : Int); omega))
    refine pf_changes_done hx hb hg hown hK hP hD hS (hg _ q1_41) dX11_undo_23 (fun H locs hP hD hS => ?_)
    refine lv_aload_n hx hb dX11_undo_26 rfl (lv_at hl 0 rfl) ?_
    refine gf_main_changes hx hb hg hown hK hP rfl (hg _ q2_132) dX11_undo_27 ?_
    refine gf_changes_done hx hb hg hown hK hP (x := x_2) rfl (hg _ q1_41) dX11_undo_30 ?_
    refine lv_istore_n (lv' := [(1, .int x_2), (0, .ref (ad 0))]) hx hb dX11_undo_33 rfl hl (by decide) rfl (fun ls hl => ?_)
    refine lv_aload_n hx hb dX11_undo_34 rfl (lv_at hl 1 rfl) ?_
    refine lv_aload_n hx hb dX11_undo_35 rfl (lv_at hl 1 rfl) ?_
    refine gf_main_changes hx hb hg hown hK hP rfl (hg _ q2_132) dX11_undo_36 ?_
    refine gf_changes_number hx hb hg hown hK hP rfl (hg _ q1_33) dX11_undo_39 ?_
    refine lv_iload_n hx hb dX11_undo_42 rfl (lv_at hl 0 rfl) ?_
    refine ld_Cnumber hx hb hK hP (i_in (by omega) (by omega)) dX11_undo_43 ?_
    refine lv_topi (fun x_3 ex_3 => ?_)
    have ex_3 : x_3 = (a 24) x_2.toNatClampNeg := ex_3
    have hx_3 : x_3.toInt = ((a 24) x_2.toNatClampNeg).toInt := by rw [ex_3]
    have bx_3 := ia24_0 x_2.toNatClampNeg
    rw [← ex_3] at bx_3
    refine lv_aload_n hx hb dX11_undo_44 rfl (lv_at hl 1 rfl) ?_
    refine gf_main_changes hx hb hg hown hK hP rfl (hg _ q2_132) dX11_undo_45 ?_
    refine gf_changes_what hx hb hg hown hK hP rfl (hg _ q1_35) dX11_undo_48 ?_
    refine lv_iload_n hx hb dX11_undo_51 rfl (lv_at hl 0 rfl) ?_
    refine ld_Cwhat hx hb hK hP (i_in (by omega) (by omega)) dX11_undo_52 ?_
    refine lv_topi (fun x_4 ex_4 => ?_)
    have ex_4 : x_4 = (a 25) x_2.toNatClampNeg := ex_4
    have hx_4 : x_4.toInt = ((a 25) x_2.toNatClampNeg).toInt := by rw [ex_4]
    have bx_4 := ia25_0 x_2.toNatClampNeg
    rw [← ex_4] at bx_4
    refine lv_aload_n hx hb dX11_undo_53 rfl (lv_at hl 1 rfl) ?_
    refine gf_main_changes hx hb hg hown hK hP rfl (hg _ q2_132) dX11_undo_54 ?_
    refine gf_changes_was hx hb hg hown hK hP rfl (hg _ q1_37) dX11_undo_57 ?_
    refine lv_iload_n hx hb dX11_undo_60 rfl (lv_at hl 0 rfl) ?_
    refine ld_Cwas hx hb hK hP (i_in (by omega) (by omega)) dX11_undo_61 ?_
    refine lv_topi (fun x_5 ex_5 => ?_)
    have ex_5 : x_5 = (a 26) x_2.toNatClampNeg := ex_5
    have hx_5 : x_5.toInt = ((a 26) x_2.toNatClampNeg).toInt := by rw [ex_5]
    refine cV_v (As := [.int x_3, .int x_4, .int x_5]) (rest := []) ⟨hx, hb, hml, hown, hg⟩ (k_X11_tell l D cs A ad fa fq rv (va_up v 19 x_2) a w fv fp  x_3 x_4 x_5 (show 0 ≤ x_3.toInt by first | omega | decide) (show x_3.toInt < 8 by first | omega | decide) (show 0 ≤ (v 1).toInt by first | omega | decide) (show (v 1).toInt ≤ 8 by first | omega | decide) (show (fv 14 2).toInt = -2 ∨ (0 ≤ (fv 14 2).toInt ∧ (fv 14 2).toInt < (v 1).toInt) by first | omega | decide)) ca_X11_tell q3_24 ⟨rfl, rfl⟩ ⟨Nat.le_of_ble_eq_true rfl, Nat.le_of_ble_eq_true rfl⟩ (rc_main hK hP) hK hP hD hS hZ rfl hl.1 rfl (Nat.le_of_ble_eq_true rfl) ⟨Nat.zero_le _, Nat.zero_le _⟩ dX11_undo_62 (fun z_15 H locs wr_6 hP hD hS => ?_)
    obtain ⟨o_a11_7, o_a14_8, o_a12_9, o_fp14_10, o_a13_11, o_fv14_12, o_v2_13, o_v3_14⟩ := z_15
    have hP : va_P D vwCl (CW cs ad fa fq rv (va_up (va_up (va_up v 19 x_2) 2 o_v2_13) 3 o_v3_14) (va_up (va_up (va_up (va_up a 11 o_a11_7) 14 o_a14_8) 12 o_a12_9) 13 o_a13_11) w (va_up fv 14 o_fv14_12) (va_up fp 14 o_fp14_10)) H := hP
    have hD : va_D A (CW cs ad fa fq rv (va_up (va_up (va_up v 19 x_2) 2 o_v2_13) 3 o_v3_14) (va_up (va_up (va_up (va_up a 11 o_a11_7) 14 o_a14_8) 12 o_a12_9) 13 o_a13_11) w (va_up fv 14 o_fv14_12) (va_up fp 14 o_fp14_10)) := hD
    obtain ⟨wr_6_0, wr_6_1⟩ : (o_fv14_12 3 = (fv 14 3)) ∧ ((o_fv14_12 2).toInt = -2 ∨ (0 ≤ (o_fv14_12 2).toInt ∧ (o_fv14_12 2).toInt < (v 1).toInt)) := wr_6
    refine lv_aload_n hx hb dX11_undo_65 rfl (lv_at hl 1 rfl) ?_
    refine gf_main_changes hx hb hg hown hK hP rfl (hg _ q2_132) dX11_undo_66 ?_
    refine gf_changes_done hx hb hg hown hK hP (x := x_2) rfl (hg _ q1_41) dX11_undo_69 ?_
    exact W.iret (v := x_2) hx hb hr (fun tt ht hW => ⟨⟨x_2, ⟨x_2, o_v2_13, o_v3_14, o_a11_7, o_a14_8, o_a12_9, o_a13_11, o_fv14_12, o_fp14_10⟩, rfl, ⟨(by first | rfl | assumption), (show 0 ≤ x_2.toInt by first | omega | assumption), (show x_2.toInt ≤ 40 by first | omega | assumption), (show x_2.toInt ≤ (v 20).toInt by first | omega | assumption), (show (o_fv14_12 2).toInt = -2 ∨ (0 ≤ (o_fv14_12 2).toInt ∧ (o_fv14_12 2).toInt < (v 1).toInt) by first | omega | assumption)⟩, by rw [ht]; exact hP, hD⟩, hS.F ht⟩) hS.2.2 dX11_undo_72
  ·
    have kc_1 : (v 19).toInt = (0 : Int) := i_eq c_1
    refine lv_bipush (v := (-5)) hx hb dX11_undo_10 (by decide) ?_
    have q0_m5 : ((-5) : Int32).toInt = (-5) := rfl
    have hP : va_P D vwCl (CW cs ad fa fq rv (va_up (va_up (va_up v 19 (v 19)) 2 (v 2)) 3 (v 3)) (va_up (va_up (va_up (va_up a 11 (a 11)) 14 (a 14)) 12 (a 12)) 13 (a 13)) w (va_up fv 14 (fv 14)) (va_up fp 14 (fp 14))) _ := hP
    have hD : va_D A (CW cs ad fa fq rv (va_up (va_up (va_up v 19 (v 19)) 2 (v 2)) 3 (v 3)) (va_up (va_up (va_up (va_up a 11 (a 11)) 14 (a 14)) 12 (a 12)) 13 (a 13)) w (va_up fv 14 (fv 14)) (va_up fp 14 (fp 14))) := hD
    exact W.iret (v := (-5)) hx hb hr (fun tt ht hW => ⟨⟨(-5), ⟨(v 19), (v 2), (v 3), (a 11), (a 14), (a 12), (a 13), (fv 14), (fp 14)⟩, rfl, ⟨(by first | rfl | assumption), (show 0 ≤ (v 19).toInt by first | omega | assumption), (show (v 19).toInt ≤ 40 by first | omega | assumption), (show (v 19).toInt ≤ (v 20).toInt by first | omega | assumption), (show (fv 14 2).toInt = -2 ∨ (0 ≤ (fv 14 2).toInt ∧ (fv 14 2).toInt < (v 1).toInt) by first | omega | assumption)⟩, by rw [ht]; exact hP, hD⟩, hS.F ht⟩) hS.2.2 dX11_undo_12
set_option maxHeartbeats 4000000 in
set_option maxRecDepth 100000 in
theorem k_X11_redo (l : Launch) (D : va_G) (cs : Nat → ClassId) (A : Nat → Prop) (ad fa fq rv : Nat → Nat) (v : Nat → Int32) (a : Nat → Nat → Int32) (w : Nat → Nat → Int64) (fv fp : Nat → Nat → Int32)   (iv20_0 : 0 ≤ (v 20).toInt) (iv20_1 : (v 20).toInt ≤ 40) (iv19_0 : 0 ≤ (v 19).toInt) (iv19_1 : (v 19).toInt ≤ 40) (iv19_2 : (v 19).toInt ≤ (v 20).toInt) (ia24_0 : AB 0 7 (a 24)) (ia25_0 : AB 0 7 (a 25)) (iv1_0 : 0 ≤ (v 1).toInt) (iv1_1 : (v 1).toInt ≤ 8) (ifv14_0 : (fv 14 2).toInt = -2 ∨ (0 ≤ (fv 14 2).toInt ∧ (fv 14 2).toInt < (v 1).toInt)) : Met l yX11_redo (Cond.code yX11_redo cX11_redo 2 (some .int) :: gw) ({ frames := 5, cells := 0, slots := 0, locals := 112 }) (va_Pc [.ref (ad 0)] (XPre D (TY cs) (CW cs ad fa fq rv v a w fv fp) A)) (va_Qi (fun (r : Int32) (z : Int32 × Int32 × Int32 × (Nat → Int32) × (Nat → Int32) × (Nat → Int32) × (Nat → Int32) × (Nat → Int32) × (Nat → Int32)) => (z.2.2.2.2.2.2.2.1 3 = (fv 14 3)) ∧ (0 ≤ z.1.toInt) ∧ (z.1.toInt ≤ 40) ∧ (z.1.toInt ≤ (v 20).toInt) ∧ ((z.2.2.2.2.2.2.2.1 2).toInt = -2 ∨ (0 ≤ (z.2.2.2.2.2.2.2.1 2).toInt ∧ (z.2.2.2.2.2.2.2.1 2).toInt < (v 1).toInt))) (XPo D (fun (z : Int32 × Int32 × Int32 × (Nat → Int32) × (Nat → Int32) × (Nat → Int32) × (Nat → Int32) × (Nat → Int32) × (Nat → Int32)) => CW cs ad fa fq rv (va_up (va_up (va_up v 19 z.1) 2 z.2.1) 3 z.2.2.1) (va_up (va_up (va_up (va_up a 11 z.2.2.2.1) 14 z.2.2.2.2.1) 12 z.2.2.2.2.2.1) 13 z.2.2.2.2.2.2.1) w (va_up fv 14 z.2.2.2.2.2.2.2.1) (va_up fp 14 z.2.2.2.2.2.2.2.2)) A) A) 0 0 A := by
  refine Met.ofW (cc := cX11_redo) (maxL := 2) (ret := (some .int)) (by decide) rfl ?_
  intro p e s m args below meth c s₁ B hml hv
  obtain ⟨rfl, hP, hK, hD, hZ⟩ := hv
  have hx := B.exec
  have hb := B.bytes
  have hr := B.returns
  have hts := atoms_spec (ws := (Cond.code yX11_redo cX11_redo 2 (some .int) :: gw)) B.pre
  have hg : ∀ w ∈ gw, w.before ([.ref (ad 0)] : List Value).toArray s = true := fun w h => hts w (List.mem_cons_of_mem _ h)
  have hown : s.vm.findClass RX11 = some m.cls := findClass_of_methodNamed B.named
  have hlocks := B.notSynchronized
  have hS : va_S A s.heap s.heap [] := va_S.rf
  have hP : va_P D vwCl (CW cs ad fa fq rv v a w fv fp) s.heap := hP
  have hl := lv_entry ([.ref (ad 0)]) (n := 2) (Nat.le_of_ble_eq_true rfl)
  rw [lg_entry_eq]
  generalize (lg_sl ([.ref (ad 0)]) ++ List.replicate (2 - (lg_sl ([.ref (ad 0)])).length) Slot.unset).toArray = ls at hl ⊢
  have hl : lv_has ls 2 [(0, .ref (ad 0))] := hl
  refine lv_aload_n hx hb dX11_redo_0 rfl (lv_at hl 0 rfl) ?_
  refine gf_main_changes hx hb hg hown hK hP rfl (hg _ q2_132) dX11_redo_1 ?_
  refine gf_changes_done hx hb hg hown hK hP (x := (v 19)) rfl (hg _ q1_41) dX11_redo_4 ?_
  refine lv_aload_n hx hb dX11_redo_7 rfl (lv_at hl 0 rfl) ?_
  refine gf_main_changes hx hb hg hown hK hP rfl (hg _ q2_132) dX11_redo_8 ?_
  refine gf_changes_all hx hb hg hown hK hP (x := (v 20)) rfl (hg _ q1_43) dX11_redo_11 ?_
  refine lv_icmp_ne (tgt := 20) hx hb dX11_redo_14 (by decide) (fun c_1 => ?_) (fun c_1 => ?_)
  ·
    have kc_1 : (v 19).toInt ≠ (v 20).toInt := i_ne c_1
    refine lv_aload_n hx hb dX11_redo_20 rfl (lv_at hl 0 rfl) ?_
    refine gf_main_changes hx hb hg hown hK hP rfl (hg _ q2_132) dX11_redo_21 ?_
    refine gf_changes_done hx hb hg hown hK hP (x := (v 19)) rfl (hg _ q1_41) dX11_redo_24 ?_
    refine lv_istore_n (lv' := [(1, .int (v 19)), (0, .ref (ad 0))]) hx hb dX11_redo_27 rfl hl (by decide) rfl (fun ls hl => ?_)
    refine lv_aload_n hx hb dX11_redo_28 rfl (lv_at hl 1 rfl) ?_
    refine gf_main_changes hx hb hg hown hK hP rfl (hg _ q2_132) dX11_redo_29 ?_
    refine lv_dup hx hb dX11_redo_32 rfl ?_
    refine gf_changes_done hx hb hg hown hK hP (x := (v 19)) rfl (hg _ q1_41) dX11_redo_33 ?_
    refine lv_iconst (v := 1) hx hb dX11_redo_36 (by decide) ?_
    refine lv_iadd hx hb dX11_redo_37 ?_
    refine lv_topi (fun x_2 ex_2 => ?_)
    have fx_2 : x_2.toInt = (v 19).toInt + (1 : Int) := by rw [ex_2]; exact i_add (by first | omega | (show (_ : Int) ≤ (v 19).toInt + (1 : Int); omega)) (by first | omega | (show (v 19).toInt + (1 : Int) ≤ (_ : Int); omega))
    refine pf_changes_done hx hb hg hown hK hP hD hS (hg _ q1_41) dX11_redo_38 (fun H locs hP hD hS => ?_)
    refine lv_aload_n hx hb dX11_redo_41 rfl (lv_at hl 1 rfl) ?_
    refine lv_aload_n hx hb dX11_redo_42 rfl (lv_at hl 1 rfl) ?_
    refine gf_main_changes hx hb hg hown hK hP rfl (hg _ q2_132) dX11_redo_43 ?_
    refine gf_changes_number hx hb hg hown hK hP rfl (hg _ q1_33) dX11_redo_46 ?_
    refine lv_iload_n hx hb dX11_redo_49 rfl (lv_at hl 0 rfl) ?_
    refine ld_Cnumber hx hb hK hP (i_in (by omega) (by omega)) dX11_redo_50 ?_
    refine lv_topi (fun x_3 ex_3 => ?_)
    have ex_3 : x_3 = (a 24) (v 19).toNatClampNeg := ex_3
    have hx_3 : x_3.toInt = ((a 24) (v 19).toNatClampNeg).toInt := by rw [ex_3]
    have bx_3 := ia24_0 (v 19).toNatClampNeg
    rw [← ex_3] at bx_3
    refine lv_aload_n hx hb dX11_redo_51 rfl (lv_at hl 1 rfl) ?_
    refine gf_main_changes hx hb hg hown hK hP rfl (hg _ q2_132) dX11_redo_52 ?_
    refine gf_changes_what hx hb hg hown hK hP rfl (hg _ q1_35) dX11_redo_55 ?_
    refine lv_iload_n hx hb dX11_redo_58 rfl (lv_at hl 0 rfl) ?_
    refine ld_Cwhat hx hb hK hP (i_in (by omega) (by omega)) dX11_redo_59 ?_
    refine lv_topi (fun x_4 ex_4 => ?_)
    have ex_4 : x_4 = (a 25) (v 19).toNatClampNeg := ex_4
    have hx_4 : x_4.toInt = ((a 25) (v 19).toNatClampNeg).toInt := by rw [ex_4]
    have bx_4 := ia25_0 (v 19).toNatClampNeg
    rw [← ex_4] at bx_4
    refine lv_aload_n hx hb dX11_redo_60 rfl (lv_at hl 1 rfl) ?_
    refine gf_main_changes hx hb hg hown hK hP rfl (hg _ q2_132) dX11_redo_61 ?_
    refine gf_changes_becomes hx hb hg hown hK hP rfl (hg _ q1_39) dX11_redo_64 ?_
    refine lv_iload_n hx hb dX11_redo_67 rfl (lv_at hl 0 rfl) ?_
    refine ld_Cbecomes hx hb hK hP (i_in (by omega) (by omega)) dX11_redo_68 ?_
    refine lv_topi (fun x_5 ex_5 => ?_)
    have ex_5 : x_5 = (a 27) (v 19).toNatClampNeg := ex_5
    have hx_5 : x_5.toInt = ((a 27) (v 19).toNatClampNeg).toInt := by rw [ex_5]
    refine cV_v (As := [.int x_3, .int x_4, .int x_5]) (rest := []) ⟨hx, hb, hml, hown, hg⟩ (k_X11_tell l D cs A ad fa fq rv (va_up v 19 x_2) a w fv fp  x_3 x_4 x_5 (show 0 ≤ x_3.toInt by first | omega | decide) (show x_3.toInt < 8 by first | omega | decide) (show 0 ≤ (v 1).toInt by first | omega | decide) (show (v 1).toInt ≤ 8 by first | omega | decide) (show (fv 14 2).toInt = -2 ∨ (0 ≤ (fv 14 2).toInt ∧ (fv 14 2).toInt < (v 1).toInt) by first | omega | decide)) ca_X11_tell q3_24 ⟨rfl, rfl⟩ ⟨Nat.le_of_ble_eq_true rfl, Nat.le_of_ble_eq_true rfl⟩ (rc_main hK hP) hK hP hD hS hZ rfl hl.1 rfl (Nat.le_of_ble_eq_true rfl) ⟨Nat.zero_le _, Nat.zero_le _⟩ dX11_redo_69 (fun z_15 H locs wr_6 hP hD hS => ?_)
    obtain ⟨o_a11_7, o_a14_8, o_a12_9, o_fp14_10, o_a13_11, o_fv14_12, o_v2_13, o_v3_14⟩ := z_15
    have hP : va_P D vwCl (CW cs ad fa fq rv (va_up (va_up (va_up v 19 x_2) 2 o_v2_13) 3 o_v3_14) (va_up (va_up (va_up (va_up a 11 o_a11_7) 14 o_a14_8) 12 o_a12_9) 13 o_a13_11) w (va_up fv 14 o_fv14_12) (va_up fp 14 o_fp14_10)) H := hP
    have hD : va_D A (CW cs ad fa fq rv (va_up (va_up (va_up v 19 x_2) 2 o_v2_13) 3 o_v3_14) (va_up (va_up (va_up (va_up a 11 o_a11_7) 14 o_a14_8) 12 o_a12_9) 13 o_a13_11) w (va_up fv 14 o_fv14_12) (va_up fp 14 o_fp14_10)) := hD
    obtain ⟨wr_6_0, wr_6_1⟩ : (o_fv14_12 3 = (fv 14 3)) ∧ ((o_fv14_12 2).toInt = -2 ∨ (0 ≤ (o_fv14_12 2).toInt ∧ (o_fv14_12 2).toInt < (v 1).toInt)) := wr_6
    refine lv_aload_n hx hb dX11_redo_72 rfl (lv_at hl 1 rfl) ?_
    refine gf_main_changes hx hb hg hown hK hP rfl (hg _ q2_132) dX11_redo_73 ?_
    refine gf_changes_all hx hb hg hown hK hP (x := (v 20)) rfl (hg _ q1_43) dX11_redo_76 ?_
    refine lv_aload_n hx hb dX11_redo_79 rfl (lv_at hl 1 rfl) ?_
    refine gf_main_changes hx hb hg hown hK hP rfl (hg _ q2_132) dX11_redo_80 ?_
    refine gf_changes_done hx hb hg hown hK hP (x := x_2) rfl (hg _ q1_41) dX11_redo_83 ?_
    refine lv_isub hx hb dX11_redo_86 ?_
    refine lv_topi (fun x_16 ex_16 => ?_)
    have fx_16 : x_16.toInt = (v 20).toInt - x_2.toInt := by rw [ex_16]; exact i_sub (by first | omega | (show (_ : Int) ≤ (v 20).toInt - x_2.toInt; omega)) (by first | omega | (show (v 20).toInt - x_2.toInt ≤ (_ : Int); omega))
    exact W.iret (v := x_16) hx hb hr (fun tt ht hW => ⟨⟨x_16, ⟨x_2, o_v2_13, o_v3_14, o_a11_7, o_a14_8, o_a12_9, o_a13_11, o_fv14_12, o_fp14_10⟩, rfl, ⟨(by first | rfl | assumption), (show 0 ≤ x_2.toInt by first | omega | assumption), (show x_2.toInt ≤ 40 by first | omega | assumption), (show x_2.toInt ≤ (v 20).toInt by first | omega | assumption), (show (o_fv14_12 2).toInt = -2 ∨ (0 ≤ (o_fv14_12 2).toInt ∧ (o_fv14_12 2).toInt < (v 1).toInt) by first | omega | assumption)⟩, by rw [ht]; exact hP, hD⟩, hS.F ht⟩) hS.2.2 dX11_redo_87
  ·
    have kc_1 : (v 19).toInt = (v 20).toInt := i_eq c_1
    refine lv_bipush (v := (-5)) hx hb dX11_redo_17 (by decide) ?_
    have q0_m5 : ((-5) : Int32).toInt = (-5) := rfl
    have hP : va_P D vwCl (CW cs ad fa fq rv (va_up (va_up (va_up v 19 (v 19)) 2 (v 2)) 3 (v 3)) (va_up (va_up (va_up (va_up a 11 (a 11)) 14 (a 14)) 12 (a 12)) 13 (a 13)) w (va_up fv 14 (fv 14)) (va_up fp 14 (fp 14))) _ := hP
    have hD : va_D A (CW cs ad fa fq rv (va_up (va_up (va_up v 19 (v 19)) 2 (v 2)) 3 (v 3)) (va_up (va_up (va_up (va_up a 11 (a 11)) 14 (a 14)) 12 (a 12)) 13 (a 13)) w (va_up fv 14 (fv 14)) (va_up fp 14 (fp 14))) := hD
    exact W.iret (v := (-5)) hx hb hr (fun tt ht hW => ⟨⟨(-5), ⟨(v 19), (v 2), (v 3), (a 11), (a 14), (a 12), (a 13), (fv 14), (fp 14)⟩, rfl, ⟨(by first | rfl | assumption), (show 0 ≤ (v 19).toInt by first | omega | assumption), (show (v 19).toInt ≤ 40 by first | omega | assumption), (show (v 19).toInt ≤ (v 20).toInt by first | omega | assumption), (show (fv 14 2).toInt = -2 ∨ (0 ≤ (fv 14 2).toInt ∧ (fv 14 2).toInt < (v 1).toInt) by first | omega | assumption)⟩, by rw [ht]; exact hP, hD⟩, hS.F ht⟩) hS.2.2 dX11_redo_19
set_option maxHeartbeats 4000000 in
set_option maxRecDepth 100000 in
theorem k_X11_openDay (l : Launch) (D : va_G) (cs : Nat → ClassId) (A : Nat → Prop) (ad fa fq rv : Nat → Nat) (v : Nat → Int32) (a : Nat → Nat → Int32) (w : Nat → Nat → Int64) (fv fp : Nat → Nat → Int32)  (p1 : Int32) (h1 : 0 ≤ p1.toInt) (h2 : p1.toInt < 6) (ia28_0 : AB (-1) 5 (a 28)) (iv1_0 : 0 ≤ (v 1).toInt) (iv1_1 : (v 1).toInt ≤ 8) (iv6_0 : 0 ≤ (v 6).toInt) (iv6_1 : (v 6).toInt ≤ 24) (iv6_2 : DOK (v 6) (a 20) (v 1)) (ia29_0 : AB (-1) 60 (a 29)) : Met l yX11_openDay (Cond.code yX11_openDay cX11_openDay 3 (some .int) :: gw) ({ frames := 3, cells := 0, slots := 0, locals := 68 }) (va_Pc [.ref (ad 0), .int p1] (XPre D (TY cs) (CW cs ad fa fq rv v a w fv fp) A)) (va_Qi (fun (r : Int32) (z : Int32 × (Nat → Int32)) => (r.toInt = 0 ∨ r.toInt = -11 ∨ r.toInt = -12) ∧ (0 ≤ z.1.toInt) ∧ (z.1.toInt ≤ 24) ∧ (DOK z.1 z.2 (v 1))) (XPo D (fun (z : Int32 × (Nat → Int32)) => CW cs ad fa fq rv (va_up v 6 z.1) (va_up a 20 z.2) w fv fp) A) A) 0 0 A := by
  refine Met.ofW (cc := cX11_openDay) (maxL := 3) (ret := (some .int)) (by decide) rfl ?_
  intro p e s m args below meth c s₁ B hml hv
  obtain ⟨rfl, hP, hK, hD, hZ⟩ := hv
  have hx := B.exec
  have hb := B.bytes
  have hr := B.returns
  have hts := atoms_spec (ws := (Cond.code yX11_openDay cX11_openDay 3 (some .int) :: gw)) B.pre
  have hg : ∀ w ∈ gw, w.before ([.ref (ad 0), .int p1] : List Value).toArray s = true := fun w h => hts w (List.mem_cons_of_mem _ h)
  have hown : s.vm.findClass RX11 = some m.cls := findClass_of_methodNamed B.named
  have hlocks := B.notSynchronized
  have hS : va_S A s.heap s.heap [] := va_S.rf
  have hP : va_P D vwCl (CW cs ad fa fq rv v a w fv fp) s.heap := hP
  have hl := lv_entry ([.ref (ad 0), .int p1]) (n := 3) (Nat.le_of_ble_eq_true rfl)
  rw [lg_entry_eq]
  generalize (lg_sl ([.ref (ad 0), .int p1]) ++ List.replicate (3 - (lg_sl ([.ref (ad 0), .int p1])).length) Slot.unset).toArray = ls at hl ⊢
  have hl : lv_has ls 3 [(0, .ref (ad 0)), (1, .int p1)] := hl
  refine lv_aload_n hx hb dX11_openDay_0 rfl (lv_at hl 0 rfl) ?_
  refine gf_main_shelves hx hb hg hown hK hP rfl (hg _ q2_133) dX11_openDay_1 ?_
  refine lv_iload_n hx hb dX11_openDay_4 rfl (lv_at hl 1 rfl) ?_
  refine lv_iload_n hx hb dX11_openDay_5 rfl (lv_at hl 1 rfl) ?_
  refine cV_ro (As := [.int p1, .int p1]) (rest := []) ⟨hx, hb, hml, hown, hg⟩ (k_X10_faultOfBytes l D cs A ad fa fq rv v a w fv fp  p1 p1 (show 0 ≤ p1.toInt by first | omega | decide) (show p1.toInt < 6 by first | omega | decide) (show 0 ≤ p1.toInt by first | omega | decide) (show p1.toInt < 6 by first | omega | decide) ia28_0) ca_X10_faultOfBytes q3_151 ⟨rfl, rfl⟩ ⟨Nat.le_of_ble_eq_true rfl, Nat.le_of_ble_eq_true rfl⟩ (rc_shelves hK hP) hK hP hD hS hZ rfl hl.1 rfl (Nat.le_of_ble_eq_true rfl) ⟨Nat.zero_le _, Nat.zero_le _⟩ dX11_openDay_6 (fun r_1 wr_1 => ?_)
  have wr_1_0 : r_1.toInt = 0 ∨ r_1.toInt = -11 ∨ r_1.toInt = -12 := wr_1
  refine lv_istore_n (lv' := [(2, .int r_1), (0, .ref (ad 0)), (1, .int p1)]) hx hb dX11_openDay_9 rfl hl (by decide) rfl (fun ls hl => ?_)
  refine lv_iload_n hx hb dX11_openDay_10 rfl (lv_at hl 0 rfl) ?_
  refine lv_if_ne (tgt := 33) hx hb dX11_openDay_11 (by decide) (fun c_2 => ?_) (fun c_2 => ?_)
  ·
    have kc_2 : r_1.toInt ≠ (0 : Int) := i_ne c_2
    refine lv_iload_n hx hb dX11_openDay_33 rfl (lv_at hl 0 rfl) ?_
    have hP : va_P D vwCl (CW cs ad fa fq rv (va_up v 6 (v 6)) (va_up a 20 (a 20)) w fv fp) _ := hP
    have hD : va_D A (CW cs ad fa fq rv (va_up v 6 (v 6)) (va_up a 20 (a 20)) w fv fp) := hD
    exact W.iret (v := r_1) hx hb hr (fun tt ht hW => ⟨⟨r_1, ⟨(v 6), (a 20)⟩, rfl, ⟨(by first | rfl | omega | trivial | assumption | (dsimp only; first | omega | assumption)), (show 0 ≤ (v 6).toInt by first | omega | assumption), (show (v 6).toInt ≤ 24 by first | omega | assumption), iv6_2⟩, by rw [ht]; exact hP, hD⟩, hS.F ht⟩) hS.2.2 dX11_openDay_34
  ·
    have kc_2 : r_1.toInt = (0 : Int) := i_eq c_2
    refine lv_aload_n hx hb dX11_openDay_14 rfl (lv_at hl 1 rfl) ?_
    refine gf_main_today hx hb hg hown hK hP rfl (hg _ q2_128) dX11_openDay_15 ?_
    refine lv_aload_n hx hb dX11_openDay_18 rfl (lv_at hl 1 rfl) ?_
    refine gf_main_shelves hx hb hg hown hK hP rfl (hg _ q2_133) dX11_openDay_19 ?_
    refine lv_iload_n hx hb dX11_openDay_22 rfl (lv_at hl 2 rfl) ?_
    refine lv_aload_n hx hb dX11_openDay_23 rfl (lv_at hl 1 rfl) ?_
    refine gf_main_parish hx hb hg hown hK hP rfl (hg _ q2_123) dX11_openDay_24 ?_
    refine gf_parish_people hx hb hg hown hK hP (x := (v 1)) rfl (hg _ q1_109) dX11_openDay_27 ?_
    refine cV_v (As := [.ref (ad 8), .int p1, .int (v 1)]) (rest := []) ⟨hx, hb, hml, hown, hg⟩ (k_X2_read l D cs A ad fa fq rv v a w fv fp  p1 (v 1) (show 0 ≤ p1.toInt by first | omega | decide) (show p1.toInt < 6 by first | omega | decide) (show (v 1).toInt = (v 1).toInt by first | omega | decide) (show 0 ≤ (v 1).toInt by first | omega | decide) (show (v 1).toInt ≤ 8 by first | omega | decide) (show 0 ≤ (v 6).toInt by first | omega | decide) (show (v 6).toInt ≤ 24 by first | omega | decide) iv6_2 ia28_0 ia29_0) ca_X2_read q3_157 ⟨rfl, rfl⟩ ⟨Nat.le_of_ble_eq_true rfl, Nat.le_of_ble_eq_true rfl⟩ (rc_today hK hP) hK hP hD hS hZ rfl hl.1 rfl (Nat.le_of_ble_eq_true rfl) ⟨Nat.zero_le _, Nat.zero_le _⟩ dX11_openDay_30 (fun z_6 H locs wr_3 hP hD hS => ?_)
    obtain ⟨o_v6_4, o_a20_5⟩ := z_6
    have hP : va_P D vwCl (CW cs ad fa fq rv (va_up v 6 o_v6_4) (va_up a 20 o_a20_5) w fv fp) H := hP
    have hD : va_D A (CW cs ad fa fq rv (va_up v 6 o_v6_4) (va_up a 20 o_a20_5) w fv fp) := hD
    obtain ⟨wr_3_0, wr_3_1, wr_3_2⟩ : (0 ≤ o_v6_4.toInt) ∧ (o_v6_4.toInt ≤ 24) ∧ (DOK o_v6_4 o_a20_5 (v 1)) := wr_3
    refine lv_iload_n hx hb dX11_openDay_33 rfl (lv_at hl 0 rfl) ?_
    exact W.iret (v := r_1) hx hb hr (fun tt ht hW => ⟨⟨r_1, ⟨o_v6_4, o_a20_5⟩, rfl, ⟨(by first | rfl | omega | trivial | assumption | (dsimp only; first | omega | assumption)), (show 0 ≤ o_v6_4.toInt by first | omega | assumption), (show o_v6_4.toInt ≤ 24 by first | omega | assumption), wr_3_2⟩, by rw [ht]; exact hP, hD⟩, hS.F ht⟩) hS.2.2 dX11_openDay_34
set_option maxHeartbeats 4000000 in
set_option maxRecDepth 100000 in
theorem k_X11_think (l : Launch) (D : va_G) (cs : Nat → ClassId) (A : Nat → Prop) (ad fa fq rv : Nat → Nat) (v : Nat → Int32) (a : Nat → Nat → Int32) (w : Nat → Nat → Int64) (fv fp : Nat → Nat → Int32)  (p1 : Int32) (iv1_0 : 0 ≤ (v 1).toInt) (iv1_1 : (v 1).toInt ≤ 8) (iv6_0 : 0 ≤ (v 6).toInt) (iv6_1 : (v 6).toInt ≤ 24) (iv6_2 : DOK (v 6) (a 20) (v 1)) (iv5_0 : 0 ≤ (v 5).toInt) (iv5_1 : (v 5).toInt ≤ 256) (ia18_0 : AB (-1000) 20000 (a 18)) (ifv14_0 : (fv 14 2).toInt = -2 ∨ (0 ≤ (fv 14 2).toInt ∧ (fv 14 2).toInt < (v 1).toInt)) : Met l yX11_think (Cond.code yX11_think cX11_think 5 (some .int) :: gw) ({ frames := 4, cells := 0, slots := 0, locals := 103 }) (va_Pc [.ref (ad 0), .int p1] (XPre D (TY cs) (CW cs ad fa fq rv v a w fv fp) A)) (va_Qi (fun (r : Int32) (z : (Nat → Int32) × (Nat → Int32) × (Nat → Int32) × (Nat → Int32)) => ((z.2.2.1 2).toInt = -2 ∨ (0 ≤ (z.2.2.1 2).toInt ∧ (z.2.2.1 2).toInt < (v 1).toInt))) (XPo D (fun (z : (Nat → Int32) × (Nat → Int32) × (Nat → Int32) × (Nat → Int32)) => CW cs ad fa fq rv v (va_up (va_up a 17 z.1) 16 z.2.1) w (va_up fv 15 z.2.2.1) (va_up fp 15 z.2.2.2)) A) A) 0 0 A := by
  refine Met.ofW (cc := cX11_think) (maxL := 5) (ret := (some .int)) (by decide) rfl ?_
  intro p e s m args below meth c s₁ B hml hv
  obtain ⟨rfl, hP, hK, hD, hZ⟩ := hv
  have hx := B.exec
  have hb := B.bytes
  have hr := B.returns
  have hts := atoms_spec (ws := (Cond.code yX11_think cX11_think 5 (some .int) :: gw)) B.pre
  have hg : ∀ w ∈ gw, w.before ([.ref (ad 0), .int p1] : List Value).toArray s = true := fun w h => hts w (List.mem_cons_of_mem _ h)
  have hown : s.vm.findClass RX11 = some m.cls := findClass_of_methodNamed B.named
  have hlocks := B.notSynchronized
  have hS : va_S A s.heap s.heap [] := va_S.rf
  have hP : va_P D vwCl (CW cs ad fa fq rv v a w fv fp) s.heap := hP
  have hl := lv_entry ([.ref (ad 0), .int p1]) (n := 5) (Nat.le_of_ble_eq_true rfl)
  rw [lg_entry_eq]
  generalize (lg_sl ([.ref (ad 0), .int p1]) ++ List.replicate (5 - (lg_sl ([.ref (ad 0), .int p1])).length) Slot.unset).toArray = ls at hl ⊢
  have hl : lv_has ls 5 [(0, .ref (ad 0)), (1, .int p1)] := hl
  have hcut : ∀ nk : Nat, (∀ (x2 : Int32) (x3 : Int32) (c15_a17 : Nat → Int32) (c15_a16 : Nat → Int32) (c15_fv15 : Nat → Int32) (c15_fp15 : Nat → Int32) (H : Heap) (locs : List Loc) (i3 : 0 ≤ x3.toInt) (jfv15_0 : (c15_fv15 2).toInt = -2 ∨ (0 ≤ (c15_fv15 2).toInt ∧ (c15_fv15 2).toInt < (v 1).toInt)) (hmu : ((v 6).toInt - x3.toInt).toNat < nk) (hP : va_P D vwCl (CW cs ad fa fq rv v (va_up (va_up a 17 c15_a17) 16 c15_a16) w (va_up fv 15 c15_fv15) (va_up fp 15 c15_fp15)) H) (hD : va_D A (CW cs ad fa fq rv v (va_up (va_up a 17 c15_a17) 16 c15_a16) w (va_up fv 15 c15_fv15) (va_up fp 15 c15_fp15))) (hS : va_S A s.heap H locs) (ls : Array Slot) (hl : lv_has ls 5 [(0, .ref (ad 0)), (1, .int p1), (2, .int x2), (3, .int x3)]), W p l e (headSpec (Cond.code yX11_think cX11_think 5 (some .int) :: gw) ({ frames := 4, cells := 0, slots := 0, locals := 103 })).room s m ([.ref (ad 0), .int p1] : List Value).toArray below meth c H locs 0 0 (MQ below (va_Qi (fun (r : Int32) (z : (Nat → Int32) × (Nat → Int32) × (Nat → Int32) × (Nat → Int32)) => ((z.2.2.1 2).toInt = -2 ∨ (0 ≤ (z.2.2.1 2).toInt ∧ (z.2.2.1 2).toInt < (v 1).toInt))) (XPo D (fun (z : (Nat → Int32) × (Nat → Int32) × (Nat → Int32) × (Nat → Int32)) => CW cs ad fa fq rv v (va_up (va_up a 17 z.1) 16 z.2.1) w (va_up fv 15 z.2.2.1) (va_up fp 15 z.2.2.2)) A) A) ([.ref (ad 0), .int p1] : List Value).toArray s 0 0 A) (F0 m 15 ls [])) := by
    intro nk
    induction nk with
    | zero => exact (fun x2 x3 c15_a17 c15_a16 c15_fv15 c15_fp15 H locs i3 jfv15_0 hmu hP hD hS ls hl => absurd hmu (Nat.not_lt_zero _))
    | succ nk ih =>
      intro x2 x3 c15_a17 c15_a16 c15_fv15 c15_fp15 H locs i3 jfv15_0 hmu hP hD hS ls hl
      refine lv_iload_n hx hb dX11_think_15 rfl (lv_at hl 3 rfl) ?_
      refine lv_iload_n hx hb dX11_think_16 rfl (lv_at hl 1 rfl) ?_
      refine lv_icmp_ge (tgt := 88) hx hb dX11_think_17 (by decide) (fun c_1 => ?_) (fun c_1 => ?_)
      ·
        have kc_1 : p1.toInt ≤ x3.toInt := i_le c_1
        refine lv_iload_n hx hb dX11_think_88 rfl (lv_at hl 2 rfl) ?_
        exact W.iret (v := x2) hx hb hr (fun tt ht hW => ⟨⟨x2, ⟨c15_a17, c15_a16, c15_fv15, c15_fp15⟩, rfl, (show (c15_fv15 2).toInt = -2 ∨ (0 ≤ (c15_fv15 2).toInt ∧ (c15_fv15 2).toInt < (v 1).toInt) by first | omega | assumption), by rw [ht]; exact hP, hD⟩, hS.F ht⟩) hS.2.2 dX11_think_89
      ·
        have kc_1 : x3.toInt < p1.toInt := i_nle c_1
        refine lv_iload_n hx hb dX11_think_20 rfl (lv_at hl 3 rfl) ?_
        refine lv_aload_n hx hb dX11_think_21 rfl (lv_at hl 0 rfl) ?_
        refine gf_main_today hx hb hg hown hK hP rfl (hg _ q2_128) dX11_think_22 ?_
        refine gf_today_size hx hb hg hown hK hP (x := (v 6)) rfl (hg _ q1_208) dX11_think_25 ?_
        refine lv_icmp_ge (tgt := 88) hx hb dX11_think_28 (by decide) (fun c_2 => ?_) (fun c_2 => ?_)
        ·
          have kc_2 : (v 6).toInt ≤ x3.toInt := i_le c_2
          refine lv_iload_n hx hb dX11_think_88 rfl (lv_at hl 2 rfl) ?_
          exact W.iret (v := x2) hx hb hr (fun tt ht hW => ⟨⟨x2, ⟨c15_a17, c15_a16, c15_fv15, c15_fp15⟩, rfl, (show (c15_fv15 2).toInt = -2 ∨ (0 ≤ (c15_fv15 2).toInt ∧ (c15_fv15 2).toInt < (v 1).toInt) by first | omega | assumption), by rw [ht]; exact hP, hD⟩, hS.F ht⟩) hS.2.2 dX11_think_89
        ·
          have kc_2 : x3.toInt < (v 6).toInt := i_nle c_2
          refine lv_aload_n hx hb dX11_think_31 rfl (lv_at hl 0 rfl) ?_
          refine gf_main_thought hx hb hg hown hK hP rfl (hg _ q2_126) dX11_think_32 ?_
          refine gf_fl_louds (f := 15) (by decide) hx hb hg hown hK hP (x := (c15_fv15 5)) rfl (hg _ q2_2) dX11_think_35 ?_
          refine lv_istore (lv' := [(4, .int (c15_fv15 5)), (0, .ref (ad 0)), (1, .int p1), (2, .int x2), (3, .int x3)]) hx hb dX11_think_38 hl (by decide) rfl (fun ls hl => ?_)
          refine lv_aload_n hx hb dX11_think_40 rfl (lv_at hl 1 rfl) ?_
          refine gf_main_thought hx hb hg hown hK hP rfl (hg _ q2_126) dX11_think_41 ?_
          refine lv_aload_n hx hb dX11_think_44 rfl (lv_at hl 1 rfl) ?_
          refine gf_main_today hx hb hg hown hK hP rfl (hg _ q2_128) dX11_think_45 ?_
          refine lv_iload_n hx hb dX11_think_48 rfl (lv_at hl 4 rfl) ?_
          refine cV_ro (As := [.int x3]) (rest := [.ref (fa 15)]) ⟨hx, hb, hml, hown, hg⟩ (k_X2_who l D cs A ad fa fq rv v (va_up (va_up a 17 c15_a17) 16 c15_a16) w (va_up fv 15 c15_fv15) (va_up fp 15 c15_fp15)  x3 (show 0 ≤ x3.toInt by first | omega | decide) (show x3.toInt < (v 6).toInt by first | omega | decide) (show 0 ≤ (v 1).toInt by first | omega | decide) (show (v 1).toInt ≤ 8 by first | omega | decide) (show 0 ≤ (v 6).toInt by first | omega | decide) (show (v 6).toInt ≤ 24 by first | omega | decide) iv6_2) ca_X2_who q3_168 ⟨rfl, rfl⟩ ⟨Nat.le_of_ble_eq_true rfl, Nat.le_of_ble_eq_true rfl⟩ (rc_today hK hP) hK hP hD hS hZ rfl hl.1 rfl (Nat.le_of_ble_eq_true rfl) ⟨Nat.zero_le _, Nat.zero_le _⟩ dX11_think_49 (fun r_3 wr_3 => ?_)
          obtain ⟨wr_3_0, wr_3_1⟩ : (0 ≤ r_3.toInt) ∧ (r_3.toInt < (v 1).toInt) := wr_3
          refine lv_aload_n hx hb dX11_think_52 rfl (lv_at hl 1 rfl) ?_
          refine gf_main_today hx hb hg hown hK hP rfl (hg _ q2_128) dX11_think_53 ?_
          refine lv_iload_n hx hb dX11_think_56 rfl (lv_at hl 4 rfl) ?_
          refine cV_ro (As := [.int x3]) (rest := [.int r_3, .ref (fa 15)]) ⟨hx, hb, hml, hown, hg⟩ (k_X2_isLie l D cs A ad fa fq rv v (va_up (va_up a 17 c15_a17) 16 c15_a16) w (va_up fv 15 c15_fv15) (va_up fp 15 c15_fp15)  x3 (show 0 ≤ x3.toInt by first | omega | decide) (show x3.toInt < (v 6).toInt by first | omega | decide) (show 0 ≤ (v 1).toInt by first | omega | decide) (show (v 1).toInt ≤ 8 by first | omega | decide) (show 0 ≤ (v 6).toInt by first | omega | decide) (show (v 6).toInt ≤ 24 by first | omega | decide) iv6_2) ca_X2_isLie q3_172 ⟨rfl, rfl⟩ ⟨Nat.le_of_ble_eq_true rfl, Nat.le_of_ble_eq_true rfl⟩ (rc_today hK hP) hK hP hD hS hZ rfl hl.1 rfl (Nat.le_of_ble_eq_true rfl) ⟨Nat.zero_le _, Nat.zero_le _⟩ dX11_think_57 (fun r_4 wr_4 => ?_)
          obtain ⟨wr_4_0, wr_4_1⟩ : (0 ≤ r_4.toInt) ∧ (r_4.toInt ≤ 1) := wr_4
          refine cV_i (As := [.int r_3, .int r_4]) (rest := []) ⟨hx, hb, hml, hown, hg⟩ (k_X3_utter l D cs A ad fa fq rv v (va_up (va_up a 17 c15_a17) 16 c15_a16) w (va_up fv 15 c15_fv15) (va_up fp 15 c15_fp15) 15 r_3 r_4 (by omega) (show 0 ≤ r_3.toInt by first | omega | decide) (show r_3.toInt < (v 1).toInt by first | omega | decide) (show 0 ≤ (v 1).toInt by first | omega | decide) (show (v 1).toInt ≤ 8 by first | omega | decide) (show (c15_fv15 2).toInt = -2 ∨ (0 ≤ (c15_fv15 2).toInt ∧ (c15_fv15 2).toInt < (v 1).toInt) by first | omega | decide) (show 0 ≤ (v 5).toInt by first | omega | decide) (show (v 5).toInt ≤ 256 by first | omega | decide) ia18_0) ca_X3_utter q3_176 ⟨rfl, rfl⟩ ⟨Nat.le_of_ble_eq_true rfl, Nat.le_of_ble_eq_true rfl⟩ (rc_fl (f := 15) (by decide) hK hP) hK hP hD hS hZ rfl hl.1 rfl (Nat.le_of_ble_eq_true rfl) ⟨Nat.zero_le _, Nat.zero_le _⟩ dX11_think_60 (fun r_5 z_10 H locs wr_5 hP hD hS => ?_)
          obtain ⟨o_fvf_6, o_fpf_7, o_a17_8, o_a16_9⟩ := z_10
          have hP : va_P D vwCl (CW cs ad fa fq rv v (va_up (va_up a 17 o_a17_8) 16 o_a16_9) w (va_up fv 15 o_fvf_6) (va_up fp 15 o_fpf_7)) H := hP
          have hD : va_D A (CW cs ad fa fq rv v (va_up (va_up a 17 o_a17_8) 16 o_a16_9) w (va_up fv 15 o_fvf_6) (va_up fp 15 o_fpf_7)) := hD
          obtain ⟨wr_5_0, wr_5_1, wr_5_2⟩ : (r_5.toInt = -2 ∨ (0 ≤ r_5.toInt ∧ r_5.toInt < (v 1).toInt)) ∧ (o_fvf_6 3 = (c15_fv15 3) + 1) ∧ ((o_fvf_6 2).toInt = -2 ∨ (0 ≤ (o_fvf_6 2).toInt ∧ (o_fvf_6 2).toInt < (v 1).toInt)) := wr_5
          refine lv_pop hx hb dX11_think_63 rfl ?_
          refine lv_aload_n hx hb dX11_think_64 rfl (lv_at hl 1 rfl) ?_
          refine gf_main_thought hx hb hg hown hK hP rfl (hg _ q2_126) dX11_think_65 ?_
          refine gf_fl_louds (f := 15) (by decide) hx hb hg hown hK hP (x := (o_fvf_6 5)) rfl (hg _ q2_2) dX11_think_68 ?_
          refine lv_iload hx hb dX11_think_71 (lv_at hl 0 rfl) ?_
          refine lv_icmp_le (tgt := 82) hx hb dX11_think_73 (by decide) (fun c_11 => ?_) (fun c_11 => ?_)
          ·
            have kc_11 : (o_fvf_6 5).toInt ≤ (c15_fv15 5).toInt := i_le c_11
            obtain ⟨x_12, ex_12⟩ : ∃ y : Int32, y = x3 + 1 := ⟨_, rfl⟩
            have fx_12 : x_12.toInt = x3.toInt + 1 := by rw [ex_12]; exact i_add (by first | omega | (show (_ : Int) ≤ x3.toInt + 1; omega)) (by first | omega | (show x3.toInt + 1 ≤ (_ : Int); omega))
            refine lv_iinc (v := x_12) (lv' := [(3, .int x_12), (4, .int (c15_fv15 5)), (0, .ref (ad 0)), (1, .int p1), (2, .int x2)]) hx hb dX11_think_82 hl (k := 4) rfl (by rw [ex_12]; rfl) (by decide) rfl (fun ls hl => ?_)
            refine lv_goto (tgt := 15) hx hb dX11_think_85 (by decide) ?_
            exact ih x2 x_12 o_a17_8 o_a16_9 o_fvf_6 o_fpf_7 _ _ (by omega) (show (o_fvf_6 2).toInt = -2 ∨ (0 ≤ (o_fvf_6 2).toInt ∧ (o_fvf_6 2).toInt < (v 1).toInt) by first | omega | assumption) (by omega) hP hD hS ls (lv_sub hl [2, 3, 4, 0] rfl)
          ·
            have kc_11 : (c15_fv15 5).toInt < (o_fvf_6 5).toInt := i_nle c_11
            refine lv_iload_n hx hb dX11_think_76 rfl (lv_at hl 3 rfl) ?_
            refine lv_iconst (v := 1) hx hb dX11_think_77 (by decide) ?_
            refine lv_iload_n hx hb dX11_think_78 rfl (lv_at hl 4 rfl) ?_
            refine lv_ishl hx hb dX11_think_79 ?_
            refine lv_topi (fun x_13 ex_13 => ?_)
            refine lv_ior hx hb dX11_think_80 ?_
            refine lv_topi (fun x_14 ex_14 => ?_)
            refine lv_istore_n (lv' := [(2, .int x_14), (4, .int (c15_fv15 5)), (0, .ref (ad 0)), (1, .int p1), (3, .int x3)]) hx hb dX11_think_81 rfl hl (by decide) rfl (fun ls hl => ?_)
            obtain ⟨x_15, ex_15⟩ : ∃ y : Int32, y = x3 + 1 := ⟨_, rfl⟩
            have fx_15 : x_15.toInt = x3.toInt + 1 := by rw [ex_15]; exact i_add (by first | omega | (show (_ : Int) ≤ x3.toInt + 1; omega)) (by first | omega | (show x3.toInt + 1 ≤ (_ : Int); omega))
            refine lv_iinc (v := x_15) (lv' := [(3, .int x_15), (2, .int x_14), (4, .int (c15_fv15 5)), (0, .ref (ad 0)), (1, .int p1)]) hx hb dX11_think_82 hl (k := 4) rfl (by rw [ex_15]; rfl) (by decide) rfl (fun ls hl => ?_)
            refine lv_goto (tgt := 15) hx hb dX11_think_85 (by decide) ?_
            exact ih x_14 x_15 o_a17_8 o_a16_9 o_fvf_6 o_fpf_7 _ _ (by omega) (show (o_fvf_6 2).toInt = -2 ∨ (0 ≤ (o_fvf_6 2).toInt ∧ (o_fvf_6 2).toInt < (v 1).toInt) by first | omega | assumption) (by omega) hP hD hS ls (lv_sub hl [3, 4, 1, 0] rfl)
  refine lv_aload_n hx hb dX11_think_0 rfl (lv_at hl 0 rfl) ?_
  refine gf_main_thought hx hb hg hown hK hP rfl (hg _ q2_126) dX11_think_1 ?_
  refine lv_aload_n hx hb dX11_think_4 rfl (lv_at hl 0 rfl) ?_
  refine gf_main_deed hx hb hg hown hK hP rfl (hg _ q2_125) dX11_think_5 ?_
  refine cV_v (As := [.ref (fa 14)]) (rest := []) ⟨hx, hb, hml, hown, hg⟩ (k_X3_begin l D cs A ad fa fq rv v a w fv fp 15 14  (by omega) (by omega) (by omega) (show 0 ≤ (v 1).toInt by first | omega | decide) (show (v 1).toInt ≤ 8 by first | omega | decide) (show (fv 14 2).toInt = -2 ∨ (0 ≤ (fv 14 2).toInt ∧ (fv 14 2).toInt < (v 1).toInt) by first | omega | decide)) ca_X3_begin q3_117 ⟨rfl, rfl⟩ ⟨Nat.le_of_ble_eq_true rfl, Nat.le_of_ble_eq_true rfl⟩ (rc_fl (f := 15) (by decide) hK hP) hK hP hD hS hZ rfl hl.1 rfl (Nat.le_of_ble_eq_true rfl) ⟨Nat.zero_le _, Nat.zero_le _⟩ dX11_think_8 (fun z_19 H locs wr_16 hP hD hS => ?_)
  obtain ⟨o_fvf_17, o_fpf_18⟩ := z_19
  have hP : va_P D vwCl (CW cs ad fa fq rv v a w (va_up fv 15 o_fvf_17) (va_up fp 15 o_fpf_18)) H := hP
  have hD : va_D A (CW cs ad fa fq rv v a w (va_up fv 15 o_fvf_17) (va_up fp 15 o_fpf_18)) := hD
  obtain ⟨wr_16_0, wr_16_1, wr_16_2, wr_16_3, wr_16_4, wr_16_5, wr_16_6, wr_16_7, wr_16_8⟩ : (o_fvf_17 0 = (fv 14 0)) ∧ (o_fvf_17 1 = (fv 14 1)) ∧ (o_fvf_17 2 = (fv 14 2)) ∧ (o_fvf_17 3 = 0) ∧ (o_fvf_17 4 = 0) ∧ (o_fvf_17 5 = 0) ∧ (o_fvf_17 6 = 0) ∧ (o_fvf_17 7 = 0) ∧ ((o_fvf_17 2).toInt = -2 ∨ (0 ≤ (o_fvf_17 2).toInt ∧ (o_fvf_17 2).toInt < (v 1).toInt)) := wr_16
  refine lv_iconst (v := 0) hx hb dX11_think_11 (by decide) ?_
  refine lv_istore_n (lv' := [(2, .int 0), (0, .ref (ad 0)), (1, .int p1)]) hx hb dX11_think_12 rfl hl (by decide) rfl (fun ls hl => ?_)
  refine lv_iconst (v := 0) hx hb dX11_think_13 (by decide) ?_
  refine lv_istore_n (lv' := [(3, .int 0), (2, .int 0), (0, .ref (ad 0)), (1, .int p1)]) hx hb dX11_think_14 rfl hl (by decide) rfl (fun ls hl => ?_)
  have q0_0 : (0 : Int32).toInt = 0 := rfl
  exact (hcut ((((v 6).toInt - (0 : Int32).toInt).toNat) + 1)) 0 0 (a 17) (a 16) o_fvf_17 o_fpf_18 _ _ (by omega) (show (o_fvf_17 2).toInt = -2 ∨ (0 ≤ (o_fvf_17 2).toInt ∧ (o_fvf_17 2).toInt < (v 1).toInt) by first | omega | assumption) (Nat.lt_succ_self _) hP hD hS ls (lv_sub hl [2, 3, 1, 0] rfl)
set_option maxHeartbeats 4000000 in
set_option maxRecDepth 100000 in
theorem k_X11_isSpared (l : Launch) (D : va_G) (cs : Nat → ClassId) (A : Nat → Prop) (ad fa fq rv : Nat → Nat) (v : Nat → Int32) (a : Nat → Nat → Int32) (w : Nat → Nat → Int64) (fv fp : Nat → Nat → Int32)  (p1 : Int32) (iv1_0 : 0 ≤ (v 1).toInt) (iv1_1 : (v 1).toInt ≤ 8) (iv6_0 : 0 ≤ (v 6).toInt) (iv6_1 : (v 6).toInt ≤ 24) (iv6_2 : DOK (v 6) (a 20) (v 1)) (iv5_0 : 0 ≤ (v 5).toInt) (iv5_1 : (v 5).toInt ≤ 256) (ia18_0 : AB (-1000) 20000 (a 18)) (ifv14_0 : (fv 14 2).toInt = -2 ∨ (0 ≤ (fv 14 2).toInt ∧ (fv 14 2).toInt < (v 1).toInt)) : Met l yX11_isSpared (Cond.code yX11_isSpared cX11_isSpared 3 (some .boolean) :: gw) ({ frames := 4, cells := 0, slots := 0, locals := 103 }) (va_Pc [.ref (ad 0), .int p1] (XPre D (TY cs) (CW cs ad fa fq rv v a w fv fp) A)) (va_Qi (fun (r : Int32) (z : (Nat → Int32) × (Nat → Int32) × (Nat → Int32) × (Nat → Int32)) => (0 ≤ r.toInt) ∧ (r.toInt ≤ 1)) (XPo D (fun (z : (Nat → Int32) × (Nat → Int32) × (Nat → Int32) × (Nat → Int32)) => CW cs ad fa fq rv v (va_up (va_up a 17 z.1) 16 z.2.1) w (va_up fv 15 z.2.2.1) (va_up fp 15 z.2.2.2)) A) A) 0 0 A := by
  refine Met.ofW (cc := cX11_isSpared) (maxL := 3) (ret := (some .boolean)) (by decide) rfl ?_
  intro p e s m args below meth c s₁ B hml hv
  obtain ⟨rfl, hP, hK, hD, hZ⟩ := hv
  have hx := B.exec
  have hb := B.bytes
  have hr := B.returns
  have hts := atoms_spec (ws := (Cond.code yX11_isSpared cX11_isSpared 3 (some .boolean) :: gw)) B.pre
  have hg : ∀ w ∈ gw, w.before ([.ref (ad 0), .int p1] : List Value).toArray s = true := fun w h => hts w (List.mem_cons_of_mem _ h)
  have hown : s.vm.findClass RX11 = some m.cls := findClass_of_methodNamed B.named
  have hlocks := B.notSynchronized
  have hS : va_S A s.heap s.heap [] := va_S.rf
  have hP : va_P D vwCl (CW cs ad fa fq rv v a w fv fp) s.heap := hP
  have hl := lv_entry ([.ref (ad 0), .int p1]) (n := 3) (Nat.le_of_ble_eq_true rfl)
  rw [lg_entry_eq]
  generalize (lg_sl ([.ref (ad 0), .int p1]) ++ List.replicate (3 - (lg_sl ([.ref (ad 0), .int p1])).length) Slot.unset).toArray = ls at hl ⊢
  have hl : lv_has ls 3 [(0, .ref (ad 0)), (1, .int p1)] := hl
  have hcut : ∀ nk : Nat, (∀ (x2 : Int32) (c13_a17 : Nat → Int32) (c13_a16 : Nat → Int32) (c13_fv15 : Nat → Int32) (c13_fp15 : Nat → Int32) (H : Heap) (locs : List Loc) (i2 : 0 ≤ x2.toInt) (jfv15_0 : (c13_fv15 2).toInt = -2 ∨ (0 ≤ (c13_fv15 2).toInt ∧ (c13_fv15 2).toInt < (v 1).toInt)) (hmu : ((v 6).toInt - x2.toInt).toNat < nk) (hP : va_P D vwCl (CW cs ad fa fq rv v (va_up (va_up a 17 c13_a17) 16 c13_a16) w (va_up fv 15 c13_fv15) (va_up fp 15 c13_fp15)) H) (hD : va_D A (CW cs ad fa fq rv v (va_up (va_up a 17 c13_a17) 16 c13_a16) w (va_up fv 15 c13_fv15) (va_up fp 15 c13_fp15))) (hS : va_S A s.heap H locs) (ls : Array Slot) (hl : lv_has ls 3 [(0, .ref (ad 0)), (1, .int p1), (2, .int x2)]), W p l e (headSpec (Cond.code yX11_isSpared cX11_isSpared 3 (some .boolean) :: gw) ({ frames := 4, cells := 0, slots := 0, locals := 103 })).room s m ([.ref (ad 0), .int p1] : List Value).toArray below meth c H locs 0 0 (MQ below (va_Qi (fun (r : Int32) (z : (Nat → Int32) × (Nat → Int32) × (Nat → Int32) × (Nat → Int32)) => (0 ≤ r.toInt) ∧ (r.toInt ≤ 1)) (XPo D (fun (z : (Nat → Int32) × (Nat → Int32) × (Nat → Int32) × (Nat → Int32)) => CW cs ad fa fq rv v (va_up (va_up a 17 z.1) 16 z.2.1) w (va_up fv 15 z.2.2.1) (va_up fp 15 z.2.2.2)) A) A) ([.ref (ad 0), .int p1] : List Value).toArray s 0 0 A) (F0 m 13 ls [])) := by
    intro nk
    induction nk with
    | zero => exact (fun x2 c13_a17 c13_a16 c13_fv15 c13_fp15 H locs i2 jfv15_0 hmu hP hD hS ls hl => absurd hmu (Nat.not_lt_zero _))
    | succ nk ih =>
      intro x2 c13_a17 c13_a16 c13_fv15 c13_fp15 H locs i2 jfv15_0 hmu hP hD hS ls hl
      refine lv_iload_n hx hb dX11_isSpared_13 rfl (lv_at hl 2 rfl) ?_
      refine lv_aload_n hx hb dX11_isSpared_14 rfl (lv_at hl 0 rfl) ?_
      refine gf_main_today hx hb hg hown hK hP rfl (hg _ q2_128) dX11_isSpared_15 ?_
      refine gf_today_size hx hb hg hown hK hP (x := (v 6)) rfl (hg _ q1_208) dX11_isSpared_18 ?_
      refine lv_icmp_ge (tgt := 59) hx hb dX11_isSpared_21 (by decide) (fun c_1 => ?_) (fun c_1 => ?_)
      ·
        have kc_1 : (v 6).toInt ≤ x2.toInt := i_le c_1
        refine lv_iconst (v := 1) hx hb dX11_isSpared_59 (by decide) ?_
        have q0_1 : (1 : Int32).toInt = 1 := rfl
        exact W.zret (v := 1) hx hb hr rfl (fun tt ht hW => ⟨⟨1, ⟨c13_a17, c13_a16, c13_fv15, c13_fp15⟩, rfl, ⟨(by first | rfl | omega | trivial | assumption | (dsimp only; first | omega | assumption)), (by first | rfl | omega | trivial | assumption | (dsimp only; first | omega | assumption))⟩, by rw [ht]; exact hP, hD⟩, hS.F ht⟩) hS.2.2 dX11_isSpared_60
      ·
        have kc_1 : x2.toInt < (v 6).toInt := i_nle c_1
        refine lv_aload_n hx hb dX11_isSpared_24 rfl (lv_at hl 0 rfl) ?_
        refine gf_main_thought hx hb hg hown hK hP rfl (hg _ q2_126) dX11_isSpared_25 ?_
        refine lv_aload_n hx hb dX11_isSpared_28 rfl (lv_at hl 0 rfl) ?_
        refine gf_main_today hx hb hg hown hK hP rfl (hg _ q2_128) dX11_isSpared_29 ?_
        refine lv_iload_n hx hb dX11_isSpared_32 rfl (lv_at hl 2 rfl) ?_
        refine cV_ro (As := [.int x2]) (rest := [.ref (fa 15)]) ⟨hx, hb, hml, hown, hg⟩ (k_X2_who l D cs A ad fa fq rv v (va_up (va_up a 17 c13_a17) 16 c13_a16) w (va_up fv 15 c13_fv15) (va_up fp 15 c13_fp15)  x2 (show 0 ≤ x2.toInt by first | omega | decide) (show x2.toInt < (v 6).toInt by first | omega | decide) (show 0 ≤ (v 1).toInt by first | omega | decide) (show (v 1).toInt ≤ 8 by first | omega | decide) (show 0 ≤ (v 6).toInt by first | omega | decide) (show (v 6).toInt ≤ 24 by first | omega | decide) iv6_2) ca_X2_who q3_168 ⟨rfl, rfl⟩ ⟨Nat.le_of_ble_eq_true rfl, Nat.le_of_ble_eq_true rfl⟩ (rc_today hK hP) hK hP hD hS hZ rfl hl.1 rfl (Nat.le_of_ble_eq_true rfl) ⟨Nat.zero_le _, Nat.zero_le _⟩ dX11_isSpared_33 (fun r_2 wr_2 => ?_)
        obtain ⟨wr_2_0, wr_2_1⟩ : (0 ≤ r_2.toInt) ∧ (r_2.toInt < (v 1).toInt) := wr_2
        refine lv_aload_n hx hb dX11_isSpared_36 rfl (lv_at hl 0 rfl) ?_
        refine gf_main_today hx hb hg hown hK hP rfl (hg _ q2_128) dX11_isSpared_37 ?_
        refine lv_iload_n hx hb dX11_isSpared_40 rfl (lv_at hl 2 rfl) ?_
        refine cV_ro (As := [.int x2]) (rest := [.int r_2, .ref (fa 15)]) ⟨hx, hb, hml, hown, hg⟩ (k_X2_isLie l D cs A ad fa fq rv v (va_up (va_up a 17 c13_a17) 16 c13_a16) w (va_up fv 15 c13_fv15) (va_up fp 15 c13_fp15)  x2 (show 0 ≤ x2.toInt by first | omega | decide) (show x2.toInt < (v 6).toInt by first | omega | decide) (show 0 ≤ (v 1).toInt by first | omega | decide) (show (v 1).toInt ≤ 8 by first | omega | decide) (show 0 ≤ (v 6).toInt by first | omega | decide) (show (v 6).toInt ≤ 24 by first | omega | decide) iv6_2) ca_X2_isLie q3_172 ⟨rfl, rfl⟩ ⟨Nat.le_of_ble_eq_true rfl, Nat.le_of_ble_eq_true rfl⟩ (rc_today hK hP) hK hP hD hS hZ rfl hl.1 rfl (Nat.le_of_ble_eq_true rfl) ⟨Nat.zero_le _, Nat.zero_le _⟩ dX11_isSpared_41 (fun r_3 wr_3 => ?_)
        obtain ⟨wr_3_0, wr_3_1⟩ : (0 ≤ r_3.toInt) ∧ (r_3.toInt ≤ 1) := wr_3
        refine cV_i (As := [.int r_2, .int r_3]) (rest := []) ⟨hx, hb, hml, hown, hg⟩ (k_X3_utter l D cs A ad fa fq rv v (va_up (va_up a 17 c13_a17) 16 c13_a16) w (va_up fv 15 c13_fv15) (va_up fp 15 c13_fp15) 15 r_2 r_3 (by omega) (show 0 ≤ r_2.toInt by first | omega | decide) (show r_2.toInt < (v 1).toInt by first | omega | decide) (show 0 ≤ (v 1).toInt by first | omega | decide) (show (v 1).toInt ≤ 8 by first | omega | decide) (show (c13_fv15 2).toInt = -2 ∨ (0 ≤ (c13_fv15 2).toInt ∧ (c13_fv15 2).toInt < (v 1).toInt) by first | omega | decide) (show 0 ≤ (v 5).toInt by first | omega | decide) (show (v 5).toInt ≤ 256 by first | omega | decide) ia18_0) ca_X3_utter q3_176 ⟨rfl, rfl⟩ ⟨Nat.le_of_ble_eq_true rfl, Nat.le_of_ble_eq_true rfl⟩ (rc_fl (f := 15) (by decide) hK hP) hK hP hD hS hZ rfl hl.1 rfl (Nat.le_of_ble_eq_true rfl) ⟨Nat.zero_le _, Nat.zero_le _⟩ dX11_isSpared_44 (fun r_4 z_9 H locs wr_4 hP hD hS => ?_)
        obtain ⟨o_fvf_5, o_fpf_6, o_a17_7, o_a16_8⟩ := z_9
        have hP : va_P D vwCl (CW cs ad fa fq rv v (va_up (va_up a 17 o_a17_7) 16 o_a16_8) w (va_up fv 15 o_fvf_5) (va_up fp 15 o_fpf_6)) H := hP
        have hD : va_D A (CW cs ad fa fq rv v (va_up (va_up a 17 o_a17_7) 16 o_a16_8) w (va_up fv 15 o_fvf_5) (va_up fp 15 o_fpf_6)) := hD
        obtain ⟨wr_4_0, wr_4_1, wr_4_2⟩ : (r_4.toInt = -2 ∨ (0 ≤ r_4.toInt ∧ r_4.toInt < (v 1).toInt)) ∧ (o_fvf_5 3 = (c13_fv15 3) + 1) ∧ ((o_fvf_5 2).toInt = -2 ∨ (0 ≤ (o_fvf_5 2).toInt ∧ (o_fvf_5 2).toInt < (v 1).toInt)) := wr_4
        refine lv_iload_n hx hb dX11_isSpared_47 rfl (lv_at hl 1 rfl) ?_
        refine lv_icmp_ne (tgt := 53) hx hb dX11_isSpared_48 (by decide) (fun c_10 => ?_) (fun c_10 => ?_)
        ·
          have kc_10 : r_4.toInt ≠ p1.toInt := i_ne c_10
          obtain ⟨x_11, ex_11⟩ : ∃ y : Int32, y = x2 + 1 := ⟨_, rfl⟩
          have fx_11 : x_11.toInt = x2.toInt + 1 := by rw [ex_11]; exact i_add (by first | omega | (show (_ : Int) ≤ x2.toInt + 1; omega)) (by first | omega | (show x2.toInt + 1 ≤ (_ : Int); omega))
          refine lv_iinc (v := x_11) (lv' := [(2, .int x_11), (0, .ref (ad 0)), (1, .int p1)]) hx hb dX11_isSpared_53 hl (k := 2) rfl (by rw [ex_11]; rfl) (by decide) rfl (fun ls hl => ?_)
          refine lv_goto (tgt := 13) hx hb dX11_isSpared_56 (by decide) ?_
          exact ih x_11 o_a17_7 o_a16_8 o_fvf_5 o_fpf_6 _ _ (by omega) (show (o_fvf_5 2).toInt = -2 ∨ (0 ≤ (o_fvf_5 2).toInt ∧ (o_fvf_5 2).toInt < (v 1).toInt) by first | omega | assumption) (by omega) hP hD hS ls (lv_sub hl [1, 2, 0] rfl)
        ·
          have kc_10 : r_4.toInt = p1.toInt := i_eq c_10
          refine lv_iconst (v := 0) hx hb dX11_isSpared_51 (by decide) ?_
          have q0_0 : (0 : Int32).toInt = 0 := rfl
          exact W.zret (v := 0) hx hb hr rfl (fun tt ht hW => ⟨⟨0, ⟨o_a17_7, o_a16_8, o_fvf_5, o_fpf_6⟩, rfl, ⟨(by first | rfl | omega | trivial | assumption | (dsimp only; first | omega | assumption)), (by first | rfl | omega | trivial | assumption | (dsimp only; first | omega | assumption))⟩, by rw [ht]; exact hP, hD⟩, hS.F ht⟩) hS.2.2 dX11_isSpared_52
  refine lv_aload_n hx hb dX11_isSpared_0 rfl (lv_at hl 0 rfl) ?_
  refine gf_main_thought hx hb hg hown hK hP rfl (hg _ q2_126) dX11_isSpared_1 ?_
  refine lv_aload_n hx hb dX11_isSpared_4 rfl (lv_at hl 0 rfl) ?_
  refine gf_main_deed hx hb hg hown hK hP rfl (hg _ q2_125) dX11_isSpared_5 ?_
  refine cV_v (As := [.ref (fa 14)]) (rest := []) ⟨hx, hb, hml, hown, hg⟩ (k_X3_begin l D cs A ad fa fq rv v a w fv fp 15 14  (by omega) (by omega) (by omega) (show 0 ≤ (v 1).toInt by first | omega | decide) (show (v 1).toInt ≤ 8 by first | omega | decide) (show (fv 14 2).toInt = -2 ∨ (0 ≤ (fv 14 2).toInt ∧ (fv 14 2).toInt < (v 1).toInt) by first | omega | decide)) ca_X3_begin q3_117 ⟨rfl, rfl⟩ ⟨Nat.le_of_ble_eq_true rfl, Nat.le_of_ble_eq_true rfl⟩ (rc_fl (f := 15) (by decide) hK hP) hK hP hD hS hZ rfl hl.1 rfl (Nat.le_of_ble_eq_true rfl) ⟨Nat.zero_le _, Nat.zero_le _⟩ dX11_isSpared_8 (fun z_15 H locs wr_12 hP hD hS => ?_)
  obtain ⟨o_fvf_13, o_fpf_14⟩ := z_15
  have hP : va_P D vwCl (CW cs ad fa fq rv v a w (va_up fv 15 o_fvf_13) (va_up fp 15 o_fpf_14)) H := hP
  have hD : va_D A (CW cs ad fa fq rv v a w (va_up fv 15 o_fvf_13) (va_up fp 15 o_fpf_14)) := hD
  obtain ⟨wr_12_0, wr_12_1, wr_12_2, wr_12_3, wr_12_4, wr_12_5, wr_12_6, wr_12_7, wr_12_8⟩ : (o_fvf_13 0 = (fv 14 0)) ∧ (o_fvf_13 1 = (fv 14 1)) ∧ (o_fvf_13 2 = (fv 14 2)) ∧ (o_fvf_13 3 = 0) ∧ (o_fvf_13 4 = 0) ∧ (o_fvf_13 5 = 0) ∧ (o_fvf_13 6 = 0) ∧ (o_fvf_13 7 = 0) ∧ ((o_fvf_13 2).toInt = -2 ∨ (0 ≤ (o_fvf_13 2).toInt ∧ (o_fvf_13 2).toInt < (v 1).toInt)) := wr_12
  refine lv_iconst (v := 0) hx hb dX11_isSpared_11 (by decide) ?_
  refine lv_istore_n (lv' := [(2, .int 0), (0, .ref (ad 0)), (1, .int p1)]) hx hb dX11_isSpared_12 rfl hl (by decide) rfl (fun ls hl => ?_)
  have q0_0 : (0 : Int32).toInt = 0 := rfl
  exact (hcut ((((v 6).toInt - (0 : Int32).toInt).toNat) + 1)) 0 (a 17) (a 16) o_fvf_13 o_fpf_14 _ _ (by omega) (show (o_fvf_13 2).toInt = -2 ∨ (0 ≤ (o_fvf_13 2).toInt ∧ (o_fvf_13 2).toInt < (v 1).toInt) by first | omega | assumption) (Nat.lt_succ_self _) hP hD hS ls (lv_sub hl [1, 2, 0] rfl)
set_option maxHeartbeats 4000000 in
set_option maxRecDepth 100000 in
theorem k_X11_stungBehind (l : Launch) (D : va_G) (cs : Nat → ClassId) (A : Nat → Prop) (ad fa fq rv : Nat → Nat) (v : Nat → Int32) (a : Nat → Nat → Int32) (w : Nat → Nat → Int64) (fv fp : Nat → Nat → Int32) (f : Nat) (p2 : Int32) (hf : f < 18) (h1 : 0 ≤ p2.toInt) (h2 : p2.toInt < (v 1).toInt) (iv1_0 : 0 ≤ (v 1).toInt) (iv1_1 : (v 1).toInt ≤ 8) (ifvf_0 : (fv f 2).toInt = -2 ∨ (0 ≤ (fv f 2).toInt ∧ (fv f 2).toInt < (v 1).toInt)) (iv5_0 : 0 ≤ (v 5).toInt) (iv5_1 : (v 5).toInt ≤ 256) (ia18_0 : AB (-1000) 20000 (a 18)) : Met l yX11_stungBehind (Cond.code yX11_stungBehind cX11_stungBehind 3 (some .int) :: gw) ({ frames := 4, cells := 0, slots := 0, locals := 92 }) (va_Pc [.ref (fa f), .int p2] (XPre D (TY cs) (CW cs ad fa fq rv v a w fv fp) A)) (va_Qi (fun (r : Int32) (z : (Nat → Int32) × (Nat → Int32) × (Nat → Int32) × (Nat → Int32)) => (-2 ≤ r.toInt) ∧ (r.toInt ≤ 24) ∧ ((z.1 2).toInt = -2 ∨ (0 ≤ (z.1 2).toInt ∧ (z.1 2).toInt < (v 1).toInt))) (XPo D (fun (z : (Nat → Int32) × (Nat → Int32) × (Nat → Int32) × (Nat → Int32)) => CW cs ad fa fq rv v (va_up (va_up a 17 z.2.2.1) 16 z.2.2.2) w (va_up fv f z.1) (va_up fp f z.2.1)) A) A) 0 0 A := by
  refine Met.ofW (cc := cX11_stungBehind) (maxL := 3) (ret := (some .int)) (by decide) rfl ?_
  intro p e s m args below meth c s₁ B hml hv
  obtain ⟨rfl, hP, hK, hD, hZ⟩ := hv
  have hx := B.exec
  have hb := B.bytes
  have hr := B.returns
  have hts := atoms_spec (ws := (Cond.code yX11_stungBehind cX11_stungBehind 3 (some .int) :: gw)) B.pre
  have hg : ∀ w ∈ gw, w.before ([.ref (fa f), .int p2] : List Value).toArray s = true := fun w h => hts w (List.mem_cons_of_mem _ h)
  have hown : s.vm.findClass RX11 = some m.cls := findClass_of_methodNamed B.named
  have hlocks := B.notSynchronized
  have hS : va_S A s.heap s.heap [] := va_S.rf
  have hP : va_P D vwCl (CW cs ad fa fq rv v a w fv fp) s.heap := hP
  have hl := lv_entry ([.ref (fa f), .int p2]) (n := 3) (Nat.le_of_ble_eq_true rfl)
  rw [lg_entry_eq]
  generalize (lg_sl ([.ref (fa f), .int p2]) ++ List.replicate (3 - (lg_sl ([.ref (fa f), .int p2])).length) Slot.unset).toArray = ls at hl ⊢
  have hl : lv_has ls 3 [(0, .ref (fa f)), (1, .int p2)] := hl
  have hcut : ∀ nk : Nat, (∀ (x2 : Int32) (c14_fvf : Nat → Int32) (c14_fpf : Nat → Int32) (c14_a17 : Nat → Int32) (c14_a16 : Nat → Int32) (H : Heap) (locs : List Loc) (i2 : 1 ≤ x2.toInt) (i2b : x2.toInt ≤ 25) (jfvf_0 : (c14_fvf 2).toInt = -2 ∨ (0 ≤ (c14_fvf 2).toInt ∧ (c14_fvf 2).toInt < (v 1).toInt)) (hmu : (25 - x2.toInt).toNat < nk) (hP : va_P D vwCl (CW cs ad fa fq rv v (va_up (va_up a 17 c14_a17) 16 c14_a16) w (va_up fv f c14_fvf) (va_up fp f c14_fpf)) H) (hD : va_D A (CW cs ad fa fq rv v (va_up (va_up a 17 c14_a17) 16 c14_a16) w (va_up fv f c14_fvf) (va_up fp f c14_fpf))) (hS : va_S A s.heap H locs) (ls : Array Slot) (hl : lv_has ls 3 [(0, .ref (fa f)), (1, .int p2), (2, .int x2)]), W p l e (headSpec (Cond.code yX11_stungBehind cX11_stungBehind 3 (some .int) :: gw) ({ frames := 4, cells := 0, slots := 0, locals := 92 })).room s m ([.ref (fa f), .int p2] : List Value).toArray below meth c H locs 0 0 (MQ below (va_Qi (fun (r : Int32) (z : (Nat → Int32) × (Nat → Int32) × (Nat → Int32) × (Nat → Int32)) => (-2 ≤ r.toInt) ∧ (r.toInt ≤ 24) ∧ ((z.1 2).toInt = -2 ∨ (0 ≤ (z.1 2).toInt ∧ (z.1 2).toInt < (v 1).toInt))) (XPo D (fun (z : (Nat → Int32) × (Nat → Int32) × (Nat → Int32) × (Nat → Int32)) => CW cs ad fa fq rv v (va_up (va_up a 17 z.2.2.1) 16 z.2.2.2) w (va_up fv f z.1) (va_up fp f z.2.1)) A) A) ([.ref (fa f), .int p2] : List Value).toArray s 0 0 A) (F0 m 14 ls [])) := by
    intro nk
    induction nk with
    | zero => exact (fun x2 c14_fvf c14_fpf c14_a17 c14_a16 H locs i2 i2b jfvf_0 hmu hP hD hS ls hl => absurd hmu (Nat.not_lt_zero _))
    | succ nk ih =>
      intro x2 c14_fvf c14_fpf c14_a17 c14_a16 H locs i2 i2b jfvf_0 hmu hP hD hS ls hl
      refine lv_iload_n hx hb dX11_stungBehind_14 rfl (lv_at hl 2 rfl) ?_
      refine lv_bipush (v := 24) hx hb dX11_stungBehind_15 (by decide) ?_
      refine lv_icmp_gt (tgt := 36) hx hb dX11_stungBehind_17 (by decide) (fun c_1 => ?_) (fun c_1 => ?_)
      ·
        have kc_1 : (24 : Int) < x2.toInt := i_lt c_1
        refine lv_bipush (v := (-2)) hx hb dX11_stungBehind_36 (by decide) ?_
        have q0_m2 : ((-2) : Int32).toInt = (-2) := rfl
        exact W.iret (v := (-2)) hx hb hr (fun tt ht hW => ⟨⟨(-2), ⟨c14_fvf, c14_fpf, c14_a17, c14_a16⟩, rfl, ⟨(by first | rfl | omega | trivial | assumption | (dsimp only; first | omega | assumption)), (by first | rfl | omega | trivial | assumption | (dsimp only; first | omega | assumption)), (show (c14_fvf 2).toInt = -2 ∨ (0 ≤ (c14_fvf 2).toInt ∧ (c14_fvf 2).toInt < (v 1).toInt) by first | omega | assumption)⟩, by rw [ht]; exact hP, hD⟩, hS.F ht⟩) hS.2.2 dX11_stungBehind_38
      ·
        have kc_1 : x2.toInt ≤ (24 : Int) := i_nlt c_1
        refine lv_aload_n hx hb dX11_stungBehind_20 rfl (lv_at hl 0 rfl) ?_
        refine cV_i (As := []) (rest := []) ⟨hx, hb, hml, hown, hg⟩ (k_X3_passHour l D cs A ad fa fq rv v (va_up (va_up a 17 c14_a17) 16 c14_a16) w (va_up fv f c14_fvf) (va_up fp f c14_fpf) f  (by omega) (show 0 ≤ (v 1).toInt by first | omega | decide) (show (v 1).toInt ≤ 8 by first | omega | decide) (by (have hq : (c14_fvf 2).toInt = -2 ∨ (0 ≤ (c14_fvf 2).toInt ∧ (c14_fvf 2).toInt < (v 1).toInt) := (by first | omega | decide)); first | exact hq | (simp only [va_up_self]; exact hq))) ca_X3_passHour q3_208 ⟨rfl, rfl⟩ ⟨Nat.le_of_ble_eq_true rfl, Nat.le_of_ble_eq_true rfl⟩ (rc_fl (f := f) hf hK hP) hK hP hD hS hZ rfl hl.1 rfl (Nat.le_of_ble_eq_true rfl) ⟨Nat.zero_le _, Nat.zero_le _⟩ dX11_stungBehind_21 (fun r_2 z_5 H locs wr_2 hP hD hS => ?_)
        obtain ⟨o_fvf_3, o_fpf_4⟩ := z_5
        simp only [bx_uu] at hP hD
        have hP : va_P D vwCl (CW cs ad fa fq rv v (va_up (va_up a 17 c14_a17) 16 c14_a16) w (va_up fv f o_fvf_3) (va_up fp f o_fpf_4)) H := hP
        have hD : va_D A (CW cs ad fa fq rv v (va_up (va_up a 17 c14_a17) 16 c14_a16) w (va_up fv f o_fvf_3) (va_up fp f o_fpf_4)) := hD
        simp only [va_up_self] at wr_2
        obtain ⟨wr_2_0, wr_2_1, wr_2_2⟩ : (r_2.toInt = -2 ∨ (0 ≤ r_2.toInt ∧ r_2.toInt < (v 1).toInt)) ∧ (o_fvf_3 3 = (c14_fvf 3)) ∧ ((o_fvf_3 2).toInt = -2 ∨ (0 ≤ (o_fvf_3 2).toInt ∧ (o_fvf_3 2).toInt < (v 1).toInt)) := wr_2
        refine lv_iload_n hx hb dX11_stungBehind_24 rfl (lv_at hl 1 rfl) ?_
        refine lv_icmp_ne (tgt := 30) hx hb dX11_stungBehind_25 (by decide) (fun c_6 => ?_) (fun c_6 => ?_)
        ·
          have kc_6 : r_2.toInt ≠ p2.toInt := i_ne c_6
          obtain ⟨x_7, ex_7⟩ : ∃ y : Int32, y = x2 + 1 := ⟨_, rfl⟩
          have fx_7 : x_7.toInt = x2.toInt + 1 := by rw [ex_7]; exact i_add (by first | omega | (show (_ : Int) ≤ x2.toInt + 1; omega)) (by first | omega | (show x2.toInt + 1 ≤ (_ : Int); omega))
          refine lv_iinc (v := x_7) (lv' := [(2, .int x_7), (0, .ref (fa f)), (1, .int p2)]) hx hb dX11_stungBehind_30 hl (k := 2) rfl (by rw [ex_7]; rfl) (by decide) rfl (fun ls hl => ?_)
          refine lv_goto (tgt := 14) hx hb dX11_stungBehind_33 (by decide) ?_
          exact ih x_7 o_fvf_3 o_fpf_4 c14_a17 c14_a16 _ _ (by omega) (by omega) (show (o_fvf_3 2).toInt = -2 ∨ (0 ≤ (o_fvf_3 2).toInt ∧ (o_fvf_3 2).toInt < (v 1).toInt) by first | omega | assumption) (by omega) hP hD hS ls (lv_sub hl [1, 2, 0] rfl)
        ·
          have kc_6 : r_2.toInt = p2.toInt := i_eq c_6
          refine lv_iload_n hx hb dX11_stungBehind_28 rfl (lv_at hl 2 rfl) ?_
          exact W.iret (v := x2) hx hb hr (fun tt ht hW => ⟨⟨x2, ⟨o_fvf_3, o_fpf_4, c14_a17, c14_a16⟩, rfl, ⟨(by first | rfl | omega | trivial | assumption | (dsimp only; first | omega | assumption)), (by first | rfl | omega | trivial | assumption | (dsimp only; first | omega | assumption)), (show (o_fvf_3 2).toInt = -2 ∨ (0 ≤ (o_fvf_3 2).toInt ∧ (o_fvf_3 2).toInt < (v 1).toInt) by first | omega | assumption)⟩, by rw [ht]; exact hP, hD⟩, hS.F ht⟩) hS.2.2 dX11_stungBehind_29
  refine lv_aload_n hx hb dX11_stungBehind_0 rfl (lv_at hl 0 rfl) ?_
  refine lv_iload_n hx hb dX11_stungBehind_1 rfl (lv_at hl 1 rfl) ?_
  refine lv_iconst (v := 1) hx hb dX11_stungBehind_2 (by decide) ?_
  refine cV_i (As := [.int p2, .int 1]) (rest := []) ⟨hx, hb, hml, hown, hg⟩ (k_X3_utter l D cs A ad fa fq rv v a w fv fp f p2 1 (by omega) (show 0 ≤ p2.toInt by first | omega | decide) (show p2.toInt < (v 1).toInt by first | omega | decide) (show 0 ≤ (v 1).toInt by first | omega | decide) (show (v 1).toInt ≤ 8 by first | omega | decide) (show (fv f 2).toInt = -2 ∨ (0 ≤ (fv f 2).toInt ∧ (fv f 2).toInt < (v 1).toInt) by first | omega | decide) (show 0 ≤ (v 5).toInt by first | omega | decide) (show (v 5).toInt ≤ 256 by first | omega | decide) ia18_0) ca_X3_utter q3_176 ⟨rfl, rfl⟩ ⟨Nat.le_of_ble_eq_true rfl, Nat.le_of_ble_eq_true rfl⟩ (rc_fl (f := f) hf hK hP) hK hP hD hS hZ rfl hl.1 rfl (Nat.le_of_ble_eq_true rfl) ⟨Nat.zero_le _, Nat.zero_le _⟩ dX11_stungBehind_3 (fun r_8 z_13 H locs wr_8 hP hD hS => ?_)
  obtain ⟨o_fvf_9, o_fpf_10, o_a17_11, o_a16_12⟩ := z_13
  have hP : va_P D vwCl (CW cs ad fa fq rv v (va_up (va_up a 17 o_a17_11) 16 o_a16_12) w (va_up fv f o_fvf_9) (va_up fp f o_fpf_10)) H := hP
  have hD : va_D A (CW cs ad fa fq rv v (va_up (va_up a 17 o_a17_11) 16 o_a16_12) w (va_up fv f o_fvf_9) (va_up fp f o_fpf_10)) := hD
  obtain ⟨wr_8_0, wr_8_1, wr_8_2⟩ : (r_8.toInt = -2 ∨ (0 ≤ r_8.toInt ∧ r_8.toInt < (v 1).toInt)) ∧ (o_fvf_9 3 = (fv f 3) + 1) ∧ ((o_fvf_9 2).toInt = -2 ∨ (0 ≤ (o_fvf_9 2).toInt ∧ (o_fvf_9 2).toInt < (v 1).toInt)) := wr_8
  refine lv_iload_n hx hb dX11_stungBehind_6 rfl (lv_at hl 1 rfl) ?_
  refine lv_icmp_ne (tgt := 12) hx hb dX11_stungBehind_7 (by decide) (fun c_14 => ?_) (fun c_14 => ?_)
  ·
    have kc_14 : r_8.toInt ≠ p2.toInt := i_ne c_14
    refine lv_iconst (v := 1) hx hb dX11_stungBehind_12 (by decide) ?_
    refine lv_istore_n (lv' := [(2, .int 1), (0, .ref (fa f)), (1, .int p2)]) hx hb dX11_stungBehind_13 rfl hl (by decide) rfl (fun ls hl => ?_)
    have q0_1 : (1 : Int32).toInt = 1 := rfl
    exact (hcut (((25 - (1 : Int32).toInt).toNat) + 1)) 1 o_fvf_9 o_fpf_10 o_a17_11 o_a16_12 _ _ (by omega) (by omega) (show (o_fvf_9 2).toInt = -2 ∨ (0 ≤ (o_fvf_9 2).toInt ∧ (o_fvf_9 2).toInt < (v 1).toInt) by first | omega | assumption) (Nat.lt_succ_self _) hP hD hS ls (lv_sub hl [1, 2, 0] rfl)
  ·
    have kc_14 : r_8.toInt = p2.toInt := i_eq c_14
    refine lv_iconst (v := 0) hx hb dX11_stungBehind_10 (by decide) ?_
    have q0_0 : (0 : Int32).toInt = 0 := rfl
    exact W.iret (v := 0) hx hb hr (fun tt ht hW => ⟨⟨0, ⟨o_fvf_9, o_fpf_10, o_a17_11, o_a16_12⟩, rfl, ⟨(by first | rfl | omega | trivial | assumption | (dsimp only; first | omega | assumption)), (by first | rfl | omega | trivial | assumption | (dsimp only; first | omega | assumption)), (show (o_fvf_9 2).toInt = -2 ∨ (0 ≤ (o_fvf_9 2).toInt ∧ (o_fvf_9 2).toInt < (v 1).toInt) by first | omega | assumption)⟩, by rw [ht]; exact hP, hD⟩, hS.F ht⟩) hS.2.2 dX11_stungBehind_11
set_option maxHeartbeats 4000000 in
set_option maxRecDepth 100000 in
theorem k_X11_day (l : Launch) (D : va_G) (cs : Nat → ClassId) (A : Nat → Prop) (ad fa fq rv : Nat → Nat) (v : Nat → Int32) (a : Nat → Nat → Int32) (w : Nat → Nat → Int64) (fv fp : Nat → Nat → Int32)  (p1 : Int32) (p2 : Int32) (p3 : Int32) (ia28_0 : AB (-1) 5 (a 28)) (iv1_0 : 0 ≤ (v 1).toInt) (iv1_1 : (v 1).toInt ≤ 8) (iv6_0 : 0 ≤ (v 6).toInt) (iv6_1 : (v 6).toInt ≤ 24) (iv6_2 : DOK (v 6) (a 20) (v 1)) (ia29_0 : AB (-1) 60 (a 29)) (iv5_0 : 0 ≤ (v 5).toInt) (iv5_1 : (v 5).toInt ≤ 256) (ia18_0 : AB (-1000) 20000 (a 18)) (ifv14_0 : (fv 14 2).toInt = -2 ∨ (0 ≤ (fv 14 2).toInt ∧ (fv 14 2).toInt < (v 1).toInt)) : Met l yX11_day (Cond.code yX11_day cX11_day 6 (some .int) :: gw) ({ frames := 5, cells := 0, slots := 0, locals := 127 }) (va_Pc [.ref (ad 0), .int p1, .int p2, .int p3] (XPre D (TY cs) (CW cs ad fa fq rv v a w fv fp) A)) (va_Qi (fun (r : Int32) (z : Int32 × (Nat → Int32) × (Nat → Int32) × (Nat → Int32) × (Nat → Int32) × (Nat → Int32)) => (0 ≤ z.1.toInt) ∧ (z.1.toInt ≤ 24) ∧ (DOK z.1 z.2.1 (v 1))) (XPo D (fun (z : Int32 × (Nat → Int32) × (Nat → Int32) × (Nat → Int32) × (Nat → Int32) × (Nat → Int32)) => CW cs ad fa fq rv (va_up v 6 z.1) (va_up (va_up (va_up a 20 z.2.1) 17 z.2.2.1) 16 z.2.2.2.1) w (va_up fv 15 z.2.2.2.2.1) (va_up fp 15 z.2.2.2.2.2)) A) A) 0 0 A := by
  refine Met.ofW (cc := cX11_day) (maxL := 6) (ret := (some .int)) (by decide) rfl ?_
  intro p e s m args below meth c s₁ B hml hv
  obtain ⟨rfl, hP, hK, hD, hZ⟩ := hv
  have hx := B.exec
  have hb := B.bytes
  have hr := B.returns
  have hts := atoms_spec (ws := (Cond.code yX11_day cX11_day 6 (some .int) :: gw)) B.pre
  have hg : ∀ w ∈ gw, w.before ([.ref (ad 0), .int p1, .int p2, .int p3] : List Value).toArray s = true := fun w h => hts w (List.mem_cons_of_mem _ h)
  have hown : s.vm.findClass RX11 = some m.cls := findClass_of_methodNamed B.named
  have hlocks := B.notSynchronized
  have hS : va_S A s.heap s.heap [] := va_S.rf
  have hP : va_P D vwCl (CW cs ad fa fq rv v a w fv fp) s.heap := hP
  have hl := lv_entry ([.ref (ad 0), .int p1, .int p2, .int p3]) (n := 6) (Nat.le_of_ble_eq_true rfl)
  rw [lg_entry_eq]
  generalize (lg_sl ([.ref (ad 0), .int p1, .int p2, .int p3]) ++ List.replicate (6 - (lg_sl ([.ref (ad 0), .int p1, .int p2, .int p3])).length) Slot.unset).toArray = ls at hl ⊢
  have hl : lv_has ls 6 [(0, .ref (ad 0)), (1, .int p1), (2, .int p2), (3, .int p3)] := hl
  refine lv_iload_n hx hb dX11_day_0 rfl (lv_at hl 1 rfl) ?_
  refine cS_p (As := [.int p1]) (rest := []) ⟨hx, hb, hml, hown, hg⟩ (k_X10_isShelf l   p1 ) ca_X10_isShelf q2_205 ⟨rfl, rfl⟩ ⟨Nat.le_of_ble_eq_true rfl, Nat.le_of_ble_eq_true rfl⟩ rfl hl.1 rfl (Nat.le_of_ble_eq_true rfl) ⟨Nat.zero_le _, Nat.zero_le _⟩ dX11_day_1 (fun r_1 wr_1 => ?_)
  have wr_1 : (r_1.toInt = 1 ∧ 0 ≤ p1.toInt ∧ p1.toInt < 6) ∨ (r_1.toInt = 0 ∧ ¬ (0 ≤ p1.toInt ∧ p1.toInt < 6)) := wr_1
  refine lv_if_eq (tgt := 26) hx hb dX11_day_4 (by decide) (fun c_2 => ?_) (fun c_2 => ?_)
  ·
    have kc_2 : r_1.toInt = (0 : Int) := i_eq c_2
    refine lv_iconst (v := (-1)) hx hb dX11_day_26 (by decide) ?_
    have q0_m1 : ((-1) : Int32).toInt = (-1) := rfl
    have hP : va_P D vwCl (CW cs ad fa fq rv (va_up v 6 (v 6)) (va_up (va_up (va_up a 20 (a 20)) 17 (a 17)) 16 (a 16)) w (va_up fv 15 (fv 15)) (va_up fp 15 (fp 15))) _ := hP
    have hD : va_D A (CW cs ad fa fq rv (va_up v 6 (v 6)) (va_up (va_up (va_up a 20 (a 20)) 17 (a 17)) 16 (a 16)) w (va_up fv 15 (fv 15)) (va_up fp 15 (fp 15))) := hD
    exact W.iret (v := (-1)) hx hb hr (fun tt ht hW => ⟨⟨(-1), ⟨(v 6), (a 20), (a 17), (a 16), (fv 15), (fp 15)⟩, rfl, ⟨(show 0 ≤ (v 6).toInt by first | omega | assumption), (show (v 6).toInt ≤ 24 by first | omega | assumption), iv6_2⟩, by rw [ht]; exact hP, hD⟩, hS.F ht⟩) hS.2.2 dX11_day_27
  ·
    have kc_2 : r_1.toInt ≠ (0 : Int) := i_ne c_2
    refine lv_iload_n hx hb dX11_day_7 rfl (lv_at hl 2 rfl) ?_
    refine lv_if_lt (tgt := 26) hx hb dX11_day_8 (by decide) (fun c_3 => ?_) (fun c_3 => ?_)
    ·
      have kc_3 : p2.toInt < (0 : Int) := i_lt c_3
      refine lv_iconst (v := (-1)) hx hb dX11_day_26 (by decide) ?_
      have q0_m1 : ((-1) : Int32).toInt = (-1) := rfl
      have hP : va_P D vwCl (CW cs ad fa fq rv (va_up v 6 (v 6)) (va_up (va_up (va_up a 20 (a 20)) 17 (a 17)) 16 (a 16)) w (va_up fv 15 (fv 15)) (va_up fp 15 (fp 15))) _ := hP
      have hD : va_D A (CW cs ad fa fq rv (va_up v 6 (v 6)) (va_up (va_up (va_up a 20 (a 20)) 17 (a 17)) 16 (a 16)) w (va_up fv 15 (fv 15)) (va_up fp 15 (fp 15))) := hD
      exact W.iret (v := (-1)) hx hb hr (fun tt ht hW => ⟨⟨(-1), ⟨(v 6), (a 20), (a 17), (a 16), (fv 15), (fp 15)⟩, rfl, ⟨(show 0 ≤ (v 6).toInt by first | omega | assumption), (show (v 6).toInt ≤ 24 by first | omega | assumption), iv6_2⟩, by rw [ht]; exact hP, hD⟩, hS.F ht⟩) hS.2.2 dX11_day_27
    ·
      have kc_3 : (0 : Int) ≤ p2.toInt := i_nlt c_3
      refine lv_iload_n hx hb dX11_day_11 rfl (lv_at hl 2 rfl) ?_
      refine lv_bipush (v := 24) hx hb dX11_day_12 (by decide) ?_
      refine lv_icmp_gt (tgt := 26) hx hb dX11_day_14 (by decide) (fun c_4 => ?_) (fun c_4 => ?_)
      ·
        have kc_4 : (24 : Int) < p2.toInt := i_lt c_4
        refine lv_iconst (v := (-1)) hx hb dX11_day_26 (by decide) ?_
        have q0_m1 : ((-1) : Int32).toInt = (-1) := rfl
        have hP : va_P D vwCl (CW cs ad fa fq rv (va_up v 6 (v 6)) (va_up (va_up (va_up a 20 (a 20)) 17 (a 17)) 16 (a 16)) w (va_up fv 15 (fv 15)) (va_up fp 15 (fp 15))) _ := hP
        have hD : va_D A (CW cs ad fa fq rv (va_up v 6 (v 6)) (va_up (va_up (va_up a 20 (a 20)) 17 (a 17)) 16 (a 16)) w (va_up fv 15 (fv 15)) (va_up fp 15 (fp 15))) := hD
        exact W.iret (v := (-1)) hx hb hr (fun tt ht hW => ⟨⟨(-1), ⟨(v 6), (a 20), (a 17), (a 16), (fv 15), (fp 15)⟩, rfl, ⟨(show 0 ≤ (v 6).toInt by first | omega | assumption), (show (v 6).toInt ≤ 24 by first | omega | assumption), iv6_2⟩, by rw [ht]; exact hP, hD⟩, hS.F ht⟩) hS.2.2 dX11_day_27
      ·
        have kc_4 : p2.toInt ≤ (24 : Int) := i_nlt c_4
        refine lv_iload_n hx hb dX11_day_17 rfl (lv_at hl 3 rfl) ?_
        refine lv_if_lt (tgt := 26) hx hb dX11_day_18 (by decide) (fun c_5 => ?_) (fun c_5 => ?_)
        ·
          have kc_5 : p3.toInt < (0 : Int) := i_lt c_5
          refine lv_iconst (v := (-1)) hx hb dX11_day_26 (by decide) ?_
          have q0_m1 : ((-1) : Int32).toInt = (-1) := rfl
          have hP : va_P D vwCl (CW cs ad fa fq rv (va_up v 6 (v 6)) (va_up (va_up (va_up a 20 (a 20)) 17 (a 17)) 16 (a 16)) w (va_up fv 15 (fv 15)) (va_up fp 15 (fp 15))) _ := hP
          have hD : va_D A (CW cs ad fa fq rv (va_up v 6 (v 6)) (va_up (va_up (va_up a 20 (a 20)) 17 (a 17)) 16 (a 16)) w (va_up fv 15 (fv 15)) (va_up fp 15 (fp 15))) := hD
          exact W.iret (v := (-1)) hx hb hr (fun tt ht hW => ⟨⟨(-1), ⟨(v 6), (a 20), (a 17), (a 16), (fv 15), (fp 15)⟩, rfl, ⟨(show 0 ≤ (v 6).toInt by first | omega | assumption), (show (v 6).toInt ≤ 24 by first | omega | assumption), iv6_2⟩, by rw [ht]; exact hP, hD⟩, hS.F ht⟩) hS.2.2 dX11_day_27
        ·
          have kc_5 : (0 : Int) ≤ p3.toInt := i_nlt c_5
          refine lv_iload_n hx hb dX11_day_21 rfl (lv_at hl 3 rfl) ?_
          refine lv_iconst (v := 2) hx hb dX11_day_22 (by decide) ?_
          refine lv_icmp_le (tgt := 28) hx hb dX11_day_23 (by decide) (fun c_6 => ?_) (fun c_6 => ?_)
          ·
            have kc_6 : p3.toInt ≤ (2 : Int) := i_le c_6
            refine lv_aload_n hx hb dX11_day_28 rfl (lv_at hl 0 rfl) ?_
            refine lv_iload_n hx hb dX11_day_29 rfl (lv_at hl 1 rfl) ?_
            refine cV_i (As := [.int p1]) (rest := []) ⟨hx, hb, hml, hown, hg⟩ (k_X11_openDay l D cs A ad fa fq rv v a w fv fp  p1 (show 0 ≤ p1.toInt by first | omega | decide) (show p1.toInt < 6 by first | omega | decide) ia28_0 (show 0 ≤ (v 1).toInt by first | omega | decide) (show (v 1).toInt ≤ 8 by first | omega | decide) (show 0 ≤ (v 6).toInt by first | omega | decide) (show (v 6).toInt ≤ 24 by first | omega | decide) iv6_2 ia29_0) ca_X11_openDay q3_147 ⟨rfl, rfl⟩ ⟨Nat.le_of_ble_eq_true rfl, Nat.le_of_ble_eq_true rfl⟩ (rc_main hK hP) hK hP hD hS hZ rfl hl.1 rfl (Nat.le_of_ble_eq_true rfl) ⟨Nat.zero_le _, Nat.zero_le _⟩ dX11_day_30 (fun r_7 z_10 H locs wr_7 hP hD hS => ?_)
            obtain ⟨o_v6_8, o_a20_9⟩ := z_10
            have hP : va_P D vwCl (CW cs ad fa fq rv (va_up v 6 o_v6_8) (va_up a 20 o_a20_9) w fv fp) H := hP
            have hD : va_D A (CW cs ad fa fq rv (va_up v 6 o_v6_8) (va_up a 20 o_a20_9) w fv fp) := hD
            obtain ⟨wr_7_0, wr_7_1, wr_7_2, wr_7_3⟩ : (r_7.toInt = 0 ∨ r_7.toInt = -11 ∨ r_7.toInt = -12) ∧ (0 ≤ o_v6_8.toInt) ∧ (o_v6_8.toInt ≤ 24) ∧ (DOK o_v6_8 o_a20_9 (v 1)) := wr_7
            refine lv_istore (lv' := [(4, .int r_7), (0, .ref (ad 0)), (1, .int p1), (2, .int p2), (3, .int p3)]) hx hb dX11_day_33 hl (by decide) rfl (fun ls hl => ?_)
            refine lv_iload hx hb dX11_day_35 (lv_at hl 0 rfl) ?_
            refine lv_if_ge (tgt := 43) hx hb dX11_day_37 (by decide) (fun c_11 => ?_) (fun c_11 => ?_)
            ·
              have kc_11 : (0 : Int) ≤ r_7.toInt := i_le c_11
              refine lv_aload_n hx hb dX11_day_43 rfl (lv_at hl 1 rfl) ?_
              refine lv_iload_n hx hb dX11_day_44 rfl (lv_at hl 3 rfl) ?_
              refine cV_i (As := [.int p2]) (rest := []) ⟨hx, hb, hml, hown, hg⟩ (k_X11_think l D cs A ad fa fq rv (va_up v 6 o_v6_8) (va_up a 20 o_a20_9) w fv fp  p2 (show 0 ≤ (v 1).toInt by first | omega | decide) (show (v 1).toInt ≤ 8 by first | omega | decide) (show 0 ≤ o_v6_8.toInt by first | omega | decide) (show o_v6_8.toInt ≤ 24 by first | omega | decide) wr_7_3 (show 0 ≤ (v 5).toInt by first | omega | decide) (show (v 5).toInt ≤ 256 by first | omega | decide) ia18_0 (show (fv 14 2).toInt = -2 ∨ (0 ≤ (fv 14 2).toInt ∧ (fv 14 2).toInt < (v 1).toInt) by first | omega | decide)) ca_X11_think q3_164 ⟨rfl, rfl⟩ ⟨Nat.le_of_ble_eq_true rfl, Nat.le_of_ble_eq_true rfl⟩ (rc_main hK hP) hK hP hD hS hZ rfl hl.1 rfl (Nat.le_of_ble_eq_true rfl) ⟨Nat.zero_le _, Nat.zero_le _⟩ dX11_day_45 (fun r_12 z_17 H locs wr_12 hP hD hS => ?_)
              obtain ⟨o_a17_13, o_a16_14, o_fv15_15, o_fp15_16⟩ := z_17
              have hP : va_P D vwCl (CW cs ad fa fq rv (va_up v 6 o_v6_8) (va_up (va_up (va_up a 20 o_a20_9) 17 o_a17_13) 16 o_a16_14) w (va_up fv 15 o_fv15_15) (va_up fp 15 o_fp15_16)) H := hP
              have hD : va_D A (CW cs ad fa fq rv (va_up v 6 o_v6_8) (va_up (va_up (va_up a 20 o_a20_9) 17 o_a17_13) 16 o_a16_14) w (va_up fv 15 o_fv15_15) (va_up fp 15 o_fp15_16)) := hD
              have wr_12_0 : (o_fv15_15 2).toInt = -2 ∨ (0 ≤ (o_fv15_15 2).toInt ∧ (o_fv15_15 2).toInt < (v 1).toInt) := wr_12
              refine lv_istore (lv' := [(5, .int r_12), (4, .int r_7), (0, .ref (ad 0)), (1, .int p1), (2, .int p2), (3, .int p3)]) hx hb dX11_day_48 hl (by decide) rfl (fun ls hl => ?_)
              refine lv_iload_n hx hb dX11_day_50 rfl (lv_at hl 5 rfl) ?_
              refine lv_if_ne (tgt := 64) hx hb dX11_day_51 (by decide) (fun c_18 => ?_) (fun c_18 => ?_)
              ·
                have kc_18 : p3.toInt ≠ (0 : Int) := i_ne c_18
                refine lv_iload_n hx hb dX11_day_64 rfl (lv_at hl 5 rfl) ?_
                refine lv_iconst (v := 1) hx hb dX11_day_65 (by decide) ?_
                refine lv_icmp_ne (tgt := 79) hx hb dX11_day_66 (by decide) (fun c_19 => ?_) (fun c_19 => ?_)
                ·
                  have kc_19 : p3.toInt ≠ (1 : Int) := i_ne c_19
                  refine lv_iload hx hb dX11_day_79 (lv_at hl 0 rfl) ?_
                  exact W.iret (v := r_12) hx hb hr (fun tt ht hW => ⟨⟨r_12, ⟨o_v6_8, o_a20_9, o_a17_13, o_a16_14, o_fv15_15, o_fp15_16⟩, rfl, ⟨(show 0 ≤ o_v6_8.toInt by first | omega | assumption), (show o_v6_8.toInt ≤ 24 by first | omega | assumption), wr_7_3⟩, by rw [ht]; exact hP, hD⟩, hS.F ht⟩) hS.2.2 dX11_day_81
                ·
                  have kc_19 : p3.toInt = (1 : Int) := i_eq c_19
                  refine lv_aload_n hx hb dX11_day_69 rfl (lv_at hl 2 rfl) ?_
                  refine gf_main_thought hx hb hg hown hK hP rfl (hg _ q2_126) dX11_day_70 ?_
                  refine gf_fl_swarm (f := 15) (by decide) hx hb hg hown hK hP (x := (o_fv15_15 1)) rfl (hg _ q1_233) dX11_day_73 ?_
                  refine lv_goto (tgt := 81) hx hb dX11_day_76 (by decide) ?_
                  exact W.iret (v := (o_fv15_15 1)) hx hb hr (fun tt ht hW => ⟨⟨(o_fv15_15 1), ⟨o_v6_8, o_a20_9, o_a17_13, o_a16_14, o_fv15_15, o_fp15_16⟩, rfl, ⟨(show 0 ≤ o_v6_8.toInt by first | omega | assumption), (show o_v6_8.toInt ≤ 24 by first | omega | assumption), wr_7_3⟩, by rw [ht]; exact hP, hD⟩, hS.F ht⟩) hS.2.2 dX11_day_81
              ·
                have kc_18 : p3.toInt = (0 : Int) := i_eq c_18
                refine lv_aload_n hx hb dX11_day_54 rfl (lv_at hl 2 rfl) ?_
                refine gf_main_thought hx hb hg hown hK hP rfl (hg _ q2_126) dX11_day_55 ?_
                refine gf_fl_liar (f := 15) (by decide) hx hb hg hown hK hP (x := (o_fv15_15 2)) rfl (hg _ q1_235) dX11_day_58 ?_
                refine lv_goto (tgt := 81) hx hb dX11_day_61 (by decide) ?_
                exact W.iret (v := (o_fv15_15 2)) hx hb hr (fun tt ht hW => ⟨⟨(o_fv15_15 2), ⟨o_v6_8, o_a20_9, o_a17_13, o_a16_14, o_fv15_15, o_fp15_16⟩, rfl, ⟨(show 0 ≤ o_v6_8.toInt by first | omega | assumption), (show o_v6_8.toInt ≤ 24 by first | omega | assumption), wr_7_3⟩, by rw [ht]; exact hP, hD⟩, hS.F ht⟩) hS.2.2 dX11_day_81
            ·
              have kc_11 : r_7.toInt < (0 : Int) := i_nle c_11
              refine lv_iload hx hb dX11_day_40 (lv_at hl 0 rfl) ?_
              have hP : va_P D vwCl (CW cs ad fa fq rv (va_up v 6 o_v6_8) (va_up (va_up (va_up a 20 o_a20_9) 17 (a 17)) 16 (a 16)) w (va_up fv 15 (fv 15)) (va_up fp 15 (fp 15))) _ := hP
              have hD : va_D A (CW cs ad fa fq rv (va_up v 6 o_v6_8) (va_up (va_up (va_up a 20 o_a20_9) 17 (a 17)) 16 (a 16)) w (va_up fv 15 (fv 15)) (va_up fp 15 (fp 15))) := hD
              exact W.iret (v := r_7) hx hb hr (fun tt ht hW => ⟨⟨r_7, ⟨o_v6_8, o_a20_9, (a 17), (a 16), (fv 15), (fp 15)⟩, rfl, ⟨(show 0 ≤ o_v6_8.toInt by first | omega | assumption), (show o_v6_8.toInt ≤ 24 by first | omega | assumption), wr_7_3⟩, by rw [ht]; exact hP, hD⟩, hS.F ht⟩) hS.2.2 dX11_day_42
          ·
            have kc_6 : (2 : Int) < p3.toInt := i_nle c_6
            refine lv_iconst (v := (-1)) hx hb dX11_day_26 (by decide) ?_
            have q0_m1 : ((-1) : Int32).toInt = (-1) := rfl
            have hP : va_P D vwCl (CW cs ad fa fq rv (va_up v 6 (v 6)) (va_up (va_up (va_up a 20 (a 20)) 17 (a 17)) 16 (a 16)) w (va_up fv 15 (fv 15)) (va_up fp 15 (fp 15))) _ := hP
            have hD : va_D A (CW cs ad fa fq rv (va_up v 6 (v 6)) (va_up (va_up (va_up a 20 (a 20)) 17 (a 17)) 16 (a 16)) w (va_up fv 15 (fv 15)) (va_up fp 15 (fp 15))) := hD
            exact W.iret (v := (-1)) hx hb hr (fun tt ht hW => ⟨⟨(-1), ⟨(v 6), (a 20), (a 17), (a 16), (fv 15), (fp 15)⟩, rfl, ⟨(show 0 ≤ (v 6).toInt by first | omega | assumption), (show (v 6).toInt ≤ 24 by first | omega | assumption), iv6_2⟩, by rw [ht]; exact hP, hD⟩, hS.F ht⟩) hS.2.2 dX11_day_27
set_option maxHeartbeats 4000000 in
set_option maxRecDepth 100000 in
theorem k_X11_stung (l : Launch) (D : va_G) (cs : Nat → ClassId) (A : Nat → Prop) (ad fa fq rv : Nat → Nat) (v : Nat → Int32) (a : Nat → Nat → Int32) (w : Nat → Nat → Int64) (fv fp : Nat → Nat → Int32)  (p1 : Int32) (p2 : Int32) (p3 : Int32) (p4 : Int32) (iv1_0 : 0 ≤ (v 1).toInt) (iv1_1 : (v 1).toInt ≤ 8) (iv6_0 : 0 ≤ (v 6).toInt) (iv6_1 : (v 6).toInt ≤ 24) (iv6_2 : DOK (v 6) (a 20) (v 1)) (iv5_0 : 0 ≤ (v 5).toInt) (iv5_1 : (v 5).toInt ≤ 256) (ia18_0 : AB (-1000) 20000 (a 18)) (ia28_0 : AB (-1) 5 (a 28)) (ia29_0 : AB (-1) 60 (a 29)) (ifv14_0 : (fv 14 2).toInt = -2 ∨ (0 ≤ (fv 14 2).toInt ∧ (fv 14 2).toInt < (v 1).toInt)) : Met l yX11_stung (Cond.code yX11_stung cX11_stung 11 (some .int) :: gw) ({ frames := 4, cells := 0, slots := 0, locals := 103 }) (va_Pc [.ref (ad 0), .int p1, .int p2, .int p3, .int p4] (XPre D (TY cs) (CW cs ad fa fq rv v a w fv fp) A)) (va_Qi (fun (r : Int32) (z : Int32 × (Nat → Int32) × (Nat → Int32) × (Nat → Int32) × (Nat → Int32) × (Nat → Int32)) => (0 ≤ z.1.toInt) ∧ (z.1.toInt ≤ 24) ∧ (DOK z.1 z.2.1 (v 1))) (XPo D (fun (z : Int32 × (Nat → Int32) × (Nat → Int32) × (Nat → Int32) × (Nat → Int32) × (Nat → Int32)) => CW cs ad fa fq rv (va_up v 6 z.1) (va_up (va_up (va_up a 20 z.2.1) 17 z.2.2.1) 16 z.2.2.2.1) w (va_up fv 15 z.2.2.2.2.1) (va_up fp 15 z.2.2.2.2.2)) A) A) 0 0 A := by
  refine Met.ofW (cc := cX11_stung) (maxL := 11) (ret := (some .int)) (by decide) rfl ?_
  intro p e s m args below meth c s₁ B hml hv
  obtain ⟨rfl, hP, hK, hD, hZ⟩ := hv
  have hx := B.exec
  have hb := B.bytes
  have hr := B.returns
  have hts := atoms_spec (ws := (Cond.code yX11_stung cX11_stung 11 (some .int) :: gw)) B.pre
  have hg : ∀ w ∈ gw, w.before ([.ref (ad 0), .int p1, .int p2, .int p3, .int p4] : List Value).toArray s = true := fun w h => hts w (List.mem_cons_of_mem _ h)
  have hown : s.vm.findClass RX11 = some m.cls := findClass_of_methodNamed B.named
  have hlocks := B.notSynchronized
  have hS : va_S A s.heap s.heap [] := va_S.rf
  have hP : va_P D vwCl (CW cs ad fa fq rv v a w fv fp) s.heap := hP
  have hl := lv_entry ([.ref (ad 0), .int p1, .int p2, .int p3, .int p4]) (n := 11) (Nat.le_of_ble_eq_true rfl)
  rw [lg_entry_eq]
  generalize (lg_sl ([.ref (ad 0), .int p1, .int p2, .int p3, .int p4]) ++ List.replicate (11 - (lg_sl ([.ref (ad 0), .int p1, .int p2, .int p3, .int p4])).length) Slot.unset).toArray = ls at hl ⊢
  have hl : lv_has ls 11 [(0, .ref (ad 0)), (1, .int p1), (2, .int p2), (3, .int p3), (4, .int p4)] := hl
  have hcut : ∀ nk : Nat, (∀ (x6 : Int32) (x7 : Int32) (x8 : Int32) (x9 : Int32) (c80_a17 : Nat → Int32) (c80_a16 : Nat → Int32) (c80_fv15 : Nat → Int32) (c80_fp15 : Nat → Int32) (c80_v6 : Int32) (c80_a20 : Nat → Int32) (H : Heap) (locs : List Loc) (i9 : 0 ≤ x9.toInt) (jfv15_0 : (c80_fv15 2).toInt = -2 ∨ (0 ≤ (c80_fv15 2).toInt ∧ (c80_fv15 2).toInt < (v 1).toInt)) (jv6_0 : 0 ≤ c80_v6.toInt) (jv6_1 : c80_v6.toInt ≤ 24) (jv6_2 : DOK c80_v6 c80_a20 (v 1)) (hmu : (c80_v6.toInt - x9.toInt).toNat < nk) (hP : va_P D vwCl (CW cs ad fa fq rv (va_up v 6 c80_v6) (va_up (va_up (va_up a 17 c80_a17) 16 c80_a16) 20 c80_a20) w (va_up fv 15 c80_fv15) (va_up fp 15 c80_fp15)) H) (hD : va_D A (CW cs ad fa fq rv (va_up v 6 c80_v6) (va_up (va_up (va_up a 17 c80_a17) 16 c80_a16) 20 c80_a20) w (va_up fv 15 c80_fv15) (va_up fp 15 c80_fp15))) (hS : va_S A s.heap H locs) (ls : Array Slot) (hl : lv_has ls 11 [(0, .ref (ad 0)), (2, .int p2), (3, .int p3), (4, .int p4), (6, .int x6), (7, .int x7), (8, .int x8), (9, .int x9)]), W p l e (headSpec (Cond.code yX11_stung cX11_stung 11 (some .int) :: gw) ({ frames := 4, cells := 0, slots := 0, locals := 103 })).room s m ([.ref (ad 0), .int p1, .int p2, .int p3, .int p4] : List Value).toArray below meth c H locs 0 0 (MQ below (va_Qi (fun (r : Int32) (z : Int32 × (Nat → Int32) × (Nat → Int32) × (Nat → Int32) × (Nat → Int32) × (Nat → Int32)) => (0 ≤ z.1.toInt) ∧ (z.1.toInt ≤ 24) ∧ (DOK z.1 z.2.1 (v 1))) (XPo D (fun (z : Int32 × (Nat → Int32) × (Nat → Int32) × (Nat → Int32) × (Nat → Int32) × (Nat → Int32)) => CW cs ad fa fq rv (va_up v 6 z.1) (va_up (va_up (va_up a 20 z.2.1) 17 z.2.2.1) 16 z.2.2.2.1) w (va_up fv 15 z.2.2.2.2.1) (va_up fp 15 z.2.2.2.2.2)) A) A) ([.ref (ad 0), .int p1, .int p2, .int p3, .int p4] : List Value).toArray s 0 0 A) (F0 m 80 ls [])) := by
    intro nk
    induction nk with
    | zero => exact (fun x6 x7 x8 x9 c80_a17 c80_a16 c80_fv15 c80_fp15 c80_v6 c80_a20 H locs i9 jfv15_0 jv6_0 jv6_1 jv6_2 hmu hP hD hS ls hl => absurd hmu (Nat.not_lt_zero _))
    | succ nk ih =>
      intro x6 x7 x8 x9 c80_a17 c80_a16 c80_fv15 c80_fp15 c80_v6 c80_a20 H locs i9 jfv15_0 jv6_0 jv6_1 jv6_2 hmu hP hD hS ls hl
      refine lv_iload hx hb dX11_stung_80 (lv_at hl 7 rfl) ?_
      refine lv_iload_n hx hb dX11_stung_82 rfl (lv_at hl 1 rfl) ?_
      refine lv_icmp_ge (tgt := 174) hx hb dX11_stung_83 (by decide) (fun c_1 => ?_) (fun c_1 => ?_)
      ·
        have kc_1 : p2.toInt ≤ x9.toInt := i_le c_1
        refine lv_iload hx hb dX11_stung_174 (lv_at hl 3 rfl) ?_
        refine lv_if_ne (tgt := 184) hx hb dX11_stung_176 (by decide) (fun c_2 => ?_) (fun c_2 => ?_)
        ·
          have kc_2 : p4.toInt ≠ (0 : Int) := i_ne c_2
          refine lv_iload hx hb dX11_stung_184 (lv_at hl 3 rfl) ?_
          refine lv_iconst (v := 1) hx hb dX11_stung_186 (by decide) ?_
          refine lv_icmp_ne (tgt := 195) hx hb dX11_stung_187 (by decide) (fun c_3 => ?_) (fun c_3 => ?_)
          ·
            have kc_3 : p4.toInt ≠ (1 : Int) := i_ne c_3
            refine lv_iload hx hb dX11_stung_195 (lv_at hl 6 rfl) ?_
            have hP : va_P D vwCl (CW cs ad fa fq rv (va_up v 6 c80_v6) (va_up (va_up (va_up a 20 c80_a20) 17 c80_a17) 16 c80_a16) w (va_up fv 15 c80_fv15) (va_up fp 15 c80_fp15)) _ := hP
            have hD : va_D A (CW cs ad fa fq rv (va_up v 6 c80_v6) (va_up (va_up (va_up a 20 c80_a20) 17 c80_a17) 16 c80_a16) w (va_up fv 15 c80_fv15) (va_up fp 15 c80_fp15)) := hD
            exact W.iret (v := x8) hx hb hr (fun tt ht hW => ⟨⟨x8, ⟨c80_v6, c80_a20, c80_a17, c80_a16, c80_fv15, c80_fp15⟩, rfl, ⟨(show 0 ≤ c80_v6.toInt by first | omega | assumption), (show c80_v6.toInt ≤ 24 by first | omega | assumption), jv6_2⟩, by rw [ht]; exact hP, hD⟩, hS.F ht⟩) hS.2.2 dX11_stung_197
          ·
            have kc_3 : p4.toInt = (1 : Int) := i_eq c_3
            refine lv_iload hx hb dX11_stung_190 (lv_at hl 5 rfl) ?_
            refine lv_goto (tgt := 197) hx hb dX11_stung_192 (by decide) ?_
            have hP : va_P D vwCl (CW cs ad fa fq rv (va_up v 6 c80_v6) (va_up (va_up (va_up a 20 c80_a20) 17 c80_a17) 16 c80_a16) w (va_up fv 15 c80_fv15) (va_up fp 15 c80_fp15)) _ := hP
            have hD : va_D A (CW cs ad fa fq rv (va_up v 6 c80_v6) (va_up (va_up (va_up a 20 c80_a20) 17 c80_a17) 16 c80_a16) w (va_up fv 15 c80_fv15) (va_up fp 15 c80_fp15)) := hD
            exact W.iret (v := x7) hx hb hr (fun tt ht hW => ⟨⟨x7, ⟨c80_v6, c80_a20, c80_a17, c80_a16, c80_fv15, c80_fp15⟩, rfl, ⟨(show 0 ≤ c80_v6.toInt by first | omega | assumption), (show c80_v6.toInt ≤ 24 by first | omega | assumption), jv6_2⟩, by rw [ht]; exact hP, hD⟩, hS.F ht⟩) hS.2.2 dX11_stung_197
        ·
          have kc_2 : p4.toInt = (0 : Int) := i_eq c_2
          refine lv_iload hx hb dX11_stung_179 (lv_at hl 4 rfl) ?_
          refine lv_goto (tgt := 197) hx hb dX11_stung_181 (by decide) ?_
          have hP : va_P D vwCl (CW cs ad fa fq rv (va_up v 6 c80_v6) (va_up (va_up (va_up a 20 c80_a20) 17 c80_a17) 16 c80_a16) w (va_up fv 15 c80_fv15) (va_up fp 15 c80_fp15)) _ := hP
          have hD : va_D A (CW cs ad fa fq rv (va_up v 6 c80_v6) (va_up (va_up (va_up a 20 c80_a20) 17 c80_a17) 16 c80_a16) w (va_up fv 15 c80_fv15) (va_up fp 15 c80_fp15)) := hD
          exact W.iret (v := x6) hx hb hr (fun tt ht hW => ⟨⟨x6, ⟨c80_v6, c80_a20, c80_a17, c80_a16, c80_fv15, c80_fp15⟩, rfl, ⟨(show 0 ≤ c80_v6.toInt by first | omega | assumption), (show c80_v6.toInt ≤ 24 by first | omega | assumption), jv6_2⟩, by rw [ht]; exact hP, hD⟩, hS.F ht⟩) hS.2.2 dX11_stung_197
      ·
        have kc_1 : x9.toInt < p2.toInt := i_nle c_1
        refine lv_iload hx hb dX11_stung_86 (lv_at hl 7 rfl) ?_
        refine lv_aload_n hx hb dX11_stung_88 rfl (lv_at hl 0 rfl) ?_
        refine gf_main_today hx hb hg hown hK hP rfl (hg _ q2_128) dX11_stung_89 ?_
        refine gf_today_size hx hb hg hown hK hP (x := c80_v6) rfl (hg _ q1_208) dX11_stung_92 ?_
        refine lv_icmp_ge (tgt := 174) hx hb dX11_stung_95 (by decide) (fun c_4 => ?_) (fun c_4 => ?_)
        ·
          have kc_4 : c80_v6.toInt ≤ x9.toInt := i_le c_4
          refine lv_iload hx hb dX11_stung_174 (lv_at hl 3 rfl) ?_
          refine lv_if_ne (tgt := 184) hx hb dX11_stung_176 (by decide) (fun c_5 => ?_) (fun c_5 => ?_)
          ·
            have kc_5 : p4.toInt ≠ (0 : Int) := i_ne c_5
            refine lv_iload hx hb dX11_stung_184 (lv_at hl 3 rfl) ?_
            refine lv_iconst (v := 1) hx hb dX11_stung_186 (by decide) ?_
            refine lv_icmp_ne (tgt := 195) hx hb dX11_stung_187 (by decide) (fun c_6 => ?_) (fun c_6 => ?_)
            ·
              have kc_6 : p4.toInt ≠ (1 : Int) := i_ne c_6
              refine lv_iload hx hb dX11_stung_195 (lv_at hl 6 rfl) ?_
              have hP : va_P D vwCl (CW cs ad fa fq rv (va_up v 6 c80_v6) (va_up (va_up (va_up a 20 c80_a20) 17 c80_a17) 16 c80_a16) w (va_up fv 15 c80_fv15) (va_up fp 15 c80_fp15)) _ := hP
              have hD : va_D A (CW cs ad fa fq rv (va_up v 6 c80_v6) (va_up (va_up (va_up a 20 c80_a20) 17 c80_a17) 16 c80_a16) w (va_up fv 15 c80_fv15) (va_up fp 15 c80_fp15)) := hD
              exact W.iret (v := x8) hx hb hr (fun tt ht hW => ⟨⟨x8, ⟨c80_v6, c80_a20, c80_a17, c80_a16, c80_fv15, c80_fp15⟩, rfl, ⟨(show 0 ≤ c80_v6.toInt by first | omega | assumption), (show c80_v6.toInt ≤ 24 by first | omega | assumption), jv6_2⟩, by rw [ht]; exact hP, hD⟩, hS.F ht⟩) hS.2.2 dX11_stung_197
            ·
              have kc_6 : p4.toInt = (1 : Int) := i_eq c_6
              refine lv_iload hx hb dX11_stung_190 (lv_at hl 5 rfl) ?_
              refine lv_goto (tgt := 197) hx hb dX11_stung_192 (by decide) ?_
              have hP : va_P D vwCl (CW cs ad fa fq rv (va_up v 6 c80_v6) (va_up (va_up (va_up a 20 c80_a20) 17 c80_a17) 16 c80_a16) w (va_up fv 15 c80_fv15) (va_up fp 15 c80_fp15)) _ := hP
              have hD : va_D A (CW cs ad fa fq rv (va_up v 6 c80_v6) (va_up (va_up (va_up a 20 c80_a20) 17 c80_a17) 16 c80_a16) w (va_up fv 15 c80_fv15) (va_up fp 15 c80_fp15)) := hD
              exact W.iret (v := x7) hx hb hr (fun tt ht hW => ⟨⟨x7, ⟨c80_v6, c80_a20, c80_a17, c80_a16, c80_fv15, c80_fp15⟩, rfl, ⟨(show 0 ≤ c80_v6.toInt by first | omega | assumption), (show c80_v6.toInt ≤ 24 by first | omega | assumption), jv6_2⟩, by rw [ht]; exact hP, hD⟩, hS.F ht⟩) hS.2.2 dX11_stung_197
          ·
            have kc_5 : p4.toInt = (0 : Int) := i_eq c_5
            refine lv_iload hx hb dX11_stung_179 (lv_at hl 4 rfl) ?_
            refine lv_goto (tgt := 197) hx hb dX11_stung_181 (by decide) ?_
            have hP : va_P D vwCl (CW cs ad fa fq rv (va_up v 6 c80_v6) (va_up (va_up (va_up a 20 c80_a20) 17 c80_a17) 16 c80_a16) w (va_up fv 15 c80_fv15) (va_up fp 15 c80_fp15)) _ := hP
            have hD : va_D A (CW cs ad fa fq rv (va_up v 6 c80_v6) (va_up (va_up (va_up a 20 c80_a20) 17 c80_a17) 16 c80_a16) w (va_up fv 15 c80_fv15) (va_up fp 15 c80_fp15)) := hD
            exact W.iret (v := x6) hx hb hr (fun tt ht hW => ⟨⟨x6, ⟨c80_v6, c80_a20, c80_a17, c80_a16, c80_fv15, c80_fp15⟩, rfl, ⟨(show 0 ≤ c80_v6.toInt by first | omega | assumption), (show c80_v6.toInt ≤ 24 by first | omega | assumption), jv6_2⟩, by rw [ht]; exact hP, hD⟩, hS.F ht⟩) hS.2.2 dX11_stung_197
        ·
          have kc_4 : x9.toInt < c80_v6.toInt := i_nle c_4
          refine lv_aload_n hx hb dX11_stung_98 rfl (lv_at hl 0 rfl) ?_
          refine gf_main_thought hx hb hg hown hK hP rfl (hg _ q2_126) dX11_stung_99 ?_
          refine gf_fl_hurts (f := 15) (by decide) hx hb hg hown hK hP (x := (c80_fv15 7)) rfl (hg _ q2_7) dX11_stung_102 ?_
          refine lv_istore (lv' := [(10, .int (c80_fv15 7)), (0, .ref (ad 0)), (2, .int p2), (3, .int p3), (4, .int p4), (6, .int x6), (7, .int x7), (8, .int x8), (9, .int x9)]) hx hb dX11_stung_105 hl (by decide) rfl (fun ls hl => ?_)
          refine lv_aload_n hx hb dX11_stung_107 rfl (lv_at hl 1 rfl) ?_
          refine gf_main_thought hx hb hg hown hK hP rfl (hg _ q2_126) dX11_stung_108 ?_
          refine lv_aload_n hx hb dX11_stung_111 rfl (lv_at hl 1 rfl) ?_
          refine gf_main_today hx hb hg hown hK hP rfl (hg _ q2_128) dX11_stung_112 ?_
          refine lv_iload hx hb dX11_stung_115 (lv_at hl 8 rfl) ?_
          refine cV_ro (As := [.int x9]) (rest := [.ref (fa 15)]) ⟨hx, hb, hml, hown, hg⟩ (k_X2_who l D cs A ad fa fq rv (va_up v 6 c80_v6) (va_up (va_up (va_up a 17 c80_a17) 16 c80_a16) 20 c80_a20) w (va_up fv 15 c80_fv15) (va_up fp 15 c80_fp15)  x9 (show 0 ≤ x9.toInt by first | omega | decide) (show x9.toInt < c80_v6.toInt by first | omega | decide) (show 0 ≤ (v 1).toInt by first | omega | decide) (show (v 1).toInt ≤ 8 by first | omega | decide) (show 0 ≤ c80_v6.toInt by first | omega | decide) (show c80_v6.toInt ≤ 24 by first | omega | decide) jv6_2) ca_X2_who q3_168 ⟨rfl, rfl⟩ ⟨Nat.le_of_ble_eq_true rfl, Nat.le_of_ble_eq_true rfl⟩ (rc_today hK hP) hK hP hD hS hZ rfl hl.1 rfl (Nat.le_of_ble_eq_true rfl) ⟨Nat.zero_le _, Nat.zero_le _⟩ dX11_stung_117 (fun r_7 wr_7 => ?_)
          obtain ⟨wr_7_0, wr_7_1⟩ : (0 ≤ r_7.toInt) ∧ (r_7.toInt < (v 1).toInt) := wr_7
          refine lv_aload_n hx hb dX11_stung_120 rfl (lv_at hl 1 rfl) ?_
          refine gf_main_today hx hb hg hown hK hP rfl (hg _ q2_128) dX11_stung_121 ?_
          refine lv_iload hx hb dX11_stung_124 (lv_at hl 8 rfl) ?_
          refine cV_ro (As := [.int x9]) (rest := [.int r_7, .ref (fa 15)]) ⟨hx, hb, hml, hown, hg⟩ (k_X2_isLie l D cs A ad fa fq rv (va_up v 6 c80_v6) (va_up (va_up (va_up a 17 c80_a17) 16 c80_a16) 20 c80_a20) w (va_up fv 15 c80_fv15) (va_up fp 15 c80_fp15)  x9 (show 0 ≤ x9.toInt by first | omega | decide) (show x9.toInt < c80_v6.toInt by first | omega | decide) (show 0 ≤ (v 1).toInt by first | omega | decide) (show (v 1).toInt ≤ 8 by first | omega | decide) (show 0 ≤ c80_v6.toInt by first | omega | decide) (show c80_v6.toInt ≤ 24 by first | omega | decide) jv6_2) ca_X2_isLie q3_172 ⟨rfl, rfl⟩ ⟨Nat.le_of_ble_eq_true rfl, Nat.le_of_ble_eq_true rfl⟩ (rc_today hK hP) hK hP hD hS hZ rfl hl.1 rfl (Nat.le_of_ble_eq_true rfl) ⟨Nat.zero_le _, Nat.zero_le _⟩ dX11_stung_126 (fun r_8 wr_8 => ?_)
          obtain ⟨wr_8_0, wr_8_1⟩ : (0 ≤ r_8.toInt) ∧ (r_8.toInt ≤ 1) := wr_8
          refine cV_i (As := [.int r_7, .int r_8]) (rest := []) ⟨hx, hb, hml, hown, hg⟩ (k_X3_utter l D cs A ad fa fq rv (va_up v 6 c80_v6) (va_up (va_up (va_up a 17 c80_a17) 16 c80_a16) 20 c80_a20) w (va_up fv 15 c80_fv15) (va_up fp 15 c80_fp15) 15 r_7 r_8 (by omega) (show 0 ≤ r_7.toInt by first | omega | decide) (show r_7.toInt < (v 1).toInt by first | omega | decide) (show 0 ≤ (v 1).toInt by first | omega | decide) (show (v 1).toInt ≤ 8 by first | omega | decide) (show (c80_fv15 2).toInt = -2 ∨ (0 ≤ (c80_fv15 2).toInt ∧ (c80_fv15 2).toInt < (v 1).toInt) by first | omega | decide) (show 0 ≤ (v 5).toInt by first | omega | decide) (show (v 5).toInt ≤ 256 by first | omega | decide) ia18_0) ca_X3_utter q3_176 ⟨rfl, rfl⟩ ⟨Nat.le_of_ble_eq_true rfl, Nat.le_of_ble_eq_true rfl⟩ (rc_fl (f := 15) (by decide) hK hP) hK hP hD hS hZ rfl hl.1 rfl (Nat.le_of_ble_eq_true rfl) ⟨Nat.zero_le _, Nat.zero_le _⟩ dX11_stung_129 (fun r_9 z_14 H locs wr_9 hP hD hS => ?_)
          obtain ⟨o_fvf_10, o_fpf_11, o_a17_12, o_a16_13⟩ := z_14
          have hP : va_P D vwCl (CW cs ad fa fq rv (va_up v 6 c80_v6) (va_up (va_up (va_up a 20 c80_a20) 17 o_a17_12) 16 o_a16_13) w (va_up fv 15 o_fvf_10) (va_up fp 15 o_fpf_11)) H := hP
          have hD : va_D A (CW cs ad fa fq rv (va_up v 6 c80_v6) (va_up (va_up (va_up a 20 c80_a20) 17 o_a17_12) 16 o_a16_13) w (va_up fv 15 o_fvf_10) (va_up fp 15 o_fpf_11)) := hD
          obtain ⟨wr_9_0, wr_9_1, wr_9_2⟩ : (r_9.toInt = -2 ∨ (0 ≤ r_9.toInt ∧ r_9.toInt < (v 1).toInt)) ∧ (o_fvf_10 3 = (c80_fv15 3) + 1) ∧ ((o_fvf_10 2).toInt = -2 ∨ (0 ≤ (o_fvf_10 2).toInt ∧ (o_fvf_10 2).toInt < (v 1).toInt)) := wr_9
          refine lv_iload_n hx hb dX11_stung_132 rfl (lv_at hl 3 rfl) ?_
          refine lv_icmp_ne (tgt := 168) hx hb dX11_stung_133 (by decide) (fun c_15 => ?_) (fun c_15 => ?_)
          ·
            have kc_15 : r_9.toInt ≠ p3.toInt := i_ne c_15
            obtain ⟨x_16, ex_16⟩ : ∃ y : Int32, y = x9 + 1 := ⟨_, rfl⟩
            have fx_16 : x_16.toInt = x9.toInt + 1 := by rw [ex_16]; exact i_add (by first | omega | (show (_ : Int) ≤ x9.toInt + 1; omega)) (by first | omega | (show x9.toInt + 1 ≤ (_ : Int); omega))
            refine lv_iinc (v := x_16) (lv' := [(9, .int x_16), (10, .int (c80_fv15 7)), (0, .ref (ad 0)), (2, .int p2), (3, .int p3), (4, .int p4), (6, .int x6), (7, .int x7), (8, .int x8)]) hx hb dX11_stung_168 hl (k := 8) rfl (by rw [ex_16]; rfl) (by decide) rfl (fun ls hl => ?_)
            refine lv_goto (tgt := 80) hx hb dX11_stung_171 (by decide) ?_
            exact ih x6 x7 x8 x_16 o_a17_12 o_a16_13 o_fvf_10 o_fpf_11 c80_v6 c80_a20 _ _ (by omega) (show (o_fvf_10 2).toInt = -2 ∨ (0 ≤ (o_fvf_10 2).toInt ∧ (o_fvf_10 2).toInt < (v 1).toInt) by first | omega | assumption) (show 0 ≤ c80_v6.toInt by first | omega | assumption) (show c80_v6.toInt ≤ 24 by first | omega | assumption) jv6_2 (by omega) hP hD hS ls (lv_sub hl [2, 3, 4, 5, 6, 7, 8, 0] rfl)
          ·
            have kc_15 : r_9.toInt = p3.toInt := i_eq c_15
            refine lv_iload hx hb dX11_stung_136 (lv_at hl 5 rfl) ?_
            refine lv_if_ne (tgt := 146) hx hb dX11_stung_138 (by decide) (fun c_17 => ?_) (fun c_17 => ?_)
            ·
              have kc_17 : x6.toInt ≠ (0 : Int) := i_ne c_17
              refine lv_iload hx hb dX11_stung_146 (lv_at hl 7 rfl) ?_
              refine lv_istore (lv' := [(8, .int x8), (10, .int (c80_fv15 7)), (0, .ref (ad 0)), (2, .int p2), (3, .int p3), (4, .int p4), (6, .int x6), (7, .int x7), (9, .int x9)]) hx hb dX11_stung_148 hl (by decide) rfl (fun ls hl => ?_)
              obtain ⟨x_18, ex_18⟩ : ∃ y : Int32, y = x6 + 1 := ⟨_, rfl⟩
              refine lv_iinc (v := x_18) (lv' := [(6, .int x_18), (8, .int x8), (10, .int (c80_fv15 7)), (0, .ref (ad 0)), (2, .int p2), (3, .int p3), (4, .int p4), (7, .int x7), (9, .int x9)]) hx hb dX11_stung_150 hl (k := 6) rfl (by rw [ex_18]; rfl) (by decide) rfl (fun ls hl => ?_)
              refine lv_iload hx hb dX11_stung_153 (lv_at hl 7 rfl) ?_
              refine lv_aload_n hx hb dX11_stung_155 rfl (lv_at hl 3 rfl) ?_
              refine gf_main_thought hx hb hg hown hK hP rfl (hg _ q2_126) dX11_stung_156 ?_
              refine gf_fl_hurts (f := 15) (by decide) hx hb hg hown hK hP (x := (o_fvf_10 7)) rfl (hg _ q2_7) dX11_stung_159 ?_
              refine lv_iload hx hb dX11_stung_162 (lv_at hl 2 rfl) ?_
              refine lv_isub hx hb dX11_stung_164 ?_
              refine lv_topi (fun x_19 ex_19 => ?_)
              refine lv_iadd hx hb dX11_stung_165 ?_
              refine lv_topi (fun x_20 ex_20 => ?_)
              refine lv_istore (lv' := [(7, .int x_20), (6, .int x_18), (8, .int x8), (10, .int (c80_fv15 7)), (0, .ref (ad 0)), (2, .int p2), (3, .int p3), (4, .int p4), (9, .int x9)]) hx hb dX11_stung_166 hl (by decide) rfl (fun ls hl => ?_)
              obtain ⟨x_21, ex_21⟩ : ∃ y : Int32, y = x9 + 1 := ⟨_, rfl⟩
              have fx_21 : x_21.toInt = x9.toInt + 1 := by rw [ex_21]; exact i_add (by first | omega | (show (_ : Int) ≤ x9.toInt + 1; omega)) (by first | omega | (show x9.toInt + 1 ≤ (_ : Int); omega))
              refine lv_iinc (v := x_21) (lv' := [(9, .int x_21), (7, .int x_20), (6, .int x_18), (8, .int x8), (10, .int (c80_fv15 7)), (0, .ref (ad 0)), (2, .int p2), (3, .int p3), (4, .int p4)]) hx hb dX11_stung_168 hl (k := 8) rfl (by rw [ex_21]; rfl) (by decide) rfl (fun ls hl => ?_)
              refine lv_goto (tgt := 80) hx hb dX11_stung_171 (by decide) ?_
              exact ih x_18 x_20 x8 x_21 o_a17_12 o_a16_13 o_fvf_10 o_fpf_11 c80_v6 c80_a20 _ _ (by omega) (show (o_fvf_10 2).toInt = -2 ∨ (0 ≤ (o_fvf_10 2).toInt ∧ (o_fvf_10 2).toInt < (v 1).toInt) by first | omega | assumption) (show 0 ≤ c80_v6.toInt by first | omega | assumption) (show c80_v6.toInt ≤ 24 by first | omega | assumption) jv6_2 (by omega) hP hD hS ls (lv_sub hl [5, 6, 7, 8, 2, 1, 3, 0] rfl)
            ·
              have kc_17 : x6.toInt = (0 : Int) := i_eq c_17
              refine lv_iload hx hb dX11_stung_141 (lv_at hl 8 rfl) ?_
              refine lv_goto (tgt := 148) hx hb dX11_stung_143 (by decide) ?_
              refine lv_istore (lv' := [(8, .int x9), (10, .int (c80_fv15 7)), (0, .ref (ad 0)), (2, .int p2), (3, .int p3), (4, .int p4), (6, .int x6), (7, .int x7), (9, .int x9)]) hx hb dX11_stung_148 hl (by decide) rfl (fun ls hl => ?_)
              obtain ⟨x_22, ex_22⟩ : ∃ y : Int32, y = x6 + 1 := ⟨_, rfl⟩
              have fx_22 : x_22.toInt = x6.toInt + 1 := by rw [ex_22]; exact i_add (by first | omega | (show (_ : Int) ≤ x6.toInt + 1; omega)) (by first | omega | (show x6.toInt + 1 ≤ (_ : Int); omega))
              refine lv_iinc (v := x_22) (lv' := [(6, .int x_22), (8, .int x9), (10, .int (c80_fv15 7)), (0, .ref (ad 0)), (2, .int p2), (3, .int p3), (4, .int p4), (7, .int x7), (9, .int x9)]) hx hb dX11_stung_150 hl (k := 6) rfl (by rw [ex_22]; rfl) (by decide) rfl (fun ls hl => ?_)
              refine lv_iload hx hb dX11_stung_153 (lv_at hl 7 rfl) ?_
              refine lv_aload_n hx hb dX11_stung_155 rfl (lv_at hl 3 rfl) ?_
              refine gf_main_thought hx hb hg hown hK hP rfl (hg _ q2_126) dX11_stung_156 ?_
              refine gf_fl_hurts (f := 15) (by decide) hx hb hg hown hK hP (x := (o_fvf_10 7)) rfl (hg _ q2_7) dX11_stung_159 ?_
              refine lv_iload hx hb dX11_stung_162 (lv_at hl 2 rfl) ?_
              refine lv_isub hx hb dX11_stung_164 ?_
              refine lv_topi (fun x_23 ex_23 => ?_)
              refine lv_iadd hx hb dX11_stung_165 ?_
              refine lv_topi (fun x_24 ex_24 => ?_)
              refine lv_istore (lv' := [(7, .int x_24), (6, .int x_22), (8, .int x9), (10, .int (c80_fv15 7)), (0, .ref (ad 0)), (2, .int p2), (3, .int p3), (4, .int p4), (9, .int x9)]) hx hb dX11_stung_166 hl (by decide) rfl (fun ls hl => ?_)
              obtain ⟨x_25, ex_25⟩ : ∃ y : Int32, y = x9 + 1 := ⟨_, rfl⟩
              have fx_25 : x_25.toInt = x9.toInt + 1 := by rw [ex_25]; exact i_add (by first | omega | (show (_ : Int) ≤ x9.toInt + 1; omega)) (by first | omega | (show x9.toInt + 1 ≤ (_ : Int); omega))
              refine lv_iinc (v := x_25) (lv' := [(9, .int x_25), (7, .int x_24), (6, .int x_22), (8, .int x9), (10, .int (c80_fv15 7)), (0, .ref (ad 0)), (2, .int p2), (3, .int p3), (4, .int p4)]) hx hb dX11_stung_168 hl (k := 8) rfl (by rw [ex_25]; rfl) (by decide) rfl (fun ls hl => ?_)
              refine lv_goto (tgt := 80) hx hb dX11_stung_171 (by decide) ?_
              exact ih x_22 x_24 x9 x_25 o_a17_12 o_a16_13 o_fvf_10 o_fpf_11 c80_v6 c80_a20 _ _ (by omega) (show (o_fvf_10 2).toInt = -2 ∨ (0 ≤ (o_fvf_10 2).toInt ∧ (o_fvf_10 2).toInt < (v 1).toInt) by first | omega | assumption) (show 0 ≤ c80_v6.toInt by first | omega | assumption) (show c80_v6.toInt ≤ 24 by first | omega | assumption) jv6_2 (by omega) hP hD hS ls (lv_sub hl [5, 6, 7, 8, 2, 1, 3, 0] rfl)
  refine lv_iload_n hx hb dX11_stung_0 rfl (lv_at hl 1 rfl) ?_
  refine cS_p (As := [.int p1]) (rest := []) ⟨hx, hb, hml, hown, hg⟩ (k_X10_isShelf l   p1 ) ca_X10_isShelf q2_205 ⟨rfl, rfl⟩ ⟨Nat.le_of_ble_eq_true rfl, Nat.le_of_ble_eq_true rfl⟩ rfl hl.1 rfl (Nat.le_of_ble_eq_true rfl) ⟨Nat.zero_le _, Nat.zero_le _⟩ dX11_stung_1 (fun r_26 wr_26 => ?_)
  have wr_26 : (r_26.toInt = 1 ∧ 0 ≤ p1.toInt ∧ p1.toInt < 6) ∨ (r_26.toInt = 0 ∧ ¬ (0 ≤ p1.toInt ∧ p1.toInt < 6)) := wr_26
  refine lv_if_eq (tgt := 39) hx hb dX11_stung_4 (by decide) (fun c_27 => ?_) (fun c_27 => ?_)
  ·
    have kc_27 : r_26.toInt = (0 : Int) := i_eq c_27
    refine lv_iconst (v := (-1)) hx hb dX11_stung_39 (by decide) ?_
    have q0_m1 : ((-1) : Int32).toInt = (-1) := rfl
    have hP : va_P D vwCl (CW cs ad fa fq rv (va_up v 6 (v 6)) (va_up (va_up (va_up a 20 (a 20)) 17 (a 17)) 16 (a 16)) w (va_up fv 15 (fv 15)) (va_up fp 15 (fp 15))) _ := hP
    have hD : va_D A (CW cs ad fa fq rv (va_up v 6 (v 6)) (va_up (va_up (va_up a 20 (a 20)) 17 (a 17)) 16 (a 16)) w (va_up fv 15 (fv 15)) (va_up fp 15 (fp 15))) := hD
    exact W.iret (v := (-1)) hx hb hr (fun tt ht hW => ⟨⟨(-1), ⟨(v 6), (a 20), (a 17), (a 16), (fv 15), (fp 15)⟩, rfl, ⟨(show 0 ≤ (v 6).toInt by first | omega | assumption), (show (v 6).toInt ≤ 24 by first | omega | assumption), iv6_2⟩, by rw [ht]; exact hP, hD⟩, hS.F ht⟩) hS.2.2 dX11_stung_40
  ·
    have kc_27 : r_26.toInt ≠ (0 : Int) := i_ne c_27
    refine lv_iload_n hx hb dX11_stung_7 rfl (lv_at hl 2 rfl) ?_
    refine lv_if_lt (tgt := 39) hx hb dX11_stung_8 (by decide) (fun c_28 => ?_) (fun c_28 => ?_)
    ·
      have kc_28 : p2.toInt < (0 : Int) := i_lt c_28
      refine lv_iconst (v := (-1)) hx hb dX11_stung_39 (by decide) ?_
      have q0_m1 : ((-1) : Int32).toInt = (-1) := rfl
      have hP : va_P D vwCl (CW cs ad fa fq rv (va_up v 6 (v 6)) (va_up (va_up (va_up a 20 (a 20)) 17 (a 17)) 16 (a 16)) w (va_up fv 15 (fv 15)) (va_up fp 15 (fp 15))) _ := hP
      have hD : va_D A (CW cs ad fa fq rv (va_up v 6 (v 6)) (va_up (va_up (va_up a 20 (a 20)) 17 (a 17)) 16 (a 16)) w (va_up fv 15 (fv 15)) (va_up fp 15 (fp 15))) := hD
      exact W.iret (v := (-1)) hx hb hr (fun tt ht hW => ⟨⟨(-1), ⟨(v 6), (a 20), (a 17), (a 16), (fv 15), (fp 15)⟩, rfl, ⟨(show 0 ≤ (v 6).toInt by first | omega | assumption), (show (v 6).toInt ≤ 24 by first | omega | assumption), iv6_2⟩, by rw [ht]; exact hP, hD⟩, hS.F ht⟩) hS.2.2 dX11_stung_40
    ·
      have kc_28 : (0 : Int) ≤ p2.toInt := i_nlt c_28
      refine lv_iload_n hx hb dX11_stung_11 rfl (lv_at hl 2 rfl) ?_
      refine lv_bipush (v := 24) hx hb dX11_stung_12 (by decide) ?_
      refine lv_icmp_gt (tgt := 39) hx hb dX11_stung_14 (by decide) (fun c_29 => ?_) (fun c_29 => ?_)
      ·
        have kc_29 : (24 : Int) < p2.toInt := i_lt c_29
        refine lv_iconst (v := (-1)) hx hb dX11_stung_39 (by decide) ?_
        have q0_m1 : ((-1) : Int32).toInt = (-1) := rfl
        have hP : va_P D vwCl (CW cs ad fa fq rv (va_up v 6 (v 6)) (va_up (va_up (va_up a 20 (a 20)) 17 (a 17)) 16 (a 16)) w (va_up fv 15 (fv 15)) (va_up fp 15 (fp 15))) _ := hP
        have hD : va_D A (CW cs ad fa fq rv (va_up v 6 (v 6)) (va_up (va_up (va_up a 20 (a 20)) 17 (a 17)) 16 (a 16)) w (va_up fv 15 (fv 15)) (va_up fp 15 (fp 15))) := hD
        exact W.iret (v := (-1)) hx hb hr (fun tt ht hW => ⟨⟨(-1), ⟨(v 6), (a 20), (a 17), (a 16), (fv 15), (fp 15)⟩, rfl, ⟨(show 0 ≤ (v 6).toInt by first | omega | assumption), (show (v 6).toInt ≤ 24 by first | omega | assumption), iv6_2⟩, by rw [ht]; exact hP, hD⟩, hS.F ht⟩) hS.2.2 dX11_stung_40
      ·
        have kc_29 : p2.toInt ≤ (24 : Int) := i_nlt c_29
        refine lv_aload_n hx hb dX11_stung_17 rfl (lv_at hl 0 rfl) ?_
        refine gf_main_parish hx hb hg hown hK hP rfl (hg _ q2_123) dX11_stung_18 ?_
        refine lv_iload_n hx hb dX11_stung_21 rfl (lv_at hl 3 rfl) ?_
        refine cV_ro (As := [.int p3]) (rest := []) ⟨hx, hb, hml, hown, hg⟩ (k_X9_has l D cs A ad fa fq rv v a w fv fp  p3 (show 0 ≤ (v 1).toInt by first | omega | decide) (show (v 1).toInt ≤ 8 by first | omega | decide)) ca_X9_has q3_4 ⟨rfl, rfl⟩ ⟨Nat.le_of_ble_eq_true rfl, Nat.le_of_ble_eq_true rfl⟩ (rc_parish hK hP) hK hP hD hS hZ rfl hl.1 rfl (Nat.le_of_ble_eq_true rfl) ⟨Nat.zero_le _, Nat.zero_le _⟩ dX11_stung_22 (fun r_30 wr_30 => ?_)
        have wr_30_0 : (r_30.toInt = 1 ∧ 0 ≤ p3.toInt ∧ p3.toInt < (v 1).toInt) ∨ (r_30.toInt = 0 ∧ ¬ (0 ≤ p3.toInt ∧ p3.toInt < (v 1).toInt)) := wr_30
        refine lv_if_eq (tgt := 39) hx hb dX11_stung_25 (by decide) (fun c_31 => ?_) (fun c_31 => ?_)
        ·
          have kc_31 : r_30.toInt = (0 : Int) := i_eq c_31
          refine lv_iconst (v := (-1)) hx hb dX11_stung_39 (by decide) ?_
          have q0_m1 : ((-1) : Int32).toInt = (-1) := rfl
          have hP : va_P D vwCl (CW cs ad fa fq rv (va_up v 6 (v 6)) (va_up (va_up (va_up a 20 (a 20)) 17 (a 17)) 16 (a 16)) w (va_up fv 15 (fv 15)) (va_up fp 15 (fp 15))) _ := hP
          have hD : va_D A (CW cs ad fa fq rv (va_up v 6 (v 6)) (va_up (va_up (va_up a 20 (a 20)) 17 (a 17)) 16 (a 16)) w (va_up fv 15 (fv 15)) (va_up fp 15 (fp 15))) := hD
          exact W.iret (v := (-1)) hx hb hr (fun tt ht hW => ⟨⟨(-1), ⟨(v 6), (a 20), (a 17), (a 16), (fv 15), (fp 15)⟩, rfl, ⟨(show 0 ≤ (v 6).toInt by first | omega | assumption), (show (v 6).toInt ≤ 24 by first | omega | assumption), iv6_2⟩, by rw [ht]; exact hP, hD⟩, hS.F ht⟩) hS.2.2 dX11_stung_40
        ·
          have kc_31 : r_30.toInt ≠ (0 : Int) := i_ne c_31
          refine lv_iload hx hb dX11_stung_28 (lv_at hl 4 rfl) ?_
          refine lv_if_lt (tgt := 39) hx hb dX11_stung_30 (by decide) (fun c_32 => ?_) (fun c_32 => ?_)
          ·
            have kc_32 : p4.toInt < (0 : Int) := i_lt c_32
            refine lv_iconst (v := (-1)) hx hb dX11_stung_39 (by decide) ?_
            have q0_m1 : ((-1) : Int32).toInt = (-1) := rfl
            have hP : va_P D vwCl (CW cs ad fa fq rv (va_up v 6 (v 6)) (va_up (va_up (va_up a 20 (a 20)) 17 (a 17)) 16 (a 16)) w (va_up fv 15 (fv 15)) (va_up fp 15 (fp 15))) _ := hP
            have hD : va_D A (CW cs ad fa fq rv (va_up v 6 (v 6)) (va_up (va_up (va_up a 20 (a 20)) 17 (a 17)) 16 (a 16)) w (va_up fv 15 (fv 15)) (va_up fp 15 (fp 15))) := hD
            exact W.iret (v := (-1)) hx hb hr (fun tt ht hW => ⟨⟨(-1), ⟨(v 6), (a 20), (a 17), (a 16), (fv 15), (fp 15)⟩, rfl, ⟨(show 0 ≤ (v 6).toInt by first | omega | assumption), (show (v 6).toInt ≤ 24 by first | omega | assumption), iv6_2⟩, by rw [ht]; exact hP, hD⟩, hS.F ht⟩) hS.2.2 dX11_stung_40
          ·
            have kc_32 : (0 : Int) ≤ p4.toInt := i_nlt c_32
            refine lv_iload hx hb dX11_stung_33 (lv_at hl 4 rfl) ?_
            refine lv_iconst (v := 2) hx hb dX11_stung_35 (by decide) ?_
            refine lv_icmp_le (tgt := 41) hx hb dX11_stung_36 (by decide) (fun c_33 => ?_) (fun c_33 => ?_)
            ·
              have kc_33 : p4.toInt ≤ (2 : Int) := i_le c_33
              refine lv_aload_n hx hb dX11_stung_41 rfl (lv_at hl 0 rfl) ?_
              refine lv_iload_n hx hb dX11_stung_42 rfl (lv_at hl 1 rfl) ?_
              refine cV_i (As := [.int p1]) (rest := []) ⟨hx, hb, hml, hown, hg⟩ (k_X11_openDay l D cs A ad fa fq rv v a w fv fp  p1 (show 0 ≤ p1.toInt by first | omega | decide) (show p1.toInt < 6 by first | omega | decide) ia28_0 (show 0 ≤ (v 1).toInt by first | omega | decide) (show (v 1).toInt ≤ 8 by first | omega | decide) (show 0 ≤ (v 6).toInt by first | omega | decide) (show (v 6).toInt ≤ 24 by first | omega | decide) iv6_2 ia29_0) ca_X11_openDay q3_147 ⟨rfl, rfl⟩ ⟨Nat.le_of_ble_eq_true rfl, Nat.le_of_ble_eq_true rfl⟩ (rc_main hK hP) hK hP hD hS hZ rfl hl.1 rfl (Nat.le_of_ble_eq_true rfl) ⟨Nat.zero_le _, Nat.zero_le _⟩ dX11_stung_43 (fun r_34 z_37 H locs wr_34 hP hD hS => ?_)
              obtain ⟨o_v6_35, o_a20_36⟩ := z_37
              have hP : va_P D vwCl (CW cs ad fa fq rv (va_up v 6 o_v6_35) (va_up a 20 o_a20_36) w fv fp) H := hP
              have hD : va_D A (CW cs ad fa fq rv (va_up v 6 o_v6_35) (va_up a 20 o_a20_36) w fv fp) := hD
              obtain ⟨wr_34_0, wr_34_1, wr_34_2, wr_34_3⟩ : (r_34.toInt = 0 ∨ r_34.toInt = -11 ∨ r_34.toInt = -12) ∧ (0 ≤ o_v6_35.toInt) ∧ (o_v6_35.toInt ≤ 24) ∧ (DOK o_v6_35 o_a20_36 (v 1)) := wr_34
              refine lv_istore (lv' := [(5, .int r_34), (0, .ref (ad 0)), (1, .int p1), (2, .int p2), (3, .int p3), (4, .int p4)]) hx hb dX11_stung_46 hl (by decide) rfl (fun ls hl => ?_)
              refine lv_iload hx hb dX11_stung_48 (lv_at hl 0 rfl) ?_
              refine lv_if_ge (tgt := 56) hx hb dX11_stung_50 (by decide) (fun c_38 => ?_) (fun c_38 => ?_)
              ·
                have kc_38 : (0 : Int) ≤ r_34.toInt := i_le c_38
                refine lv_aload_n hx hb dX11_stung_56 rfl (lv_at hl 1 rfl) ?_
                refine gf_main_thought hx hb hg hown hK hP rfl (hg _ q2_126) dX11_stung_57 ?_
                refine lv_aload_n hx hb dX11_stung_60 rfl (lv_at hl 1 rfl) ?_
                refine gf_main_deed hx hb hg hown hK hP rfl (hg _ q2_125) dX11_stung_61 ?_
                refine cV_v (As := [.ref (fa 14)]) (rest := []) ⟨hx, hb, hml, hown, hg⟩ (k_X3_begin l D cs A ad fa fq rv (va_up v 6 o_v6_35) (va_up a 20 o_a20_36) w fv fp 15 14  (by omega) (by omega) (by omega) (show 0 ≤ (v 1).toInt by first | omega | decide) (show (v 1).toInt ≤ 8 by first | omega | decide) (show (fv 14 2).toInt = -2 ∨ (0 ≤ (fv 14 2).toInt ∧ (fv 14 2).toInt < (v 1).toInt) by first | omega | decide)) ca_X3_begin q3_117 ⟨rfl, rfl⟩ ⟨Nat.le_of_ble_eq_true rfl, Nat.le_of_ble_eq_true rfl⟩ (rc_fl (f := 15) (by decide) hK hP) hK hP hD hS hZ rfl hl.1 rfl (Nat.le_of_ble_eq_true rfl) ⟨Nat.zero_le _, Nat.zero_le _⟩ dX11_stung_64 (fun z_42 H locs wr_39 hP hD hS => ?_)
                obtain ⟨o_fvf_40, o_fpf_41⟩ := z_42
                have hP : va_P D vwCl (CW cs ad fa fq rv (va_up v 6 o_v6_35) (va_up a 20 o_a20_36) w (va_up fv 15 o_fvf_40) (va_up fp 15 o_fpf_41)) H := hP
                have hD : va_D A (CW cs ad fa fq rv (va_up v 6 o_v6_35) (va_up a 20 o_a20_36) w (va_up fv 15 o_fvf_40) (va_up fp 15 o_fpf_41)) := hD
                obtain ⟨wr_39_0, wr_39_1, wr_39_2, wr_39_3, wr_39_4, wr_39_5, wr_39_6, wr_39_7, wr_39_8⟩ : (o_fvf_40 0 = (fv 14 0)) ∧ (o_fvf_40 1 = (fv 14 1)) ∧ (o_fvf_40 2 = (fv 14 2)) ∧ (o_fvf_40 3 = 0) ∧ (o_fvf_40 4 = 0) ∧ (o_fvf_40 5 = 0) ∧ (o_fvf_40 6 = 0) ∧ (o_fvf_40 7 = 0) ∧ ((o_fvf_40 2).toInt = -2 ∨ (0 ≤ (o_fvf_40 2).toInt ∧ (o_fvf_40 2).toInt < (v 1).toInt)) := wr_39
                refine lv_iconst (v := 0) hx hb dX11_stung_67 (by decide) ?_
                refine lv_istore (lv' := [(6, .int 0), (5, .int r_34), (0, .ref (ad 0)), (1, .int p1), (2, .int p2), (3, .int p3), (4, .int p4)]) hx hb dX11_stung_68 hl (by decide) rfl (fun ls hl => ?_)
                refine lv_iconst (v := 0) hx hb dX11_stung_70 (by decide) ?_
                refine lv_istore (lv' := [(7, .int 0), (6, .int 0), (5, .int r_34), (0, .ref (ad 0)), (1, .int p1), (2, .int p2), (3, .int p3), (4, .int p4)]) hx hb dX11_stung_71 hl (by decide) rfl (fun ls hl => ?_)
                refine lv_bipush (v := (-2)) hx hb dX11_stung_73 (by decide) ?_
                refine lv_istore (lv' := [(8, .int (-2)), (7, .int 0), (6, .int 0), (5, .int r_34), (0, .ref (ad 0)), (1, .int p1), (2, .int p2), (3, .int p3), (4, .int p4)]) hx hb dX11_stung_75 hl (by decide) rfl (fun ls hl => ?_)
                refine lv_iconst (v := 0) hx hb dX11_stung_77 (by decide) ?_
                refine lv_istore (lv' := [(9, .int 0), (8, .int (-2)), (7, .int 0), (6, .int 0), (5, .int r_34), (0, .ref (ad 0)), (1, .int p1), (2, .int p2), (3, .int p3), (4, .int p4)]) hx hb dX11_stung_78 hl (by decide) rfl (fun ls hl => ?_)
                have q0_m2 : ((-2) : Int32).toInt = (-2) := rfl
                have q0_0 : (0 : Int32).toInt = 0 := rfl
                exact (hcut (((o_v6_35.toInt - (0 : Int32).toInt).toNat) + 1)) 0 0 (-2) 0 (a 17) (a 16) o_fvf_40 o_fpf_41 o_v6_35 o_a20_36 _ _ (by omega) (show (o_fvf_40 2).toInt = -2 ∨ (0 ≤ (o_fvf_40 2).toInt ∧ (o_fvf_40 2).toInt < (v 1).toInt) by first | omega | assumption) (show 0 ≤ o_v6_35.toInt by first | omega | assumption) (show o_v6_35.toInt ≤ 24 by first | omega | assumption) wr_34_3 (Nat.lt_succ_self _) hP hD hS ls (lv_sub hl [5, 7, 8, 9, 3, 2, 1, 0] rfl)
              ·
                have kc_38 : r_34.toInt < (0 : Int) := i_nle c_38
                refine lv_iload hx hb dX11_stung_53 (lv_at hl 0 rfl) ?_
                have hP : va_P D vwCl (CW cs ad fa fq rv (va_up v 6 o_v6_35) (va_up (va_up (va_up a 20 o_a20_36) 17 (a 17)) 16 (a 16)) w (va_up fv 15 (fv 15)) (va_up fp 15 (fp 15))) _ := hP
                have hD : va_D A (CW cs ad fa fq rv (va_up v 6 o_v6_35) (va_up (va_up (va_up a 20 o_a20_36) 17 (a 17)) 16 (a 16)) w (va_up fv 15 (fv 15)) (va_up fp 15 (fp 15))) := hD
                exact W.iret (v := r_34) hx hb hr (fun tt ht hW => ⟨⟨r_34, ⟨o_v6_35, o_a20_36, (a 17), (a 16), (fv 15), (fp 15)⟩, rfl, ⟨(show 0 ≤ o_v6_35.toInt by first | omega | assumption), (show o_v6_35.toInt ≤ 24 by first | omega | assumption), wr_34_3⟩, by rw [ht]; exact hP, hD⟩, hS.F ht⟩) hS.2.2 dX11_stung_55
            ·
              have kc_33 : (2 : Int) < p4.toInt := i_nle c_33
              refine lv_iconst (v := (-1)) hx hb dX11_stung_39 (by decide) ?_
              have q0_m1 : ((-1) : Int32).toInt = (-1) := rfl
              have hP : va_P D vwCl (CW cs ad fa fq rv (va_up v 6 (v 6)) (va_up (va_up (va_up a 20 (a 20)) 17 (a 17)) 16 (a 16)) w (va_up fv 15 (fv 15)) (va_up fp 15 (fp 15))) _ := hP
              have hD : va_D A (CW cs ad fa fq rv (va_up v 6 (v 6)) (va_up (va_up (va_up a 20 (a 20)) 17 (a 17)) 16 (a 16)) w (va_up fv 15 (fv 15)) (va_up fp 15 (fp 15))) := hD
              exact W.iret (v := (-1)) hx hb hr (fun tt ht hW => ⟨⟨(-1), ⟨(v 6), (a 20), (a 17), (a 16), (fv 15), (fp 15)⟩, rfl, ⟨(show 0 ≤ (v 6).toInt by first | omega | assumption), (show (v 6).toInt ≤ 24 by first | omega | assumption), iv6_2⟩, by rw [ht]; exact hP, hD⟩, hS.F ht⟩) hS.2.2 dX11_stung_40
set_option maxHeartbeats 4000000 in
set_option maxRecDepth 100000 in
theorem k_X11_reach (l : Launch) (D : va_G) (cs : Nat → ClassId) (A : Nat → Prop) (ad fa fq rv : Nat → Nat) (v : Nat → Int32) (a : Nat → Nat → Int32) (w : Nat → Nat → Int64) (fv fp : Nat → Nat → Int32)   (iv1_0 : 0 ≤ (v 1).toInt) (iv1_1 : (v 1).toInt ≤ 8) : Met l yX11_reach (Cond.code yX11_reach cX11_reach 1 (some .int) :: gw) ({ frames := 2, cells := 0, slots := 0, locals := 46 }) (va_Pc [.ref (ad 0)] (XPre D (TY cs) (CW cs ad fa fq rv v a w fv fp) A)) (vp_Si (fun (r : Int32) => True)) 0 0 (fun _ => False) := by
  refine Met.ofW (cc := cX11_reach) (maxL := 1) (ret := (some .int)) (by decide) rfl ?_
  intro p e s m args below meth c s₁ B hml hv
  obtain ⟨rfl, hP, hK, hD, hZ⟩ := hv
  have hx := B.exec
  have hb := B.bytes
  have hr := B.returns
  have hts := atoms_spec (ws := (Cond.code yX11_reach cX11_reach 1 (some .int) :: gw)) B.pre
  have hg : ∀ w ∈ gw, w.before ([.ref (ad 0)] : List Value).toArray s = true := fun w h => hts w (List.mem_cons_of_mem _ h)
  have hown : s.vm.findClass RX11 = some m.cls := findClass_of_methodNamed B.named
  have hlocks := B.notSynchronized
  have hS : va_S A s.heap s.heap [] := va_S.rf
  have hl := lv_entry ([.ref (ad 0)]) (n := 1) (Nat.le_of_ble_eq_true rfl)
  rw [lg_entry_eq]
  generalize (lg_sl ([.ref (ad 0)]) ++ List.replicate (1 - (lg_sl ([.ref (ad 0)])).length) Slot.unset).toArray = ls at hl ⊢
  have hl : lv_has ls 1 [(0, .ref (ad 0))] := hl
  refine lv_aload_n hx hb dX11_reach_0 rfl (lv_at hl 0 rfl) ?_
  refine gf_main_parish hx hb hg hown hK hP rfl (hg _ q2_123) dX11_reach_1 ?_
  refine lv_aload_n hx hb dX11_reach_4 rfl (lv_at hl 0 rfl) ?_
  refine gf_main_deed hx hb hg hown hK hP rfl (hg _ q2_125) dX11_reach_5 ?_
  refine gf_fl_swarm (f := 14) (by decide) hx hb hg hown hK hP (x := (fv 14 1)) rfl (hg _ q1_233) dX11_reach_8 ?_
  refine cV_ro (As := [.int (fv 14 1)]) (rest := []) ⟨hx, hb, hml, hown, hg⟩ (k_X9_within l D cs A ad fa fq rv v a w fv fp  (fv 14 1) (show 0 ≤ (v 1).toInt by first | omega | decide) (show (v 1).toInt ≤ 8 by first | omega | decide)) ca_X9_within q3_200 ⟨rfl, rfl⟩ ⟨Nat.le_of_ble_eq_true rfl, Nat.le_of_ble_eq_true rfl⟩ (rc_parish hK hP) hK hP hD hS hZ rfl hl.1 rfl (Nat.le_of_ble_eq_true rfl) ⟨Nat.zero_le _, Nat.zero_le _⟩ dX11_reach_11 (fun r_1 wr_1 => ?_)
  have wr_1_0 : True := wr_1
  exact W.iret (v := r_1) hx hb hr (fun tt ht hW => ⟨r_1, rfl, trivial, ht⟩) (fun _ h => by cases h) dX11_reach_14
set_option maxHeartbeats 4000000 in
set_option maxRecDepth 100000 in
theorem k_X11_soon (l : Launch) (D : va_G) (cs : Nat → ClassId) (A : Nat → Prop) (ad fa fq rv : Nat → Nat) (v : Nat → Int32) (a : Nat → Nat → Int32) (w : Nat → Nat → Int64) (fv fp : Nat → Nat → Int32)  (p1 : Int32) (iv1_0 : 0 ≤ (v 1).toInt) (iv1_1 : (v 1).toInt ≤ 8) (ifv14_0 : (fv 14 2).toInt = -2 ∨ (0 ≤ (fv 14 2).toInt ∧ (fv 14 2).toInt < (v 1).toInt)) (iv5_0 : 0 ≤ (v 5).toInt) (iv5_1 : (v 5).toInt ≤ 256) (ia18_0 : AB (-1000) 20000 (a 18)) : Met l yX11_soon (Cond.code yX11_soon cX11_soon 2 (some .int) :: gw) ({ frames := 5, cells := 0, slots := 0, locals := 114 }) (va_Pc [.ref (ad 0), .int p1] (XPre D (TY cs) (CW cs ad fa fq rv v a w fv fp) A)) (va_Qi (fun (r : Int32) (z : (Nat → Int32) × (Nat → Int32) × (Nat → Int32) × (Nat → Int32)) => True) (XPo D (fun (z : (Nat → Int32) × (Nat → Int32) × (Nat → Int32) × (Nat → Int32)) => CW cs ad fa fq rv v (va_up (va_up a 17 z.1) 16 z.2.1) w (va_up fv 15 z.2.2.1) (va_up fp 15 z.2.2.2)) A) A) 0 0 A := by
  refine Met.ofW (cc := cX11_soon) (maxL := 2) (ret := (some .int)) (by decide) rfl ?_
  intro p e s m args below meth c s₁ B hml hv
  obtain ⟨rfl, hP, hK, hD, hZ⟩ := hv
  have hx := B.exec
  have hb := B.bytes
  have hr := B.returns
  have hts := atoms_spec (ws := (Cond.code yX11_soon cX11_soon 2 (some .int) :: gw)) B.pre
  have hg : ∀ w ∈ gw, w.before ([.ref (ad 0), .int p1] : List Value).toArray s = true := fun w h => hts w (List.mem_cons_of_mem _ h)
  have hown : s.vm.findClass RX11 = some m.cls := findClass_of_methodNamed B.named
  have hlocks := B.notSynchronized
  have hS : va_S A s.heap s.heap [] := va_S.rf
  have hP : va_P D vwCl (CW cs ad fa fq rv v a w fv fp) s.heap := hP
  have hl := lv_entry ([.ref (ad 0), .int p1]) (n := 2) (Nat.le_of_ble_eq_true rfl)
  rw [lg_entry_eq]
  generalize (lg_sl ([.ref (ad 0), .int p1]) ++ List.replicate (2 - (lg_sl ([.ref (ad 0), .int p1])).length) Slot.unset).toArray = ls at hl ⊢
  have hl : lv_has ls 2 [(0, .ref (ad 0)), (1, .int p1)] := hl
  refine lv_aload_n hx hb dX11_soon_0 rfl (lv_at hl 0 rfl) ?_
  refine gf_main_parish hx hb hg hown hK hP rfl (hg _ q2_123) dX11_soon_1 ?_
  refine lv_iload_n hx hb dX11_soon_4 rfl (lv_at hl 1 rfl) ?_
  refine cV_ro (As := [.int p1]) (rest := []) ⟨hx, hb, hml, hown, hg⟩ (k_X9_has l D cs A ad fa fq rv v a w fv fp  p1 (show 0 ≤ (v 1).toInt by first | omega | decide) (show (v 1).toInt ≤ 8 by first | omega | decide)) ca_X9_has q3_4 ⟨rfl, rfl⟩ ⟨Nat.le_of_ble_eq_true rfl, Nat.le_of_ble_eq_true rfl⟩ (rc_parish hK hP) hK hP hD hS hZ rfl hl.1 rfl (Nat.le_of_ble_eq_true rfl) ⟨Nat.zero_le _, Nat.zero_le _⟩ dX11_soon_5 (fun r_1 wr_1 => ?_)
  have wr_1_0 : (r_1.toInt = 1 ∧ 0 ≤ p1.toInt ∧ p1.toInt < (v 1).toInt) ∨ (r_1.toInt = 0 ∧ ¬ (0 ≤ p1.toInt ∧ p1.toInt < (v 1).toInt)) := wr_1
  refine lv_if_ne (tgt := 13) hx hb dX11_soon_8 (by decide) (fun c_2 => ?_) (fun c_2 => ?_)
  ·
    have kc_2 : r_1.toInt ≠ (0 : Int) := i_ne c_2
    refine lv_aload_n hx hb dX11_soon_13 rfl (lv_at hl 0 rfl) ?_
    refine gf_main_thought hx hb hg hown hK hP rfl (hg _ q2_126) dX11_soon_14 ?_
    refine lv_aload_n hx hb dX11_soon_17 rfl (lv_at hl 0 rfl) ?_
    refine gf_main_deed hx hb hg hown hK hP rfl (hg _ q2_125) dX11_soon_18 ?_
    refine cV_v (As := [.ref (fa 14)]) (rest := []) ⟨hx, hb, hml, hown, hg⟩ (k_X3_begin l D cs A ad fa fq rv v a w fv fp 15 14  (by omega) (by omega) (by omega) (show 0 ≤ (v 1).toInt by first | omega | decide) (show (v 1).toInt ≤ 8 by first | omega | decide) (show (fv 14 2).toInt = -2 ∨ (0 ≤ (fv 14 2).toInt ∧ (fv 14 2).toInt < (v 1).toInt) by first | omega | decide)) ca_X3_begin q3_117 ⟨rfl, rfl⟩ ⟨Nat.le_of_ble_eq_true rfl, Nat.le_of_ble_eq_true rfl⟩ (rc_fl (f := 15) (by decide) hK hP) hK hP hD hS hZ rfl hl.1 rfl (Nat.le_of_ble_eq_true rfl) ⟨Nat.zero_le _, Nat.zero_le _⟩ dX11_soon_21 (fun z_6 H locs wr_3 hP hD hS => ?_)
    obtain ⟨o_fvf_4, o_fpf_5⟩ := z_6
    have hP : va_P D vwCl (CW cs ad fa fq rv v a w (va_up fv 15 o_fvf_4) (va_up fp 15 o_fpf_5)) H := hP
    have hD : va_D A (CW cs ad fa fq rv v a w (va_up fv 15 o_fvf_4) (va_up fp 15 o_fpf_5)) := hD
    obtain ⟨wr_3_0, wr_3_1, wr_3_2, wr_3_3, wr_3_4, wr_3_5, wr_3_6, wr_3_7, wr_3_8⟩ : (o_fvf_4 0 = (fv 14 0)) ∧ (o_fvf_4 1 = (fv 14 1)) ∧ (o_fvf_4 2 = (fv 14 2)) ∧ (o_fvf_4 3 = 0) ∧ (o_fvf_4 4 = 0) ∧ (o_fvf_4 5 = 0) ∧ (o_fvf_4 6 = 0) ∧ (o_fvf_4 7 = 0) ∧ ((o_fvf_4 2).toInt = -2 ∨ (0 ≤ (o_fvf_4 2).toInt ∧ (o_fvf_4 2).toInt < (v 1).toInt)) := wr_3
    refine lv_aload_n hx hb dX11_soon_24 rfl (lv_at hl 0 rfl) ?_
    refine gf_main_rules hx hb hg hown hK hP rfl (hg _ q2_124) dX11_soon_25 ?_
    refine lv_aload_n hx hb dX11_soon_28 rfl (lv_at hl 0 rfl) ?_
    refine gf_main_thought hx hb hg hown hK hP rfl (hg _ q2_126) dX11_soon_29 ?_
    refine lv_iload_n hx hb dX11_soon_32 rfl (lv_at hl 1 rfl) ?_
    refine cV_i (As := [.ref (fa 15), .int p1]) (rest := []) ⟨hx, hb, hml, hown, hg⟩ (k_X6_loudness l D cs A ad fa fq rv v a w (va_up fv 15 o_fvf_4) (va_up fp 15 o_fpf_5) 15 p1 (by omega) (show 0 ≤ p1.toInt by first | omega | decide) (show p1.toInt < 8 by first | omega | decide) (show 0 ≤ (v 5).toInt by first | omega | decide) (show (v 5).toInt ≤ 256 by first | omega | decide) ia18_0) ca_X6_loudness q3_127 ⟨rfl, rfl⟩ ⟨Nat.le_of_ble_eq_true rfl, Nat.le_of_ble_eq_true rfl⟩ (rc_rules hK hP) hK hP hD hS hZ rfl hl.1 rfl (Nat.le_of_ble_eq_true rfl) ⟨Nat.zero_le _, Nat.zero_le _⟩ dX11_soon_33 (fun r_7 z_10 H locs wr_7 hP hD hS => ?_)
    obtain ⟨o_a17_8, o_a16_9⟩ := z_10
    have hP : va_P D vwCl (CW cs ad fa fq rv v (va_up (va_up a 17 o_a17_8) 16 o_a16_9) w (va_up fv 15 o_fvf_4) (va_up fp 15 o_fpf_5)) H := hP
    have hD : va_D A (CW cs ad fa fq rv v (va_up (va_up a 17 o_a17_8) 16 o_a16_9) w (va_up fv 15 o_fvf_4) (va_up fp 15 o_fpf_5)) := hD
    obtain ⟨wr_7_0, wr_7_1⟩ : (0 ≤ r_7.toInt) ∧ (r_7.toInt ≤ 99) := wr_7
    refine lv_if_le (tgt := 50) hx hb dX11_soon_36 (by decide) (fun c_11 => ?_) (fun c_11 => ?_)
    ·
      have kc_11 : r_7.toInt ≤ (0 : Int) := i_le c_11
      refine lv_bipush (v := (-2)) hx hb dX11_soon_50 (by decide) ?_
      have q0_m2 : ((-2) : Int32).toInt = (-2) := rfl
      exact W.iret (v := (-2)) hx hb hr (fun tt ht hW => ⟨⟨(-2), ⟨o_a17_8, o_a16_9, o_fvf_4, o_fpf_5⟩, rfl, trivial, by rw [ht]; exact hP, hD⟩, hS.F ht⟩) hS.2.2 dX11_soon_52
    ·
      have kc_11 : (0 : Int) < r_7.toInt := i_nle c_11
      refine lv_aload_n hx hb dX11_soon_39 rfl (lv_at hl 0 rfl) ?_
      refine gf_main_thought hx hb hg hown hK hP rfl (hg _ q2_126) dX11_soon_40 ?_
      refine lv_iload_n hx hb dX11_soon_43 rfl (lv_at hl 1 rfl) ?_
      refine cS_i (As := [.ref (fa 15), .int p1]) (rest := []) ⟨hx, hb, hml, hown, hg⟩ (k_X11_stungBehind l D cs A ad fa fq rv v (va_up (va_up a 17 o_a17_8) 16 o_a16_9) w (va_up fv 15 o_fvf_4) (va_up fp 15 o_fpf_5) 15 p1 (by omega) (show 0 ≤ p1.toInt by first | omega | decide) (show p1.toInt < (v 1).toInt by first | omega | decide) (show 0 ≤ (v 1).toInt by first | omega | decide) (show (v 1).toInt ≤ 8 by first | omega | decide) (show (o_fvf_4 2).toInt = -2 ∨ (0 ≤ (o_fvf_4 2).toInt ∧ (o_fvf_4 2).toInt < (v 1).toInt) by first | omega | decide) (show 0 ≤ (v 5).toInt by first | omega | decide) (show (v 5).toInt ≤ 256 by first | omega | decide) ia18_0) ca_X11_stungBehind q3_205 ⟨rfl, rfl⟩ ⟨Nat.le_of_ble_eq_true rfl, Nat.le_of_ble_eq_true rfl⟩  hK hP hD hS hZ rfl hl.1 rfl (Nat.le_of_ble_eq_true rfl) ⟨Nat.zero_le _, Nat.zero_le _⟩ dX11_soon_44 (fun r_12 z_17 H locs wr_12 hP hD hS => ?_)
      obtain ⟨o_fvf_13, o_fpf_14, o_a17_15, o_a16_16⟩ := z_17
      have hP : va_P D vwCl (CW cs ad fa fq rv v (va_up (va_up a 17 o_a17_15) 16 o_a16_16) w (va_up fv 15 o_fvf_13) (va_up fp 15 o_fpf_14)) H := hP
      have hD : va_D A (CW cs ad fa fq rv v (va_up (va_up a 17 o_a17_15) 16 o_a16_16) w (va_up fv 15 o_fvf_13) (va_up fp 15 o_fpf_14)) := hD
      obtain ⟨wr_12_0, wr_12_1, wr_12_2⟩ : (-2 ≤ r_12.toInt) ∧ (r_12.toInt ≤ 24) ∧ ((o_fvf_13 2).toInt = -2 ∨ (0 ≤ (o_fvf_13 2).toInt ∧ (o_fvf_13 2).toInt < (v 1).toInt)) := wr_12
      refine lv_goto (tgt := 52) hx hb dX11_soon_47 (by decide) ?_
      exact W.iret (v := r_12) hx hb hr (fun tt ht hW => ⟨⟨r_12, ⟨o_a17_15, o_a16_16, o_fvf_13, o_fpf_14⟩, rfl, trivial, by rw [ht]; exact hP, hD⟩, hS.F ht⟩) hS.2.2 dX11_soon_52
  ·
    have kc_2 : r_1.toInt = (0 : Int) := i_eq c_2
    refine lv_iconst (v := (-1)) hx hb dX11_soon_11 (by decide) ?_
    have q0_m1 : ((-1) : Int32).toInt = (-1) := rfl
    have hP : va_P D vwCl (CW cs ad fa fq rv v (va_up (va_up a 17 (a 17)) 16 (a 16)) w (va_up fv 15 (fv 15)) (va_up fp 15 (fp 15))) _ := hP
    have hD : va_D A (CW cs ad fa fq rv v (va_up (va_up a 17 (a 17)) 16 (a 16)) w (va_up fv 15 (fv 15)) (va_up fp 15 (fp 15))) := hD
    exact W.iret (v := (-1)) hx hb hr (fun tt ht hW => ⟨⟨(-1), ⟨(a 17), (a 16), (fv 15), (fp 15)⟩, rfl, trivial, by rw [ht]; exact hP, hD⟩, hS.F ht⟩) hS.2.2 dX11_soon_12
set_option maxHeartbeats 4000000 in
set_option maxRecDepth 100000 in
theorem k_X11_passOn (l : Launch) (D : va_G) (cs : Nat → ClassId) (A : Nat → Prop) (ad fa fq rv : Nat → Nat) (v : Nat → Int32) (a : Nat → Nat → Int32) (w : Nat → Nat → Int64) (fv fp : Nat → Nat → Int32)  (p1 : Int32) (p2 : Int32) (p3 : Int32) (iv1_0 : 0 ≤ (v 1).toInt) (iv1_1 : (v 1).toInt ≤ 8) (iv5_0 : 0 ≤ (v 5).toInt) (iv5_1 : (v 5).toInt ≤ 256) (ia18_0 : AB (-1000) 20000 (a 18)) (ia28_0 : AB (-1) 5 (a 28)) (iv6_0 : 0 ≤ (v 6).toInt) (iv6_1 : (v 6).toInt ≤ 24) (iv6_2 : DOK (v 6) (a 20) (v 1)) (ia29_0 : AB (-1) 60 (a 29)) (ifv14_0 : (fv 14 2).toInt = -2 ∨ (0 ≤ (fv 14 2).toInt ∧ (fv 14 2).toInt < (v 1).toInt)) : Met l yX11_passOn (Cond.code yX11_passOn cX11_passOn 9 (some .int) :: gw) ({ frames := 5, cells := 0, slots := 0, locals := 127 }) (va_Pc [.ref (ad 0), .int p1, .int p2, .int p3] (XPre D (TY cs) (CW cs ad fa fq rv v a w fv fp) A)) (va_Qi (fun (r : Int32) (z : Int32 × (Nat → Int32) × (Nat → Int32) × (Nat → Int32) × (Nat → Int32) × (Nat → Int32) × (Nat → Int32) × (Nat → Int32)) => (0 ≤ z.1.toInt) ∧ (z.1.toInt ≤ 24) ∧ (DOK z.1 z.2.1 (v 1))) (XPo D (fun (z : Int32 × (Nat → Int32) × (Nat → Int32) × (Nat → Int32) × (Nat → Int32) × (Nat → Int32) × (Nat → Int32) × (Nat → Int32)) => CW cs ad fa fq rv (va_up v 6 z.1) (va_up (va_up (va_up a 20 z.2.1) 17 z.2.2.1) 16 z.2.2.2.1) w (va_up (va_up fv 16 z.2.2.2.2.1) 15 z.2.2.2.2.2.1) (va_up (va_up fp 16 z.2.2.2.2.2.2.1) 15 z.2.2.2.2.2.2.2)) A) A) 0 0 A := by
  refine Met.ofW (cc := cX11_passOn) (maxL := 9) (ret := (some .int)) (by decide) rfl ?_
  intro p e s m args below meth c s₁ B hml hv
  obtain ⟨rfl, hP, hK, hD, hZ⟩ := hv
  have hx := B.exec
  have hb := B.bytes
  have hr := B.returns
  have hts := atoms_spec (ws := (Cond.code yX11_passOn cX11_passOn 9 (some .int) :: gw)) B.pre
  have hg : ∀ w ∈ gw, w.before ([.ref (ad 0), .int p1, .int p2, .int p3] : List Value).toArray s = true := fun w h => hts w (List.mem_cons_of_mem _ h)
  have hown : s.vm.findClass RX11 = some m.cls := findClass_of_methodNamed B.named
  have hlocks := B.notSynchronized
  have hS : va_S A s.heap s.heap [] := va_S.rf
  have hP : va_P D vwCl (CW cs ad fa fq rv v a w fv fp) s.heap := hP
  have hl := lv_entry ([.ref (ad 0), .int p1, .int p2, .int p3]) (n := 9) (Nat.le_of_ble_eq_true rfl)
  rw [lg_entry_eq]
  generalize (lg_sl ([.ref (ad 0), .int p1, .int p2, .int p3]) ++ List.replicate (9 - (lg_sl ([.ref (ad 0), .int p1, .int p2, .int p3])).length) Slot.unset).toArray = ls at hl ⊢
  have hl : lv_has ls 9 [(0, .ref (ad 0)), (1, .int p1), (2, .int p2), (3, .int p3)] := hl
  have hcut : ∀ nk : Nat, (∀ (x5 : Int32) (x6 : Int32) (x7 : Int32) (c62_a17 : Nat → Int32) (c62_a16 : Nat → Int32) (c62_fv16 : Nat → Int32) (c62_fp16 : Nat → Int32) (c62_v6 : Int32) (c62_a20 : Nat → Int32) (c62_fv15 : Nat → Int32) (c62_fp15 : Nat → Int32) (H : Heap) (locs : List Loc) (i7 : 0 ≤ x7.toInt) (jv6_0 : 0 ≤ c62_v6.toInt) (jv6_1 : c62_v6.toInt ≤ 24) (jv6_2 : DOK c62_v6 c62_a20 (v 1)) (jfv15_0 : (c62_fv15 2).toInt = -2 ∨ (0 ≤ (c62_fv15 2).toInt ∧ (c62_fv15 2).toInt < (v 1).toInt)) (hmu : ((v 1).toInt - x7.toInt).toNat < nk) (hP : va_P D vwCl (CW cs ad fa fq rv (va_up v 6 c62_v6) (va_up (va_up (va_up a 17 c62_a17) 16 c62_a16) 20 c62_a20) w (va_up (va_up fv 16 c62_fv16) 15 c62_fv15) (va_up (va_up fp 16 c62_fp16) 15 c62_fp15)) H) (hD : va_D A (CW cs ad fa fq rv (va_up v 6 c62_v6) (va_up (va_up (va_up a 17 c62_a17) 16 c62_a16) 20 c62_a20) w (va_up (va_up fv 16 c62_fv16) 15 c62_fv15) (va_up (va_up fp 16 c62_fp16) 15 c62_fp15))) (hS : va_S A s.heap H locs) (ls : Array Slot) (hl : lv_has ls 9 [(0, .ref (ad 0)), (2, .int p2), (3, .int p3), (5, .int x5), (6, .int x6), (7, .int x7)]), W p l e (headSpec (Cond.code yX11_passOn cX11_passOn 9 (some .int) :: gw) ({ frames := 5, cells := 0, slots := 0, locals := 127 })).room s m ([.ref (ad 0), .int p1, .int p2, .int p3] : List Value).toArray below meth c H locs 0 0 (MQ below (va_Qi (fun (r : Int32) (z : Int32 × (Nat → Int32) × (Nat → Int32) × (Nat → Int32) × (Nat → Int32) × (Nat → Int32) × (Nat → Int32) × (Nat → Int32)) => (0 ≤ z.1.toInt) ∧ (z.1.toInt ≤ 24) ∧ (DOK z.1 z.2.1 (v 1))) (XPo D (fun (z : Int32 × (Nat → Int32) × (Nat → Int32) × (Nat → Int32) × (Nat → Int32) × (Nat → Int32) × (Nat → Int32) × (Nat → Int32)) => CW cs ad fa fq rv (va_up v 6 z.1) (va_up (va_up (va_up a 20 z.2.1) 17 z.2.2.1) 16 z.2.2.2.1) w (va_up (va_up fv 16 z.2.2.2.2.1) 15 z.2.2.2.2.2.1) (va_up (va_up fp 16 z.2.2.2.2.2.2.1) 15 z.2.2.2.2.2.2.2)) A) A) ([.ref (ad 0), .int p1, .int p2, .int p3] : List Value).toArray s 0 0 A) (F0 m 62 ls [])) := by
    intro nk
    induction nk with
    | zero => exact (fun x5 x6 x7 c62_a17 c62_a16 c62_fv16 c62_fp16 c62_v6 c62_a20 c62_fv15 c62_fp15 H locs i7 jv6_0 jv6_1 jv6_2 jfv15_0 hmu hP hD hS ls hl => absurd hmu (Nat.not_lt_zero _))
    | succ nk ih =>
      intro x5 x6 x7 c62_a17 c62_a16 c62_fv16 c62_fp16 c62_v6 c62_a20 c62_fv15 c62_fp15 H locs i7 jv6_0 jv6_1 jv6_2 jfv15_0 hmu hP hD hS ls hl
      refine lv_iload hx hb dX11_passOn_62 (lv_at hl 5 rfl) ?_
      refine lv_aload_n hx hb dX11_passOn_64 rfl (lv_at hl 0 rfl) ?_
      refine gf_main_parish hx hb hg hown hK hP rfl (hg _ q2_123) dX11_passOn_65 ?_
      refine gf_parish_people hx hb hg hown hK hP (x := (v 1)) rfl (hg _ q1_109) dX11_passOn_68 ?_
      refine lv_icmp_ge (tgt := 160) hx hb dX11_passOn_71 (by decide) (fun c_1 => ?_) (fun c_1 => ?_)
      ·
        have kc_1 : (v 1).toInt ≤ x7.toInt := i_le c_1
        refine lv_iload_n hx hb dX11_passOn_160 rfl (lv_at hl 2 rfl) ?_
        refine lv_if_ne (tgt := 169) hx hb dX11_passOn_161 (by decide) (fun c_2 => ?_) (fun c_2 => ?_)
        ·
          have kc_2 : p3.toInt ≠ (0 : Int) := i_ne c_2
          refine lv_iload hx hb dX11_passOn_169 (lv_at hl 4 rfl) ?_
          have hP : va_P D vwCl (CW cs ad fa fq rv (va_up v 6 c62_v6) (va_up (va_up (va_up a 20 c62_a20) 17 c62_a17) 16 c62_a16) w (va_up (va_up fv 16 c62_fv16) 15 c62_fv15) (va_up (va_up fp 16 c62_fp16) 15 c62_fp15)) _ := hP
          have hD : va_D A (CW cs ad fa fq rv (va_up v 6 c62_v6) (va_up (va_up (va_up a 20 c62_a20) 17 c62_a17) 16 c62_a16) w (va_up (va_up fv 16 c62_fv16) 15 c62_fv15) (va_up (va_up fp 16 c62_fp16) 15 c62_fp15)) := hD
          exact W.iret (v := x6) hx hb hr (fun tt ht hW => ⟨⟨x6, ⟨c62_v6, c62_a20, c62_a17, c62_a16, c62_fv16, c62_fv15, c62_fp16, c62_fp15⟩, rfl, ⟨(show 0 ≤ c62_v6.toInt by first | omega | assumption), (show c62_v6.toInt ≤ 24 by first | omega | assumption), jv6_2⟩, by rw [ht]; exact hP, hD⟩, hS.F ht⟩) hS.2.2 dX11_passOn_171
        ·
          have kc_2 : p3.toInt = (0 : Int) := i_eq c_2
          refine lv_iload hx hb dX11_passOn_164 (lv_at hl 3 rfl) ?_
          refine lv_goto (tgt := 171) hx hb dX11_passOn_166 (by decide) ?_
          have hP : va_P D vwCl (CW cs ad fa fq rv (va_up v 6 c62_v6) (va_up (va_up (va_up a 20 c62_a20) 17 c62_a17) 16 c62_a16) w (va_up (va_up fv 16 c62_fv16) 15 c62_fv15) (va_up (va_up fp 16 c62_fp16) 15 c62_fp15)) _ := hP
          have hD : va_D A (CW cs ad fa fq rv (va_up v 6 c62_v6) (va_up (va_up (va_up a 20 c62_a20) 17 c62_a17) 16 c62_a16) w (va_up (va_up fv 16 c62_fv16) 15 c62_fv15) (va_up (va_up fp 16 c62_fp16) 15 c62_fp15)) := hD
          exact W.iret (v := x5) hx hb hr (fun tt ht hW => ⟨⟨x5, ⟨c62_v6, c62_a20, c62_a17, c62_a16, c62_fv16, c62_fv15, c62_fp16, c62_fp15⟩, rfl, ⟨(show 0 ≤ c62_v6.toInt by first | omega | assumption), (show c62_v6.toInt ≤ 24 by first | omega | assumption), jv6_2⟩, by rw [ht]; exact hP, hD⟩, hS.F ht⟩) hS.2.2 dX11_passOn_171
      ·
        have kc_1 : x7.toInt < (v 1).toInt := i_nle c_1
        refine lv_iload hx hb dX11_passOn_74 (lv_at hl 5 rfl) ?_
        refine lv_iload_n hx hb dX11_passOn_76 rfl (lv_at hl 1 rfl) ?_
        refine lv_icmp_eq (tgt := 154) hx hb dX11_passOn_77 (by decide) (fun c_3 => ?_) (fun c_3 => ?_)
        ·
          have kc_3 : x7.toInt = p2.toInt := i_eq c_3
          obtain ⟨x_4, ex_4⟩ : ∃ y : Int32, y = x7 + 1 := ⟨_, rfl⟩
          have fx_4 : x_4.toInt = x7.toInt + 1 := by rw [ex_4]; exact i_add (by first | omega | (show (_ : Int) ≤ x7.toInt + 1; omega)) (by first | omega | (show x7.toInt + 1 ≤ (_ : Int); omega))
          refine lv_iinc (v := x_4) (lv' := [(7, .int x_4), (0, .ref (ad 0)), (2, .int p2), (3, .int p3), (5, .int x5), (6, .int x6)]) hx hb dX11_passOn_154 hl (k := 5) rfl (by rw [ex_4]; rfl) (by decide) rfl (fun ls hl => ?_)
          refine lv_goto (tgt := 62) hx hb dX11_passOn_157 (by decide) ?_
          exact ih x5 x6 x_4 c62_a17 c62_a16 c62_fv16 c62_fp16 c62_v6 c62_a20 c62_fv15 c62_fp15 _ _ (by omega) (show 0 ≤ c62_v6.toInt by first | omega | assumption) (show c62_v6.toInt ≤ 24 by first | omega | assumption) jv6_2 (show (c62_fv15 2).toInt = -2 ∨ (0 ≤ (c62_fv15 2).toInt ∧ (c62_fv15 2).toInt < (v 1).toInt) by first | omega | assumption) (by omega) hP hD hS ls (lv_sub hl [1, 2, 3, 4, 5, 0] rfl)
        ·
          have kc_3 : x7.toInt ≠ p2.toInt := i_ne c_3
          refine lv_aload_n hx hb dX11_passOn_80 rfl (lv_at hl 0 rfl) ?_
          refine gf_main_rules hx hb hg hown hK hP rfl (hg _ q2_124) dX11_passOn_81 ?_
          refine lv_aload_n hx hb dX11_passOn_84 rfl (lv_at hl 0 rfl) ?_
          refine gf_main_thought hx hb hg hown hK hP rfl (hg _ q2_126) dX11_passOn_85 ?_
          refine lv_iload hx hb dX11_passOn_88 (lv_at hl 5 rfl) ?_
          refine cV_i (As := [.ref (fa 15), .int x7]) (rest := []) ⟨hx, hb, hml, hown, hg⟩ (k_X6_loudness l D cs A ad fa fq rv (va_up v 6 c62_v6) (va_up (va_up (va_up a 17 c62_a17) 16 c62_a16) 20 c62_a20) w (va_up (va_up fv 16 c62_fv16) 15 c62_fv15) (va_up (va_up fp 16 c62_fp16) 15 c62_fp15) 15 x7 (by omega) (show 0 ≤ x7.toInt by first | omega | decide) (show x7.toInt < 8 by first | omega | decide) (show 0 ≤ (v 5).toInt by first | omega | decide) (show (v 5).toInt ≤ 256 by first | omega | decide) ia18_0) ca_X6_loudness q3_127 ⟨rfl, rfl⟩ ⟨Nat.le_of_ble_eq_true rfl, Nat.le_of_ble_eq_true rfl⟩ (rc_rules hK hP) hK hP hD hS hZ rfl hl.1 rfl (Nat.le_of_ble_eq_true rfl) ⟨Nat.zero_le _, Nat.zero_le _⟩ dX11_passOn_90 (fun r_5 z_8 H locs wr_5 hP hD hS => ?_)
          obtain ⟨o_a17_6, o_a16_7⟩ := z_8
          have hP : va_P D vwCl (CW cs ad fa fq rv (va_up v 6 c62_v6) (va_up (va_up (va_up a 20 c62_a20) 17 o_a17_6) 16 o_a16_7) w (va_up (va_up fv 16 c62_fv16) 15 c62_fv15) (va_up (va_up fp 16 c62_fp16) 15 c62_fp15)) H := hP
          have hD : va_D A (CW cs ad fa fq rv (va_up v 6 c62_v6) (va_up (va_up (va_up a 20 c62_a20) 17 o_a17_6) 16 o_a16_7) w (va_up (va_up fv 16 c62_fv16) 15 c62_fv15) (va_up (va_up fp 16 c62_fp16) 15 c62_fp15)) := hD
          obtain ⟨wr_5_0, wr_5_1⟩ : (0 ≤ r_5.toInt) ∧ (r_5.toInt ≤ 99) := wr_5
          refine lv_if_gt (tgt := 99) hx hb dX11_passOn_93 (by decide) (fun c_9 => ?_) (fun c_9 => ?_)
          ·
            have kc_9 : (0 : Int) < r_5.toInt := i_lt c_9
            refine lv_aload_n hx hb dX11_passOn_99 rfl (lv_at hl 0 rfl) ?_
            refine gf_main_further hx hb hg hown hK hP rfl (hg _ q2_127) dX11_passOn_100 ?_
            refine lv_aload_n hx hb dX11_passOn_103 rfl (lv_at hl 0 rfl) ?_
            refine gf_main_thought hx hb hg hown hK hP rfl (hg _ q2_126) dX11_passOn_104 ?_
            refine lv_bipush (v := 8) hx hb dX11_passOn_107 (by decide) ?_
            refine cV_v (As := [.ref (fa 15), .int 8]) (rest := []) ⟨hx, hb, hml, hown, hg⟩ (k_X3_follow l D cs A ad fa fq rv (va_up v 6 c62_v6) (va_up (va_up (va_up a 20 c62_a20) 17 o_a17_6) 16 o_a16_7) w (va_up (va_up fv 16 c62_fv16) 15 c62_fv15) (va_up (va_up fp 16 c62_fp16) 15 c62_fp15) 16 15 8 (by omega) (by omega) (by omega) (show 0 ≤ (8 : Int) by first | omega | decide) (show (8 : Int) ≤ 8 by first | omega | decide) (show 0 ≤ (v 1).toInt by first | omega | decide) (show (v 1).toInt ≤ 8 by first | omega | decide) (show (c62_fv15 2).toInt = -2 ∨ (0 ≤ (c62_fv15 2).toInt ∧ (c62_fv15 2).toInt < (v 1).toInt) by first | omega | decide)) ca_X3_follow q3_213 ⟨rfl, rfl⟩ ⟨Nat.le_of_ble_eq_true rfl, Nat.le_of_ble_eq_true rfl⟩ (rc_fl (f := 16) (by decide) hK hP) hK hP hD hS hZ rfl hl.1 rfl (Nat.le_of_ble_eq_true rfl) ⟨Nat.zero_le _, Nat.zero_le _⟩ dX11_passOn_109 (fun z_13 H locs wr_10 hP hD hS => ?_)
            obtain ⟨o_fvf_11, o_fpf_12⟩ := z_13
            have hP : va_P D vwCl (CW cs ad fa fq rv (va_up v 6 c62_v6) (va_up (va_up (va_up a 20 c62_a20) 17 o_a17_6) 16 o_a16_7) w (va_up (va_up fv 15 c62_fv15) 16 o_fvf_11) (va_up (va_up fp 15 c62_fp15) 16 o_fpf_12)) H := hP
            have hD : va_D A (CW cs ad fa fq rv (va_up v 6 c62_v6) (va_up (va_up (va_up a 20 c62_a20) 17 o_a17_6) 16 o_a16_7) w (va_up (va_up fv 15 c62_fv15) 16 o_fvf_11) (va_up (va_up fp 15 c62_fp15) 16 o_fpf_12)) := hD
            obtain ⟨wr_10_0, wr_10_1, wr_10_2, wr_10_3, wr_10_4, wr_10_5, wr_10_6, wr_10_7, wr_10_8⟩ : (o_fvf_11 0 = (c62_fv15 0)) ∧ (o_fvf_11 1 = (c62_fv15 1)) ∧ (o_fvf_11 2 = (c62_fv15 2)) ∧ (o_fvf_11 3 = (c62_fv15 3)) ∧ (o_fvf_11 4 = (c62_fv15 4)) ∧ (o_fvf_11 5 = (c62_fv15 5)) ∧ (o_fvf_11 6 = (c62_fv15 6)) ∧ (o_fvf_11 7 = (c62_fv15 7)) ∧ ((o_fvf_11 2).toInt = -2 ∨ (0 ≤ (o_fvf_11 2).toInt ∧ (o_fvf_11 2).toInt < (v 1).toInt)) := wr_10
            refine lv_aload_n hx hb dX11_passOn_112 rfl (lv_at hl 0 rfl) ?_
            refine gf_main_further hx hb hg hown hK hP rfl (hg _ q2_127) dX11_passOn_113 ?_
            refine lv_iload hx hb dX11_passOn_116 (lv_at hl 5 rfl) ?_
            refine cS_i (As := [.ref (fa 16), .int x7]) (rest := []) ⟨hx, hb, hml, hown, hg⟩ (k_X11_stungBehind l D cs A ad fa fq rv (va_up v 6 c62_v6) (va_up (va_up (va_up a 20 c62_a20) 17 o_a17_6) 16 o_a16_7) w (va_up (va_up fv 15 c62_fv15) 16 o_fvf_11) (va_up (va_up fp 15 c62_fp15) 16 o_fpf_12) 16 x7 (by omega) (show 0 ≤ x7.toInt by first | omega | decide) (show x7.toInt < (v 1).toInt by first | omega | decide) (show 0 ≤ (v 1).toInt by first | omega | decide) (show (v 1).toInt ≤ 8 by first | omega | decide) (show (o_fvf_11 2).toInt = -2 ∨ (0 ≤ (o_fvf_11 2).toInt ∧ (o_fvf_11 2).toInt < (v 1).toInt) by first | omega | decide) (show 0 ≤ (v 5).toInt by first | omega | decide) (show (v 5).toInt ≤ 256 by first | omega | decide) ia18_0) ca_X11_stungBehind q3_205 ⟨rfl, rfl⟩ ⟨Nat.le_of_ble_eq_true rfl, Nat.le_of_ble_eq_true rfl⟩  hK hP hD hS hZ rfl hl.1 rfl (Nat.le_of_ble_eq_true rfl) ⟨Nat.zero_le _, Nat.zero_le _⟩ dX11_passOn_118 (fun r_14 z_19 H locs wr_14 hP hD hS => ?_)
            obtain ⟨o_fvf_15, o_fpf_16, o_a17_17, o_a16_18⟩ := z_19
            have hP : va_P D vwCl (CW cs ad fa fq rv (va_up v 6 c62_v6) (va_up (va_up (va_up a 20 c62_a20) 17 o_a17_17) 16 o_a16_18) w (va_up (va_up fv 15 c62_fv15) 16 o_fvf_15) (va_up (va_up fp 15 c62_fp15) 16 o_fpf_16)) H := hP
            have hD : va_D A (CW cs ad fa fq rv (va_up v 6 c62_v6) (va_up (va_up (va_up a 20 c62_a20) 17 o_a17_17) 16 o_a16_18) w (va_up (va_up fv 15 c62_fv15) 16 o_fvf_15) (va_up (va_up fp 15 c62_fp15) 16 o_fpf_16)) := hD
            obtain ⟨wr_14_0, wr_14_1, wr_14_2⟩ : (-2 ≤ r_14.toInt) ∧ (r_14.toInt ≤ 24) ∧ ((o_fvf_15 2).toInt = -2 ∨ (0 ≤ (o_fvf_15 2).toInt ∧ (o_fvf_15 2).toInt < (v 1).toInt)) := wr_14
            refine lv_istore (lv' := [(8, .int r_14), (0, .ref (ad 0)), (2, .int p2), (3, .int p3), (5, .int x5), (6, .int x6), (7, .int x7)]) hx hb dX11_passOn_121 hl (by decide) rfl (fun ls hl => ?_)
            refine lv_iload hx hb dX11_passOn_123 (lv_at hl 0 rfl) ?_
            refine lv_bipush (v := (-2)) hx hb dX11_passOn_125 (by decide) ?_
            refine lv_icmp_ne (tgt := 135) hx hb dX11_passOn_127 (by decide) (fun c_20 => ?_) (fun c_20 => ?_)
            ·
              have kc_20 : r_14.toInt ≠ (-2 : Int) := i_ne c_20
              refine lv_iload hx hb dX11_passOn_135 (lv_at hl 0 rfl) ?_
              refine lv_istore (lv' := [(8, .int r_14), (0, .ref (ad 0)), (2, .int p2), (3, .int p3), (5, .int x5), (6, .int x6), (7, .int x7)]) hx hb dX11_passOn_137 hl (by decide) rfl (fun ls hl => ?_)
              refine lv_iload hx hb dX11_passOn_139 (lv_at hl 0 rfl) ?_
              refine lv_iload hx hb dX11_passOn_141 (lv_at hl 5 rfl) ?_
              refine lv_icmp_le (tgt := 154) hx hb dX11_passOn_143 (by decide) (fun c_21 => ?_) (fun c_21 => ?_)
              ·
                have kc_21 : r_14.toInt ≤ x6.toInt := i_le c_21
                obtain ⟨x_22, ex_22⟩ : ∃ y : Int32, y = x7 + 1 := ⟨_, rfl⟩
                have fx_22 : x_22.toInt = x7.toInt + 1 := by rw [ex_22]; exact i_add (by first | omega | (show (_ : Int) ≤ x7.toInt + 1; omega)) (by first | omega | (show x7.toInt + 1 ≤ (_ : Int); omega))
                refine lv_iinc (v := x_22) (lv' := [(7, .int x_22), (8, .int r_14), (0, .ref (ad 0)), (2, .int p2), (3, .int p3), (5, .int x5), (6, .int x6)]) hx hb dX11_passOn_154 hl (k := 6) rfl (by rw [ex_22]; rfl) (by decide) rfl (fun ls hl => ?_)
                refine lv_goto (tgt := 62) hx hb dX11_passOn_157 (by decide) ?_
                exact ih x5 x6 x_22 o_a17_17 o_a16_18 o_fvf_15 o_fpf_16 c62_v6 c62_a20 c62_fv15 c62_fp15 _ _ (by omega) (show 0 ≤ c62_v6.toInt by first | omega | assumption) (show c62_v6.toInt ≤ 24 by first | omega | assumption) jv6_2 (show (c62_fv15 2).toInt = -2 ∨ (0 ≤ (c62_fv15 2).toInt ∧ (c62_fv15 2).toInt < (v 1).toInt) by first | omega | assumption) (by omega) hP hD hS ls (lv_sub hl [2, 3, 4, 5, 6, 0] rfl)
              ·
                have kc_21 : x6.toInt < r_14.toInt := i_nle c_21
                refine lv_iload hx hb dX11_passOn_146 (lv_at hl 0 rfl) ?_
                refine lv_istore (lv' := [(6, .int r_14), (8, .int r_14), (0, .ref (ad 0)), (2, .int p2), (3, .int p3), (5, .int x5), (7, .int x7)]) hx hb dX11_passOn_148 hl (by decide) rfl (fun ls hl => ?_)
                refine lv_iload hx hb dX11_passOn_150 (lv_at hl 6 rfl) ?_
                refine lv_istore (lv' := [(5, .int x7), (6, .int r_14), (8, .int r_14), (0, .ref (ad 0)), (2, .int p2), (3, .int p3), (7, .int x7)]) hx hb dX11_passOn_152 hl (by decide) rfl (fun ls hl => ?_)
                obtain ⟨x_23, ex_23⟩ : ∃ y : Int32, y = x7 + 1 := ⟨_, rfl⟩
                have fx_23 : x_23.toInt = x7.toInt + 1 := by rw [ex_23]; exact i_add (by first | omega | (show (_ : Int) ≤ x7.toInt + 1; omega)) (by first | omega | (show x7.toInt + 1 ≤ (_ : Int); omega))
                refine lv_iinc (v := x_23) (lv' := [(7, .int x_23), (5, .int x7), (6, .int r_14), (8, .int r_14), (0, .ref (ad 0)), (2, .int p2), (3, .int p3)]) hx hb dX11_passOn_154 hl (k := 6) rfl (by rw [ex_23]; rfl) (by decide) rfl (fun ls hl => ?_)
                refine lv_goto (tgt := 62) hx hb dX11_passOn_157 (by decide) ?_
                exact ih x7 r_14 x_23 o_a17_17 o_a16_18 o_fvf_15 o_fpf_16 c62_v6 c62_a20 c62_fv15 c62_fp15 _ _ (by omega) (show 0 ≤ c62_v6.toInt by first | omega | assumption) (show c62_v6.toInt ≤ 24 by first | omega | assumption) jv6_2 (show (c62_fv15 2).toInt = -2 ∨ (0 ≤ (c62_fv15 2).toInt ∧ (c62_fv15 2).toInt < (v 1).toInt) by first | omega | assumption) (by omega) hP hD hS ls (lv_sub hl [4, 5, 6, 1, 2, 0] rfl)
            ·
              have kc_20 : r_14.toInt = (-2 : Int) := i_eq c_20
              refine lv_bipush (v := 24) hx hb dX11_passOn_130 (by decide) ?_
              refine lv_goto (tgt := 137) hx hb dX11_passOn_132 (by decide) ?_
              refine lv_istore (lv' := [(8, .int 24), (0, .ref (ad 0)), (2, .int p2), (3, .int p3), (5, .int x5), (6, .int x6), (7, .int x7)]) hx hb dX11_passOn_137 hl (by decide) rfl (fun ls hl => ?_)
              refine lv_iload hx hb dX11_passOn_139 (lv_at hl 0 rfl) ?_
              refine lv_iload hx hb dX11_passOn_141 (lv_at hl 5 rfl) ?_
              refine lv_icmp_le (tgt := 154) hx hb dX11_passOn_143 (by decide) (fun c_24 => ?_) (fun c_24 => ?_)
              ·
                have kc_24 : (24 : Int) ≤ x6.toInt := i_le c_24
                obtain ⟨x_25, ex_25⟩ : ∃ y : Int32, y = x7 + 1 := ⟨_, rfl⟩
                have fx_25 : x_25.toInt = x7.toInt + 1 := by rw [ex_25]; exact i_add (by first | omega | (show (_ : Int) ≤ x7.toInt + 1; omega)) (by first | omega | (show x7.toInt + 1 ≤ (_ : Int); omega))
                refine lv_iinc (v := x_25) (lv' := [(7, .int x_25), (8, .int 24), (0, .ref (ad 0)), (2, .int p2), (3, .int p3), (5, .int x5), (6, .int x6)]) hx hb dX11_passOn_154 hl (k := 6) rfl (by rw [ex_25]; rfl) (by decide) rfl (fun ls hl => ?_)
                refine lv_goto (tgt := 62) hx hb dX11_passOn_157 (by decide) ?_
                have q0_24 : (24 : Int32).toInt = 24 := rfl
                exact ih x5 x6 x_25 o_a17_17 o_a16_18 o_fvf_15 o_fpf_16 c62_v6 c62_a20 c62_fv15 c62_fp15 _ _ (by omega) (show 0 ≤ c62_v6.toInt by first | omega | assumption) (show c62_v6.toInt ≤ 24 by first | omega | assumption) jv6_2 (show (c62_fv15 2).toInt = -2 ∨ (0 ≤ (c62_fv15 2).toInt ∧ (c62_fv15 2).toInt < (v 1).toInt) by first | omega | assumption) (by omega) hP hD hS ls (lv_sub hl [2, 3, 4, 5, 6, 0] rfl)
              ·
                have kc_24 : x6.toInt < (24 : Int) := i_nle c_24
                refine lv_iload hx hb dX11_passOn_146 (lv_at hl 0 rfl) ?_
                refine lv_istore (lv' := [(6, .int 24), (8, .int 24), (0, .ref (ad 0)), (2, .int p2), (3, .int p3), (5, .int x5), (7, .int x7)]) hx hb dX11_passOn_148 hl (by decide) rfl (fun ls hl => ?_)
                refine lv_iload hx hb dX11_passOn_150 (lv_at hl 6 rfl) ?_
                refine lv_istore (lv' := [(5, .int x7), (6, .int 24), (8, .int 24), (0, .ref (ad 0)), (2, .int p2), (3, .int p3), (7, .int x7)]) hx hb dX11_passOn_152 hl (by decide) rfl (fun ls hl => ?_)
                obtain ⟨x_26, ex_26⟩ : ∃ y : Int32, y = x7 + 1 := ⟨_, rfl⟩
                have fx_26 : x_26.toInt = x7.toInt + 1 := by rw [ex_26]; exact i_add (by first | omega | (show (_ : Int) ≤ x7.toInt + 1; omega)) (by first | omega | (show x7.toInt + 1 ≤ (_ : Int); omega))
                refine lv_iinc (v := x_26) (lv' := [(7, .int x_26), (5, .int x7), (6, .int 24), (8, .int 24), (0, .ref (ad 0)), (2, .int p2), (3, .int p3)]) hx hb dX11_passOn_154 hl (k := 6) rfl (by rw [ex_26]; rfl) (by decide) rfl (fun ls hl => ?_)
                refine lv_goto (tgt := 62) hx hb dX11_passOn_157 (by decide) ?_
                have q0_24 : (24 : Int32).toInt = 24 := rfl
                exact ih x7 24 x_26 o_a17_17 o_a16_18 o_fvf_15 o_fpf_16 c62_v6 c62_a20 c62_fv15 c62_fp15 _ _ (by omega) (show 0 ≤ c62_v6.toInt by first | omega | assumption) (show c62_v6.toInt ≤ 24 by first | omega | assumption) jv6_2 (show (c62_fv15 2).toInt = -2 ∨ (0 ≤ (c62_fv15 2).toInt ∧ (c62_fv15 2).toInt < (v 1).toInt) by first | omega | assumption) (by omega) hP hD hS ls (lv_sub hl [4, 5, 6, 1, 2, 0] rfl)
          ·
            have kc_9 : r_5.toInt ≤ (0 : Int) := i_nlt c_9
            refine lv_goto (tgt := 154) hx hb dX11_passOn_96 (by decide) ?_
            obtain ⟨x_27, ex_27⟩ : ∃ y : Int32, y = x7 + 1 := ⟨_, rfl⟩
            have fx_27 : x_27.toInt = x7.toInt + 1 := by rw [ex_27]; exact i_add (by first | omega | (show (_ : Int) ≤ x7.toInt + 1; omega)) (by first | omega | (show x7.toInt + 1 ≤ (_ : Int); omega))
            refine lv_iinc (v := x_27) (lv' := [(7, .int x_27), (0, .ref (ad 0)), (2, .int p2), (3, .int p3), (5, .int x5), (6, .int x6)]) hx hb dX11_passOn_154 hl (k := 5) rfl (by rw [ex_27]; rfl) (by decide) rfl (fun ls hl => ?_)
            refine lv_goto (tgt := 62) hx hb dX11_passOn_157 (by decide) ?_
            exact ih x5 x6 x_27 o_a17_6 o_a16_7 c62_fv16 c62_fp16 c62_v6 c62_a20 c62_fv15 c62_fp15 _ _ (by omega) (show 0 ≤ c62_v6.toInt by first | omega | assumption) (show c62_v6.toInt ≤ 24 by first | omega | assumption) jv6_2 (show (c62_fv15 2).toInt = -2 ∨ (0 ≤ (c62_fv15 2).toInt ∧ (c62_fv15 2).toInt < (v 1).toInt) by first | omega | assumption) (by omega) hP hD hS ls (lv_sub hl [1, 2, 3, 4, 5, 0] rfl)
  refine lv_iload_n hx hb dX11_passOn_0 rfl (lv_at hl 1 rfl) ?_
  refine cS_p (As := [.int p1]) (rest := []) ⟨hx, hb, hml, hown, hg⟩ (k_X10_isShelf l   p1 ) ca_X10_isShelf q2_205 ⟨rfl, rfl⟩ ⟨Nat.le_of_ble_eq_true rfl, Nat.le_of_ble_eq_true rfl⟩ rfl hl.1 rfl (Nat.le_of_ble_eq_true rfl) ⟨Nat.zero_le _, Nat.zero_le _⟩ dX11_passOn_1 (fun r_28 wr_28 => ?_)
  have wr_28 : (r_28.toInt = 1 ∧ 0 ≤ p1.toInt ∧ p1.toInt < 6) ∨ (r_28.toInt = 0 ∧ ¬ (0 ≤ p1.toInt ∧ p1.toInt < 6)) := wr_28
  refine lv_if_eq (tgt := 27) hx hb dX11_passOn_4 (by decide) (fun c_29 => ?_) (fun c_29 => ?_)
  ·
    have kc_29 : r_28.toInt = (0 : Int) := i_eq c_29
    refine lv_iconst (v := (-1)) hx hb dX11_passOn_27 (by decide) ?_
    have q0_m1 : ((-1) : Int32).toInt = (-1) := rfl
    have hP : va_P D vwCl (CW cs ad fa fq rv (va_up v 6 (v 6)) (va_up (va_up (va_up a 20 (a 20)) 17 (a 17)) 16 (a 16)) w (va_up (va_up fv 16 (fv 16)) 15 (fv 15)) (va_up (va_up fp 16 (fp 16)) 15 (fp 15))) _ := hP
    have hD : va_D A (CW cs ad fa fq rv (va_up v 6 (v 6)) (va_up (va_up (va_up a 20 (a 20)) 17 (a 17)) 16 (a 16)) w (va_up (va_up fv 16 (fv 16)) 15 (fv 15)) (va_up (va_up fp 16 (fp 16)) 15 (fp 15))) := hD
    exact W.iret (v := (-1)) hx hb hr (fun tt ht hW => ⟨⟨(-1), ⟨(v 6), (a 20), (a 17), (a 16), (fv 16), (fv 15), (fp 16), (fp 15)⟩, rfl, ⟨(show 0 ≤ (v 6).toInt by first | omega | assumption), (show (v 6).toInt ≤ 24 by first | omega | assumption), iv6_2⟩, by rw [ht]; exact hP, hD⟩, hS.F ht⟩) hS.2.2 dX11_passOn_28
  ·
    have kc_29 : r_28.toInt ≠ (0 : Int) := i_ne c_29
    refine lv_aload_n hx hb dX11_passOn_7 rfl (lv_at hl 0 rfl) ?_
    refine gf_main_parish hx hb hg hown hK hP rfl (hg _ q2_123) dX11_passOn_8 ?_
    refine lv_iload_n hx hb dX11_passOn_11 rfl (lv_at hl 2 rfl) ?_
    refine cV_ro (As := [.int p2]) (rest := []) ⟨hx, hb, hml, hown, hg⟩ (k_X9_has l D cs A ad fa fq rv v a w fv fp  p2 (show 0 ≤ (v 1).toInt by first | omega | decide) (show (v 1).toInt ≤ 8 by first | omega | decide)) ca_X9_has q3_4 ⟨rfl, rfl⟩ ⟨Nat.le_of_ble_eq_true rfl, Nat.le_of_ble_eq_true rfl⟩ (rc_parish hK hP) hK hP hD hS hZ rfl hl.1 rfl (Nat.le_of_ble_eq_true rfl) ⟨Nat.zero_le _, Nat.zero_le _⟩ dX11_passOn_12 (fun r_30 wr_30 => ?_)
    have wr_30_0 : (r_30.toInt = 1 ∧ 0 ≤ p2.toInt ∧ p2.toInt < (v 1).toInt) ∨ (r_30.toInt = 0 ∧ ¬ (0 ≤ p2.toInt ∧ p2.toInt < (v 1).toInt)) := wr_30
    refine lv_if_eq (tgt := 27) hx hb dX11_passOn_15 (by decide) (fun c_31 => ?_) (fun c_31 => ?_)
    ·
      have kc_31 : r_30.toInt = (0 : Int) := i_eq c_31
      refine lv_iconst (v := (-1)) hx hb dX11_passOn_27 (by decide) ?_
      have q0_m1 : ((-1) : Int32).toInt = (-1) := rfl
      have hP : va_P D vwCl (CW cs ad fa fq rv (va_up v 6 (v 6)) (va_up (va_up (va_up a 20 (a 20)) 17 (a 17)) 16 (a 16)) w (va_up (va_up fv 16 (fv 16)) 15 (fv 15)) (va_up (va_up fp 16 (fp 16)) 15 (fp 15))) _ := hP
      have hD : va_D A (CW cs ad fa fq rv (va_up v 6 (v 6)) (va_up (va_up (va_up a 20 (a 20)) 17 (a 17)) 16 (a 16)) w (va_up (va_up fv 16 (fv 16)) 15 (fv 15)) (va_up (va_up fp 16 (fp 16)) 15 (fp 15))) := hD
      exact W.iret (v := (-1)) hx hb hr (fun tt ht hW => ⟨⟨(-1), ⟨(v 6), (a 20), (a 17), (a 16), (fv 16), (fv 15), (fp 16), (fp 15)⟩, rfl, ⟨(show 0 ≤ (v 6).toInt by first | omega | assumption), (show (v 6).toInt ≤ 24 by first | omega | assumption), iv6_2⟩, by rw [ht]; exact hP, hD⟩, hS.F ht⟩) hS.2.2 dX11_passOn_28
    ·
      have kc_31 : r_30.toInt ≠ (0 : Int) := i_ne c_31
      refine lv_iload_n hx hb dX11_passOn_18 rfl (lv_at hl 3 rfl) ?_
      refine lv_if_lt (tgt := 27) hx hb dX11_passOn_19 (by decide) (fun c_32 => ?_) (fun c_32 => ?_)
      ·
        have kc_32 : p3.toInt < (0 : Int) := i_lt c_32
        refine lv_iconst (v := (-1)) hx hb dX11_passOn_27 (by decide) ?_
        have q0_m1 : ((-1) : Int32).toInt = (-1) := rfl
        have hP : va_P D vwCl (CW cs ad fa fq rv (va_up v 6 (v 6)) (va_up (va_up (va_up a 20 (a 20)) 17 (a 17)) 16 (a 16)) w (va_up (va_up fv 16 (fv 16)) 15 (fv 15)) (va_up (va_up fp 16 (fp 16)) 15 (fp 15))) _ := hP
        have hD : va_D A (CW cs ad fa fq rv (va_up v 6 (v 6)) (va_up (va_up (va_up a 20 (a 20)) 17 (a 17)) 16 (a 16)) w (va_up (va_up fv 16 (fv 16)) 15 (fv 15)) (va_up (va_up fp 16 (fp 16)) 15 (fp 15))) := hD
        exact W.iret (v := (-1)) hx hb hr (fun tt ht hW => ⟨⟨(-1), ⟨(v 6), (a 20), (a 17), (a 16), (fv 16), (fv 15), (fp 16), (fp 15)⟩, rfl, ⟨(show 0 ≤ (v 6).toInt by first | omega | assumption), (show (v 6).toInt ≤ 24 by first | omega | assumption), iv6_2⟩, by rw [ht]; exact hP, hD⟩, hS.F ht⟩) hS.2.2 dX11_passOn_28
      ·
        have kc_32 : (0 : Int) ≤ p3.toInt := i_nlt c_32
        refine lv_iload_n hx hb dX11_passOn_22 rfl (lv_at hl 3 rfl) ?_
        refine lv_iconst (v := 1) hx hb dX11_passOn_23 (by decide) ?_
        refine lv_icmp_le (tgt := 29) hx hb dX11_passOn_24 (by decide) (fun c_33 => ?_) (fun c_33 => ?_)
        ·
          have kc_33 : p3.toInt ≤ (1 : Int) := i_le c_33
          refine lv_aload_n hx hb dX11_passOn_29 rfl (lv_at hl 0 rfl) ?_
          refine lv_iload_n hx hb dX11_passOn_30 rfl (lv_at hl 1 rfl) ?_
          refine cV_i (As := [.int p1]) (rest := []) ⟨hx, hb, hml, hown, hg⟩ (k_X11_openDay l D cs A ad fa fq rv v a w fv fp  p1 (show 0 ≤ p1.toInt by first | omega | decide) (show p1.toInt < 6 by first | omega | decide) ia28_0 (show 0 ≤ (v 1).toInt by first | omega | decide) (show (v 1).toInt ≤ 8 by first | omega | decide) (show 0 ≤ (v 6).toInt by first | omega | decide) (show (v 6).toInt ≤ 24 by first | omega | decide) iv6_2 ia29_0) ca_X11_openDay q3_147 ⟨rfl, rfl⟩ ⟨Nat.le_of_ble_eq_true rfl, Nat.le_of_ble_eq_true rfl⟩ (rc_main hK hP) hK hP hD hS hZ rfl hl.1 rfl (Nat.le_of_ble_eq_true rfl) ⟨Nat.zero_le _, Nat.zero_le _⟩ dX11_passOn_31 (fun r_34 z_37 H locs wr_34 hP hD hS => ?_)
          obtain ⟨o_v6_35, o_a20_36⟩ := z_37
          have hP : va_P D vwCl (CW cs ad fa fq rv (va_up v 6 o_v6_35) (va_up a 20 o_a20_36) w fv fp) H := hP
          have hD : va_D A (CW cs ad fa fq rv (va_up v 6 o_v6_35) (va_up a 20 o_a20_36) w fv fp) := hD
          obtain ⟨wr_34_0, wr_34_1, wr_34_2, wr_34_3⟩ : (r_34.toInt = 0 ∨ r_34.toInt = -11 ∨ r_34.toInt = -12) ∧ (0 ≤ o_v6_35.toInt) ∧ (o_v6_35.toInt ≤ 24) ∧ (DOK o_v6_35 o_a20_36 (v 1)) := wr_34
          refine lv_istore (lv' := [(4, .int r_34), (0, .ref (ad 0)), (1, .int p1), (2, .int p2), (3, .int p3)]) hx hb dX11_passOn_34 hl (by decide) rfl (fun ls hl => ?_)
          refine lv_iload hx hb dX11_passOn_36 (lv_at hl 0 rfl) ?_
          refine lv_if_ge (tgt := 44) hx hb dX11_passOn_38 (by decide) (fun c_38 => ?_) (fun c_38 => ?_)
          ·
            have kc_38 : (0 : Int) ≤ r_34.toInt := i_le c_38
            refine lv_aload_n hx hb dX11_passOn_44 rfl (lv_at hl 1 rfl) ?_
            refine lv_bipush (v := 24) hx hb dX11_passOn_45 (by decide) ?_
            refine cV_i (As := [.int 24]) (rest := []) ⟨hx, hb, hml, hown, hg⟩ (k_X11_think l D cs A ad fa fq rv (va_up v 6 o_v6_35) (va_up a 20 o_a20_36) w fv fp  24 (show 0 ≤ (v 1).toInt by first | omega | decide) (show (v 1).toInt ≤ 8 by first | omega | decide) (show 0 ≤ o_v6_35.toInt by first | omega | decide) (show o_v6_35.toInt ≤ 24 by first | omega | decide) wr_34_3 (show 0 ≤ (v 5).toInt by first | omega | decide) (show (v 5).toInt ≤ 256 by first | omega | decide) ia18_0 (show (fv 14 2).toInt = -2 ∨ (0 ≤ (fv 14 2).toInt ∧ (fv 14 2).toInt < (v 1).toInt) by first | omega | decide)) ca_X11_think q3_164 ⟨rfl, rfl⟩ ⟨Nat.le_of_ble_eq_true rfl, Nat.le_of_ble_eq_true rfl⟩ (rc_main hK hP) hK hP hD hS hZ rfl hl.1 rfl (Nat.le_of_ble_eq_true rfl) ⟨Nat.zero_le _, Nat.zero_le _⟩ dX11_passOn_47 (fun r_39 z_44 H locs wr_39 hP hD hS => ?_)
            obtain ⟨o_a17_40, o_a16_41, o_fv15_42, o_fp15_43⟩ := z_44
            have hP : va_P D vwCl (CW cs ad fa fq rv (va_up v 6 o_v6_35) (va_up (va_up (va_up a 20 o_a20_36) 17 o_a17_40) 16 o_a16_41) w (va_up fv 15 o_fv15_42) (va_up fp 15 o_fp15_43)) H := hP
            have hD : va_D A (CW cs ad fa fq rv (va_up v 6 o_v6_35) (va_up (va_up (va_up a 20 o_a20_36) 17 o_a17_40) 16 o_a16_41) w (va_up fv 15 o_fv15_42) (va_up fp 15 o_fp15_43)) := hD
            have wr_39_0 : (o_fv15_42 2).toInt = -2 ∨ (0 ≤ (o_fv15_42 2).toInt ∧ (o_fv15_42 2).toInt < (v 1).toInt) := wr_39
            refine lv_pop hx hb dX11_passOn_50 rfl ?_
            refine lv_bipush (v := (-2)) hx hb dX11_passOn_51 (by decide) ?_
            refine lv_istore (lv' := [(5, .int (-2)), (4, .int r_34), (0, .ref (ad 0)), (1, .int p1), (2, .int p2), (3, .int p3)]) hx hb dX11_passOn_53 hl (by decide) rfl (fun ls hl => ?_)
            refine lv_bipush (v := (-2)) hx hb dX11_passOn_55 (by decide) ?_
            refine lv_istore (lv' := [(6, .int (-2)), (5, .int (-2)), (4, .int r_34), (0, .ref (ad 0)), (1, .int p1), (2, .int p2), (3, .int p3)]) hx hb dX11_passOn_57 hl (by decide) rfl (fun ls hl => ?_)
            refine lv_iconst (v := 0) hx hb dX11_passOn_59 (by decide) ?_
            refine lv_istore (lv' := [(7, .int 0), (6, .int (-2)), (5, .int (-2)), (4, .int r_34), (0, .ref (ad 0)), (1, .int p1), (2, .int p2), (3, .int p3)]) hx hb dX11_passOn_60 hl (by decide) rfl (fun ls hl => ?_)
            have q0_m2 : ((-2) : Int32).toInt = (-2) := rfl
            have q0_0 : (0 : Int32).toInt = 0 := rfl
            exact (hcut ((((v 1).toInt - (0 : Int32).toInt).toNat) + 1)) (-2) (-2) 0 o_a17_40 o_a16_41 (fv 16) (fp 16) o_v6_35 o_a20_36 o_fv15_42 o_fp15_43 _ _ (by omega) (show 0 ≤ o_v6_35.toInt by first | omega | assumption) (show o_v6_35.toInt ≤ 24 by first | omega | assumption) wr_34_3 (show (o_fv15_42 2).toInt = -2 ∨ (0 ≤ (o_fv15_42 2).toInt ∧ (o_fv15_42 2).toInt < (v 1).toInt) by first | omega | assumption) (Nat.lt_succ_self _) hP hD hS ls (lv_sub hl [4, 6, 7, 2, 1, 0] rfl)
          ·
            have kc_38 : r_34.toInt < (0 : Int) := i_nle c_38
            refine lv_iload hx hb dX11_passOn_41 (lv_at hl 0 rfl) ?_
            have hP : va_P D vwCl (CW cs ad fa fq rv (va_up v 6 o_v6_35) (va_up (va_up (va_up a 20 o_a20_36) 17 (a 17)) 16 (a 16)) w (va_up (va_up fv 16 (fv 16)) 15 (fv 15)) (va_up (va_up fp 16 (fp 16)) 15 (fp 15))) _ := hP
            have hD : va_D A (CW cs ad fa fq rv (va_up v 6 o_v6_35) (va_up (va_up (va_up a 20 o_a20_36) 17 (a 17)) 16 (a 16)) w (va_up (va_up fv 16 (fv 16)) 15 (fv 15)) (va_up (va_up fp 16 (fp 16)) 15 (fp 15))) := hD
            exact W.iret (v := r_34) hx hb hr (fun tt ht hW => ⟨⟨r_34, ⟨o_v6_35, o_a20_36, (a 17), (a 16), (fv 16), (fv 15), (fp 16), (fp 15)⟩, rfl, ⟨(show 0 ≤ o_v6_35.toInt by first | omega | assumption), (show o_v6_35.toInt ≤ 24 by first | omega | assumption), wr_34_3⟩, by rw [ht]; exact hP, hD⟩, hS.F ht⟩) hS.2.2 dX11_passOn_43
        ·
          have kc_33 : (1 : Int) < p3.toInt := i_nle c_33
          refine lv_iconst (v := (-1)) hx hb dX11_passOn_27 (by decide) ?_
          have q0_m1 : ((-1) : Int32).toInt = (-1) := rfl
          have hP : va_P D vwCl (CW cs ad fa fq rv (va_up v 6 (v 6)) (va_up (va_up (va_up a 20 (a 20)) 17 (a 17)) 16 (a 16)) w (va_up (va_up fv 16 (fv 16)) 15 (fv 15)) (va_up (va_up fp 16 (fp 16)) 15 (fp 15))) _ := hP
          have hD : va_D A (CW cs ad fa fq rv (va_up v 6 (v 6)) (va_up (va_up (va_up a 20 (a 20)) 17 (a 17)) 16 (a 16)) w (va_up (va_up fv 16 (fv 16)) 15 (fv 15)) (va_up (va_up fp 16 (fp 16)) 15 (fp 15))) := hD
          exact W.iret (v := (-1)) hx hb hr (fun tt ht hW => ⟨⟨(-1), ⟨(v 6), (a 20), (a 17), (a 16), (fv 16), (fv 15), (fp 16), (fp 15)⟩, rfl, ⟨(show 0 ≤ (v 6).toInt by first | omega | assumption), (show (v 6).toInt ≤ 24 by first | omega | assumption), iv6_2⟩, by rw [ht]; exact hP, hD⟩, hS.F ht⟩) hS.2.2 dX11_passOn_28
set_option maxHeartbeats 4000000 in
set_option maxRecDepth 100000 in
theorem k_X11_stand (l : Launch) (D : va_G) (cs : Nat → ClassId) (A : Nat → Prop) (ad fa fq rv : Nat → Nat) (v : Nat → Int32) (a : Nat → Nat → Int32) (w : Nat → Nat → Int64) (fv fp : Nat → Nat → Int32)  (p1 : Int32) (p2 : Int32) (p3 : Int32) (iv1_0 : 0 ≤ (v 1).toInt) (iv1_1 : (v 1).toInt ≤ 8) (iv6_0 : 0 ≤ (v 6).toInt) (iv6_1 : (v 6).toInt ≤ 24) (iv6_2 : DOK (v 6) (a 20) (v 1)) (iv5_0 : 0 ≤ (v 5).toInt) (iv5_1 : (v 5).toInt ≤ 256) (ia18_0 : AB (-1000) 20000 (a 18)) (ifv14_0 : (fv 14 2).toInt = -2 ∨ (0 ≤ (fv 14 2).toInt ∧ (fv 14 2).toInt < (v 1).toInt)) (ia28_0 : AB (-1) 5 (a 28)) (ia29_0 : AB (-1) 60 (a 29)) : Met l yX11_stand (Cond.code yX11_stand cX11_stand 9 (some .int) :: gw) ({ frames := 5, cells := 0, slots := 0, locals := 125 }) (va_Pc [.ref (ad 0), .int p1, .int p2, .int p3] (XPre D (TY cs) (CW cs ad fa fq rv v a w fv fp) A)) (va_Qi (fun (r : Int32) (z : (Nat → Int32) × (Nat → Int32) × Int32 × (Nat → Int32) × (Nat → Int32) × (Nat → Int32) × (Nat → Int32) × (Nat → Int32)) => (0 ≤ z.2.2.1.toInt) ∧ (z.2.2.1.toInt ≤ 24) ∧ (DOK z.2.2.1 z.2.2.2.1 (v 1))) (XPo D (fun (z : (Nat → Int32) × (Nat → Int32) × Int32 × (Nat → Int32) × (Nat → Int32) × (Nat → Int32) × (Nat → Int32) × (Nat → Int32)) => CW cs ad fa fq rv (va_up v 6 z.2.2.1) (va_up (va_up (va_up (va_up (va_up a 11 z.1) 14 z.2.1) 20 z.2.2.2.1) 17 z.2.2.2.2.1) 16 z.2.2.2.2.2.1) w (va_up fv 15 z.2.2.2.2.2.2.1) (va_up fp 15 z.2.2.2.2.2.2.2)) A) A) 0 0 A := by
  refine Met.ofW (cc := cX11_stand) (maxL := 9) (ret := (some .int)) (by decide) rfl ?_
  intro p e s m args below meth c s₁ B hml hv
  obtain ⟨rfl, hP, hK, hD, hZ⟩ := hv
  have hx := B.exec
  have hb := B.bytes
  have hr := B.returns
  have hts := atoms_spec (ws := (Cond.code yX11_stand cX11_stand 9 (some .int) :: gw)) B.pre
  have hg : ∀ w ∈ gw, w.before ([.ref (ad 0), .int p1, .int p2, .int p3] : List Value).toArray s = true := fun w h => hts w (List.mem_cons_of_mem _ h)
  have hown : s.vm.findClass RX11 = some m.cls := findClass_of_methodNamed B.named
  have hlocks := B.notSynchronized
  have hS : va_S A s.heap s.heap [] := va_S.rf
  have hP : va_P D vwCl (CW cs ad fa fq rv v a w fv fp) s.heap := hP
  have hl := lv_entry ([.ref (ad 0), .int p1, .int p2, .int p3]) (n := 9) (Nat.le_of_ble_eq_true rfl)
  rw [lg_entry_eq]
  generalize (lg_sl ([.ref (ad 0), .int p1, .int p2, .int p3]) ++ List.replicate (9 - (lg_sl ([.ref (ad 0), .int p1, .int p2, .int p3])).length) Slot.unset).toArray = ls at hl ⊢
  have hl : lv_has ls 9 [(0, .ref (ad 0)), (1, .int p1), (2, .int p2), (3, .int p3)] := hl
  have hcut : ∀ nk : Nat, (∀ (x5 : Int32) (x6 : Int32) (x7 : Int32) (x8 : Int32) (c65_a11 : Nat → Int32) (c65_a14 : Nat → Int32) (c65_a17 : Nat → Int32) (c65_a16 : Nat → Int32) (c65_fv15 : Nat → Int32) (c65_fp15 : Nat → Int32) (c65_v6 : Int32) (c65_a20 : Nat → Int32) (H : Heap) (locs : List Loc) (j1 : 0 ≤ p2.toInt) (j2 : p2.toInt < (v 1).toInt) (i8 : 0 ≤ x8.toInt) (i8b : x8.toInt ≤ 256) (jv6_0 : 0 ≤ c65_v6.toInt) (jv6_1 : c65_v6.toInt ≤ 24) (jv6_2 : DOK c65_v6 c65_a20 (v 1)) (hmu : (256 - x8.toInt).toNat < nk) (hP : va_P D vwCl (CW cs ad fa fq rv (va_up v 6 c65_v6) (va_up (va_up (va_up (va_up (va_up a 11 c65_a11) 14 c65_a14) 17 c65_a17) 16 c65_a16) 20 c65_a20) w (va_up fv 15 c65_fv15) (va_up fp 15 c65_fp15)) H) (hD : va_D A (CW cs ad fa fq rv (va_up v 6 c65_v6) (va_up (va_up (va_up (va_up (va_up a 11 c65_a11) 14 c65_a14) 17 c65_a17) 16 c65_a16) 20 c65_a20) w (va_up fv 15 c65_fv15) (va_up fp 15 c65_fp15))) (hS : va_S A s.heap H locs) (ls : Array Slot) (hl : lv_has ls 9 [(0, .ref (ad 0)), (2, .int p2), (3, .int p3), (5, .int x5), (6, .int x6), (7, .int x7), (8, .int x8)]), W p l e (headSpec (Cond.code yX11_stand cX11_stand 9 (some .int) :: gw) ({ frames := 5, cells := 0, slots := 0, locals := 125 })).room s m ([.ref (ad 0), .int p1, .int p2, .int p3] : List Value).toArray below meth c H locs 0 0 (MQ below (va_Qi (fun (r : Int32) (z : (Nat → Int32) × (Nat → Int32) × Int32 × (Nat → Int32) × (Nat → Int32) × (Nat → Int32) × (Nat → Int32) × (Nat → Int32)) => (0 ≤ z.2.2.1.toInt) ∧ (z.2.2.1.toInt ≤ 24) ∧ (DOK z.2.2.1 z.2.2.2.1 (v 1))) (XPo D (fun (z : (Nat → Int32) × (Nat → Int32) × Int32 × (Nat → Int32) × (Nat → Int32) × (Nat → Int32) × (Nat → Int32) × (Nat → Int32)) => CW cs ad fa fq rv (va_up v 6 z.2.2.1) (va_up (va_up (va_up (va_up (va_up a 11 z.1) 14 z.2.1) 20 z.2.2.2.1) 17 z.2.2.2.2.1) 16 z.2.2.2.2.2.1) w (va_up fv 15 z.2.2.2.2.2.2.1) (va_up fp 15 z.2.2.2.2.2.2.2)) A) A) ([.ref (ad 0), .int p1, .int p2, .int p3] : List Value).toArray s 0 0 A) (F0 m 65 ls [])) := by
    intro nk
    induction nk with
    | zero => exact (fun x5 x6 x7 x8 c65_a11 c65_a14 c65_a17 c65_a16 c65_fv15 c65_fp15 c65_v6 c65_a20 H locs j1 j2 i8 i8b jv6_0 jv6_1 jv6_2 hmu hP hD hS ls hl => absurd hmu (Nat.not_lt_zero _))
    | succ nk ih =>
      intro x5 x6 x7 x8 c65_a11 c65_a14 c65_a17 c65_a16 c65_fv15 c65_fp15 c65_v6 c65_a20 H locs j1 j2 i8 i8b jv6_0 jv6_1 jv6_2 hmu hP hD hS ls hl
      refine lv_iload hx hb dX11_stand_65 (lv_at hl 6 rfl) ?_
      refine lv_sipush (v := 256) hx hb dX11_stand_67 (by decide) ?_
      refine lv_icmp_ge (tgt := 114) hx hb dX11_stand_70 (by decide) (fun c_1 => ?_) (fun c_1 => ?_)
      ·
        have kc_1 : (256 : Int) ≤ x8.toInt := i_le c_1
        refine lv_aload_n hx hb dX11_stand_114 rfl (lv_at hl 0 rfl) ?_
        refine gf_main_parish hx hb hg hown hK hP rfl (hg _ q2_123) dX11_stand_115 ?_
        refine lv_iload_n hx hb dX11_stand_118 rfl (lv_at hl 1 rfl) ?_
        refine lv_iload hx hb dX11_stand_119 (lv_at hl 3 rfl) ?_
        refine cV_v (As := [.int p2, .int x5]) (rest := []) ⟨hx, hb, hml, hown, hg⟩ (k_X9_place l D cs A ad fa fq rv (va_up v 6 c65_v6) (va_up (va_up (va_up (va_up (va_up a 11 c65_a11) 14 c65_a14) 17 c65_a17) 16 c65_a16) 20 c65_a20) w (va_up fv 15 c65_fv15) (va_up fp 15 c65_fp15)  p2 x5 (show 0 ≤ p2.toInt by first | omega | decide) (show p2.toInt < 8 by first | omega | decide) (show 0 ≤ (v 1).toInt by first | omega | decide) (show (v 1).toInt ≤ 8 by first | omega | decide)) ca_X9_place q3_28 ⟨rfl, rfl⟩ ⟨Nat.le_of_ble_eq_true rfl, Nat.le_of_ble_eq_true rfl⟩ (rc_parish hK hP) hK hP hD hS hZ rfl hl.1 rfl (Nat.le_of_ble_eq_true rfl) ⟨Nat.zero_le _, Nat.zero_le _⟩ dX11_stand_121 (fun z_5 H locs wr_2 hP hD hS => ?_)
        obtain ⟨o_a11_3, o_a14_4⟩ := z_5
        have hP : va_P D vwCl (CW cs ad fa fq rv (va_up v 6 c65_v6) (va_up (va_up (va_up (va_up (va_up a 17 c65_a17) 16 c65_a16) 20 c65_a20) 11 o_a11_3) 14 o_a14_4) w (va_up fv 15 c65_fv15) (va_up fp 15 c65_fp15)) H := hP
        have hD : va_D A (CW cs ad fa fq rv (va_up v 6 c65_v6) (va_up (va_up (va_up (va_up (va_up a 17 c65_a17) 16 c65_a16) 20 c65_a20) 11 o_a11_3) 14 o_a14_4) w (va_up fv 15 c65_fv15) (va_up fp 15 c65_fp15)) := hD
        have wr_2_0 : True := wr_2
        refine lv_iload_n hx hb dX11_stand_124 rfl (lv_at hl 2 rfl) ?_
        refine lv_if_ne (tgt := 133) hx hb dX11_stand_125 (by decide) (fun c_6 => ?_) (fun c_6 => ?_)
        ·
          have kc_6 : p3.toInt ≠ (0 : Int) := i_ne c_6
          refine lv_iload hx hb dX11_stand_133 (lv_at hl 5 rfl) ?_
          have hP : va_P D vwCl (CW cs ad fa fq rv (va_up v 6 c65_v6) (va_up (va_up (va_up (va_up (va_up a 11 o_a11_3) 14 o_a14_4) 20 c65_a20) 17 c65_a17) 16 c65_a16) w (va_up fv 15 c65_fv15) (va_up fp 15 c65_fp15)) _ := hP
          have hD : va_D A (CW cs ad fa fq rv (va_up v 6 c65_v6) (va_up (va_up (va_up (va_up (va_up a 11 o_a11_3) 14 o_a14_4) 20 c65_a20) 17 c65_a17) 16 c65_a16) w (va_up fv 15 c65_fv15) (va_up fp 15 c65_fp15)) := hD
          exact W.iret (v := x7) hx hb hr (fun tt ht hW => ⟨⟨x7, ⟨o_a11_3, o_a14_4, c65_v6, c65_a20, c65_a17, c65_a16, c65_fv15, c65_fp15⟩, rfl, ⟨(show 0 ≤ c65_v6.toInt by first | omega | assumption), (show c65_v6.toInt ≤ 24 by first | omega | assumption), jv6_2⟩, by rw [ht]; exact hP, hD⟩, hS.F ht⟩) hS.2.2 dX11_stand_135
        ·
          have kc_6 : p3.toInt = (0 : Int) := i_eq c_6
          refine lv_iload hx hb dX11_stand_128 (lv_at hl 4 rfl) ?_
          refine lv_goto (tgt := 135) hx hb dX11_stand_130 (by decide) ?_
          have hP : va_P D vwCl (CW cs ad fa fq rv (va_up v 6 c65_v6) (va_up (va_up (va_up (va_up (va_up a 11 o_a11_3) 14 o_a14_4) 20 c65_a20) 17 c65_a17) 16 c65_a16) w (va_up fv 15 c65_fv15) (va_up fp 15 c65_fp15)) _ := hP
          have hD : va_D A (CW cs ad fa fq rv (va_up v 6 c65_v6) (va_up (va_up (va_up (va_up (va_up a 11 o_a11_3) 14 o_a14_4) 20 c65_a20) 17 c65_a17) 16 c65_a16) w (va_up fv 15 c65_fv15) (va_up fp 15 c65_fp15)) := hD
          exact W.iret (v := x6) hx hb hr (fun tt ht hW => ⟨⟨x6, ⟨o_a11_3, o_a14_4, c65_v6, c65_a20, c65_a17, c65_a16, c65_fv15, c65_fp15⟩, rfl, ⟨(show 0 ≤ c65_v6.toInt by first | omega | assumption), (show c65_v6.toInt ≤ 24 by first | omega | assumption), jv6_2⟩, by rw [ht]; exact hP, hD⟩, hS.F ht⟩) hS.2.2 dX11_stand_135
      ·
        have kc_1 : x8.toInt < (256 : Int) := i_nle c_1
        refine lv_aload_n hx hb dX11_stand_73 rfl (lv_at hl 0 rfl) ?_
        refine gf_main_parish hx hb hg hown hK hP rfl (hg _ q2_123) dX11_stand_74 ?_
        refine lv_iload_n hx hb dX11_stand_77 rfl (lv_at hl 1 rfl) ?_
        refine lv_iload hx hb dX11_stand_78 (lv_at hl 6 rfl) ?_
        refine cV_v (As := [.int p2, .int x8]) (rest := []) ⟨hx, hb, hml, hown, hg⟩ (k_X9_place l D cs A ad fa fq rv (va_up v 6 c65_v6) (va_up (va_up (va_up (va_up (va_up a 11 c65_a11) 14 c65_a14) 17 c65_a17) 16 c65_a16) 20 c65_a20) w (va_up fv 15 c65_fv15) (va_up fp 15 c65_fp15)  p2 x8 (show 0 ≤ p2.toInt by first | omega | decide) (show p2.toInt < 8 by first | omega | decide) (show 0 ≤ (v 1).toInt by first | omega | decide) (show (v 1).toInt ≤ 8 by first | omega | decide)) ca_X9_place q3_28 ⟨rfl, rfl⟩ ⟨Nat.le_of_ble_eq_true rfl, Nat.le_of_ble_eq_true rfl⟩ (rc_parish hK hP) hK hP hD hS hZ rfl hl.1 rfl (Nat.le_of_ble_eq_true rfl) ⟨Nat.zero_le _, Nat.zero_le _⟩ dX11_stand_80 (fun z_10 H locs wr_7 hP hD hS => ?_)
        obtain ⟨o_a11_8, o_a14_9⟩ := z_10
        have hP : va_P D vwCl (CW cs ad fa fq rv (va_up v 6 c65_v6) (va_up (va_up (va_up (va_up (va_up a 17 c65_a17) 16 c65_a16) 20 c65_a20) 11 o_a11_8) 14 o_a14_9) w (va_up fv 15 c65_fv15) (va_up fp 15 c65_fp15)) H := hP
        have hD : va_D A (CW cs ad fa fq rv (va_up v 6 c65_v6) (va_up (va_up (va_up (va_up (va_up a 17 c65_a17) 16 c65_a16) 20 c65_a20) 11 o_a11_8) 14 o_a14_9) w (va_up fv 15 c65_fv15) (va_up fp 15 c65_fp15)) := hD
        have wr_7_0 : True := wr_7
        refine lv_aload_n hx hb dX11_stand_83 rfl (lv_at hl 0 rfl) ?_
        refine lv_iload_n hx hb dX11_stand_84 rfl (lv_at hl 1 rfl) ?_
        refine cV_i (As := [.int p2]) (rest := []) ⟨hx, hb, hml, hown, hg⟩ (k_X11_isSpared l D cs A ad fa fq rv (va_up v 6 c65_v6) (va_up (va_up (va_up (va_up (va_up a 17 c65_a17) 16 c65_a16) 20 c65_a20) 11 o_a11_8) 14 o_a14_9) w (va_up fv 15 c65_fv15) (va_up fp 15 c65_fp15)  p2 (show 0 ≤ (v 1).toInt by first | omega | decide) (show (v 1).toInt ≤ 8 by first | omega | decide) (show 0 ≤ c65_v6.toInt by first | omega | decide) (show c65_v6.toInt ≤ 24 by first | omega | decide) jv6_2 (show 0 ≤ (v 5).toInt by first | omega | decide) (show (v 5).toInt ≤ 256 by first | omega | decide) ia18_0 (show (fv 14 2).toInt = -2 ∨ (0 ≤ (fv 14 2).toInt ∧ (fv 14 2).toInt < (v 1).toInt) by first | omega | decide)) ca_X11_isSpared q4_3 ⟨rfl, rfl⟩ ⟨Nat.le_of_ble_eq_true rfl, Nat.le_of_ble_eq_true rfl⟩ (rc_main hK hP) hK hP hD hS hZ rfl hl.1 rfl (Nat.le_of_ble_eq_true rfl) ⟨Nat.zero_le _, Nat.zero_le _⟩ dX11_stand_85 (fun r_11 z_16 H locs wr_11 hP hD hS => ?_)
        obtain ⟨o_a17_12, o_a16_13, o_fv15_14, o_fp15_15⟩ := z_16
        have hP : va_P D vwCl (CW cs ad fa fq rv (va_up v 6 c65_v6) (va_up (va_up (va_up (va_up (va_up a 20 c65_a20) 11 o_a11_8) 14 o_a14_9) 17 o_a17_12) 16 o_a16_13) w (va_up fv 15 o_fv15_14) (va_up fp 15 o_fp15_15)) H := hP
        have hD : va_D A (CW cs ad fa fq rv (va_up v 6 c65_v6) (va_up (va_up (va_up (va_up (va_up a 20 c65_a20) 11 o_a11_8) 14 o_a14_9) 17 o_a17_12) 16 o_a16_13) w (va_up fv 15 o_fv15_14) (va_up fp 15 o_fp15_15)) := hD
        obtain ⟨wr_11_0, wr_11_1⟩ : (0 ≤ r_11.toInt) ∧ (r_11.toInt ≤ 1) := wr_11
        refine lv_if_eq (tgt := 108) hx hb dX11_stand_88 (by decide) (fun c_17 => ?_) (fun c_17 => ?_)
        ·
          have kc_17 : r_11.toInt = (0 : Int) := i_eq c_17
          obtain ⟨x_18, ex_18⟩ : ∃ y : Int32, y = x8 + 1 := ⟨_, rfl⟩
          have fx_18 : x_18.toInt = x8.toInt + 1 := by rw [ex_18]; exact i_add (by first | omega | (show (_ : Int) ≤ x8.toInt + 1; omega)) (by first | omega | (show x8.toInt + 1 ≤ (_ : Int); omega))
          refine lv_iinc (v := x_18) (lv' := [(8, .int x_18), (0, .ref (ad 0)), (2, .int p2), (3, .int p3), (5, .int x5), (6, .int x6), (7, .int x7)]) hx hb dX11_stand_108 hl (k := 6) rfl (by rw [ex_18]; rfl) (by decide) rfl (fun ls hl => ?_)
          refine lv_goto (tgt := 65) hx hb dX11_stand_111 (by decide) ?_
          exact ih x5 x6 x7 x_18 o_a11_8 o_a14_9 o_a17_12 o_a16_13 o_fv15_14 o_fp15_15 c65_v6 c65_a20 _ _ (by omega) (by omega) (by omega) (by omega) (show 0 ≤ c65_v6.toInt by first | omega | assumption) (show c65_v6.toInt ≤ 24 by first | omega | assumption) jv6_2 (by omega) hP hD hS ls (lv_sub hl [1, 2, 3, 4, 5, 6, 0] rfl)
        ·
          have kc_17 : r_11.toInt ≠ (0 : Int) := i_ne c_17
          refine lv_iload hx hb dX11_stand_91 (lv_at hl 5 rfl) ?_
          refine lv_if_ne (tgt := 101) hx hb dX11_stand_93 (by decide) (fun c_19 => ?_) (fun c_19 => ?_)
          ·
            have kc_19 : x7.toInt ≠ (0 : Int) := i_ne c_19
            refine lv_iload hx hb dX11_stand_101 (lv_at hl 4 rfl) ?_
            refine lv_istore (lv' := [(6, .int x6), (0, .ref (ad 0)), (2, .int p2), (3, .int p3), (5, .int x5), (7, .int x7), (8, .int x8)]) hx hb dX11_stand_103 hl (by decide) rfl (fun ls hl => ?_)
            obtain ⟨x_20, ex_20⟩ : ∃ y : Int32, y = x7 + 1 := ⟨_, rfl⟩
            refine lv_iinc (v := x_20) (lv' := [(7, .int x_20), (6, .int x6), (0, .ref (ad 0)), (2, .int p2), (3, .int p3), (5, .int x5), (8, .int x8)]) hx hb dX11_stand_105 hl (k := 5) rfl (by rw [ex_20]; rfl) (by decide) rfl (fun ls hl => ?_)
            obtain ⟨x_21, ex_21⟩ : ∃ y : Int32, y = x8 + 1 := ⟨_, rfl⟩
            have fx_21 : x_21.toInt = x8.toInt + 1 := by rw [ex_21]; exact i_add (by first | omega | (show (_ : Int) ≤ x8.toInt + 1; omega)) (by first | omega | (show x8.toInt + 1 ≤ (_ : Int); omega))
            refine lv_iinc (v := x_21) (lv' := [(8, .int x_21), (7, .int x_20), (6, .int x6), (0, .ref (ad 0)), (2, .int p2), (3, .int p3), (5, .int x5)]) hx hb dX11_stand_108 hl (k := 6) rfl (by rw [ex_21]; rfl) (by decide) rfl (fun ls hl => ?_)
            refine lv_goto (tgt := 65) hx hb dX11_stand_111 (by decide) ?_
            exact ih x5 x6 x_20 x_21 o_a11_8 o_a14_9 o_a17_12 o_a16_13 o_fv15_14 o_fp15_15 c65_v6 c65_a20 _ _ (by omega) (by omega) (by omega) (by omega) (show 0 ≤ c65_v6.toInt by first | omega | assumption) (show c65_v6.toInt ≤ 24 by first | omega | assumption) jv6_2 (by omega) hP hD hS ls (lv_sub hl [3, 4, 5, 6, 2, 1, 0] rfl)
          ·
            have kc_19 : x7.toInt = (0 : Int) := i_eq c_19
            refine lv_iload hx hb dX11_stand_96 (lv_at hl 6 rfl) ?_
            refine lv_goto (tgt := 103) hx hb dX11_stand_98 (by decide) ?_
            refine lv_istore (lv' := [(6, .int x8), (0, .ref (ad 0)), (2, .int p2), (3, .int p3), (5, .int x5), (7, .int x7), (8, .int x8)]) hx hb dX11_stand_103 hl (by decide) rfl (fun ls hl => ?_)
            obtain ⟨x_22, ex_22⟩ : ∃ y : Int32, y = x7 + 1 := ⟨_, rfl⟩
            have fx_22 : x_22.toInt = x7.toInt + 1 := by rw [ex_22]; exact i_add (by first | omega | (show (_ : Int) ≤ x7.toInt + 1; omega)) (by first | omega | (show x7.toInt + 1 ≤ (_ : Int); omega))
            refine lv_iinc (v := x_22) (lv' := [(7, .int x_22), (6, .int x8), (0, .ref (ad 0)), (2, .int p2), (3, .int p3), (5, .int x5), (8, .int x8)]) hx hb dX11_stand_105 hl (k := 5) rfl (by rw [ex_22]; rfl) (by decide) rfl (fun ls hl => ?_)
            obtain ⟨x_23, ex_23⟩ : ∃ y : Int32, y = x8 + 1 := ⟨_, rfl⟩
            have fx_23 : x_23.toInt = x8.toInt + 1 := by rw [ex_23]; exact i_add (by first | omega | (show (_ : Int) ≤ x8.toInt + 1; omega)) (by first | omega | (show x8.toInt + 1 ≤ (_ : Int); omega))
            refine lv_iinc (v := x_23) (lv' := [(8, .int x_23), (7, .int x_22), (6, .int x8), (0, .ref (ad 0)), (2, .int p2), (3, .int p3), (5, .int x5)]) hx hb dX11_stand_108 hl (k := 6) rfl (by rw [ex_23]; rfl) (by decide) rfl (fun ls hl => ?_)
            refine lv_goto (tgt := 65) hx hb dX11_stand_111 (by decide) ?_
            exact ih x5 x8 x_22 x_23 o_a11_8 o_a14_9 o_a17_12 o_a16_13 o_fv15_14 o_fp15_15 c65_v6 c65_a20 _ _ (by omega) (by omega) (by omega) (by omega) (show 0 ≤ c65_v6.toInt by first | omega | assumption) (show c65_v6.toInt ≤ 24 by first | omega | assumption) jv6_2 (by omega) hP hD hS ls (lv_sub hl [3, 4, 5, 6, 2, 1, 0] rfl)
  refine lv_iload_n hx hb dX11_stand_0 rfl (lv_at hl 1 rfl) ?_
  refine cS_p (As := [.int p1]) (rest := []) ⟨hx, hb, hml, hown, hg⟩ (k_X10_isShelf l   p1 ) ca_X10_isShelf q2_205 ⟨rfl, rfl⟩ ⟨Nat.le_of_ble_eq_true rfl, Nat.le_of_ble_eq_true rfl⟩ rfl hl.1 rfl (Nat.le_of_ble_eq_true rfl) ⟨Nat.zero_le _, Nat.zero_le _⟩ dX11_stand_1 (fun r_24 wr_24 => ?_)
  have wr_24 : (r_24.toInt = 1 ∧ 0 ≤ p1.toInt ∧ p1.toInt < 6) ∨ (r_24.toInt = 0 ∧ ¬ (0 ≤ p1.toInt ∧ p1.toInt < 6)) := wr_24
  refine lv_if_eq (tgt := 27) hx hb dX11_stand_4 (by decide) (fun c_25 => ?_) (fun c_25 => ?_)
  ·
    have kc_25 : r_24.toInt = (0 : Int) := i_eq c_25
    refine lv_iconst (v := (-1)) hx hb dX11_stand_27 (by decide) ?_
    have q0_m1 : ((-1) : Int32).toInt = (-1) := rfl
    have hP : va_P D vwCl (CW cs ad fa fq rv (va_up v 6 (v 6)) (va_up (va_up (va_up (va_up (va_up a 11 (a 11)) 14 (a 14)) 20 (a 20)) 17 (a 17)) 16 (a 16)) w (va_up fv 15 (fv 15)) (va_up fp 15 (fp 15))) _ := hP
    have hD : va_D A (CW cs ad fa fq rv (va_up v 6 (v 6)) (va_up (va_up (va_up (va_up (va_up a 11 (a 11)) 14 (a 14)) 20 (a 20)) 17 (a 17)) 16 (a 16)) w (va_up fv 15 (fv 15)) (va_up fp 15 (fp 15))) := hD
    exact W.iret (v := (-1)) hx hb hr (fun tt ht hW => ⟨⟨(-1), ⟨(a 11), (a 14), (v 6), (a 20), (a 17), (a 16), (fv 15), (fp 15)⟩, rfl, ⟨(show 0 ≤ (v 6).toInt by first | omega | assumption), (show (v 6).toInt ≤ 24 by first | omega | assumption), iv6_2⟩, by rw [ht]; exact hP, hD⟩, hS.F ht⟩) hS.2.2 dX11_stand_28
  ·
    have kc_25 : r_24.toInt ≠ (0 : Int) := i_ne c_25
    refine lv_aload_n hx hb dX11_stand_7 rfl (lv_at hl 0 rfl) ?_
    refine gf_main_parish hx hb hg hown hK hP rfl (hg _ q2_123) dX11_stand_8 ?_
    refine lv_iload_n hx hb dX11_stand_11 rfl (lv_at hl 2 rfl) ?_
    refine cV_ro (As := [.int p2]) (rest := []) ⟨hx, hb, hml, hown, hg⟩ (k_X9_has l D cs A ad fa fq rv v a w fv fp  p2 (show 0 ≤ (v 1).toInt by first | omega | decide) (show (v 1).toInt ≤ 8 by first | omega | decide)) ca_X9_has q3_4 ⟨rfl, rfl⟩ ⟨Nat.le_of_ble_eq_true rfl, Nat.le_of_ble_eq_true rfl⟩ (rc_parish hK hP) hK hP hD hS hZ rfl hl.1 rfl (Nat.le_of_ble_eq_true rfl) ⟨Nat.zero_le _, Nat.zero_le _⟩ dX11_stand_12 (fun r_26 wr_26 => ?_)
    have wr_26_0 : (r_26.toInt = 1 ∧ 0 ≤ p2.toInt ∧ p2.toInt < (v 1).toInt) ∨ (r_26.toInt = 0 ∧ ¬ (0 ≤ p2.toInt ∧ p2.toInt < (v 1).toInt)) := wr_26
    refine lv_if_eq (tgt := 27) hx hb dX11_stand_15 (by decide) (fun c_27 => ?_) (fun c_27 => ?_)
    ·
      have kc_27 : r_26.toInt = (0 : Int) := i_eq c_27
      refine lv_iconst (v := (-1)) hx hb dX11_stand_27 (by decide) ?_
      have q0_m1 : ((-1) : Int32).toInt = (-1) := rfl
      have hP : va_P D vwCl (CW cs ad fa fq rv (va_up v 6 (v 6)) (va_up (va_up (va_up (va_up (va_up a 11 (a 11)) 14 (a 14)) 20 (a 20)) 17 (a 17)) 16 (a 16)) w (va_up fv 15 (fv 15)) (va_up fp 15 (fp 15))) _ := hP
      have hD : va_D A (CW cs ad fa fq rv (va_up v 6 (v 6)) (va_up (va_up (va_up (va_up (va_up a 11 (a 11)) 14 (a 14)) 20 (a 20)) 17 (a 17)) 16 (a 16)) w (va_up fv 15 (fv 15)) (va_up fp 15 (fp 15))) := hD
      exact W.iret (v := (-1)) hx hb hr (fun tt ht hW => ⟨⟨(-1), ⟨(a 11), (a 14), (v 6), (a 20), (a 17), (a 16), (fv 15), (fp 15)⟩, rfl, ⟨(show 0 ≤ (v 6).toInt by first | omega | assumption), (show (v 6).toInt ≤ 24 by first | omega | assumption), iv6_2⟩, by rw [ht]; exact hP, hD⟩, hS.F ht⟩) hS.2.2 dX11_stand_28
    ·
      have kc_27 : r_26.toInt ≠ (0 : Int) := i_ne c_27
      refine lv_iload_n hx hb dX11_stand_18 rfl (lv_at hl 3 rfl) ?_
      refine lv_if_lt (tgt := 27) hx hb dX11_stand_19 (by decide) (fun c_28 => ?_) (fun c_28 => ?_)
      ·
        have kc_28 : p3.toInt < (0 : Int) := i_lt c_28
        refine lv_iconst (v := (-1)) hx hb dX11_stand_27 (by decide) ?_
        have q0_m1 : ((-1) : Int32).toInt = (-1) := rfl
        have hP : va_P D vwCl (CW cs ad fa fq rv (va_up v 6 (v 6)) (va_up (va_up (va_up (va_up (va_up a 11 (a 11)) 14 (a 14)) 20 (a 20)) 17 (a 17)) 16 (a 16)) w (va_up fv 15 (fv 15)) (va_up fp 15 (fp 15))) _ := hP
        have hD : va_D A (CW cs ad fa fq rv (va_up v 6 (v 6)) (va_up (va_up (va_up (va_up (va_up a 11 (a 11)) 14 (a 14)) 20 (a 20)) 17 (a 17)) 16 (a 16)) w (va_up fv 15 (fv 15)) (va_up fp 15 (fp 15))) := hD
        exact W.iret (v := (-1)) hx hb hr (fun tt ht hW => ⟨⟨(-1), ⟨(a 11), (a 14), (v 6), (a 20), (a 17), (a 16), (fv 15), (fp 15)⟩, rfl, ⟨(show 0 ≤ (v 6).toInt by first | omega | assumption), (show (v 6).toInt ≤ 24 by first | omega | assumption), iv6_2⟩, by rw [ht]; exact hP, hD⟩, hS.F ht⟩) hS.2.2 dX11_stand_28
      ·
        have kc_28 : (0 : Int) ≤ p3.toInt := i_nlt c_28
        refine lv_iload_n hx hb dX11_stand_22 rfl (lv_at hl 3 rfl) ?_
        refine lv_iconst (v := 1) hx hb dX11_stand_23 (by decide) ?_
        refine lv_icmp_le (tgt := 29) hx hb dX11_stand_24 (by decide) (fun c_29 => ?_) (fun c_29 => ?_)
        ·
          have kc_29 : p3.toInt ≤ (1 : Int) := i_le c_29
          refine lv_aload_n hx hb dX11_stand_29 rfl (lv_at hl 0 rfl) ?_
          refine lv_iload_n hx hb dX11_stand_30 rfl (lv_at hl 1 rfl) ?_
          refine cV_i (As := [.int p1]) (rest := []) ⟨hx, hb, hml, hown, hg⟩ (k_X11_openDay l D cs A ad fa fq rv v a w fv fp  p1 (show 0 ≤ p1.toInt by first | omega | decide) (show p1.toInt < 6 by first | omega | decide) ia28_0 (show 0 ≤ (v 1).toInt by first | omega | decide) (show (v 1).toInt ≤ 8 by first | omega | decide) (show 0 ≤ (v 6).toInt by first | omega | decide) (show (v 6).toInt ≤ 24 by first | omega | decide) iv6_2 ia29_0) ca_X11_openDay q3_147 ⟨rfl, rfl⟩ ⟨Nat.le_of_ble_eq_true rfl, Nat.le_of_ble_eq_true rfl⟩ (rc_main hK hP) hK hP hD hS hZ rfl hl.1 rfl (Nat.le_of_ble_eq_true rfl) ⟨Nat.zero_le _, Nat.zero_le _⟩ dX11_stand_31 (fun r_30 z_33 H locs wr_30 hP hD hS => ?_)
          obtain ⟨o_v6_31, o_a20_32⟩ := z_33
          have hP : va_P D vwCl (CW cs ad fa fq rv (va_up v 6 o_v6_31) (va_up a 20 o_a20_32) w fv fp) H := hP
          have hD : va_D A (CW cs ad fa fq rv (va_up v 6 o_v6_31) (va_up a 20 o_a20_32) w fv fp) := hD
          obtain ⟨wr_30_0, wr_30_1, wr_30_2, wr_30_3⟩ : (r_30.toInt = 0 ∨ r_30.toInt = -11 ∨ r_30.toInt = -12) ∧ (0 ≤ o_v6_31.toInt) ∧ (o_v6_31.toInt ≤ 24) ∧ (DOK o_v6_31 o_a20_32 (v 1)) := wr_30
          refine lv_istore (lv' := [(4, .int r_30), (0, .ref (ad 0)), (1, .int p1), (2, .int p2), (3, .int p3)]) hx hb dX11_stand_34 hl (by decide) rfl (fun ls hl => ?_)
          refine lv_iload hx hb dX11_stand_36 (lv_at hl 0 rfl) ?_
          refine lv_if_ge (tgt := 44) hx hb dX11_stand_38 (by decide) (fun c_34 => ?_) (fun c_34 => ?_)
          ·
            have kc_34 : (0 : Int) ≤ r_30.toInt := i_le c_34
            refine lv_aload_n hx hb dX11_stand_44 rfl (lv_at hl 1 rfl) ?_
            refine gf_main_parish hx hb hg hown hK hP rfl (hg _ q2_123) dX11_stand_45 ?_
            refine gf_parish_cell hx hb hg hown hK hP rfl (hg _ q1_119) dX11_stand_48 ?_
            refine lv_iload_n hx hb dX11_stand_51 rfl (lv_at hl 3 rfl) ?_
            refine ld_Pcell hx hb hK hP (i_in (by omega) (by omega)) dX11_stand_52 ?_
            refine lv_topi (fun x_35 ex_35 => ?_)
            have ex_35 : x_35 = (a 11) p2.toNatClampNeg := ex_35
            have hx_35 : x_35.toInt = ((a 11) p2.toNatClampNeg).toInt := by rw [ex_35]
            refine lv_istore (lv' := [(5, .int x_35), (4, .int r_30), (0, .ref (ad 0)), (1, .int p1), (2, .int p2), (3, .int p3)]) hx hb dX11_stand_53 hl (by decide) rfl (fun ls hl => ?_)
            refine lv_bipush (v := (-2)) hx hb dX11_stand_55 (by decide) ?_
            refine lv_istore (lv' := [(6, .int (-2)), (5, .int x_35), (4, .int r_30), (0, .ref (ad 0)), (1, .int p1), (2, .int p2), (3, .int p3)]) hx hb dX11_stand_57 hl (by decide) rfl (fun ls hl => ?_)
            refine lv_iconst (v := 0) hx hb dX11_stand_59 (by decide) ?_
            refine lv_istore (lv' := [(7, .int 0), (6, .int (-2)), (5, .int x_35), (4, .int r_30), (0, .ref (ad 0)), (1, .int p1), (2, .int p2), (3, .int p3)]) hx hb dX11_stand_60 hl (by decide) rfl (fun ls hl => ?_)
            refine lv_iconst (v := 0) hx hb dX11_stand_62 (by decide) ?_
            refine lv_istore (lv' := [(8, .int 0), (7, .int 0), (6, .int (-2)), (5, .int x_35), (4, .int r_30), (0, .ref (ad 0)), (1, .int p1), (2, .int p2), (3, .int p3)]) hx hb dX11_stand_63 hl (by decide) rfl (fun ls hl => ?_)
            have q0_m2 : ((-2) : Int32).toInt = (-2) := rfl
            have q0_0 : (0 : Int32).toInt = 0 := rfl
            exact (hcut (((256 - (0 : Int32).toInt).toNat) + 1)) x_35 (-2) 0 0 (a 11) (a 14) (a 17) (a 16) (fv 15) (fp 15) o_v6_31 o_a20_32 _ _ (by omega) (by omega) (by omega) (by omega) (show 0 ≤ o_v6_31.toInt by first | omega | assumption) (show o_v6_31.toInt ≤ 24 by first | omega | assumption) wr_30_3 (Nat.lt_succ_self _) hP hD hS ls (lv_sub hl [5, 7, 8, 3, 2, 1, 0] rfl)
          ·
            have kc_34 : r_30.toInt < (0 : Int) := i_nle c_34
            refine lv_iload hx hb dX11_stand_41 (lv_at hl 0 rfl) ?_
            have hP : va_P D vwCl (CW cs ad fa fq rv (va_up v 6 o_v6_31) (va_up (va_up (va_up (va_up (va_up a 11 (a 11)) 14 (a 14)) 20 o_a20_32) 17 (a 17)) 16 (a 16)) w (va_up fv 15 (fv 15)) (va_up fp 15 (fp 15))) _ := hP
            have hD : va_D A (CW cs ad fa fq rv (va_up v 6 o_v6_31) (va_up (va_up (va_up (va_up (va_up a 11 (a 11)) 14 (a 14)) 20 o_a20_32) 17 (a 17)) 16 (a 16)) w (va_up fv 15 (fv 15)) (va_up fp 15 (fp 15))) := hD
            exact W.iret (v := r_30) hx hb hr (fun tt ht hW => ⟨⟨r_30, ⟨(a 11), (a 14), o_v6_31, o_a20_32, (a 17), (a 16), (fv 15), (fp 15)⟩, rfl, ⟨(show 0 ≤ o_v6_31.toInt by first | omega | assumption), (show o_v6_31.toInt ≤ 24 by first | omega | assumption), wr_30_3⟩, by rw [ht]; exact hP, hD⟩, hS.F ht⟩) hS.2.2 dX11_stand_43
        ·
          have kc_29 : (1 : Int) < p3.toInt := i_nle c_29
          refine lv_iconst (v := (-1)) hx hb dX11_stand_27 (by decide) ?_
          have q0_m1 : ((-1) : Int32).toInt = (-1) := rfl
          have hP : va_P D vwCl (CW cs ad fa fq rv (va_up v 6 (v 6)) (va_up (va_up (va_up (va_up (va_up a 11 (a 11)) 14 (a 14)) 20 (a 20)) 17 (a 17)) 16 (a 16)) w (va_up fv 15 (fv 15)) (va_up fp 15 (fp 15))) _ := hP
          have hD : va_D A (CW cs ad fa fq rv (va_up v 6 (v 6)) (va_up (va_up (va_up (va_up (va_up a 11 (a 11)) 14 (a 14)) 20 (a 20)) 17 (a 17)) 16 (a 16)) w (va_up fv 15 (fv 15)) (va_up fp 15 (fp 15))) := hD
          exact W.iret (v := (-1)) hx hb hr (fun tt ht hW => ⟨⟨(-1), ⟨(a 11), (a 14), (v 6), (a 20), (a 17), (a 16), (fv 15), (fp 15)⟩, rfl, ⟨(show 0 ≤ (v 6).toInt by first | omega | assumption), (show (v 6).toInt ≤ 24 by first | omega | assumption), iv6_2⟩, by rw [ht]; exact hP, hD⟩, hS.F ht⟩) hS.2.2 dX11_stand_28
set_option maxHeartbeats 4000000 in
set_option maxRecDepth 100000 in
theorem k_X11_crier (l : Launch) (D : va_G) (cs : Nat → ClassId) (A : Nat → Prop) (ad fa fq rv : Nat → Nat) (v : Nat → Int32) (a : Nat → Nat → Int32) (w : Nat → Nat → Int64) (fv fp : Nat → Nat → Int32)  (p1 : Int32) (p2 : Int32) (iv1_0 : 0 ≤ (v 1).toInt) (iv1_1 : (v 1).toInt ≤ 8) : Met l yX11_crier (Cond.code yX11_crier cX11_crier 8 (some .int) :: gw) ({ frames := 2, cells := 0, slots := 0, locals := 46 }) (va_Pc [.ref (ad 0), .int p1, .int p2] (XPre D (TY cs) (CW cs ad fa fq rv v a w fv fp) A)) (vp_Si (fun (r : Int32) => True)) 0 0 (fun _ => False) := by
  refine Met.ofW (cc := cX11_crier) (maxL := 8) (ret := (some .int)) (by decide) rfl ?_
  intro p e s m args below meth c s₁ B hml hv
  obtain ⟨rfl, hP, hK, hD, hZ⟩ := hv
  have hx := B.exec
  have hb := B.bytes
  have hr := B.returns
  have hts := atoms_spec (ws := (Cond.code yX11_crier cX11_crier 8 (some .int) :: gw)) B.pre
  have hg : ∀ w ∈ gw, w.before ([.ref (ad 0), .int p1, .int p2] : List Value).toArray s = true := fun w h => hts w (List.mem_cons_of_mem _ h)
  have hown : s.vm.findClass RX11 = some m.cls := findClass_of_methodNamed B.named
  have hlocks := B.notSynchronized
  have hS : va_S A s.heap s.heap [] := va_S.rf
  have hl := lv_entry ([.ref (ad 0), .int p1, .int p2]) (n := 8) (Nat.le_of_ble_eq_true rfl)
  rw [lg_entry_eq]
  generalize (lg_sl ([.ref (ad 0), .int p1, .int p2]) ++ List.replicate (8 - (lg_sl ([.ref (ad 0), .int p1, .int p2])).length) Slot.unset).toArray = ls at hl ⊢
  have hl : lv_has ls 8 [(0, .ref (ad 0)), (1, .int p1), (2, .int p2)] := hl
  have hcut : ∀ nk : Nat, (∀ (x3 : Int32) (x4 : Int32) (x5 : Int32) (x6 : Int32) (i6 : 0 ≤ x6.toInt) (hmu : ((v 1).toInt - x6.toInt).toNat < nk) (ls : Array Slot) (hl : lv_has ls 8 [(0, .ref (ad 0)), (1, .int p1), (2, .int p2), (3, .int x3), (4, .int x4), (5, .int x5), (6, .int x6)]), W p l e (headSpec (Cond.code yX11_crier cX11_crier 8 (some .int) :: gw) ({ frames := 2, cells := 0, slots := 0, locals := 46 })).room s m ([.ref (ad 0), .int p1, .int p2] : List Value).toArray below meth c s.heap [] 0 0 (MQ below (vp_Si (fun (r : Int32) => True)) ([.ref (ad 0), .int p1, .int p2] : List Value).toArray s 0 0 (fun _ => False)) (F0 m 48 ls [])) := by
    intro nk
    induction nk with
    | zero => exact (fun x3 x4 x5 x6 i6 hmu ls hl => absurd hmu (Nat.not_lt_zero _))
    | succ nk ih =>
      intro x3 x4 x5 x6 i6 hmu ls hl
      refine lv_iload hx hb dX11_crier_48 (lv_at hl 6 rfl) ?_
      refine lv_aload_n hx hb dX11_crier_50 rfl (lv_at hl 0 rfl) ?_
      refine gf_main_parish hx hb hg hown hK hP rfl (hg _ q2_123) dX11_crier_51 ?_
      refine gf_parish_people hx hb hg hown hK hP (x := (v 1)) rfl (hg _ q1_109) dX11_crier_54 ?_
      refine lv_icmp_ge (tgt := 146) hx hb dX11_crier_57 (by decide) (fun c_1 => ?_) (fun c_1 => ?_)
      ·
        have kc_1 : (v 1).toInt ≤ x6.toInt := i_le c_1
        refine lv_iload_n hx hb dX11_crier_146 rfl (lv_at hl 2 rfl) ?_
        refine lv_if_ne (tgt := 155) hx hb dX11_crier_147 (by decide) (fun c_2 => ?_) (fun c_2 => ?_)
        ·
          have kc_2 : p2.toInt ≠ (0 : Int) := i_ne c_2
          refine lv_iload hx hb dX11_crier_155 (lv_at hl 5 rfl) ?_
          exact W.iret (v := x5) hx hb hr (fun tt ht hW => ⟨x5, rfl, trivial, ht⟩) (fun _ h => by cases h) dX11_crier_157
        ·
          have kc_2 : p2.toInt = (0 : Int) := i_eq c_2
          refine lv_iload hx hb dX11_crier_150 (lv_at hl 4 rfl) ?_
          refine lv_goto (tgt := 157) hx hb dX11_crier_152 (by decide) ?_
          exact W.iret (v := x4) hx hb hr (fun tt ht hW => ⟨x4, rfl, trivial, ht⟩) (fun _ h => by cases h) dX11_crier_157
      ·
        have kc_1 : x6.toInt < (v 1).toInt := i_nle c_1
        refine lv_iload hx hb dX11_crier_60 (lv_at hl 6 rfl) ?_
        refine lv_iload_n hx hb dX11_crier_62 rfl (lv_at hl 1 rfl) ?_
        refine lv_icmp_eq (tgt := 140) hx hb dX11_crier_63 (by decide) (fun c_3 => ?_) (fun c_3 => ?_)
        ·
          have kc_3 : x6.toInt = p1.toInt := i_eq c_3
          obtain ⟨x_4, ex_4⟩ : ∃ y : Int32, y = x6 + 1 := ⟨_, rfl⟩
          have fx_4 : x_4.toInt = x6.toInt + 1 := by rw [ex_4]; exact i_add (by first | omega | (show (_ : Int) ≤ x6.toInt + 1; omega)) (by first | omega | (show x6.toInt + 1 ≤ (_ : Int); omega))
          refine lv_iinc (v := x_4) (lv' := [(6, .int x_4), (0, .ref (ad 0)), (1, .int p1), (2, .int p2), (3, .int x3), (4, .int x4), (5, .int x5)]) hx hb dX11_crier_140 hl (k := 6) rfl (by rw [ex_4]; rfl) (by decide) rfl (fun ls hl => ?_)
          refine lv_goto (tgt := 48) hx hb dX11_crier_143 (by decide) ?_
          exact ih x3 x4 x5 x_4 (by omega) (by omega) ls (lv_sub hl [1, 2, 3, 4, 5, 6, 0] rfl)
        ·
          have kc_3 : x6.toInt ≠ p1.toInt := i_ne c_3
          refine lv_iload_n hx hb dX11_crier_66 rfl (lv_at hl 3 rfl) ?_
          refine lv_iload hx hb dX11_crier_67 (lv_at hl 6 rfl) ?_
          refine lv_ishr hx hb dX11_crier_69 ?_
          refine lv_topi (fun x_5 ex_5 => ?_)
          refine lv_iconst (v := 1) hx hb dX11_crier_70 (by decide) ?_
          refine lv_iand hx hb dX11_crier_71 ?_
          refine lv_topi (fun x_6 ex_6 => ?_)
          refine lv_if_ne (tgt := 78) hx hb dX11_crier_72 (by decide) (fun c_7 => ?_) (fun c_7 => ?_)
          ·
            have kc_7 : x_6.toInt ≠ (0 : Int) := i_ne c_7
            refine lv_aload_n hx hb dX11_crier_78 rfl (lv_at hl 0 rfl) ?_
            refine gf_main_deed hx hb hg hown hK hP rfl (hg _ q2_125) dX11_crier_79 ?_
            refine gf_fl_pads (f := 14) (by decide) hx hb hg hown hK hP (hg _ q1_226) dX11_crier_82 ?_
            refine lv_iload hx hb dX11_crier_85 (lv_at hl 6 rfl) ?_
            refine ld_pads (f := 14) (by decide) hx hb hK hP (i_in (by omega) (by omega)) dX11_crier_87 ?_
            refine lv_topi (fun x_8 ex_8 => ?_)
            have ex_8 : x_8 = (fp 14) x6.toNatClampNeg := ex_8
            have hx_8 : x_8.toInt = ((fp 14) x6.toNatClampNeg).toInt := by rw [ex_8]
            refine lv_if_le (tgt := 106) hx hb dX11_crier_88 (by decide) (fun c_9 => ?_) (fun c_9 => ?_)
            ·
              have kc_9 : x_8.toInt ≤ (0 : Int) := i_le c_9
              refine lv_aload_n hx hb dX11_crier_106 rfl (lv_at hl 0 rfl) ?_
              refine gf_main_parish hx hb hg hown hK hP rfl (hg _ q2_123) dX11_crier_107 ?_
              refine gf_parish_pay hx hb hg hown hK hP rfl (hg _ q1_124) dX11_crier_110 ?_
              refine lv_iload hx hb dX11_crier_113 (lv_at hl 6 rfl) ?_
              refine ld_Ppay hx hb hK hP (i_in (by omega) (by omega)) dX11_crier_115 ?_
              refine lv_topi (fun x_10 ex_10 => ?_)
              have ex_10 : x_10 = (a 13) x6.toNatClampNeg := ex_10
              have hx_10 : x_10.toInt = ((a 13) x6.toNatClampNeg).toInt := by rw [ex_10]
              refine lv_istore (lv' := [(7, .int x_10), (0, .ref (ad 0)), (1, .int p1), (2, .int p2), (3, .int x3), (4, .int x4), (5, .int x5), (6, .int x6)]) hx hb dX11_crier_116 hl (by decide) rfl (fun ls hl => ?_)
              refine lv_iload hx hb dX11_crier_118 (lv_at hl 5 rfl) ?_
              refine lv_bipush (v := (-2)) hx hb dX11_crier_120 (by decide) ?_
              refine lv_icmp_eq (tgt := 132) hx hb dX11_crier_122 (by decide) (fun c_11 => ?_) (fun c_11 => ?_)
              ·
                have kc_11 : x4.toInt = (-2 : Int) := i_eq c_11
                refine lv_iload hx hb dX11_crier_132 (lv_at hl 7 rfl) ?_
                refine lv_istore (lv' := [(4, .int x6), (7, .int x_10), (0, .ref (ad 0)), (1, .int p1), (2, .int p2), (3, .int x3), (5, .int x5), (6, .int x6)]) hx hb dX11_crier_134 hl (by decide) rfl (fun ls hl => ?_)
                refine lv_iload hx hb dX11_crier_136 (lv_at hl 1 rfl) ?_
                refine lv_istore (lv' := [(5, .int x_10), (4, .int x6), (7, .int x_10), (0, .ref (ad 0)), (1, .int p1), (2, .int p2), (3, .int x3), (6, .int x6)]) hx hb dX11_crier_138 hl (by decide) rfl (fun ls hl => ?_)
                obtain ⟨x_12, ex_12⟩ : ∃ y : Int32, y = x6 + 1 := ⟨_, rfl⟩
                have fx_12 : x_12.toInt = x6.toInt + 1 := by rw [ex_12]; exact i_add (by first | omega | (show (_ : Int) ≤ x6.toInt + 1; omega)) (by first | omega | (show x6.toInt + 1 ≤ (_ : Int); omega))
                refine lv_iinc (v := x_12) (lv' := [(6, .int x_12), (5, .int x_10), (4, .int x6), (7, .int x_10), (0, .ref (ad 0)), (1, .int p1), (2, .int p2), (3, .int x3)]) hx hb dX11_crier_140 hl (k := 7) rfl (by rw [ex_12]; rfl) (by decide) rfl (fun ls hl => ?_)
                refine lv_goto (tgt := 48) hx hb dX11_crier_143 (by decide) ?_
                exact ih x3 x6 x_10 x_12 (by omega) (by omega) ls (lv_sub hl [4, 5, 6, 7, 2, 1, 0] rfl)
              ·
                have kc_11 : x4.toInt ≠ (-2 : Int) := i_ne c_11
                refine lv_iload hx hb dX11_crier_125 (lv_at hl 0 rfl) ?_
                refine lv_iload hx hb dX11_crier_127 (lv_at hl 6 rfl) ?_
                refine lv_icmp_ge (tgt := 140) hx hb dX11_crier_129 (by decide) (fun c_13 => ?_) (fun c_13 => ?_)
                ·
                  have kc_13 : x5.toInt ≤ x_10.toInt := i_le c_13
                  obtain ⟨x_14, ex_14⟩ : ∃ y : Int32, y = x6 + 1 := ⟨_, rfl⟩
                  have fx_14 : x_14.toInt = x6.toInt + 1 := by rw [ex_14]; exact i_add (by first | omega | (show (_ : Int) ≤ x6.toInt + 1; omega)) (by first | omega | (show x6.toInt + 1 ≤ (_ : Int); omega))
                  refine lv_iinc (v := x_14) (lv' := [(6, .int x_14), (7, .int x_10), (0, .ref (ad 0)), (1, .int p1), (2, .int p2), (3, .int x3), (4, .int x4), (5, .int x5)]) hx hb dX11_crier_140 hl (k := 7) rfl (by rw [ex_14]; rfl) (by decide) rfl (fun ls hl => ?_)
                  refine lv_goto (tgt := 48) hx hb dX11_crier_143 (by decide) ?_
                  exact ih x3 x4 x5 x_14 (by omega) (by omega) ls (lv_sub hl [2, 3, 4, 5, 6, 7, 0] rfl)
                ·
                  have kc_13 : x_10.toInt < x5.toInt := i_nle c_13
                  refine lv_iload hx hb dX11_crier_132 (lv_at hl 7 rfl) ?_
                  refine lv_istore (lv' := [(4, .int x6), (7, .int x_10), (0, .ref (ad 0)), (1, .int p1), (2, .int p2), (3, .int x3), (5, .int x5), (6, .int x6)]) hx hb dX11_crier_134 hl (by decide) rfl (fun ls hl => ?_)
                  refine lv_iload hx hb dX11_crier_136 (lv_at hl 1 rfl) ?_
                  refine lv_istore (lv' := [(5, .int x_10), (4, .int x6), (7, .int x_10), (0, .ref (ad 0)), (1, .int p1), (2, .int p2), (3, .int x3), (6, .int x6)]) hx hb dX11_crier_138 hl (by decide) rfl (fun ls hl => ?_)
                  obtain ⟨x_15, ex_15⟩ : ∃ y : Int32, y = x6 + 1 := ⟨_, rfl⟩
                  have fx_15 : x_15.toInt = x6.toInt + 1 := by rw [ex_15]; exact i_add (by first | omega | (show (_ : Int) ≤ x6.toInt + 1; omega)) (by first | omega | (show x6.toInt + 1 ≤ (_ : Int); omega))
                  refine lv_iinc (v := x_15) (lv' := [(6, .int x_15), (5, .int x_10), (4, .int x6), (7, .int x_10), (0, .ref (ad 0)), (1, .int p1), (2, .int p2), (3, .int x3)]) hx hb dX11_crier_140 hl (k := 7) rfl (by rw [ex_15]; rfl) (by decide) rfl (fun ls hl => ?_)
                  refine lv_goto (tgt := 48) hx hb dX11_crier_143 (by decide) ?_
                  exact ih x3 x6 x_10 x_15 (by omega) (by omega) ls (lv_sub hl [4, 5, 6, 7, 2, 1, 0] rfl)
            ·
              have kc_9 : (0 : Int) < x_8.toInt := i_nle c_9
              refine lv_aload_n hx hb dX11_crier_91 rfl (lv_at hl 0 rfl) ?_
              refine gf_main_parish hx hb hg hown hK hP rfl (hg _ q2_123) dX11_crier_92 ?_
              refine gf_parish_pay hx hb hg hown hK hP rfl (hg _ q1_124) dX11_crier_95 ?_
              refine lv_iload hx hb dX11_crier_98 (lv_at hl 6 rfl) ?_
              refine ld_Ppay hx hb hK hP (i_in (by omega) (by omega)) dX11_crier_100 ?_
              refine lv_topi (fun x_16 ex_16 => ?_)
              have ex_16 : x_16 = (a 13) x6.toNatClampNeg := ex_16
              have hx_16 : x_16.toInt = ((a 13) x6.toNatClampNeg).toInt := by rw [ex_16]
              refine lv_iconst (v := 2) hx hb dX11_crier_101 (by decide) ?_
              refine lv_idiv hx hb dX11_crier_102 (by decide) ?_
              refine lv_topi (fun x_17 ex_17 => ?_)
              refine lv_goto (tgt := 116) hx hb dX11_crier_103 (by decide) ?_
              refine lv_istore (lv' := [(7, .int x_17), (0, .ref (ad 0)), (1, .int p1), (2, .int p2), (3, .int x3), (4, .int x4), (5, .int x5), (6, .int x6)]) hx hb dX11_crier_116 hl (by decide) rfl (fun ls hl => ?_)
              refine lv_iload hx hb dX11_crier_118 (lv_at hl 5 rfl) ?_
              refine lv_bipush (v := (-2)) hx hb dX11_crier_120 (by decide) ?_
              refine lv_icmp_eq (tgt := 132) hx hb dX11_crier_122 (by decide) (fun c_18 => ?_) (fun c_18 => ?_)
              ·
                have kc_18 : x4.toInt = (-2 : Int) := i_eq c_18
                refine lv_iload hx hb dX11_crier_132 (lv_at hl 7 rfl) ?_
                refine lv_istore (lv' := [(4, .int x6), (7, .int x_17), (0, .ref (ad 0)), (1, .int p1), (2, .int p2), (3, .int x3), (5, .int x5), (6, .int x6)]) hx hb dX11_crier_134 hl (by decide) rfl (fun ls hl => ?_)
                refine lv_iload hx hb dX11_crier_136 (lv_at hl 1 rfl) ?_
                refine lv_istore (lv' := [(5, .int x_17), (4, .int x6), (7, .int x_17), (0, .ref (ad 0)), (1, .int p1), (2, .int p2), (3, .int x3), (6, .int x6)]) hx hb dX11_crier_138 hl (by decide) rfl (fun ls hl => ?_)
                obtain ⟨x_19, ex_19⟩ : ∃ y : Int32, y = x6 + 1 := ⟨_, rfl⟩
                have fx_19 : x_19.toInt = x6.toInt + 1 := by rw [ex_19]; exact i_add (by first | omega | (show (_ : Int) ≤ x6.toInt + 1; omega)) (by first | omega | (show x6.toInt + 1 ≤ (_ : Int); omega))
                refine lv_iinc (v := x_19) (lv' := [(6, .int x_19), (5, .int x_17), (4, .int x6), (7, .int x_17), (0, .ref (ad 0)), (1, .int p1), (2, .int p2), (3, .int x3)]) hx hb dX11_crier_140 hl (k := 7) rfl (by rw [ex_19]; rfl) (by decide) rfl (fun ls hl => ?_)
                refine lv_goto (tgt := 48) hx hb dX11_crier_143 (by decide) ?_
                exact ih x3 x6 x_17 x_19 (by omega) (by omega) ls (lv_sub hl [4, 5, 6, 7, 2, 1, 0] rfl)
              ·
                have kc_18 : x4.toInt ≠ (-2 : Int) := i_ne c_18
                refine lv_iload hx hb dX11_crier_125 (lv_at hl 0 rfl) ?_
                refine lv_iload hx hb dX11_crier_127 (lv_at hl 6 rfl) ?_
                refine lv_icmp_ge (tgt := 140) hx hb dX11_crier_129 (by decide) (fun c_20 => ?_) (fun c_20 => ?_)
                ·
                  have kc_20 : x5.toInt ≤ x_17.toInt := i_le c_20
                  obtain ⟨x_21, ex_21⟩ : ∃ y : Int32, y = x6 + 1 := ⟨_, rfl⟩
                  have fx_21 : x_21.toInt = x6.toInt + 1 := by rw [ex_21]; exact i_add (by first | omega | (show (_ : Int) ≤ x6.toInt + 1; omega)) (by first | omega | (show x6.toInt + 1 ≤ (_ : Int); omega))
                  refine lv_iinc (v := x_21) (lv' := [(6, .int x_21), (7, .int x_17), (0, .ref (ad 0)), (1, .int p1), (2, .int p2), (3, .int x3), (4, .int x4), (5, .int x5)]) hx hb dX11_crier_140 hl (k := 7) rfl (by rw [ex_21]; rfl) (by decide) rfl (fun ls hl => ?_)
                  refine lv_goto (tgt := 48) hx hb dX11_crier_143 (by decide) ?_
                  exact ih x3 x4 x5 x_21 (by omega) (by omega) ls (lv_sub hl [2, 3, 4, 5, 6, 7, 0] rfl)
                ·
                  have kc_20 : x_17.toInt < x5.toInt := i_nle c_20
                  refine lv_iload hx hb dX11_crier_132 (lv_at hl 7 rfl) ?_
                  refine lv_istore (lv' := [(4, .int x6), (7, .int x_17), (0, .ref (ad 0)), (1, .int p1), (2, .int p2), (3, .int x3), (5, .int x5), (6, .int x6)]) hx hb dX11_crier_134 hl (by decide) rfl (fun ls hl => ?_)
                  refine lv_iload hx hb dX11_crier_136 (lv_at hl 1 rfl) ?_
                  refine lv_istore (lv' := [(5, .int x_17), (4, .int x6), (7, .int x_17), (0, .ref (ad 0)), (1, .int p1), (2, .int p2), (3, .int x3), (6, .int x6)]) hx hb dX11_crier_138 hl (by decide) rfl (fun ls hl => ?_)
                  obtain ⟨x_22, ex_22⟩ : ∃ y : Int32, y = x6 + 1 := ⟨_, rfl⟩
                  have fx_22 : x_22.toInt = x6.toInt + 1 := by rw [ex_22]; exact i_add (by first | omega | (show (_ : Int) ≤ x6.toInt + 1; omega)) (by first | omega | (show x6.toInt + 1 ≤ (_ : Int); omega))
                  refine lv_iinc (v := x_22) (lv' := [(6, .int x_22), (5, .int x_17), (4, .int x6), (7, .int x_17), (0, .ref (ad 0)), (1, .int p1), (2, .int p2), (3, .int x3)]) hx hb dX11_crier_140 hl (k := 7) rfl (by rw [ex_22]; rfl) (by decide) rfl (fun ls hl => ?_)
                  refine lv_goto (tgt := 48) hx hb dX11_crier_143 (by decide) ?_
                  exact ih x3 x6 x_17 x_22 (by omega) (by omega) ls (lv_sub hl [4, 5, 6, 7, 2, 1, 0] rfl)
          ·
            have kc_7 : x_6.toInt = (0 : Int) := i_eq c_7
            refine lv_goto (tgt := 140) hx hb dX11_crier_75 (by decide) ?_
            obtain ⟨x_23, ex_23⟩ : ∃ y : Int32, y = x6 + 1 := ⟨_, rfl⟩
            have fx_23 : x_23.toInt = x6.toInt + 1 := by rw [ex_23]; exact i_add (by first | omega | (show (_ : Int) ≤ x6.toInt + 1; omega)) (by first | omega | (show x6.toInt + 1 ≤ (_ : Int); omega))
            refine lv_iinc (v := x_23) (lv' := [(6, .int x_23), (0, .ref (ad 0)), (1, .int p1), (2, .int p2), (3, .int x3), (4, .int x4), (5, .int x5)]) hx hb dX11_crier_140 hl (k := 6) rfl (by rw [ex_23]; rfl) (by decide) rfl (fun ls hl => ?_)
            refine lv_goto (tgt := 48) hx hb dX11_crier_143 (by decide) ?_
            exact ih x3 x4 x5 x_23 (by omega) (by omega) ls (lv_sub hl [1, 2, 3, 4, 5, 6, 0] rfl)
  refine lv_aload_n hx hb dX11_crier_0 rfl (lv_at hl 0 rfl) ?_
  refine gf_main_parish hx hb hg hown hK hP rfl (hg _ q2_123) dX11_crier_1 ?_
  refine lv_iload_n hx hb dX11_crier_4 rfl (lv_at hl 1 rfl) ?_
  refine cV_ro (As := [.int p1]) (rest := []) ⟨hx, hb, hml, hown, hg⟩ (k_X9_has l D cs A ad fa fq rv v a w fv fp  p1 (show 0 ≤ (v 1).toInt by first | omega | decide) (show (v 1).toInt ≤ 8 by first | omega | decide)) ca_X9_has q3_4 ⟨rfl, rfl⟩ ⟨Nat.le_of_ble_eq_true rfl, Nat.le_of_ble_eq_true rfl⟩ (rc_parish hK hP) hK hP hD hS hZ rfl hl.1 rfl (Nat.le_of_ble_eq_true rfl) ⟨Nat.zero_le _, Nat.zero_le _⟩ dX11_crier_5 (fun r_24 wr_24 => ?_)
  have wr_24_0 : (r_24.toInt = 1 ∧ 0 ≤ p1.toInt ∧ p1.toInt < (v 1).toInt) ∨ (r_24.toInt = 0 ∧ ¬ (0 ≤ p1.toInt ∧ p1.toInt < (v 1).toInt)) := wr_24
  refine lv_if_eq (tgt := 20) hx hb dX11_crier_8 (by decide) (fun c_25 => ?_) (fun c_25 => ?_)
  ·
    have kc_25 : r_24.toInt = (0 : Int) := i_eq c_25
    refine lv_iconst (v := (-1)) hx hb dX11_crier_20 (by decide) ?_
    have q0_m1 : ((-1) : Int32).toInt = (-1) := rfl
    exact W.iret (v := (-1)) hx hb hr (fun tt ht hW => ⟨(-1), rfl, trivial, ht⟩) (fun _ h => by cases h) dX11_crier_21
  ·
    have kc_25 : r_24.toInt ≠ (0 : Int) := i_ne c_25
    refine lv_iload_n hx hb dX11_crier_11 rfl (lv_at hl 2 rfl) ?_
    refine lv_if_lt (tgt := 20) hx hb dX11_crier_12 (by decide) (fun c_26 => ?_) (fun c_26 => ?_)
    ·
      have kc_26 : p2.toInt < (0 : Int) := i_lt c_26
      refine lv_iconst (v := (-1)) hx hb dX11_crier_20 (by decide) ?_
      have q0_m1 : ((-1) : Int32).toInt = (-1) := rfl
      exact W.iret (v := (-1)) hx hb hr (fun tt ht hW => ⟨(-1), rfl, trivial, ht⟩) (fun _ h => by cases h) dX11_crier_21
    ·
      have kc_26 : (0 : Int) ≤ p2.toInt := i_nlt c_26
      refine lv_iload_n hx hb dX11_crier_15 rfl (lv_at hl 2 rfl) ?_
      refine lv_iconst (v := 1) hx hb dX11_crier_16 (by decide) ?_
      refine lv_icmp_le (tgt := 22) hx hb dX11_crier_17 (by decide) (fun c_27 => ?_) (fun c_27 => ?_)
      ·
        have kc_27 : p2.toInt ≤ (1 : Int) := i_le c_27
        refine lv_aload_n hx hb dX11_crier_22 rfl (lv_at hl 0 rfl) ?_
        refine gf_main_parish hx hb hg hown hK hP rfl (hg _ q2_123) dX11_crier_23 ?_
        refine lv_aload_n hx hb dX11_crier_26 rfl (lv_at hl 0 rfl) ?_
        refine gf_main_deed hx hb hg hown hK hP rfl (hg _ q2_125) dX11_crier_27 ?_
        refine gf_fl_swarm (f := 14) (by decide) hx hb hg hown hK hP (x := (fv 14 1)) rfl (hg _ q1_233) dX11_crier_30 ?_
        refine cV_ro (As := [.int (fv 14 1)]) (rest := []) ⟨hx, hb, hml, hown, hg⟩ (k_X9_within l D cs A ad fa fq rv v a w fv fp  (fv 14 1) (show 0 ≤ (v 1).toInt by first | omega | decide) (show (v 1).toInt ≤ 8 by first | omega | decide)) ca_X9_within q3_200 ⟨rfl, rfl⟩ ⟨Nat.le_of_ble_eq_true rfl, Nat.le_of_ble_eq_true rfl⟩ (rc_parish hK hP) hK hP hD hS hZ rfl hl.1 rfl (Nat.le_of_ble_eq_true rfl) ⟨Nat.zero_le _, Nat.zero_le _⟩ dX11_crier_33 (fun r_28 wr_28 => ?_)
        have wr_28_0 : True := wr_28
        refine lv_istore_n (lv' := [(3, .int r_28), (0, .ref (ad 0)), (1, .int p1), (2, .int p2)]) hx hb dX11_crier_36 rfl hl (by decide) rfl (fun ls hl => ?_)
        refine lv_bipush (v := (-2)) hx hb dX11_crier_37 (by decide) ?_
        refine lv_istore (lv' := [(4, .int (-2)), (3, .int r_28), (0, .ref (ad 0)), (1, .int p1), (2, .int p2)]) hx hb dX11_crier_39 hl (by decide) rfl (fun ls hl => ?_)
        refine lv_bipush (v := (-2)) hx hb dX11_crier_41 (by decide) ?_
        refine lv_istore (lv' := [(5, .int (-2)), (4, .int (-2)), (3, .int r_28), (0, .ref (ad 0)), (1, .int p1), (2, .int p2)]) hx hb dX11_crier_43 hl (by decide) rfl (fun ls hl => ?_)
        refine lv_iconst (v := 0) hx hb dX11_crier_45 (by decide) ?_
        refine lv_istore (lv' := [(6, .int 0), (5, .int (-2)), (4, .int (-2)), (3, .int r_28), (0, .ref (ad 0)), (1, .int p1), (2, .int p2)]) hx hb dX11_crier_46 hl (by decide) rfl (fun ls hl => ?_)
        have q0_m2 : ((-2) : Int32).toInt = (-2) := rfl
        have q0_0 : (0 : Int32).toInt = 0 := rfl
        exact (hcut ((((v 1).toInt - (0 : Int32).toInt).toNat) + 1)) r_28 (-2) (-2) 0 (by omega) (Nat.lt_succ_self _) ls (lv_sub hl [4, 5, 6, 3, 2, 1, 0] rfl)
      ·
        have kc_27 : (1 : Int) < p2.toInt := i_nle c_27
        refine lv_iconst (v := (-1)) hx hb dX11_crier_20 (by decide) ?_
        have q0_m1 : ((-1) : Int32).toInt = (-1) := rfl
        exact W.iret (v := (-1)) hx hb hr (fun tt ht hW => ⟨(-1), rfl, trivial, ht⟩) (fun _ h => by cases h) dX11_crier_21
set_option maxHeartbeats 4000000 in
set_option maxRecDepth 100000 in
theorem k_X11_keepNear (l : Launch) (D : va_G) (cs : Nat → ClassId) (A : Nat → Prop) (ad fa fq rv : Nat → Nat) (v : Nat → Int32) (a : Nat → Nat → Int32) (w : Nat → Nat → Int64) (fv fp : Nat → Nat → Int32)  (p1 : Int32) (iv1_0 : 0 ≤ (v 1).toInt) (iv1_1 : (v 1).toInt ≤ 8) : Met l yX11_keepNear (Cond.code yX11_keepNear cX11_keepNear 4 (some .int) :: gw) ({ frames := 2, cells := 0, slots := 0, locals := 48 }) (va_Pc [.ref (ad 0), .int p1] (XPre D (TY cs) (CW cs ad fa fq rv v a w fv fp) A)) (vp_Si (fun (r : Int32) => True)) 0 0 (fun _ => False) := by
  refine Met.ofW (cc := cX11_keepNear) (maxL := 4) (ret := (some .int)) (by decide) rfl ?_
  intro p e s m args below meth c s₁ B hml hv
  obtain ⟨rfl, hP, hK, hD, hZ⟩ := hv
  have hx := B.exec
  have hb := B.bytes
  have hr := B.returns
  have hts := atoms_spec (ws := (Cond.code yX11_keepNear cX11_keepNear 4 (some .int) :: gw)) B.pre
  have hg : ∀ w ∈ gw, w.before ([.ref (ad 0), .int p1] : List Value).toArray s = true := fun w h => hts w (List.mem_cons_of_mem _ h)
  have hown : s.vm.findClass RX11 = some m.cls := findClass_of_methodNamed B.named
  have hlocks := B.notSynchronized
  have hS : va_S A s.heap s.heap [] := va_S.rf
  have hl := lv_entry ([.ref (ad 0), .int p1]) (n := 4) (Nat.le_of_ble_eq_true rfl)
  rw [lg_entry_eq]
  generalize (lg_sl ([.ref (ad 0), .int p1]) ++ List.replicate (4 - (lg_sl ([.ref (ad 0), .int p1])).length) Slot.unset).toArray = ls at hl ⊢
  have hl : lv_has ls 4 [(0, .ref (ad 0)), (1, .int p1)] := hl
  have hcut : ∀ nk : Nat, (∀ (x2 : Int32) (x3 : Int32) (j1 : 0 ≤ p1.toInt) (j2 : p1.toInt < (v 1).toInt) (i2 : x2.toInt = -2 ∨ (0 ≤ x2.toInt ∧ x2.toInt < (v 1).toInt)) (i3 : 0 ≤ x3.toInt) (hmu : ((v 1).toInt - x3.toInt).toNat < nk) (ls : Array Slot) (hl : lv_has ls 4 [(0, .ref (ad 0)), (1, .int p1), (2, .int x2), (3, .int x3)]), W p l e (headSpec (Cond.code yX11_keepNear cX11_keepNear 4 (some .int) :: gw) ({ frames := 2, cells := 0, slots := 0, locals := 48 })).room s m ([.ref (ad 0), .int p1] : List Value).toArray below meth c s.heap [] 0 0 (MQ below (vp_Si (fun (r : Int32) => True)) ([.ref (ad 0), .int p1] : List Value).toArray s 0 0 (fun _ => False)) (F0 m 18 ls [])) := by
    intro nk
    induction nk with
    | zero => exact (fun x2 x3 j1 j2 i2 i3 hmu ls hl => absurd hmu (Nat.not_lt_zero _))
    | succ nk ih =>
      intro x2 x3 j1 j2 i2 i3 hmu ls hl
      refine lv_iload_n hx hb dX11_keepNear_18 rfl (lv_at hl 3 rfl) ?_
      refine lv_aload_n hx hb dX11_keepNear_19 rfl (lv_at hl 0 rfl) ?_
      refine gf_main_parish hx hb hg hown hK hP rfl (hg _ q2_123) dX11_keepNear_20 ?_
      refine gf_parish_people hx hb hg hown hK hP (x := (v 1)) rfl (hg _ q1_109) dX11_keepNear_23 ?_
      refine lv_icmp_ge (tgt := 61) hx hb dX11_keepNear_26 (by decide) (fun c_1 => ?_) (fun c_1 => ?_)
      ·
        have kc_1 : (v 1).toInt ≤ x3.toInt := i_le c_1
        refine lv_iload_n hx hb dX11_keepNear_61 rfl (lv_at hl 2 rfl) ?_
        exact W.iret (v := x2) hx hb hr (fun tt ht hW => ⟨x2, rfl, trivial, ht⟩) (fun _ h => by cases h) dX11_keepNear_62
      ·
        have kc_1 : x3.toInt < (v 1).toInt := i_nle c_1
        refine lv_iload_n hx hb dX11_keepNear_29 rfl (lv_at hl 3 rfl) ?_
        refine lv_iload_n hx hb dX11_keepNear_30 rfl (lv_at hl 1 rfl) ?_
        refine lv_icmp_eq (tgt := 55) hx hb dX11_keepNear_31 (by decide) (fun c_2 => ?_) (fun c_2 => ?_)
        ·
          have kc_2 : x3.toInt = p1.toInt := i_eq c_2
          obtain ⟨x_3, ex_3⟩ : ∃ y : Int32, y = x3 + 1 := ⟨_, rfl⟩
          have fx_3 : x_3.toInt = x3.toInt + 1 := by rw [ex_3]; exact i_add (by first | omega | (show (_ : Int) ≤ x3.toInt + 1; omega)) (by first | omega | (show x3.toInt + 1 ≤ (_ : Int); omega))
          refine lv_iinc (v := x_3) (lv' := [(3, .int x_3), (0, .ref (ad 0)), (1, .int p1), (2, .int x2)]) hx hb dX11_keepNear_55 hl (k := 3) rfl (by rw [ex_3]; rfl) (by decide) rfl (fun ls hl => ?_)
          refine lv_goto (tgt := 18) hx hb dX11_keepNear_58 (by decide) ?_
          exact ih x2 x_3 (by omega) (by omega) (by omega) (by omega) (by omega) ls (lv_sub hl [1, 2, 3, 0] rfl)
        ·
          have kc_2 : x3.toInt ≠ p1.toInt := i_ne c_2
          refine lv_iload_n hx hb dX11_keepNear_34 rfl (lv_at hl 2 rfl) ?_
          refine lv_bipush (v := (-2)) hx hb dX11_keepNear_35 (by decide) ?_
          refine lv_icmp_eq (tgt := 53) hx hb dX11_keepNear_37 (by decide) (fun c_4 => ?_) (fun c_4 => ?_)
          ·
            have kc_4 : x2.toInt = (-2 : Int) := i_eq c_4
            refine lv_iload_n hx hb dX11_keepNear_53 rfl (lv_at hl 3 rfl) ?_
            refine lv_istore_n (lv' := [(2, .int x3), (0, .ref (ad 0)), (1, .int p1), (3, .int x3)]) hx hb dX11_keepNear_54 rfl hl (by decide) rfl (fun ls hl => ?_)
            obtain ⟨x_5, ex_5⟩ : ∃ y : Int32, y = x3 + 1 := ⟨_, rfl⟩
            have fx_5 : x_5.toInt = x3.toInt + 1 := by rw [ex_5]; exact i_add (by first | omega | (show (_ : Int) ≤ x3.toInt + 1; omega)) (by first | omega | (show x3.toInt + 1 ≤ (_ : Int); omega))
            refine lv_iinc (v := x_5) (lv' := [(3, .int x_5), (2, .int x3), (0, .ref (ad 0)), (1, .int p1)]) hx hb dX11_keepNear_55 hl (k := 3) rfl (by rw [ex_5]; rfl) (by decide) rfl (fun ls hl => ?_)
            refine lv_goto (tgt := 18) hx hb dX11_keepNear_58 (by decide) ?_
            exact ih x3 x_5 (by omega) (by omega) (by omega) (by omega) (by omega) ls (lv_sub hl [2, 3, 1, 0] rfl)
          ·
            have kc_4 : x2.toInt ≠ (-2 : Int) := i_ne c_4
            refine lv_aload_n hx hb dX11_keepNear_40 rfl (lv_at hl 0 rfl) ?_
            refine gf_main_parish hx hb hg hown hK hP rfl (hg _ q2_123) dX11_keepNear_41 ?_
            refine lv_iload_n hx hb dX11_keepNear_44 rfl (lv_at hl 1 rfl) ?_
            refine lv_iload_n hx hb dX11_keepNear_45 rfl (lv_at hl 3 rfl) ?_
            refine lv_iload_n hx hb dX11_keepNear_46 rfl (lv_at hl 2 rfl) ?_
            refine cV_ro (As := [.int p1, .int x3, .int x2]) (rest := []) ⟨hx, hb, hml, hown, hg⟩ (k_X9_isNearer l D cs A ad fa fq rv v a w fv fp  p1 x3 x2 (show 0 ≤ p1.toInt by first | omega | decide) (show p1.toInt < 8 by first | omega | decide) (show 0 ≤ x3.toInt by first | omega | decide) (show x3.toInt < 8 by first | omega | decide) (show 0 ≤ x2.toInt by first | omega | decide) (show x2.toInt < 8 by first | omega | decide)) ca_X9_isNearer q4_42 ⟨rfl, rfl⟩ ⟨Nat.le_of_ble_eq_true rfl, Nat.le_of_ble_eq_true rfl⟩ (rc_parish hK hP) hK hP hD hS hZ rfl hl.1 rfl (Nat.le_of_ble_eq_true rfl) ⟨Nat.zero_le _, Nat.zero_le _⟩ dX11_keepNear_47 (fun r_6 wr_6 => ?_)
            obtain ⟨wr_6_0, wr_6_1⟩ : (0 ≤ r_6.toInt) ∧ (r_6.toInt ≤ 1) := wr_6
            refine lv_if_eq (tgt := 55) hx hb dX11_keepNear_50 (by decide) (fun c_7 => ?_) (fun c_7 => ?_)
            ·
              have kc_7 : r_6.toInt = (0 : Int) := i_eq c_7
              obtain ⟨x_8, ex_8⟩ : ∃ y : Int32, y = x3 + 1 := ⟨_, rfl⟩
              have fx_8 : x_8.toInt = x3.toInt + 1 := by rw [ex_8]; exact i_add (by first | omega | (show (_ : Int) ≤ x3.toInt + 1; omega)) (by first | omega | (show x3.toInt + 1 ≤ (_ : Int); omega))
              refine lv_iinc (v := x_8) (lv' := [(3, .int x_8), (0, .ref (ad 0)), (1, .int p1), (2, .int x2)]) hx hb dX11_keepNear_55 hl (k := 3) rfl (by rw [ex_8]; rfl) (by decide) rfl (fun ls hl => ?_)
              refine lv_goto (tgt := 18) hx hb dX11_keepNear_58 (by decide) ?_
              exact ih x2 x_8 (by omega) (by omega) (by omega) (by omega) (by omega) ls (lv_sub hl [1, 2, 3, 0] rfl)
            ·
              have kc_7 : r_6.toInt ≠ (0 : Int) := i_ne c_7
              refine lv_iload_n hx hb dX11_keepNear_53 rfl (lv_at hl 3 rfl) ?_
              refine lv_istore_n (lv' := [(2, .int x3), (0, .ref (ad 0)), (1, .int p1), (3, .int x3)]) hx hb dX11_keepNear_54 rfl hl (by decide) rfl (fun ls hl => ?_)
              obtain ⟨x_9, ex_9⟩ : ∃ y : Int32, y = x3 + 1 := ⟨_, rfl⟩
              have fx_9 : x_9.toInt = x3.toInt + 1 := by rw [ex_9]; exact i_add (by first | omega | (show (_ : Int) ≤ x3.toInt + 1; omega)) (by first | omega | (show x3.toInt + 1 ≤ (_ : Int); omega))
              refine lv_iinc (v := x_9) (lv' := [(3, .int x_9), (2, .int x3), (0, .ref (ad 0)), (1, .int p1)]) hx hb dX11_keepNear_55 hl (k := 3) rfl (by rw [ex_9]; rfl) (by decide) rfl (fun ls hl => ?_)
              refine lv_goto (tgt := 18) hx hb dX11_keepNear_58 (by decide) ?_
              exact ih x3 x_9 (by omega) (by omega) (by omega) (by omega) (by omega) ls (lv_sub hl [2, 3, 1, 0] rfl)
  refine lv_aload_n hx hb dX11_keepNear_0 rfl (lv_at hl 0 rfl) ?_
  refine gf_main_parish hx hb hg hown hK hP rfl (hg _ q2_123) dX11_keepNear_1 ?_
  refine lv_iload_n hx hb dX11_keepNear_4 rfl (lv_at hl 1 rfl) ?_
  refine cV_ro (As := [.int p1]) (rest := []) ⟨hx, hb, hml, hown, hg⟩ (k_X9_has l D cs A ad fa fq rv v a w fv fp  p1 (show 0 ≤ (v 1).toInt by first | omega | decide) (show (v 1).toInt ≤ 8 by first | omega | decide)) ca_X9_has q3_4 ⟨rfl, rfl⟩ ⟨Nat.le_of_ble_eq_true rfl, Nat.le_of_ble_eq_true rfl⟩ (rc_parish hK hP) hK hP hD hS hZ rfl hl.1 rfl (Nat.le_of_ble_eq_true rfl) ⟨Nat.zero_le _, Nat.zero_le _⟩ dX11_keepNear_5 (fun r_10 wr_10 => ?_)
  have wr_10_0 : (r_10.toInt = 1 ∧ 0 ≤ p1.toInt ∧ p1.toInt < (v 1).toInt) ∨ (r_10.toInt = 0 ∧ ¬ (0 ≤ p1.toInt ∧ p1.toInt < (v 1).toInt)) := wr_10
  refine lv_if_ne (tgt := 13) hx hb dX11_keepNear_8 (by decide) (fun c_11 => ?_) (fun c_11 => ?_)
  ·
    have kc_11 : r_10.toInt ≠ (0 : Int) := i_ne c_11
    refine lv_bipush (v := (-2)) hx hb dX11_keepNear_13 (by decide) ?_
    refine lv_istore_n (lv' := [(2, .int (-2)), (0, .ref (ad 0)), (1, .int p1)]) hx hb dX11_keepNear_15 rfl hl (by decide) rfl (fun ls hl => ?_)
    refine lv_iconst (v := 0) hx hb dX11_keepNear_16 (by decide) ?_
    refine lv_istore_n (lv' := [(3, .int 0), (2, .int (-2)), (0, .ref (ad 0)), (1, .int p1)]) hx hb dX11_keepNear_17 rfl hl (by decide) rfl (fun ls hl => ?_)
    have q0_m2 : ((-2) : Int32).toInt = (-2) := rfl
    have q0_0 : (0 : Int32).toInt = 0 := rfl
    exact (hcut ((((v 1).toInt - (0 : Int32).toInt).toNat) + 1)) (-2) 0 (by omega) (by omega) (by omega) (by omega) (Nat.lt_succ_self _) ls (lv_sub hl [2, 3, 1, 0] rfl)
  ·
    have kc_11 : r_10.toInt = (0 : Int) := i_eq c_11
    refine lv_iconst (v := (-1)) hx hb dX11_keepNear_11 (by decide) ?_
    have q0_m1 : ((-1) : Int32).toInt = (-1) := rfl
    exact W.iret (v := (-1)) hx hb hr (fun tt ht hW => ⟨(-1), rfl, trivial, ht⟩) (fun _ h => by cases h) dX11_keepNear_12
set_option maxHeartbeats 4000000 in
set_option maxRecDepth 100000 in
theorem k_X11_drawn (l : Launch) (D : va_G) (cs : Nat → ClassId) (A : Nat → Prop) (ad fa fq rv : Nat → Nat) (v : Nat → Int32) (a : Nat → Nat → Int32) (w : Nat → Nat → Int64) (fv fp : Nat → Nat → Int32)  (p1 : Int32) (p2 : Int32) (p3 : Int32) (iv1_0 : 0 ≤ (v 1).toInt) (iv1_1 : (v 1).toInt ≤ 8) (ifv14_0 : (fv 14 2).toInt = -2 ∨ (0 ≤ (fv 14 2).toInt ∧ (fv 14 2).toInt < (v 1).toInt)) (iv5_0 : 0 ≤ (v 5).toInt) (iv5_1 : (v 5).toInt ≤ 256) (ia18_0 : AB (-1000) 20000 (a 18)) : Met l yX11_drawn (Cond.code yX11_drawn cX11_drawn 12 (some .int) :: gw) ({ frames := 4, cells := 0, slots := 0, locals := 103 }) (va_Pc [.ref (ad 0), .int p1, .int p2, .int p3] (XPre D (TY cs) (CW cs ad fa fq rv v a w fv fp) A)) (va_Qi (fun (r : Int32) (z : (Nat → Int32) × (Nat → Int32) × (Nat → Int32) × (Nat → Int32)) => True) (XPo D (fun (z : (Nat → Int32) × (Nat → Int32) × (Nat → Int32) × (Nat → Int32)) => CW cs ad fa fq rv v (va_up (va_up a 17 z.1) 16 z.2.1) w (va_up fv 15 z.2.2.1) (va_up fp 15 z.2.2.2)) A) A) 0 0 A := by
  refine Met.ofW (cc := cX11_drawn) (maxL := 12) (ret := (some .int)) (by decide) rfl ?_
  intro p e s m args below meth c s₁ B hml hv
  obtain ⟨rfl, hP, hK, hD, hZ⟩ := hv
  have hx := B.exec
  have hb := B.bytes
  have hr := B.returns
  have hts := atoms_spec (ws := (Cond.code yX11_drawn cX11_drawn 12 (some .int) :: gw)) B.pre
  have hg : ∀ w ∈ gw, w.before ([.ref (ad 0), .int p1, .int p2, .int p3] : List Value).toArray s = true := fun w h => hts w (List.mem_cons_of_mem _ h)
  have hown : s.vm.findClass RX11 = some m.cls := findClass_of_methodNamed B.named
  have hlocks := B.notSynchronized
  have hS : va_S A s.heap s.heap [] := va_S.rf
  have hP : va_P D vwCl (CW cs ad fa fq rv v a w fv fp) s.heap := hP
  have hl := lv_entry ([.ref (ad 0), .int p1, .int p2, .int p3]) (n := 12) (Nat.le_of_ble_eq_true rfl)
  rw [lg_entry_eq]
  generalize (lg_sl ([.ref (ad 0), .int p1, .int p2, .int p3]) ++ List.replicate (12 - (lg_sl ([.ref (ad 0), .int p1, .int p2, .int p3])).length) Slot.unset).toArray = ls at hl ⊢
  have hl : lv_has ls 12 [(0, .ref (ad 0)), (1, .int p1), (2, .int p2), (3, .int p3)] := hl
  have hcut : ∀ nk : Nat, (∀ (x4 : Int32) (x5 : Int32) (x6 : Int32) (x7 : Int32) (x8 : Int32) (x9 : Int32) (c86_a17 : Nat → Int32) (c86_a16 : Nat → Int32) (c86_fv15 : Nat → Int32) (c86_fp15 : Nat → Int32) (H : Heap) (locs : List Loc) (hpn : 0 < (v 1).toInt) (i4 : x4.toInt ≤ 30) (i5 : 1 ≤ x5.toInt) (i5b : x5.toInt ≤ 40) (i9 : 0 ≤ x9.toInt) (hmu : 100 * (x4.toInt - x9.toInt).toNat < nk) (hP : va_P D vwCl (CW cs ad fa fq rv v (va_up (va_up a 17 c86_a17) 16 c86_a16) w (va_up fv 15 c86_fv15) (va_up fp 15 c86_fp15)) H) (hD : va_D A (CW cs ad fa fq rv v (va_up (va_up a 17 c86_a17) 16 c86_a16) w (va_up fv 15 c86_fv15) (va_up fp 15 c86_fp15))) (hS : va_S A s.heap H locs) (ls : Array Slot) (hl : lv_has ls 12 [(0, .ref (ad 0)), (3, .int p3), (4, .int x4), (5, .int x5), (6, .int x6), (7, .int x7), (8, .int x8), (9, .int x9)]), W p l e (headSpec (Cond.code yX11_drawn cX11_drawn 12 (some .int) :: gw) ({ frames := 4, cells := 0, slots := 0, locals := 103 })).room s m ([.ref (ad 0), .int p1, .int p2, .int p3] : List Value).toArray below meth c H locs 0 0 (MQ below (va_Qi (fun (r : Int32) (z : (Nat → Int32) × (Nat → Int32) × (Nat → Int32) × (Nat → Int32)) => True) (XPo D (fun (z : (Nat → Int32) × (Nat → Int32) × (Nat → Int32) × (Nat → Int32)) => CW cs ad fa fq rv v (va_up (va_up a 17 z.1) 16 z.2.1) w (va_up fv 15 z.2.2.1) (va_up fp 15 z.2.2.2)) A) A) ([.ref (ad 0), .int p1, .int p2, .int p3] : List Value).toArray s 0 0 A) (F0 m 86 ls [])) ∧ (∀ (x4 : Int32) (x5 : Int32) (x6 : Int32) (x7 : Int32) (x8 : Int32) (x9 : Int32) (x10 : Int32) (c107_fv15 : Nat → Int32) (c107_fp15 : Nat → Int32) (c107_a17 : Nat → Int32) (c107_a16 : Nat → Int32) (H : Heap) (locs : List Loc) (hpn : 0 < (v 1).toInt) (i4 : x4.toInt ≤ 30) (i5 : 1 ≤ x5.toInt) (i5b : x5.toInt ≤ 40) (i9 : 0 ≤ x9.toInt) (i9b : x9.toInt < x4.toInt) (i10 : 0 ≤ x10.toInt) (jfv15_0 : (c107_fv15 2).toInt = -2 ∨ (0 ≤ (c107_fv15 2).toInt ∧ (c107_fv15 2).toInt < (v 1).toInt)) (hmu : 100 * (x4.toInt - x9.toInt - 1).toNat + 50 + (x5.toInt - x10.toInt).toNat < nk) (hP : va_P D vwCl (CW cs ad fa fq rv v (va_up (va_up a 17 c107_a17) 16 c107_a16) w (va_up fv 15 c107_fv15) (va_up fp 15 c107_fp15)) H) (hD : va_D A (CW cs ad fa fq rv v (va_up (va_up a 17 c107_a17) 16 c107_a16) w (va_up fv 15 c107_fv15) (va_up fp 15 c107_fp15))) (hS : va_S A s.heap H locs) (ls : Array Slot) (hl : lv_has ls 12 [(0, .ref (ad 0)), (3, .int p3), (4, .int x4), (5, .int x5), (6, .int x6), (7, .int x7), (8, .int x8), (9, .int x9), (10, .int x10)]), W p l e (headSpec (Cond.code yX11_drawn cX11_drawn 12 (some .int) :: gw) ({ frames := 4, cells := 0, slots := 0, locals := 103 })).room s m ([.ref (ad 0), .int p1, .int p2, .int p3] : List Value).toArray below meth c H locs 0 0 (MQ below (va_Qi (fun (r : Int32) (z : (Nat → Int32) × (Nat → Int32) × (Nat → Int32) × (Nat → Int32)) => True) (XPo D (fun (z : (Nat → Int32) × (Nat → Int32) × (Nat → Int32) × (Nat → Int32)) => CW cs ad fa fq rv v (va_up (va_up a 17 z.1) 16 z.2.1) w (va_up fv 15 z.2.2.1) (va_up fp 15 z.2.2.2)) A) A) ([.ref (ad 0), .int p1, .int p2, .int p3] : List Value).toArray s 0 0 A) (F0 m 107 ls [])) := by
    intro nk
    induction nk with
    | zero => exact ⟨(fun x4 x5 x6 x7 x8 x9 c86_a17 c86_a16 c86_fv15 c86_fp15 H locs hpn i4 i5 i5b i9 hmu hP hD hS ls hl => absurd hmu (Nat.not_lt_zero _)), (fun x4 x5 x6 x7 x8 x9 x10 c107_fv15 c107_fp15 c107_a17 c107_a16 H locs hpn i4 i5 i5b i9 i9b i10 jfv15_0 hmu hP hD hS ls hl => absurd hmu (Nat.not_lt_zero _))⟩
    | succ nk ih =>
      refine ⟨?_, ?_⟩
      ·
        intro x4 x5 x6 x7 x8 x9 c86_a17 c86_a16 c86_fv15 c86_fp15 H locs hpn i4 i5 i5b i9 hmu hP hD hS ls hl
        refine lv_iload hx hb dX11_drawn_86 (lv_at hl 7 rfl) ?_
        refine lv_iload hx hb dX11_drawn_88 (lv_at hl 2 rfl) ?_
        refine lv_icmp_ge (tgt := 207) hx hb dX11_drawn_90 (by decide) (fun c_1 => ?_) (fun c_1 => ?_)
        ·
          have kc_1 : x4.toInt ≤ x9.toInt := i_le c_1
          refine lv_iload_n hx hb dX11_drawn_207 rfl (lv_at hl 1 rfl) ?_
          refine lv_iconst (v := (-1)) hx hb dX11_drawn_208 (by decide) ?_
          refine lv_icmp_ne (tgt := 217) hx hb dX11_drawn_209 (by decide) (fun c_2 => ?_) (fun c_2 => ?_)
          ·
            have kc_2 : p3.toInt ≠ (-1 : Int) := i_ne c_2
            refine lv_iload hx hb dX11_drawn_217 (lv_at hl 5 rfl) ?_
            exact W.iret (v := x7) hx hb hr (fun tt ht hW => ⟨⟨x7, ⟨c86_a17, c86_a16, c86_fv15, c86_fp15⟩, rfl, trivial, by rw [ht]; exact hP, hD⟩, hS.F ht⟩) hS.2.2 dX11_drawn_219
          ·
            have kc_2 : p3.toInt = (-1 : Int) := i_eq c_2
            refine lv_iload hx hb dX11_drawn_212 (lv_at hl 6 rfl) ?_
            refine lv_goto (tgt := 219) hx hb dX11_drawn_214 (by decide) ?_
            exact W.iret (v := x8) hx hb hr (fun tt ht hW => ⟨⟨x8, ⟨c86_a17, c86_a16, c86_fv15, c86_fp15⟩, rfl, trivial, by rw [ht]; exact hP, hD⟩, hS.F ht⟩) hS.2.2 dX11_drawn_219
        ·
          have kc_1 : x9.toInt < x4.toInt := i_nle c_1
          refine lv_aload_n hx hb dX11_drawn_93 rfl (lv_at hl 0 rfl) ?_
          refine gf_main_thought hx hb hg hown hK hP rfl (hg _ q2_126) dX11_drawn_94 ?_
          refine lv_aload_n hx hb dX11_drawn_97 rfl (lv_at hl 0 rfl) ?_
          refine gf_main_deed hx hb hg hown hK hP rfl (hg _ q2_125) dX11_drawn_98 ?_
          refine cV_v (As := [.ref (fa 14)]) (rest := []) ⟨hx, hb, hml, hown, hg⟩ (k_X3_begin l D cs A ad fa fq rv v (va_up (va_up a 17 c86_a17) 16 c86_a16) w (va_up fv 15 c86_fv15) (va_up fp 15 c86_fp15) 15 14  (by omega) (by omega) (by omega) (show 0 ≤ (v 1).toInt by first | omega | decide) (show (v 1).toInt ≤ 8 by first | omega | decide) (show (fv 14 2).toInt = -2 ∨ (0 ≤ (fv 14 2).toInt ∧ (fv 14 2).toInt < (v 1).toInt) by first | omega | decide)) ca_X3_begin q3_117 ⟨rfl, rfl⟩ ⟨Nat.le_of_ble_eq_true rfl, Nat.le_of_ble_eq_true rfl⟩ (rc_fl (f := 15) (by decide) hK hP) hK hP hD hS hZ rfl hl.1 rfl (Nat.le_of_ble_eq_true rfl) ⟨Nat.zero_le _, Nat.zero_le _⟩ dX11_drawn_101 (fun z_6 H locs wr_3 hP hD hS => ?_)
          obtain ⟨o_fvf_4, o_fpf_5⟩ := z_6
          have hP : va_P D vwCl (CW cs ad fa fq rv v (va_up (va_up a 17 c86_a17) 16 c86_a16) w (va_up fv 15 o_fvf_4) (va_up fp 15 o_fpf_5)) H := hP
          have hD : va_D A (CW cs ad fa fq rv v (va_up (va_up a 17 c86_a17) 16 c86_a16) w (va_up fv 15 o_fvf_4) (va_up fp 15 o_fpf_5)) := hD
          obtain ⟨wr_3_0, wr_3_1, wr_3_2, wr_3_3, wr_3_4, wr_3_5, wr_3_6, wr_3_7, wr_3_8⟩ : (o_fvf_4 0 = (fv 14 0)) ∧ (o_fvf_4 1 = (fv 14 1)) ∧ (o_fvf_4 2 = (fv 14 2)) ∧ (o_fvf_4 3 = 0) ∧ (o_fvf_4 4 = 0) ∧ (o_fvf_4 5 = 0) ∧ (o_fvf_4 6 = 0) ∧ (o_fvf_4 7 = 0) ∧ ((o_fvf_4 2).toInt = -2 ∨ (0 ≤ (o_fvf_4 2).toInt ∧ (o_fvf_4 2).toInt < (v 1).toInt)) := wr_3
          refine lv_iconst (v := 0) hx hb dX11_drawn_104 (by decide) ?_
          refine lv_istore (lv' := [(10, .int 0), (0, .ref (ad 0)), (3, .int p3), (4, .int x4), (5, .int x5), (6, .int x6), (7, .int x7), (8, .int x8), (9, .int x9)]) hx hb dX11_drawn_105 hl (by decide) rfl (fun ls hl => ?_)
          have q0_0 : (0 : Int32).toInt = 0 := rfl
          exact ih.2 x4 x5 x6 x7 x8 x9 0 o_fvf_4 o_fpf_5 c86_a17 c86_a16 _ _ (by omega) (by omega) (by omega) (by omega) (by omega) (by omega) (by omega) (show (o_fvf_4 2).toInt = -2 ∨ (0 ≤ (o_fvf_4 2).toInt ∧ (o_fvf_4 2).toInt < (v 1).toInt) by first | omega | assumption) (by omega) hP hD hS ls (lv_sub hl [1, 2, 3, 4, 5, 6, 7, 8, 0] rfl)
      ·
        intro x4 x5 x6 x7 x8 x9 x10 c107_fv15 c107_fp15 c107_a17 c107_a16 H locs hpn i4 i5 i5b i9 i9b i10 jfv15_0 hmu hP hD hS ls hl
        refine lv_iload hx hb dX11_drawn_107 (lv_at hl 8 rfl) ?_
        refine lv_iload hx hb dX11_drawn_109 (lv_at hl 3 rfl) ?_
        refine lv_icmp_ge (tgt := 189) hx hb dX11_drawn_111 (by decide) (fun c_7 => ?_) (fun c_7 => ?_)
        ·
          have kc_7 : x5.toInt ≤ x10.toInt := i_le c_7
          refine lv_iload hx hb dX11_drawn_189 (lv_at hl 6 rfl) ?_
          refine lv_aload_n hx hb dX11_drawn_191 rfl (lv_at hl 0 rfl) ?_
          refine gf_main_thought hx hb hg hown hK hP rfl (hg _ q2_126) dX11_drawn_192 ?_
          refine gf_fl_hurts (f := 15) (by decide) hx hb hg hown hK hP (x := (c107_fv15 7)) rfl (hg _ q2_7) dX11_drawn_195 ?_
          refine lv_iadd hx hb dX11_drawn_198 ?_
          refine lv_topi (fun x_8 ex_8 => ?_)
          refine lv_istore (lv' := [(8, .int x_8), (0, .ref (ad 0)), (3, .int p3), (4, .int x4), (5, .int x5), (6, .int x6), (7, .int x7), (9, .int x9), (10, .int x10)]) hx hb dX11_drawn_199 hl (by decide) rfl (fun ls hl => ?_)
          obtain ⟨x_9, ex_9⟩ : ∃ y : Int32, y = x9 + 1 := ⟨_, rfl⟩
          have fx_9 : x_9.toInt = x9.toInt + 1 := by rw [ex_9]; exact i_add (by first | omega | (show (_ : Int) ≤ x9.toInt + 1; omega)) (by first | omega | (show x9.toInt + 1 ≤ (_ : Int); omega))
          refine lv_iinc (v := x_9) (lv' := [(9, .int x_9), (8, .int x_8), (0, .ref (ad 0)), (3, .int p3), (4, .int x4), (5, .int x5), (6, .int x6), (7, .int x7), (10, .int x10)]) hx hb dX11_drawn_201 hl (k := 7) rfl (by rw [ex_9]; rfl) (by decide) rfl (fun ls hl => ?_)
          refine lv_goto (tgt := 86) hx hb dX11_drawn_204 (by decide) ?_
          exact ih.1 x4 x5 x6 x7 x_8 x_9 c107_a17 c107_a16 c107_fv15 c107_fp15 _ _ (by omega) (by omega) (by omega) (by omega) (by omega) (by omega) hP hD hS ls (lv_sub hl [2, 3, 4, 5, 6, 7, 1, 0] rfl)
        ·
          have kc_7 : x10.toInt < x5.toInt := i_nle c_7
          refine lv_iload hx hb dX11_drawn_114 (lv_at hl 4 rfl) ?_
          refine lv_ldcw hx hb hown (v := 1103515245) (hg _ q4_77) dX11_drawn_116 ?_
          refine lv_imul hx hb dX11_drawn_119 ?_
          refine lv_topi (fun x_10 ex_10 => ?_)
          refine lv_sipush (v := 12345) hx hb dX11_drawn_120 (by decide) ?_
          refine lv_iadd hx hb dX11_drawn_123 ?_
          refine lv_topi (fun x_11 ex_11 => ?_)
          refine lv_istore (lv' := [(6, .int x_11), (0, .ref (ad 0)), (3, .int p3), (4, .int x4), (5, .int x5), (7, .int x7), (8, .int x8), (9, .int x9), (10, .int x10)]) hx hb dX11_drawn_124 hl (by decide) rfl (fun ls hl => ?_)
          refine lv_iload hx hb dX11_drawn_126 (lv_at hl 0 rfl) ?_
          refine lv_bipush (v := 8) hx hb dX11_drawn_128 (by decide) ?_
          refine lv_iushr hx hb dX11_drawn_130 rfl ?_
          refine lv_topi (fun x_12 ex_12 => ?_)
          have fx_12 : 0 ≤ x_12.toInt ∧ x_12.toInt ≤ 16777215 := by rw [ex_12]; exact i_ushr8 _
          refine lv_aload_n hx hb dX11_drawn_131 rfl (lv_at hl 1 rfl) ?_
          refine gf_main_parish hx hb hg hown hK hP rfl (hg _ q2_123) dX11_drawn_132 ?_
          refine gf_parish_people hx hb hg hown hK hP (x := (v 1)) rfl (hg _ q1_109) dX11_drawn_135 ?_
          refine lv_irem hx hb dX11_drawn_138 (fun q => by have q0 : (v 1).toInt = 0 := i_eq q; omega) ?_
          refine lv_topi (fun x_13 ex_13 => ?_)
          have fx_13 : x_13.toInt = x_12.toInt % (v 1).toInt := by rw [ex_13]; exact i_rem (by omega) (by first | omega | decide)
          have f1x_13 : 0 ≤ x_13.toInt := by rw [fx_13]; exact Int.emod_nonneg _ (by omega)
          have f2x_13 : x_13.toInt < (v 1).toInt := by rw [fx_13]; exact Int.emod_lt_of_pos _ (by omega)
          clear fx_13
          refine lv_istore (lv' := [(11, .int x_13), (6, .int x_11), (0, .ref (ad 0)), (3, .int p3), (4, .int x4), (5, .int x5), (7, .int x7), (8, .int x8), (9, .int x9), (10, .int x10)]) hx hb dX11_drawn_139 hl (by decide) rfl (fun ls hl => ?_)
          refine lv_aload_n hx hb dX11_drawn_141 rfl (lv_at hl 2 rfl) ?_
          refine gf_main_thought hx hb hg hown hK hP rfl (hg _ q2_126) dX11_drawn_142 ?_
          refine lv_iload hx hb dX11_drawn_145 (lv_at hl 0 rfl) ?_
          refine lv_iload hx hb dX11_drawn_147 (lv_at hl 1 rfl) ?_
          refine lv_bipush (v := 16) hx hb dX11_drawn_149 (by decide) ?_
          refine lv_iushr hx hb dX11_drawn_151 rfl ?_
          refine lv_topi (fun x_14 ex_14 => ?_)
          have fx_14 : 0 ≤ x_14.toInt ∧ x_14.toInt ≤ 65535 := by rw [ex_14]; exact i_ushr16 _
          refine lv_bipush (v := 12) hx hb dX11_drawn_152 (by decide) ?_
          refine lv_irem hx hb dX11_drawn_154 (by decide) ?_
          refine lv_topi (fun x_15 ex_15 => ?_)
          have fx_15 : x_15.toInt = x_14.toInt % (12 : Int) := by rw [ex_15]; exact i_rem (by omega) (by first | omega | decide)
          refine lv_aload_n hx hb dX11_drawn_155 rfl (lv_at hl 2 rfl) ?_
          refine gf_main_parish hx hb hg hown hK hP rfl (hg _ q2_123) dX11_drawn_156 ?_
          refine gf_parish_cheek hx hb hg hown hK hP rfl (hg _ q1_122) dX11_drawn_159 ?_
          refine lv_iload hx hb dX11_drawn_162 (lv_at hl 0 rfl) ?_
          refine ld_Pcheek hx hb hK hP (i_in (by omega) (by omega)) dX11_drawn_164 ?_
          refine lv_topi (fun x_16 ex_16 => ?_)
          have ex_16 : x_16 = (a 12) x_13.toNatClampNeg := ex_16
          have hx_16 : x_16.toInt = ((a 12) x_13.toNatClampNeg).toInt := by rw [ex_16]
          refine lv_icmp_ge (tgt := 172) hx hb dX11_drawn_165 (by decide) (fun c_17 => ?_) (fun c_17 => ?_)
          ·
            have kc_17 : x_16.toInt ≤ x_15.toInt := i_le c_17
            refine lv_iconst (v := 0) hx hb dX11_drawn_172 (by decide) ?_
            refine cV_i (As := [.int x_13, .int 0]) (rest := []) ⟨hx, hb, hml, hown, hg⟩ (k_X3_utter l D cs A ad fa fq rv v (va_up (va_up a 17 c107_a17) 16 c107_a16) w (va_up fv 15 c107_fv15) (va_up fp 15 c107_fp15) 15 x_13 0 (by omega) (show 0 ≤ x_13.toInt by first | omega | decide) (show x_13.toInt < (v 1).toInt by first | omega | decide) (show 0 ≤ (v 1).toInt by first | omega | decide) (show (v 1).toInt ≤ 8 by first | omega | decide) (show (c107_fv15 2).toInt = -2 ∨ (0 ≤ (c107_fv15 2).toInt ∧ (c107_fv15 2).toInt < (v 1).toInt) by first | omega | decide) (show 0 ≤ (v 5).toInt by first | omega | decide) (show (v 5).toInt ≤ 256 by first | omega | decide) ia18_0) ca_X3_utter q3_176 ⟨rfl, rfl⟩ ⟨Nat.le_of_ble_eq_true rfl, Nat.le_of_ble_eq_true rfl⟩ (rc_fl (f := 15) (by decide) hK hP) hK hP hD hS hZ rfl hl.1 rfl (Nat.le_of_ble_eq_true rfl) ⟨Nat.zero_le _, Nat.zero_le _⟩ dX11_drawn_173 (fun r_18 z_23 H locs wr_18 hP hD hS => ?_)
            obtain ⟨o_fvf_19, o_fpf_20, o_a17_21, o_a16_22⟩ := z_23
            have hP : va_P D vwCl (CW cs ad fa fq rv v (va_up (va_up a 17 o_a17_21) 16 o_a16_22) w (va_up fv 15 o_fvf_19) (va_up fp 15 o_fpf_20)) H := hP
            have hD : va_D A (CW cs ad fa fq rv v (va_up (va_up a 17 o_a17_21) 16 o_a16_22) w (va_up fv 15 o_fvf_19) (va_up fp 15 o_fpf_20)) := hD
            obtain ⟨wr_18_0, wr_18_1, wr_18_2⟩ : (r_18.toInt = -2 ∨ (0 ≤ r_18.toInt ∧ r_18.toInt < (v 1).toInt)) ∧ (o_fvf_19 3 = (c107_fv15 3) + 1) ∧ ((o_fvf_19 2).toInt = -2 ∨ (0 ≤ (o_fvf_19 2).toInt ∧ (o_fvf_19 2).toInt < (v 1).toInt)) := wr_18
            refine lv_iload_n hx hb dX11_drawn_176 rfl (lv_at hl 3 rfl) ?_
            refine lv_icmp_ne (tgt := 183) hx hb dX11_drawn_177 (by decide) (fun c_24 => ?_) (fun c_24 => ?_)
            ·
              have kc_24 : r_18.toInt ≠ p3.toInt := i_ne c_24
              obtain ⟨x_25, ex_25⟩ : ∃ y : Int32, y = x10 + 1 := ⟨_, rfl⟩
              have fx_25 : x_25.toInt = x10.toInt + 1 := by rw [ex_25]; exact i_add (by first | omega | (show (_ : Int) ≤ x10.toInt + 1; omega)) (by first | omega | (show x10.toInt + 1 ≤ (_ : Int); omega))
              refine lv_iinc (v := x_25) (lv' := [(10, .int x_25), (11, .int x_13), (6, .int x_11), (0, .ref (ad 0)), (3, .int p3), (4, .int x4), (5, .int x5), (7, .int x7), (8, .int x8), (9, .int x9)]) hx hb dX11_drawn_183 hl (k := 9) rfl (by rw [ex_25]; rfl) (by decide) rfl (fun ls hl => ?_)
              refine lv_goto (tgt := 107) hx hb dX11_drawn_186 (by decide) ?_
              exact ih.2 x4 x5 x_11 x7 x8 x9 x_25 o_fvf_19 o_fpf_20 o_a17_21 o_a16_22 _ _ (by omega) (by omega) (by omega) (by omega) (by omega) (by omega) (by omega) (show (o_fvf_19 2).toInt = -2 ∨ (0 ≤ (o_fvf_19 2).toInt ∧ (o_fvf_19 2).toInt < (v 1).toInt) by first | omega | assumption) (by omega) hP hD hS ls (lv_sub hl [3, 4, 5, 6, 2, 7, 8, 9, 0] rfl)
            ·
              have kc_24 : r_18.toInt = p3.toInt := i_eq c_24
              obtain ⟨x_26, ex_26⟩ : ∃ y : Int32, y = x7 + 1 := ⟨_, rfl⟩
              refine lv_iinc (v := x_26) (lv' := [(7, .int x_26), (11, .int x_13), (6, .int x_11), (0, .ref (ad 0)), (3, .int p3), (4, .int x4), (5, .int x5), (8, .int x8), (9, .int x9), (10, .int x10)]) hx hb dX11_drawn_180 hl (k := 6) rfl (by rw [ex_26]; rfl) (by decide) rfl (fun ls hl => ?_)
              obtain ⟨x_27, ex_27⟩ : ∃ y : Int32, y = x10 + 1 := ⟨_, rfl⟩
              have fx_27 : x_27.toInt = x10.toInt + 1 := by rw [ex_27]; exact i_add (by first | omega | (show (_ : Int) ≤ x10.toInt + 1; omega)) (by first | omega | (show x10.toInt + 1 ≤ (_ : Int); omega))
              refine lv_iinc (v := x_27) (lv' := [(10, .int x_27), (7, .int x_26), (11, .int x_13), (6, .int x_11), (0, .ref (ad 0)), (3, .int p3), (4, .int x4), (5, .int x5), (8, .int x8), (9, .int x9)]) hx hb dX11_drawn_183 hl (k := 9) rfl (by rw [ex_27]; rfl) (by decide) rfl (fun ls hl => ?_)
              refine lv_goto (tgt := 107) hx hb dX11_drawn_186 (by decide) ?_
              exact ih.2 x4 x5 x_11 x_26 x8 x9 x_27 o_fvf_19 o_fpf_20 o_a17_21 o_a16_22 _ _ (by omega) (by omega) (by omega) (by omega) (by omega) (by omega) (by omega) (show (o_fvf_19 2).toInt = -2 ∨ (0 ≤ (o_fvf_19 2).toInt ∧ (o_fvf_19 2).toInt < (v 1).toInt) by first | omega | assumption) (by omega) hP hD hS ls (lv_sub hl [4, 5, 6, 7, 3, 1, 8, 9, 0] rfl)
          ·
            have kc_17 : x_15.toInt < x_16.toInt := i_nle c_17
            refine lv_iconst (v := 1) hx hb dX11_drawn_168 (by decide) ?_
            refine lv_goto (tgt := 173) hx hb dX11_drawn_169 (by decide) ?_
            refine cV_i (As := [.int x_13, .int 1]) (rest := []) ⟨hx, hb, hml, hown, hg⟩ (k_X3_utter l D cs A ad fa fq rv v (va_up (va_up a 17 c107_a17) 16 c107_a16) w (va_up fv 15 c107_fv15) (va_up fp 15 c107_fp15) 15 x_13 1 (by omega) (show 0 ≤ x_13.toInt by first | omega | decide) (show x_13.toInt < (v 1).toInt by first | omega | decide) (show 0 ≤ (v 1).toInt by first | omega | decide) (show (v 1).toInt ≤ 8 by first | omega | decide) (show (c107_fv15 2).toInt = -2 ∨ (0 ≤ (c107_fv15 2).toInt ∧ (c107_fv15 2).toInt < (v 1).toInt) by first | omega | decide) (show 0 ≤ (v 5).toInt by first | omega | decide) (show (v 5).toInt ≤ 256 by first | omega | decide) ia18_0) ca_X3_utter q3_176 ⟨rfl, rfl⟩ ⟨Nat.le_of_ble_eq_true rfl, Nat.le_of_ble_eq_true rfl⟩ (rc_fl (f := 15) (by decide) hK hP) hK hP hD hS hZ rfl hl.1 rfl (Nat.le_of_ble_eq_true rfl) ⟨Nat.zero_le _, Nat.zero_le _⟩ dX11_drawn_173 (fun r_28 z_33 H locs wr_28 hP hD hS => ?_)
            obtain ⟨o_fvf_29, o_fpf_30, o_a17_31, o_a16_32⟩ := z_33
            have hP : va_P D vwCl (CW cs ad fa fq rv v (va_up (va_up a 17 o_a17_31) 16 o_a16_32) w (va_up fv 15 o_fvf_29) (va_up fp 15 o_fpf_30)) H := hP
            have hD : va_D A (CW cs ad fa fq rv v (va_up (va_up a 17 o_a17_31) 16 o_a16_32) w (va_up fv 15 o_fvf_29) (va_up fp 15 o_fpf_30)) := hD
            obtain ⟨wr_28_0, wr_28_1, wr_28_2⟩ : (r_28.toInt = -2 ∨ (0 ≤ r_28.toInt ∧ r_28.toInt < (v 1).toInt)) ∧ (o_fvf_29 3 = (c107_fv15 3) + 1) ∧ ((o_fvf_29 2).toInt = -2 ∨ (0 ≤ (o_fvf_29 2).toInt ∧ (o_fvf_29 2).toInt < (v 1).toInt)) := wr_28
            refine lv_iload_n hx hb dX11_drawn_176 rfl (lv_at hl 3 rfl) ?_
            refine lv_icmp_ne (tgt := 183) hx hb dX11_drawn_177 (by decide) (fun c_34 => ?_) (fun c_34 => ?_)
            ·
              have kc_34 : r_28.toInt ≠ p3.toInt := i_ne c_34
              obtain ⟨x_35, ex_35⟩ : ∃ y : Int32, y = x10 + 1 := ⟨_, rfl⟩
              have fx_35 : x_35.toInt = x10.toInt + 1 := by rw [ex_35]; exact i_add (by first | omega | (show (_ : Int) ≤ x10.toInt + 1; omega)) (by first | omega | (show x10.toInt + 1 ≤ (_ : Int); omega))
              refine lv_iinc (v := x_35) (lv' := [(10, .int x_35), (11, .int x_13), (6, .int x_11), (0, .ref (ad 0)), (3, .int p3), (4, .int x4), (5, .int x5), (7, .int x7), (8, .int x8), (9, .int x9)]) hx hb dX11_drawn_183 hl (k := 9) rfl (by rw [ex_35]; rfl) (by decide) rfl (fun ls hl => ?_)
              refine lv_goto (tgt := 107) hx hb dX11_drawn_186 (by decide) ?_
              exact ih.2 x4 x5 x_11 x7 x8 x9 x_35 o_fvf_29 o_fpf_30 o_a17_31 o_a16_32 _ _ (by omega) (by omega) (by omega) (by omega) (by omega) (by omega) (by omega) (show (o_fvf_29 2).toInt = -2 ∨ (0 ≤ (o_fvf_29 2).toInt ∧ (o_fvf_29 2).toInt < (v 1).toInt) by first | omega | assumption) (by omega) hP hD hS ls (lv_sub hl [3, 4, 5, 6, 2, 7, 8, 9, 0] rfl)
            ·
              have kc_34 : r_28.toInt = p3.toInt := i_eq c_34
              obtain ⟨x_36, ex_36⟩ : ∃ y : Int32, y = x7 + 1 := ⟨_, rfl⟩
              refine lv_iinc (v := x_36) (lv' := [(7, .int x_36), (11, .int x_13), (6, .int x_11), (0, .ref (ad 0)), (3, .int p3), (4, .int x4), (5, .int x5), (8, .int x8), (9, .int x9), (10, .int x10)]) hx hb dX11_drawn_180 hl (k := 6) rfl (by rw [ex_36]; rfl) (by decide) rfl (fun ls hl => ?_)
              obtain ⟨x_37, ex_37⟩ : ∃ y : Int32, y = x10 + 1 := ⟨_, rfl⟩
              have fx_37 : x_37.toInt = x10.toInt + 1 := by rw [ex_37]; exact i_add (by first | omega | (show (_ : Int) ≤ x10.toInt + 1; omega)) (by first | omega | (show x10.toInt + 1 ≤ (_ : Int); omega))
              refine lv_iinc (v := x_37) (lv' := [(10, .int x_37), (7, .int x_36), (11, .int x_13), (6, .int x_11), (0, .ref (ad 0)), (3, .int p3), (4, .int x4), (5, .int x5), (8, .int x8), (9, .int x9)]) hx hb dX11_drawn_183 hl (k := 9) rfl (by rw [ex_37]; rfl) (by decide) rfl (fun ls hl => ?_)
              refine lv_goto (tgt := 107) hx hb dX11_drawn_186 (by decide) ?_
              exact ih.2 x4 x5 x_11 x_36 x8 x9 x_37 o_fvf_29 o_fpf_30 o_a17_31 o_a16_32 _ _ (by omega) (by omega) (by omega) (by omega) (by omega) (by omega) (by omega) (show (o_fvf_29 2).toInt = -2 ∨ (0 ≤ (o_fvf_29 2).toInt ∧ (o_fvf_29 2).toInt < (v 1).toInt) by first | omega | assumption) (by omega) hP hD hS ls (lv_sub hl [4, 5, 6, 7, 3, 1, 8, 9, 0] rfl)
  refine lv_iload_n hx hb dX11_drawn_0 rfl (lv_at hl 2 rfl) ?_
  refine lv_if_lt (tgt := 20) hx hb dX11_drawn_1 (by decide) (fun c_38 => ?_) (fun c_38 => ?_)
  ·
    have kc_38 : p2.toInt < (0 : Int) := i_lt c_38
    refine lv_iconst (v := (-1)) hx hb dX11_drawn_20 (by decide) ?_
    have q0_m1 : ((-1) : Int32).toInt = (-1) := rfl
    have hP : va_P D vwCl (CW cs ad fa fq rv v (va_up (va_up a 17 (a 17)) 16 (a 16)) w (va_up fv 15 (fv 15)) (va_up fp 15 (fp 15))) _ := hP
    have hD : va_D A (CW cs ad fa fq rv v (va_up (va_up a 17 (a 17)) 16 (a 16)) w (va_up fv 15 (fv 15)) (va_up fp 15 (fp 15))) := hD
    exact W.iret (v := (-1)) hx hb hr (fun tt ht hW => ⟨⟨(-1), ⟨(a 17), (a 16), (fv 15), (fp 15)⟩, rfl, trivial, by rw [ht]; exact hP, hD⟩, hS.F ht⟩) hS.2.2 dX11_drawn_21
  ·
    have kc_38 : (0 : Int) ≤ p2.toInt := i_nlt c_38
    refine lv_iload_n hx hb dX11_drawn_4 rfl (lv_at hl 3 rfl) ?_
    refine lv_iconst (v := (-1)) hx hb dX11_drawn_5 (by decide) ?_
    refine lv_icmp_lt (tgt := 20) hx hb dX11_drawn_6 (by decide) (fun c_39 => ?_) (fun c_39 => ?_)
    ·
      have kc_39 : p3.toInt < (-1 : Int) := i_lt c_39
      refine lv_iconst (v := (-1)) hx hb dX11_drawn_20 (by decide) ?_
      have q0_m1 : ((-1) : Int32).toInt = (-1) := rfl
      have hP : va_P D vwCl (CW cs ad fa fq rv v (va_up (va_up a 17 (a 17)) 16 (a 16)) w (va_up fv 15 (fv 15)) (va_up fp 15 (fp 15))) _ := hP
      have hD : va_D A (CW cs ad fa fq rv v (va_up (va_up a 17 (a 17)) 16 (a 16)) w (va_up fv 15 (fv 15)) (va_up fp 15 (fp 15))) := hD
      exact W.iret (v := (-1)) hx hb hr (fun tt ht hW => ⟨⟨(-1), ⟨(a 17), (a 16), (fv 15), (fp 15)⟩, rfl, trivial, by rw [ht]; exact hP, hD⟩, hS.F ht⟩) hS.2.2 dX11_drawn_21
    ·
      have kc_39 : (-1 : Int) ≤ p3.toInt := i_nlt c_39
      refine lv_iload_n hx hb dX11_drawn_9 rfl (lv_at hl 3 rfl) ?_
      refine lv_aload_n hx hb dX11_drawn_10 rfl (lv_at hl 0 rfl) ?_
      refine gf_main_parish hx hb hg hown hK hP rfl (hg _ q2_123) dX11_drawn_11 ?_
      refine gf_parish_people hx hb hg hown hK hP (x := (v 1)) rfl (hg _ q1_109) dX11_drawn_14 ?_
      refine lv_icmp_lt (tgt := 22) hx hb dX11_drawn_17 (by decide) (fun c_40 => ?_) (fun c_40 => ?_)
      ·
        have kc_40 : p3.toInt < (v 1).toInt := i_lt c_40
        refine lv_iload_n hx hb dX11_drawn_22 rfl (lv_at hl 2 rfl) ?_
        refine lv_bipush (v := 100) hx hb dX11_drawn_23 (by decide) ?_
        refine lv_idiv hx hb dX11_drawn_25 (by decide) ?_
        refine lv_topi (fun x_41 ex_41 => ?_)
        have fx_41 : x_41.toInt = p2.toInt / (100 : Int) := by rw [ex_41]; exact i_div (by omega) (by first | omega | decide)
        refine lv_istore (lv' := [(4, .int x_41), (0, .ref (ad 0)), (1, .int p1), (2, .int p2), (3, .int p3)]) hx hb dX11_drawn_26 hl (by decide) rfl (fun ls hl => ?_)
        refine lv_iload_n hx hb dX11_drawn_28 rfl (lv_at hl 3 rfl) ?_
        refine lv_bipush (v := 100) hx hb dX11_drawn_29 (by decide) ?_
        refine lv_irem hx hb dX11_drawn_31 (by decide) ?_
        refine lv_topi (fun x_42 ex_42 => ?_)
        have fx_42 : x_42.toInt = p2.toInt % (100 : Int) := by rw [ex_42]; exact i_rem (by omega) (by first | omega | decide)
        refine lv_istore (lv' := [(5, .int x_42), (4, .int x_41), (0, .ref (ad 0)), (1, .int p1), (2, .int p2), (3, .int p3)]) hx hb dX11_drawn_32 hl (by decide) rfl (fun ls hl => ?_)
        refine lv_iload hx hb dX11_drawn_34 (lv_at hl 1 rfl) ?_
        refine lv_iconst (v := 1) hx hb dX11_drawn_36 (by decide) ?_
        refine lv_icmp_lt (tgt := 60) hx hb dX11_drawn_37 (by decide) (fun c_43 => ?_) (fun c_43 => ?_)
        ·
          have kc_43 : x_41.toInt < (1 : Int) := i_lt c_43
          refine lv_iconst (v := (-1)) hx hb dX11_drawn_60 (by decide) ?_
          have q0_m1 : ((-1) : Int32).toInt = (-1) := rfl
          have hP : va_P D vwCl (CW cs ad fa fq rv v (va_up (va_up a 17 (a 17)) 16 (a 16)) w (va_up fv 15 (fv 15)) (va_up fp 15 (fp 15))) _ := hP
          have hD : va_D A (CW cs ad fa fq rv v (va_up (va_up a 17 (a 17)) 16 (a 16)) w (va_up fv 15 (fv 15)) (va_up fp 15 (fp 15))) := hD
          exact W.iret (v := (-1)) hx hb hr (fun tt ht hW => ⟨⟨(-1), ⟨(a 17), (a 16), (fv 15), (fp 15)⟩, rfl, trivial, by rw [ht]; exact hP, hD⟩, hS.F ht⟩) hS.2.2 dX11_drawn_61
        ·
          have kc_43 : (1 : Int) ≤ x_41.toInt := i_nlt c_43
          refine lv_iload hx hb dX11_drawn_40 (lv_at hl 1 rfl) ?_
          refine lv_bipush (v := 30) hx hb dX11_drawn_42 (by decide) ?_
          refine lv_icmp_gt (tgt := 60) hx hb dX11_drawn_44 (by decide) (fun c_44 => ?_) (fun c_44 => ?_)
          ·
            have kc_44 : (30 : Int) < x_41.toInt := i_lt c_44
            refine lv_iconst (v := (-1)) hx hb dX11_drawn_60 (by decide) ?_
            have q0_m1 : ((-1) : Int32).toInt = (-1) := rfl
            have hP : va_P D vwCl (CW cs ad fa fq rv v (va_up (va_up a 17 (a 17)) 16 (a 16)) w (va_up fv 15 (fv 15)) (va_up fp 15 (fp 15))) _ := hP
            have hD : va_D A (CW cs ad fa fq rv v (va_up (va_up a 17 (a 17)) 16 (a 16)) w (va_up fv 15 (fv 15)) (va_up fp 15 (fp 15))) := hD
            exact W.iret (v := (-1)) hx hb hr (fun tt ht hW => ⟨⟨(-1), ⟨(a 17), (a 16), (fv 15), (fp 15)⟩, rfl, trivial, by rw [ht]; exact hP, hD⟩, hS.F ht⟩) hS.2.2 dX11_drawn_61
          ·
            have kc_44 : x_41.toInt ≤ (30 : Int) := i_nlt c_44
            refine lv_iload hx hb dX11_drawn_47 (lv_at hl 0 rfl) ?_
            refine lv_iconst (v := 1) hx hb dX11_drawn_49 (by decide) ?_
            refine lv_icmp_lt (tgt := 60) hx hb dX11_drawn_50 (by decide) (fun c_45 => ?_) (fun c_45 => ?_)
            ·
              have kc_45 : x_42.toInt < (1 : Int) := i_lt c_45
              refine lv_iconst (v := (-1)) hx hb dX11_drawn_60 (by decide) ?_
              have q0_m1 : ((-1) : Int32).toInt = (-1) := rfl
              have hP : va_P D vwCl (CW cs ad fa fq rv v (va_up (va_up a 17 (a 17)) 16 (a 16)) w (va_up fv 15 (fv 15)) (va_up fp 15 (fp 15))) _ := hP
              have hD : va_D A (CW cs ad fa fq rv v (va_up (va_up a 17 (a 17)) 16 (a 16)) w (va_up fv 15 (fv 15)) (va_up fp 15 (fp 15))) := hD
              exact W.iret (v := (-1)) hx hb hr (fun tt ht hW => ⟨⟨(-1), ⟨(a 17), (a 16), (fv 15), (fp 15)⟩, rfl, trivial, by rw [ht]; exact hP, hD⟩, hS.F ht⟩) hS.2.2 dX11_drawn_61
            ·
              have kc_45 : (1 : Int) ≤ x_42.toInt := i_nlt c_45
              refine lv_iload hx hb dX11_drawn_53 (lv_at hl 0 rfl) ?_
              refine lv_bipush (v := 40) hx hb dX11_drawn_55 (by decide) ?_
              refine lv_icmp_le (tgt := 62) hx hb dX11_drawn_57 (by decide) (fun c_46 => ?_) (fun c_46 => ?_)
              ·
                have kc_46 : x_42.toInt ≤ (40 : Int) := i_le c_46
                refine lv_aload_n hx hb dX11_drawn_62 rfl (lv_at hl 2 rfl) ?_
                refine gf_main_parish hx hb hg hown hK hP rfl (hg _ q2_123) dX11_drawn_63 ?_
                refine gf_parish_people hx hb hg hown hK hP (x := (v 1)) rfl (hg _ q1_109) dX11_drawn_66 ?_
                refine lv_if_ne (tgt := 74) hx hb dX11_drawn_69 (by decide) (fun c_47 => ?_) (fun c_47 => ?_)
                ·
                  have kc_47 : (v 1).toInt ≠ (0 : Int) := i_ne c_47
                  refine lv_iload_n hx hb dX11_drawn_74 rfl (lv_at hl 3 rfl) ?_
                  refine lv_istore (lv' := [(6, .int p1), (5, .int x_42), (4, .int x_41), (0, .ref (ad 0)), (1, .int p1), (2, .int p2), (3, .int p3)]) hx hb dX11_drawn_75 hl (by decide) rfl (fun ls hl => ?_)
                  refine lv_iconst (v := 0) hx hb dX11_drawn_77 (by decide) ?_
                  refine lv_istore (lv' := [(7, .int 0), (6, .int p1), (5, .int x_42), (4, .int x_41), (0, .ref (ad 0)), (1, .int p1), (2, .int p2), (3, .int p3)]) hx hb dX11_drawn_78 hl (by decide) rfl (fun ls hl => ?_)
                  refine lv_iconst (v := 0) hx hb dX11_drawn_80 (by decide) ?_
                  refine lv_istore (lv' := [(8, .int 0), (7, .int 0), (6, .int p1), (5, .int x_42), (4, .int x_41), (0, .ref (ad 0)), (1, .int p1), (2, .int p2), (3, .int p3)]) hx hb dX11_drawn_81 hl (by decide) rfl (fun ls hl => ?_)
                  refine lv_iconst (v := 0) hx hb dX11_drawn_83 (by decide) ?_
                  refine lv_istore (lv' := [(9, .int 0), (8, .int 0), (7, .int 0), (6, .int p1), (5, .int x_42), (4, .int x_41), (0, .ref (ad 0)), (1, .int p1), (2, .int p2), (3, .int p3)]) hx hb dX11_drawn_84 hl (by decide) rfl (fun ls hl => ?_)
                  have q0_0 : (0 : Int32).toInt = 0 := rfl
                  exact (hcut ((100 * (x_41.toInt - (0 : Int32).toInt).toNat) + 1)).1 x_41 x_42 p1 0 0 0 (a 17) (a 16) (fv 15) (fp 15) _ _ (by omega) (by omega) (by omega) (by omega) (by omega) (Nat.lt_succ_self _) hP hD hS ls (lv_sub hl [6, 9, 5, 4, 3, 2, 1, 0] rfl)
                ·
                  have kc_47 : (v 1).toInt = (0 : Int) := i_eq c_47
                  refine lv_iconst (v := 0) hx hb dX11_drawn_72 (by decide) ?_
                  have q0_0 : (0 : Int32).toInt = 0 := rfl
                  have hP : va_P D vwCl (CW cs ad fa fq rv v (va_up (va_up a 17 (a 17)) 16 (a 16)) w (va_up fv 15 (fv 15)) (va_up fp 15 (fp 15))) _ := hP
                  have hD : va_D A (CW cs ad fa fq rv v (va_up (va_up a 17 (a 17)) 16 (a 16)) w (va_up fv 15 (fv 15)) (va_up fp 15 (fp 15))) := hD
                  exact W.iret (v := 0) hx hb hr (fun tt ht hW => ⟨⟨0, ⟨(a 17), (a 16), (fv 15), (fp 15)⟩, rfl, trivial, by rw [ht]; exact hP, hD⟩, hS.F ht⟩) hS.2.2 dX11_drawn_73
              ·
                have kc_46 : (40 : Int) < x_42.toInt := i_nle c_46
                refine lv_iconst (v := (-1)) hx hb dX11_drawn_60 (by decide) ?_
                have q0_m1 : ((-1) : Int32).toInt = (-1) := rfl
                have hP : va_P D vwCl (CW cs ad fa fq rv v (va_up (va_up a 17 (a 17)) 16 (a 16)) w (va_up fv 15 (fv 15)) (va_up fp 15 (fp 15))) _ := hP
                have hD : va_D A (CW cs ad fa fq rv v (va_up (va_up a 17 (a 17)) 16 (a 16)) w (va_up fv 15 (fv 15)) (va_up fp 15 (fp 15))) := hD
                exact W.iret (v := (-1)) hx hb hr (fun tt ht hW => ⟨⟨(-1), ⟨(a 17), (a 16), (fv 15), (fp 15)⟩, rfl, trivial, by rw [ht]; exact hP, hD⟩, hS.F ht⟩) hS.2.2 dX11_drawn_61
      ·
        have kc_40 : (v 1).toInt ≤ p3.toInt := i_nlt c_40
        refine lv_iconst (v := (-1)) hx hb dX11_drawn_20 (by decide) ?_
        have q0_m1 : ((-1) : Int32).toInt = (-1) := rfl
        have hP : va_P D vwCl (CW cs ad fa fq rv v (va_up (va_up a 17 (a 17)) 16 (a 16)) w (va_up fv 15 (fv 15)) (va_up fp 15 (fp 15))) _ := hP
        have hD : va_D A (CW cs ad fa fq rv v (va_up (va_up a 17 (a 17)) 16 (a 16)) w (va_up fv 15 (fv 15)) (va_up fp 15 (fp 15))) := hD
        exact W.iret (v := (-1)) hx hb hr (fun tt ht hW => ⟨⟨(-1), ⟨(a 17), (a 16), (fv 15), (fp 15)⟩, rfl, trivial, by rw [ht]; exact hP, hD⟩, hS.F ht⟩) hS.2.2 dX11_drawn_21
set_option maxHeartbeats 4000000 in
set_option maxRecDepth 100000 in
theorem k_X11_say (l : Launch) (D : va_G) (cs : Nat → ClassId) (A : Nat → Prop) (ad fa fq rv : Nat → Nat) (v : Nat → Int32) (a : Nat → Nat → Int32) (w : Nat → Nat → Int64) (fv fp : Nat → Nat → Int32)  (p1 : Int32) (p2 : Int32) (iv1_0 : 0 ≤ (v 1).toInt) (iv1_1 : (v 1).toInt ≤ 8) (ifv14_0 : (fv 14 2).toInt = -2 ∨ (0 ≤ (fv 14 2).toInt ∧ (fv 14 2).toInt < (v 1).toInt)) (iv5_0 : 0 ≤ (v 5).toInt) (iv5_1 : (v 5).toInt ≤ 256) (ia18_0 : AB (-1000) 20000 (a 18)) : Met l yX11_say (Cond.code yX11_say cX11_say 3 (some .int) :: gw) ({ frames := 4, cells := 0, slots := 0, locals := 92 }) (va_Pc [.ref (ad 0), .int p1, .int p2] (XPre D (TY cs) (CW cs ad fa fq rv v a w fv fp) A)) (va_Qi (fun (r : Int32) (z : (Nat → Int32) × (Nat → Int32) × (Nat → Int32) × (Nat → Int32)) => ((r.toInt = -1 ∧ ¬ ((0 ≤ p1.toInt ∧ p1.toInt < (v 1).toInt) ∧ 0 ≤ p2.toInt ∧ p2.toInt ≤ 1) ∧ z.2.2.1 3 = (fv 14 3)) ∨ (r.toInt ≠ -1 ∧ ((0 ≤ p1.toInt ∧ p1.toInt < (v 1).toInt) ∧ 0 ≤ p2.toInt ∧ p2.toInt ≤ 1) ∧ z.2.2.1 3 = (fv 14 3) + 1)) ∧ ((z.2.2.1 2).toInt = -2 ∨ (0 ≤ (z.2.2.1 2).toInt ∧ (z.2.2.1 2).toInt < (v 1).toInt))) (XPo D (fun (z : (Nat → Int32) × (Nat → Int32) × (Nat → Int32) × (Nat → Int32)) => CW cs ad fa fq rv v (va_up (va_up a 17 z.1) 16 z.2.1) w (va_up fv 14 z.2.2.1) (va_up fp 14 z.2.2.2)) A) A) 0 0 A := by
  refine Met.ofW (cc := cX11_say) (maxL := 3) (ret := (some .int)) (by decide) rfl ?_
  intro p e s m args below meth c s₁ B hml hv
  obtain ⟨rfl, hP, hK, hD, hZ⟩ := hv
  have hx := B.exec
  have hb := B.bytes
  have hr := B.returns
  have hts := atoms_spec (ws := (Cond.code yX11_say cX11_say 3 (some .int) :: gw)) B.pre
  have hg : ∀ w ∈ gw, w.before ([.ref (ad 0), .int p1, .int p2] : List Value).toArray s = true := fun w h => hts w (List.mem_cons_of_mem _ h)
  have hown : s.vm.findClass RX11 = some m.cls := findClass_of_methodNamed B.named
  have hlocks := B.notSynchronized
  have hS : va_S A s.heap s.heap [] := va_S.rf
  have hP : va_P D vwCl (CW cs ad fa fq rv v a w fv fp) s.heap := hP
  have hl := lv_entry ([.ref (ad 0), .int p1, .int p2]) (n := 3) (Nat.le_of_ble_eq_true rfl)
  rw [lg_entry_eq]
  generalize (lg_sl ([.ref (ad 0), .int p1, .int p2]) ++ List.replicate (3 - (lg_sl ([.ref (ad 0), .int p1, .int p2])).length) Slot.unset).toArray = ls at hl ⊢
  have hl : lv_has ls 3 [(0, .ref (ad 0)), (1, .int p1), (2, .int p2)] := hl
  refine lv_aload_n hx hb dX11_say_0 rfl (lv_at hl 0 rfl) ?_
  refine gf_main_parish hx hb hg hown hK hP rfl (hg _ q2_123) dX11_say_1 ?_
  refine lv_iload_n hx hb dX11_say_4 rfl (lv_at hl 1 rfl) ?_
  refine cV_ro (As := [.int p1]) (rest := []) ⟨hx, hb, hml, hown, hg⟩ (k_X9_has l D cs A ad fa fq rv v a w fv fp  p1 (show 0 ≤ (v 1).toInt by first | omega | decide) (show (v 1).toInt ≤ 8 by first | omega | decide)) ca_X9_has q3_4 ⟨rfl, rfl⟩ ⟨Nat.le_of_ble_eq_true rfl, Nat.le_of_ble_eq_true rfl⟩ (rc_parish hK hP) hK hP hD hS hZ rfl hl.1 rfl (Nat.le_of_ble_eq_true rfl) ⟨Nat.zero_le _, Nat.zero_le _⟩ dX11_say_5 (fun r_1 wr_1 => ?_)
  have wr_1_0 : (r_1.toInt = 1 ∧ 0 ≤ p1.toInt ∧ p1.toInt < (v 1).toInt) ∨ (r_1.toInt = 0 ∧ ¬ (0 ≤ p1.toInt ∧ p1.toInt < (v 1).toInt)) := wr_1
  refine lv_if_eq (tgt := 20) hx hb dX11_say_8 (by decide) (fun c_2 => ?_) (fun c_2 => ?_)
  ·
    have kc_2 : r_1.toInt = (0 : Int) := i_eq c_2
    refine lv_iconst (v := (-1)) hx hb dX11_say_20 (by decide) ?_
    have q0_m1 : ((-1) : Int32).toInt = (-1) := rfl
    have hP : va_P D vwCl (CW cs ad fa fq rv v (va_up (va_up a 17 (a 17)) 16 (a 16)) w (va_up fv 14 (fv 14)) (va_up fp 14 (fp 14))) _ := hP
    have hD : va_D A (CW cs ad fa fq rv v (va_up (va_up a 17 (a 17)) 16 (a 16)) w (va_up fv 14 (fv 14)) (va_up fp 14 (fp 14))) := hD
    exact W.iret (v := (-1)) hx hb hr (fun tt ht hW => ⟨⟨(-1), ⟨(a 17), (a 16), (fv 14), (fp 14)⟩, rfl, ⟨(by first | exact Or.inl ⟨by omega, by omega, rfl⟩ | exact Or.inr ⟨by omega, by omega, by assumption⟩), (show (fv 14 2).toInt = -2 ∨ (0 ≤ (fv 14 2).toInt ∧ (fv 14 2).toInt < (v 1).toInt) by first | omega | assumption)⟩, by rw [ht]; exact hP, hD⟩, hS.F ht⟩) hS.2.2 dX11_say_21
  ·
    have kc_2 : r_1.toInt ≠ (0 : Int) := i_ne c_2
    refine lv_iload_n hx hb dX11_say_11 rfl (lv_at hl 2 rfl) ?_
    refine lv_if_lt (tgt := 20) hx hb dX11_say_12 (by decide) (fun c_3 => ?_) (fun c_3 => ?_)
    ·
      have kc_3 : p2.toInt < (0 : Int) := i_lt c_3
      refine lv_iconst (v := (-1)) hx hb dX11_say_20 (by decide) ?_
      have q0_m1 : ((-1) : Int32).toInt = (-1) := rfl
      have hP : va_P D vwCl (CW cs ad fa fq rv v (va_up (va_up a 17 (a 17)) 16 (a 16)) w (va_up fv 14 (fv 14)) (va_up fp 14 (fp 14))) _ := hP
      have hD : va_D A (CW cs ad fa fq rv v (va_up (va_up a 17 (a 17)) 16 (a 16)) w (va_up fv 14 (fv 14)) (va_up fp 14 (fp 14))) := hD
      exact W.iret (v := (-1)) hx hb hr (fun tt ht hW => ⟨⟨(-1), ⟨(a 17), (a 16), (fv 14), (fp 14)⟩, rfl, ⟨(by first | exact Or.inl ⟨by omega, by omega, rfl⟩ | exact Or.inr ⟨by omega, by omega, by assumption⟩), (show (fv 14 2).toInt = -2 ∨ (0 ≤ (fv 14 2).toInt ∧ (fv 14 2).toInt < (v 1).toInt) by first | omega | assumption)⟩, by rw [ht]; exact hP, hD⟩, hS.F ht⟩) hS.2.2 dX11_say_21
    ·
      have kc_3 : (0 : Int) ≤ p2.toInt := i_nlt c_3
      refine lv_iload_n hx hb dX11_say_15 rfl (lv_at hl 2 rfl) ?_
      refine lv_iconst (v := 1) hx hb dX11_say_16 (by decide) ?_
      refine lv_icmp_le (tgt := 22) hx hb dX11_say_17 (by decide) (fun c_4 => ?_) (fun c_4 => ?_)
      ·
        have kc_4 : p2.toInt ≤ (1 : Int) := i_le c_4
        refine lv_aload_n hx hb dX11_say_22 rfl (lv_at hl 0 rfl) ?_
        refine gf_main_deed hx hb hg hown hK hP rfl (hg _ q2_125) dX11_say_23 ?_
        refine lv_iload_n hx hb dX11_say_26 rfl (lv_at hl 1 rfl) ?_
        refine lv_iload_n hx hb dX11_say_27 rfl (lv_at hl 2 rfl) ?_
        refine lv_iconst (v := 1) hx hb dX11_say_28 (by decide) ?_
        refine lv_icmp_ne (tgt := 36) hx hb dX11_say_29 (by decide) (fun c_5 => ?_) (fun c_5 => ?_)
        ·
          have kc_5 : p2.toInt ≠ (1 : Int) := i_ne c_5
          refine lv_iconst (v := 0) hx hb dX11_say_36 (by decide) ?_
          refine cV_i (As := [.int p1, .int 0]) (rest := []) ⟨hx, hb, hml, hown, hg⟩ (k_X3_utter l D cs A ad fa fq rv v a w fv fp 14 p1 0 (by omega) (show 0 ≤ p1.toInt by first | omega | decide) (show p1.toInt < (v 1).toInt by first | omega | decide) (show 0 ≤ (v 1).toInt by first | omega | decide) (show (v 1).toInt ≤ 8 by first | omega | decide) (show (fv 14 2).toInt = -2 ∨ (0 ≤ (fv 14 2).toInt ∧ (fv 14 2).toInt < (v 1).toInt) by first | omega | decide) (show 0 ≤ (v 5).toInt by first | omega | decide) (show (v 5).toInt ≤ 256 by first | omega | decide) ia18_0) ca_X3_utter q3_176 ⟨rfl, rfl⟩ ⟨Nat.le_of_ble_eq_true rfl, Nat.le_of_ble_eq_true rfl⟩ (rc_fl (f := 14) (by decide) hK hP) hK hP hD hS hZ rfl hl.1 rfl (Nat.le_of_ble_eq_true rfl) ⟨Nat.zero_le _, Nat.zero_le _⟩ dX11_say_37 (fun r_6 z_11 H locs wr_6 hP hD hS => ?_)
          obtain ⟨o_fvf_7, o_fpf_8, o_a17_9, o_a16_10⟩ := z_11
          have hP : va_P D vwCl (CW cs ad fa fq rv v (va_up (va_up a 17 o_a17_9) 16 o_a16_10) w (va_up fv 14 o_fvf_7) (va_up fp 14 o_fpf_8)) H := hP
          have hD : va_D A (CW cs ad fa fq rv v (va_up (va_up a 17 o_a17_9) 16 o_a16_10) w (va_up fv 14 o_fvf_7) (va_up fp 14 o_fpf_8)) := hD
          obtain ⟨wr_6_0, wr_6_1, wr_6_2⟩ : (r_6.toInt = -2 ∨ (0 ≤ r_6.toInt ∧ r_6.toInt < (v 1).toInt)) ∧ (o_fvf_7 3 = (fv 14 3) + 1) ∧ ((o_fvf_7 2).toInt = -2 ∨ (0 ≤ (o_fvf_7 2).toInt ∧ (o_fvf_7 2).toInt < (v 1).toInt)) := wr_6
          exact W.iret (v := r_6) hx hb hr (fun tt ht hW => ⟨⟨r_6, ⟨o_a17_9, o_a16_10, o_fvf_7, o_fpf_8⟩, rfl, ⟨(by first | exact Or.inl ⟨by omega, by omega, rfl⟩ | exact Or.inr ⟨by omega, by omega, by assumption⟩), (show (o_fvf_7 2).toInt = -2 ∨ (0 ≤ (o_fvf_7 2).toInt ∧ (o_fvf_7 2).toInt < (v 1).toInt) by first | omega | assumption)⟩, by rw [ht]; exact hP, hD⟩, hS.F ht⟩) hS.2.2 dX11_say_40
        ·
          have kc_5 : p2.toInt = (1 : Int) := i_eq c_5
          refine lv_iconst (v := 1) hx hb dX11_say_32 (by decide) ?_
          refine lv_goto (tgt := 37) hx hb dX11_say_33 (by decide) ?_
          refine cV_i (As := [.int p1, .int 1]) (rest := []) ⟨hx, hb, hml, hown, hg⟩ (k_X3_utter l D cs A ad fa fq rv v a w fv fp 14 p1 1 (by omega) (show 0 ≤ p1.toInt by first | omega | decide) (show p1.toInt < (v 1).toInt by first | omega | decide) (show 0 ≤ (v 1).toInt by first | omega | decide) (show (v 1).toInt ≤ 8 by first | omega | decide) (show (fv 14 2).toInt = -2 ∨ (0 ≤ (fv 14 2).toInt ∧ (fv 14 2).toInt < (v 1).toInt) by first | omega | decide) (show 0 ≤ (v 5).toInt by first | omega | decide) (show (v 5).toInt ≤ 256 by first | omega | decide) ia18_0) ca_X3_utter q3_176 ⟨rfl, rfl⟩ ⟨Nat.le_of_ble_eq_true rfl, Nat.le_of_ble_eq_true rfl⟩ (rc_fl (f := 14) (by decide) hK hP) hK hP hD hS hZ rfl hl.1 rfl (Nat.le_of_ble_eq_true rfl) ⟨Nat.zero_le _, Nat.zero_le _⟩ dX11_say_37 (fun r_12 z_17 H locs wr_12 hP hD hS => ?_)
          obtain ⟨o_fvf_13, o_fpf_14, o_a17_15, o_a16_16⟩ := z_17
          have hP : va_P D vwCl (CW cs ad fa fq rv v (va_up (va_up a 17 o_a17_15) 16 o_a16_16) w (va_up fv 14 o_fvf_13) (va_up fp 14 o_fpf_14)) H := hP
          have hD : va_D A (CW cs ad fa fq rv v (va_up (va_up a 17 o_a17_15) 16 o_a16_16) w (va_up fv 14 o_fvf_13) (va_up fp 14 o_fpf_14)) := hD
          obtain ⟨wr_12_0, wr_12_1, wr_12_2⟩ : (r_12.toInt = -2 ∨ (0 ≤ r_12.toInt ∧ r_12.toInt < (v 1).toInt)) ∧ (o_fvf_13 3 = (fv 14 3) + 1) ∧ ((o_fvf_13 2).toInt = -2 ∨ (0 ≤ (o_fvf_13 2).toInt ∧ (o_fvf_13 2).toInt < (v 1).toInt)) := wr_12
          exact W.iret (v := r_12) hx hb hr (fun tt ht hW => ⟨⟨r_12, ⟨o_a17_15, o_a16_16, o_fvf_13, o_fpf_14⟩, rfl, ⟨(by first | exact Or.inl ⟨by omega, by omega, rfl⟩ | exact Or.inr ⟨by omega, by omega, by assumption⟩), (show (o_fvf_13 2).toInt = -2 ∨ (0 ≤ (o_fvf_13 2).toInt ∧ (o_fvf_13 2).toInt < (v 1).toInt) by first | omega | assumption)⟩, by rw [ht]; exact hP, hD⟩, hS.F ht⟩) hS.2.2 dX11_say_40
      ·
        have kc_4 : (1 : Int) < p2.toInt := i_nle c_4
        refine lv_iconst (v := (-1)) hx hb dX11_say_20 (by decide) ?_
        have q0_m1 : ((-1) : Int32).toInt = (-1) := rfl
        have hP : va_P D vwCl (CW cs ad fa fq rv v (va_up (va_up a 17 (a 17)) 16 (a 16)) w (va_up fv 14 (fv 14)) (va_up fp 14 (fp 14))) _ := hP
        have hD : va_D A (CW cs ad fa fq rv v (va_up (va_up a 17 (a 17)) 16 (a 16)) w (va_up fv 14 (fv 14)) (va_up fp 14 (fp 14))) := hD
        exact W.iret (v := (-1)) hx hb hr (fun tt ht hW => ⟨⟨(-1), ⟨(a 17), (a 16), (fv 14), (fp 14)⟩, rfl, ⟨(by first | exact Or.inl ⟨by omega, by omega, rfl⟩ | exact Or.inr ⟨by omega, by omega, by assumption⟩), (show (fv 14 2).toInt = -2 ∨ (0 ≤ (fv 14 2).toInt ∧ (fv 14 2).toInt < (v 1).toInt) by first | omega | assumption)⟩, by rw [ht]; exact hP, hD⟩, hS.F ht⟩) hS.2.2 dX11_say_21
set_option maxHeartbeats 4000000 in
set_option maxRecDepth 100000 in
theorem k_X11_go (l : Launch) (D : va_G) (cs : Nat → ClassId) (A : Nat → Prop) (ad fa fq rv : Nat → Nat) (v : Nat → Int32) (a : Nat → Nat → Int32) (w : Nat → Nat → Int64) (fv fp : Nat → Nat → Int32)  (p1 : Int32) (p2 : Int32) (iv1_0 : 0 ≤ (v 1).toInt) (iv1_1 : (v 1).toInt ≤ 8) : Met l yX11_go (Cond.code yX11_go cX11_go 4 (some .int) :: gw) ({ frames := 4, cells := 0, slots := 0, locals := 89 }) (va_Pc [.ref (ad 0), .int p1, .int p2] (XPre D (TY cs) (CW cs ad fa fq rv v a w fv fp) A)) (va_Qi (fun (r : Int32) (z : (Nat → Int32) × (Nat → Int32)) => True) (XPo D (fun (z : (Nat → Int32) × (Nat → Int32)) => CW cs ad fa fq rv v (va_up (va_up a 11 z.1) 14 z.2) w fv fp) A) A) 0 0 A := by
  refine Met.ofW (cc := cX11_go) (maxL := 4) (ret := (some .int)) (by decide) rfl ?_
  intro p e s m args below meth c s₁ B hml hv
  obtain ⟨rfl, hP, hK, hD, hZ⟩ := hv
  have hx := B.exec
  have hb := B.bytes
  have hr := B.returns
  have hts := atoms_spec (ws := (Cond.code yX11_go cX11_go 4 (some .int) :: gw)) B.pre
  have hg : ∀ w ∈ gw, w.before ([.ref (ad 0), .int p1, .int p2] : List Value).toArray s = true := fun w h => hts w (List.mem_cons_of_mem _ h)
  have hown : s.vm.findClass RX11 = some m.cls := findClass_of_methodNamed B.named
  have hlocks := B.notSynchronized
  have hS : va_S A s.heap s.heap [] := va_S.rf
  have hP : va_P D vwCl (CW cs ad fa fq rv v a w fv fp) s.heap := hP
  have hl := lv_entry ([.ref (ad 0), .int p1, .int p2]) (n := 4) (Nat.le_of_ble_eq_true rfl)
  rw [lg_entry_eq]
  generalize (lg_sl ([.ref (ad 0), .int p1, .int p2]) ++ List.replicate (4 - (lg_sl ([.ref (ad 0), .int p1, .int p2])).length) Slot.unset).toArray = ls at hl ⊢
  have hl : lv_has ls 4 [(0, .ref (ad 0)), (1, .int p1), (2, .int p2)] := hl
  refine lv_aload_n hx hb dX11_go_0 rfl (lv_at hl 0 rfl) ?_
  refine gf_main_parish hx hb hg hown hK hP rfl (hg _ q2_123) dX11_go_1 ?_
  refine lv_iload_n hx hb dX11_go_4 rfl (lv_at hl 1 rfl) ?_
  refine cV_ro (As := [.int p1]) (rest := []) ⟨hx, hb, hml, hown, hg⟩ (k_X9_has l D cs A ad fa fq rv v a w fv fp  p1 (show 0 ≤ (v 1).toInt by first | omega | decide) (show (v 1).toInt ≤ 8 by first | omega | decide)) ca_X9_has q3_4 ⟨rfl, rfl⟩ ⟨Nat.le_of_ble_eq_true rfl, Nat.le_of_ble_eq_true rfl⟩ (rc_parish hK hP) hK hP hD hS hZ rfl hl.1 rfl (Nat.le_of_ble_eq_true rfl) ⟨Nat.zero_le _, Nat.zero_le _⟩ dX11_go_5 (fun r_1 wr_1 => ?_)
  have wr_1_0 : (r_1.toInt = 1 ∧ 0 ≤ p1.toInt ∧ p1.toInt < (v 1).toInt) ∨ (r_1.toInt = 0 ∧ ¬ (0 ≤ p1.toInt ∧ p1.toInt < (v 1).toInt)) := wr_1
  refine lv_if_eq (tgt := 18) hx hb dX11_go_8 (by decide) (fun c_2 => ?_) (fun c_2 => ?_)
  ·
    have kc_2 : r_1.toInt = (0 : Int) := i_eq c_2
    refine lv_iconst (v := (-1)) hx hb dX11_go_18 (by decide) ?_
    have q0_m1 : ((-1) : Int32).toInt = (-1) := rfl
    have hP : va_P D vwCl (CW cs ad fa fq rv v (va_up (va_up a 11 (a 11)) 14 (a 14)) w fv fp) _ := hP
    have hD : va_D A (CW cs ad fa fq rv v (va_up (va_up a 11 (a 11)) 14 (a 14)) w fv fp) := hD
    exact W.iret (v := (-1)) hx hb hr (fun tt ht hW => ⟨⟨(-1), ⟨(a 11), (a 14)⟩, rfl, trivial, by rw [ht]; exact hP, hD⟩, hS.F ht⟩) hS.2.2 dX11_go_19
  ·
    have kc_2 : r_1.toInt ≠ (0 : Int) := i_ne c_2
    refine lv_iload_n hx hb dX11_go_11 rfl (lv_at hl 2 rfl) ?_
    refine cS_p (As := [.int p2]) (rest := []) ⟨hx, hb, hml, hown, hg⟩ (k_X11_isCell l   p2 ) ca_X11_isCell q2_173 ⟨rfl, rfl⟩ ⟨Nat.le_of_ble_eq_true rfl, Nat.le_of_ble_eq_true rfl⟩ rfl hl.1 rfl (Nat.le_of_ble_eq_true rfl) ⟨Nat.zero_le _, Nat.zero_le _⟩ dX11_go_12 (fun r_3 wr_3 => ?_)
    have wr_3 : (r_3.toInt = 1 ∧ 0 ≤ p2.toInt ∧ p2.toInt < 256) ∨ (r_3.toInt = 0 ∧ ¬ (0 ≤ p2.toInt ∧ p2.toInt < 256)) := wr_3
    refine lv_if_ne (tgt := 20) hx hb dX11_go_15 (by decide) (fun c_4 => ?_) (fun c_4 => ?_)
    ·
      have kc_4 : r_3.toInt ≠ (0 : Int) := i_ne c_4
      refine lv_aload_n hx hb dX11_go_20 rfl (lv_at hl 0 rfl) ?_
      refine gf_main_parish hx hb hg hown hK hP rfl (hg _ q2_123) dX11_go_21 ?_
      refine gf_parish_cell hx hb hg hown hK hP rfl (hg _ q1_119) dX11_go_24 ?_
      refine lv_iload_n hx hb dX11_go_27 rfl (lv_at hl 1 rfl) ?_
      refine ld_Pcell hx hb hK hP (i_in (by omega) (by omega)) dX11_go_28 ?_
      refine lv_topi (fun x_5 ex_5 => ?_)
      have ex_5 : x_5 = (a 11) p1.toNatClampNeg := ex_5
      have hx_5 : x_5.toInt = ((a 11) p1.toNatClampNeg).toInt := by rw [ex_5]
      refine lv_istore_n (lv' := [(3, .int x_5), (0, .ref (ad 0)), (1, .int p1), (2, .int p2)]) hx hb dX11_go_29 rfl hl (by decide) rfl (fun ls hl => ?_)
      refine lv_aload_n hx hb dX11_go_30 rfl (lv_at hl 1 rfl) ?_
      refine gf_main_parish hx hb hg hown hK hP rfl (hg _ q2_123) dX11_go_31 ?_
      refine lv_iload_n hx hb dX11_go_34 rfl (lv_at hl 2 rfl) ?_
      refine lv_iload_n hx hb dX11_go_35 rfl (lv_at hl 3 rfl) ?_
      refine cV_v (As := [.int p1, .int p2]) (rest := []) ⟨hx, hb, hml, hown, hg⟩ (k_X9_place l D cs A ad fa fq rv v a w fv fp  p1 p2 (show 0 ≤ p1.toInt by first | omega | decide) (show p1.toInt < 8 by first | omega | decide) (show 0 ≤ (v 1).toInt by first | omega | decide) (show (v 1).toInt ≤ 8 by first | omega | decide)) ca_X9_place q3_28 ⟨rfl, rfl⟩ ⟨Nat.le_of_ble_eq_true rfl, Nat.le_of_ble_eq_true rfl⟩ (rc_parish hK hP) hK hP hD hS hZ rfl hl.1 rfl (Nat.le_of_ble_eq_true rfl) ⟨Nat.zero_le _, Nat.zero_le _⟩ dX11_go_36 (fun z_9 H locs wr_6 hP hD hS => ?_)
      obtain ⟨o_a11_7, o_a14_8⟩ := z_9
      have hP : va_P D vwCl (CW cs ad fa fq rv v (va_up (va_up a 11 o_a11_7) 14 o_a14_8) w fv fp) H := hP
      have hD : va_D A (CW cs ad fa fq rv v (va_up (va_up a 11 o_a11_7) 14 o_a14_8) w fv fp) := hD
      have wr_6_0 : True := wr_6
      refine lv_iload_n hx hb dX11_go_39 rfl (lv_at hl 0 rfl) ?_
      exact W.iret (v := x_5) hx hb hr (fun tt ht hW => ⟨⟨x_5, ⟨o_a11_7, o_a14_8⟩, rfl, trivial, by rw [ht]; exact hP, hD⟩, hS.F ht⟩) hS.2.2 dX11_go_40
    ·
      have kc_4 : r_3.toInt = (0 : Int) := i_eq c_4
      refine lv_iconst (v := (-1)) hx hb dX11_go_18 (by decide) ?_
      have q0_m1 : ((-1) : Int32).toInt = (-1) := rfl
      have hP : va_P D vwCl (CW cs ad fa fq rv v (va_up (va_up a 11 (a 11)) 14 (a 14)) w fv fp) _ := hP
      have hD : va_D A (CW cs ad fa fq rv v (va_up (va_up a 11 (a 11)) 14 (a 14)) w fv fp) := hD
      exact W.iret (v := (-1)) hx hb hr (fun tt ht hW => ⟨⟨(-1), ⟨(a 11), (a 14)⟩, rfl, trivial, by rw [ht]; exact hP, hD⟩, hS.F ht⟩) hS.2.2 dX11_go_19
set_option maxHeartbeats 4000000 in
set_option maxRecDepth 100000 in
theorem k_X11_pad (l : Launch) (D : va_G) (cs : Nat → ClassId) (A : Nat → Prop) (ad fa fq rv : Nat → Nat) (v : Nat → Int32) (a : Nat → Nat → Int32) (w : Nat → Nat → Int64) (fv fp : Nat → Nat → Int32)  (p1 : Int32) (iv1_0 : 0 ≤ (v 1).toInt) (iv1_1 : (v 1).toInt ≤ 8) : Met l yX11_pad (Cond.code yX11_pad cX11_pad 2 (some .int) :: gw) ({ frames := 1, cells := 0, slots := 0, locals := 21 }) (va_Pc [.ref (ad 0), .int p1] (XPre D (TY cs) (CW cs ad fa fq rv v a w fv fp) A)) (va_Qi (fun (r : Int32) (z : Nat → Int32) => True) (XPo D (fun (z : Nat → Int32) => CW cs ad fa fq rv v a w fv (va_up fp 14 z)) A) A) 0 0 A := by
  refine Met.ofW (cc := cX11_pad) (maxL := 2) (ret := (some .int)) (by decide) rfl ?_
  intro p e s m args below meth c s₁ B hml hv
  obtain ⟨rfl, hP, hK, hD, hZ⟩ := hv
  have hx := B.exec
  have hb := B.bytes
  have hr := B.returns
  have hts := atoms_spec (ws := (Cond.code yX11_pad cX11_pad 2 (some .int) :: gw)) B.pre
  have hg : ∀ w ∈ gw, w.before ([.ref (ad 0), .int p1] : List Value).toArray s = true := fun w h => hts w (List.mem_cons_of_mem _ h)
  have hown : s.vm.findClass RX11 = some m.cls := findClass_of_methodNamed B.named
  have hlocks := B.notSynchronized
  have hS : va_S A s.heap s.heap [] := va_S.rf
  have hP : va_P D vwCl (CW cs ad fa fq rv v a w fv fp) s.heap := hP
  have hl := lv_entry ([.ref (ad 0), .int p1]) (n := 2) (Nat.le_of_ble_eq_true rfl)
  rw [lg_entry_eq]
  generalize (lg_sl ([.ref (ad 0), .int p1]) ++ List.replicate (2 - (lg_sl ([.ref (ad 0), .int p1])).length) Slot.unset).toArray = ls at hl ⊢
  have hl : lv_has ls 2 [(0, .ref (ad 0)), (1, .int p1)] := hl
  refine lv_aload_n hx hb dX11_pad_0 rfl (lv_at hl 0 rfl) ?_
  refine gf_main_parish hx hb hg hown hK hP rfl (hg _ q2_123) dX11_pad_1 ?_
  refine lv_iload_n hx hb dX11_pad_4 rfl (lv_at hl 1 rfl) ?_
  refine cV_ro (As := [.int p1]) (rest := []) ⟨hx, hb, hml, hown, hg⟩ (k_X9_has l D cs A ad fa fq rv v a w fv fp  p1 (show 0 ≤ (v 1).toInt by first | omega | decide) (show (v 1).toInt ≤ 8 by first | omega | decide)) ca_X9_has q3_4 ⟨rfl, rfl⟩ ⟨Nat.le_of_ble_eq_true rfl, Nat.le_of_ble_eq_true rfl⟩ (rc_parish hK hP) hK hP hD hS hZ rfl hl.1 rfl (Nat.le_of_ble_eq_true rfl) ⟨Nat.zero_le _, Nat.zero_le _⟩ dX11_pad_5 (fun r_1 wr_1 => ?_)
  have wr_1_0 : (r_1.toInt = 1 ∧ 0 ≤ p1.toInt ∧ p1.toInt < (v 1).toInt) ∨ (r_1.toInt = 0 ∧ ¬ (0 ≤ p1.toInt ∧ p1.toInt < (v 1).toInt)) := wr_1
  refine lv_if_ne (tgt := 13) hx hb dX11_pad_8 (by decide) (fun c_2 => ?_) (fun c_2 => ?_)
  ·
    have kc_2 : r_1.toInt ≠ (0 : Int) := i_ne c_2
    refine lv_aload_n hx hb dX11_pad_13 rfl (lv_at hl 0 rfl) ?_
    refine gf_main_deed hx hb hg hown hK hP rfl (hg _ q2_125) dX11_pad_14 ?_
    refine gf_fl_pads (f := 14) (by decide) hx hb hg hown hK hP (hg _ q1_226) dX11_pad_17 ?_
    refine lv_iload_n hx hb dX11_pad_20 rfl (lv_at hl 1 rfl) ?_
    obtain ⟨t0, t1, t2, ⟨a0, b0⟩, ⟨a1, b1⟩, ⟨a2, b2⟩⟩ := id hZ
    refine va_gets hx hb a0 hS hown (hg _ q2_234) (fun _ h9 => h9) dX11_pad_21 ?_
    refine lv_iconst (v := 2) hx hb dX11_pad_24 (by decide) ?_
    refine va_ti hx hb b0 hS (i_in (by decide) (by decide)) (v := .int 9) rfl dX11_pad_25 ?_
    refine lv_aload_n hx hb dX11_pad_26 rfl (lv_at hl 0 rfl) ?_
    refine gf_main_deed hx hb hg hown hK hP rfl (hg _ q2_125) dX11_pad_27 ?_
    refine gf_fl_pads (f := 14) (by decide) hx hb hg hown hK hP (hg _ q1_226) dX11_pad_30 ?_
    refine lv_iload_n hx hb dX11_pad_33 rfl (lv_at hl 1 rfl) ?_
    refine ld_pads (f := 14) (by decide) hx hb hK hP (i_in (by omega) (by omega)) dX11_pad_34 ?_
    refine lv_topi (fun x_3 ex_3 => ?_)
    have ex_3 : x_3 = (fp 14) p1.toNatClampNeg := ex_3
    have hx_3 : x_3.toInt = ((fp 14) p1.toNatClampNeg).toInt := by rw [ex_3]
    refine lv_iconst (v := 1) hx hb dX11_pad_35 (by decide) ?_
    refine lv_iadd hx hb dX11_pad_36 ?_
    refine lv_topi (fun x_4 ex_4 => ?_)
    refine va_mmin hx hb (hml.trans hl.1.symm) hown (hg _ q4_90) (hg _ q3_61) (hg _ q1_16) (hg _ q3_62) (Nat.le_of_ble_eq_true rfl) (Nat.le_of_ble_eq_true rfl) (Nat.zero_le _) (Nat.zero_le _) dX11_pad_37 ?_
    refine lv_topi (fun x_5 ex_5 => ?_)
    have fx_5 := i_min ex_5
    have fx_5 : (x_4.toInt ≤ (9 : Int) ∧ x_5.toInt = x_4.toInt) ∨ ((9 : Int) ≤ x_4.toInt ∧ x_5.toInt = (9 : Int)) := fx_5
    refine st_pads (f := 14) (by decide) hx hb hK hP hD hS (i_in (by omega) (by omega)) dX11_pad_40 (fun H locs hP hD hS => ?_)
    refine lv_aload_n hx hb dX11_pad_41 rfl (lv_at hl 0 rfl) ?_
    refine gf_main_deed hx hb hg hown hK hP rfl (hg _ q2_125) dX11_pad_42 ?_
    refine gf_fl_pads (f := 14) (by decide) hx hb hg hown hK hP (hg _ q1_226) dX11_pad_45 ?_
    refine lv_iload_n hx hb dX11_pad_48 rfl (lv_at hl 1 rfl) ?_
    refine ld2_pads (f := 14) (by decide) hx hb hK hP (i_in (by omega) (by omega)) dX11_pad_49 ?_
    refine lv_topi (fun x_6 ex_6 => ?_)
    have ex_6 : x_6 = (upd (fp 14) p1.toNatClampNeg x_5) p1.toNatClampNeg := ex_6
    have hx_6 : x_6.toInt = ((upd (fp 14) p1.toNatClampNeg x_5) p1.toNatClampNeg).toInt := by rw [ex_6]
    exact W.iret (v := x_6) hx hb hr (fun tt ht hW => ⟨⟨x_6, (upd (fp 14) p1.toNatClampNeg x_5), rfl, trivial, by rw [ht]; exact hP, hD⟩, hS.F ht⟩) hS.2.2 dX11_pad_50
  ·
    have kc_2 : r_1.toInt = (0 : Int) := i_eq c_2
    refine lv_iconst (v := (-1)) hx hb dX11_pad_11 (by decide) ?_
    have q0_m1 : ((-1) : Int32).toInt = (-1) := rfl
    have hP : va_P D vwCl (CW cs ad fa fq rv v a w fv (va_up fp 14 (fp 14))) _ := hP
    have hD : va_D A (CW cs ad fa fq rv v a w fv (va_up fp 14 (fp 14))) := hD
    exact W.iret (v := (-1)) hx hb hr (fun tt ht hW => ⟨⟨(-1), (fp 14), rfl, trivial, by rw [ht]; exact hP, hD⟩, hS.F ht⟩) hS.2.2 dX11_pad_12
set_option maxHeartbeats 4000000 in
set_option maxRecDepth 100000 in
theorem k_X11_led (l : Launch) (D : va_G) (cs : Nat → ClassId) (A : Nat → Prop) (ad fa fq rv : Nat → Nat) (v : Nat → Int32) (a : Nat → Nat → Int32) (w : Nat → Nat → Int64) (fv fp : Nat → Nat → Int32)  (p1 : Int32) (iv1_0 : 0 ≤ (v 1).toInt) (iv1_1 : (v 1).toInt ≤ 8) (ifv14_0 : (fv 14 2).toInt = -2 ∨ (0 ≤ (fv 14 2).toInt ∧ (fv 14 2).toInt < (v 1).toInt)) : Met l yX11_led (Cond.code yX11_led cX11_led 2 (some .int) :: gw) ({ frames := 0, cells := 0, slots := 0, locals := 0 }) (va_Pc [.ref (ad 0), .int p1] (XPre D (TY cs) (CW cs ad fa fq rv v a w fv fp) A)) (vp_Si (fun (r : Int32) => True)) 0 0 (fun _ => False) := by
  refine Met.ofW (cc := cX11_led) (maxL := 2) (ret := (some .int)) (by decide) rfl ?_
  intro p e s m args below meth c s₁ B hml hv
  obtain ⟨rfl, hP, hK, hD, hZ⟩ := hv
  have hx := B.exec
  have hb := B.bytes
  have hr := B.returns
  have hts := atoms_spec (ws := (Cond.code yX11_led cX11_led 2 (some .int) :: gw)) B.pre
  have hg : ∀ w ∈ gw, w.before ([.ref (ad 0), .int p1] : List Value).toArray s = true := fun w h => hts w (List.mem_cons_of_mem _ h)
  have hown : s.vm.findClass RX11 = some m.cls := findClass_of_methodNamed B.named
  have hlocks := B.notSynchronized
  have hS : va_S A s.heap s.heap [] := va_S.rf
  have hl := lv_entry ([.ref (ad 0), .int p1]) (n := 2) (Nat.le_of_ble_eq_true rfl)
  rw [lg_entry_eq]
  generalize (lg_sl ([.ref (ad 0), .int p1]) ++ List.replicate (2 - (lg_sl ([.ref (ad 0), .int p1])).length) Slot.unset).toArray = ls at hl ⊢
  have hl : lv_has ls 2 [(0, .ref (ad 0)), (1, .int p1)] := hl
  refine lv_iload_n hx hb dX11_led_0 rfl (lv_at hl 1 rfl) ?_
  rcases (show p1.toInt = 0 ∨ p1.toInt = 1 ∨ p1.toInt = 2 ∨ p1.toInt = 3 ∨ p1.toInt = 4 ∨ p1.toInt = 5 ∨ p1.toInt = 6 ∨ (p1.toInt < 0 ∨ 6 < p1.toInt) by omega) with kc_1 | kc_1 | kc_1 | kc_1 | kc_1 | kc_1 | kc_1 | kc_1
  ·
    refine lv_tableIn (tgt := 44) hx hb dX11_led_1 (by omega) (by omega) (off := 43) (by rw [kc_1]; rfl) (by decide) ?_
    refine lv_aload_n hx hb dX11_led_44 rfl (lv_at hl 0 rfl) ?_
    refine gf_main_deed hx hb hg hown hK hP rfl (hg _ q2_125) dX11_led_45 ?_
    refine gf_fl_sayings (f := 14) (by decide) hx hb hg hown hK hP (x := (fv 14 3)) rfl (hg _ q1_237) dX11_led_48 ?_
    exact W.iret (v := (fv 14 3)) hx hb hr (fun tt ht hW => ⟨(fv 14 3), rfl, trivial, ht⟩) (fun _ h => by cases h) dX11_led_51
  ·
    refine lv_tableIn (tgt := 52) hx hb dX11_led_1 (by omega) (by omega) (off := 51) (by rw [kc_1]; rfl) (by decide) ?_
    refine lv_aload_n hx hb dX11_led_52 rfl (lv_at hl 0 rfl) ?_
    refine gf_main_deed hx hb hg hown hK hP rfl (hg _ q2_125) dX11_led_53 ?_
    refine gf_fl_lies (f := 14) (by decide) hx hb hg hown hK hP (x := (fv 14 4)) rfl (hg _ q2_0) dX11_led_56 ?_
    exact W.iret (v := (fv 14 4)) hx hb hr (fun tt ht hW => ⟨(fv 14 4), rfl, trivial, ht⟩) (fun _ h => by cases h) dX11_led_59
  ·
    refine lv_tableIn (tgt := 60) hx hb dX11_led_1 (by omega) (by omega) (off := 59) (by rw [kc_1]; rfl) (by decide) ?_
    refine lv_aload_n hx hb dX11_led_60 rfl (lv_at hl 0 rfl) ?_
    refine gf_main_deed hx hb hg hown hK hP rfl (hg _ q2_125) dX11_led_61 ?_
    refine gf_fl_louds (f := 14) (by decide) hx hb hg hown hK hP (x := (fv 14 5)) rfl (hg _ q2_2) dX11_led_64 ?_
    exact W.iret (v := (fv 14 5)) hx hb hr (fun tt ht hW => ⟨(fv 14 5), rfl, trivial, ht⟩) (fun _ h => by cases h) dX11_led_67
  ·
    refine lv_tableIn (tgt := 68) hx hb dX11_led_1 (by omega) (by omega) (off := 67) (by rw [kc_1]; rfl) (by decide) ?_
    refine lv_aload_n hx hb dX11_led_68 rfl (lv_at hl 0 rfl) ?_
    refine gf_main_deed hx hb hg hown hK hP rfl (hg _ q2_125) dX11_led_69 ?_
    refine gf_fl_stings (f := 14) (by decide) hx hb hg hown hK hP (x := (fv 14 6)) rfl (hg _ q2_4) dX11_led_72 ?_
    exact W.iret (v := (fv 14 6)) hx hb hr (fun tt ht hW => ⟨(fv 14 6), rfl, trivial, ht⟩) (fun _ h => by cases h) dX11_led_75
  ·
    refine lv_tableIn (tgt := 76) hx hb dX11_led_1 (by omega) (by omega) (off := 75) (by rw [kc_1]; rfl) (by decide) ?_
    refine lv_aload_n hx hb dX11_led_76 rfl (lv_at hl 0 rfl) ?_
    refine gf_main_deed hx hb hg hown hK hP rfl (hg _ q2_125) dX11_led_77 ?_
    refine gf_fl_hurts (f := 14) (by decide) hx hb hg hown hK hP (x := (fv 14 7)) rfl (hg _ q2_7) dX11_led_80 ?_
    exact W.iret (v := (fv 14 7)) hx hb hr (fun tt ht hW => ⟨(fv 14 7), rfl, trivial, ht⟩) (fun _ h => by cases h) dX11_led_83
  ·
    refine lv_tableIn (tgt := 84) hx hb dX11_led_1 (by omega) (by omega) (off := 83) (by rw [kc_1]; rfl) (by decide) ?_
    refine lv_aload_n hx hb dX11_led_84 rfl (lv_at hl 0 rfl) ?_
    refine gf_main_deed hx hb hg hown hK hP rfl (hg _ q2_125) dX11_led_85 ?_
    refine gf_fl_liar (f := 14) (by decide) hx hb hg hown hK hP (x := (fv 14 2)) rfl (hg _ q1_235) dX11_led_88 ?_
    exact W.iret (v := (fv 14 2)) hx hb hr (fun tt ht hW => ⟨(fv 14 2), rfl, trivial, ht⟩) (fun _ h => by cases h) dX11_led_91
  ·
    refine lv_tableIn (tgt := 92) hx hb dX11_led_1 (by omega) (by omega) (off := 91) (by rw [kc_1]; rfl) (by decide) ?_
    refine lv_aload_n hx hb dX11_led_92 rfl (lv_at hl 0 rfl) ?_
    refine gf_main_deed hx hb hg hown hK hP rfl (hg _ q2_125) dX11_led_93 ?_
    refine gf_fl_swarm (f := 14) (by decide) hx hb hg hown hK hP (x := (fv 14 1)) rfl (hg _ q1_233) dX11_led_96 ?_
    exact W.iret (v := (fv 14 1)) hx hb hr (fun tt ht hW => ⟨(fv 14 1), rfl, trivial, ht⟩) (fun _ h => by cases h) dX11_led_99
  ·
    refine lv_tableOut (tgt := 100) hx hb dX11_led_1 kc_1 (by decide) ?_
    refine lv_iconst (v := (-1)) hx hb dX11_led_100 (by decide) ?_
    have q0_m1 : ((-1) : Int32).toInt = (-1) := rfl
    exact W.iret (v := (-1)) hx hb hr (fun tt ht hW => ⟨(-1), rfl, trivial, ht⟩) (fun _ h => by cases h) dX11_led_101
set_option maxHeartbeats 4000000 in
set_option maxRecDepth 100000 in
theorem k_X11_image (l : Launch) (D : va_G) (cs : Nat → ClassId) (A : Nat → Prop) (ad fa fq rv : Nat → Nat) (v : Nat → Int32) (a : Nat → Nat → Int32) (w : Nat → Nat → Int64) (fv fp : Nat → Nat → Int32)   (iv1_0 : 0 ≤ (v 1).toInt) (iv1_1 : (v 1).toInt ≤ 8) (ifv14_0 : (fv 14 2).toInt = -2 ∨ (0 ≤ (fv 14 2).toInt ∧ (fv 14 2).toInt < (v 1).toInt)) (iv0_0 : (-1) ≤ (v 0).toInt) (iv0_1 : (v 0).toInt ≤ 8) (iv0_2 : (v 0).toInt ≤ (v 1).toInt) (ifv17_0 : (fv 17 2).toInt = -2 ∨ (0 ≤ (fv 17 2).toInt ∧ (fv 17 2).toInt < (v 1).toInt)) : Met l yX11_image (Cond.code yX11_image cX11_image 1 (some .int) :: gw) ({ frames := 2, cells := 0, slots := 0, locals := 82 }) (va_Pc [.ref (ad 0)] (XPre D (TY cs) (CW cs ad fa fq rv v a w fv fp) A)) (va_Qi (fun (r : Int32) (z : Int32 × (Nat → Int32) × (Nat → Int32) × (Nat → Int32)) => (r = (fv 14 3)) ∧ (z.2.2.1 3 = (fv 14 3)) ∧ (z.1.toInt = (v 1).toInt) ∧ ((-1) ≤ z.1.toInt) ∧ (z.1.toInt ≤ 8) ∧ (z.1.toInt ≤ (v 1).toInt) ∧ ((z.2.2.1 2).toInt = -2 ∨ (0 ≤ (z.2.2.1 2).toInt ∧ (z.2.2.1 2).toInt < (v 1).toInt))) (XPo D (fun (z : Int32 × (Nat → Int32) × (Nat → Int32) × (Nat → Int32)) => CW cs ad fa fq rv (va_up v 0 z.1) (va_up a 39 z.2.1) w (va_up fv 17 z.2.2.1) (va_up fp 17 z.2.2.2)) A) A) 0 0 A := by
  refine Met.ofW (cc := cX11_image) (maxL := 1) (ret := (some .int)) (by decide) rfl ?_
  intro p e s m args below meth c s₁ B hml hv
  obtain ⟨rfl, hP, hK, hD, hZ⟩ := hv
  have hx := B.exec
  have hb := B.bytes
  have hr := B.returns
  have hts := atoms_spec (ws := (Cond.code yX11_image cX11_image 1 (some .int) :: gw)) B.pre
  have hg : ∀ w ∈ gw, w.before ([.ref (ad 0)] : List Value).toArray s = true := fun w h => hts w (List.mem_cons_of_mem _ h)
  have hown : s.vm.findClass RX11 = some m.cls := findClass_of_methodNamed B.named
  have hlocks := B.notSynchronized
  have hS : va_S A s.heap s.heap [] := va_S.rf
  have hP : va_P D vwCl (CW cs ad fa fq rv v a w fv fp) s.heap := hP
  have hl := lv_entry ([.ref (ad 0)]) (n := 1) (Nat.le_of_ble_eq_true rfl)
  rw [lg_entry_eq]
  generalize (lg_sl ([.ref (ad 0)]) ++ List.replicate (1 - (lg_sl ([.ref (ad 0)])).length) Slot.unset).toArray = ls at hl ⊢
  have hl : lv_has ls 1 [(0, .ref (ad 0))] := hl
  refine lv_aload_n hx hb dX11_image_0 rfl (lv_at hl 0 rfl) ?_
  refine lv_aload_n hx hb dX11_image_1 rfl (lv_at hl 0 rfl) ?_
  refine gf_main_parish hx hb hg hown hK hP rfl (hg _ q2_123) dX11_image_2 ?_
  refine gf_parish_people hx hb hg hown hK hP (x := (v 1)) rfl (hg _ q1_109) dX11_image_5 ?_
  refine pf_main_keptPeople hx hb hg hown hK hP hD hS (hg _ q2_137) dX11_image_8 (fun H locs hP hD hS => ?_)
  refine lv_aload_n hx hb dX11_image_11 rfl (lv_at hl 0 rfl) ?_
  refine gf_main_parish hx hb hg hown hK hP rfl (hg _ q2_123) dX11_image_12 ?_
  refine gf_parish_cell hx hb hg hown hK hP rfl (hg _ q1_119) dX11_image_15 ?_
  refine lv_iconst (v := 0) hx hb dX11_image_18 (by decide) ?_
  refine lv_aload_n hx hb dX11_image_19 rfl (lv_at hl 0 rfl) ?_
  refine gf_main_keptCells hx hb hg hown hK hP rfl (hg _ q2_136) dX11_image_20 ?_
  refine lv_iconst (v := 0) hx hb dX11_image_23 (by decide) ?_
  refine lv_bipush (v := 8) hx hb dX11_image_24 (by decide) ?_
  refine va_copyi hx hb (hml.trans hl.1.symm) hown (hg _ q4_99) (hg _ q3_23) (hg _ q3_22) (hg _ q1_15) hK hP hD hS 11 39 0 0 rfl rfl rfl rfl rfl (fun q => absurd q (by decide)) (fun q => absurd q (by decide)) (fun q => absurd q (by decide)) (by show 0 + 8 ≤ 8; omega) (by show 0 + 8 ≤ 8; omega) (fun _ _ => rfl) (Nat.le_of_ble_eq_true rfl) (Nat.le_of_ble_eq_true rfl) dX11_image_26 (fun H locs hP hD hS => ?_)
  have hP : va_P D vwCl (CW cs ad fa fq rv (va_up v 0 (v 1)) (va_up a 39 (va_cpy (a 11) (a 39) (0 : Int32).toNatClampNeg (0 : Int32).toNatClampNeg (8 : Int32).toNatClampNeg)) w fv fp) H := hP
  have hD : va_D A (CW cs ad fa fq rv (va_up v 0 (v 1)) (va_up a 39 (va_cpy (a 11) (a 39) (0 : Int32).toNatClampNeg (0 : Int32).toNatClampNeg (8 : Int32).toNatClampNeg)) w fv fp) := hD
  refine lv_aload_n hx hb dX11_image_29 rfl (lv_at hl 0 rfl) ?_
  refine gf_main_keptFlight hx hb hg hown hK hP rfl (hg _ q2_135) dX11_image_30 ?_
  refine lv_aload_n hx hb dX11_image_33 rfl (lv_at hl 0 rfl) ?_
  refine gf_main_deed hx hb hg hown hK hP rfl (hg _ q2_125) dX11_image_34 ?_
  refine lv_bipush (v := 8) hx hb dX11_image_37 (by decide) ?_
  refine cV_v (As := [.ref (fa 14), .int 8]) (rest := []) ⟨hx, hb, hml, hown, hg⟩ (k_X3_follow l D cs A ad fa fq rv (va_up v 0 (v 1)) (va_up a 39 (va_cpy (a 11) (a 39) (0 : Int32).toNatClampNeg (0 : Int32).toNatClampNeg (8 : Int32).toNatClampNeg)) w fv fp 17 14 8 (by omega) (by omega) (by omega) (show 0 ≤ (8 : Int) by first | omega | decide) (show (8 : Int) ≤ 8 by first | omega | decide) (show 0 ≤ (v 1).toInt by first | omega | decide) (show (v 1).toInt ≤ 8 by first | omega | decide) (show (fv 14 2).toInt = -2 ∨ (0 ≤ (fv 14 2).toInt ∧ (fv 14 2).toInt < (v 1).toInt) by first | omega | decide)) ca_X3_follow q3_213 ⟨rfl, rfl⟩ ⟨Nat.le_of_ble_eq_true rfl, Nat.le_of_ble_eq_true rfl⟩ (rc_fl (f := 17) (by decide) hK hP) hK hP hD hS hZ rfl hl.1 rfl (Nat.le_of_ble_eq_true rfl) ⟨Nat.zero_le _, Nat.zero_le _⟩ dX11_image_39 (fun z_4 H locs wr_1 hP hD hS => ?_)
  obtain ⟨o_fvf_2, o_fpf_3⟩ := z_4
  have hP : va_P D vwCl (CW cs ad fa fq rv (va_up v 0 (v 1)) (va_up a 39 (va_cpy (a 11) (a 39) (0 : Int32).toNatClampNeg (0 : Int32).toNatClampNeg (8 : Int32).toNatClampNeg)) w (va_up fv 17 o_fvf_2) (va_up fp 17 o_fpf_3)) H := hP
  have hD : va_D A (CW cs ad fa fq rv (va_up v 0 (v 1)) (va_up a 39 (va_cpy (a 11) (a 39) (0 : Int32).toNatClampNeg (0 : Int32).toNatClampNeg (8 : Int32).toNatClampNeg)) w (va_up fv 17 o_fvf_2) (va_up fp 17 o_fpf_3)) := hD
  obtain ⟨wr_1_0, wr_1_1, wr_1_2, wr_1_3, wr_1_4, wr_1_5, wr_1_6, wr_1_7, wr_1_8⟩ : (o_fvf_2 0 = (fv 14 0)) ∧ (o_fvf_2 1 = (fv 14 1)) ∧ (o_fvf_2 2 = (fv 14 2)) ∧ (o_fvf_2 3 = (fv 14 3)) ∧ (o_fvf_2 4 = (fv 14 4)) ∧ (o_fvf_2 5 = (fv 14 5)) ∧ (o_fvf_2 6 = (fv 14 6)) ∧ (o_fvf_2 7 = (fv 14 7)) ∧ ((o_fvf_2 2).toInt = -2 ∨ (0 ≤ (o_fvf_2 2).toInt ∧ (o_fvf_2 2).toInt < (v 1).toInt)) := wr_1
  refine lv_aload_n hx hb dX11_image_42 rfl (lv_at hl 0 rfl) ?_
  refine gf_main_deed hx hb hg hown hK hP rfl (hg _ q2_125) dX11_image_43 ?_
  refine gf_fl_sayings (f := 14) (by decide) hx hb hg hown hK hP (x := (fv 14 3)) rfl (hg _ q1_237) dX11_image_46 ?_
  exact W.iret (v := (fv 14 3)) hx hb hr (fun tt ht hW => ⟨⟨(fv 14 3), ⟨(v 1), (va_cpy (a 11) (a 39) (0 : Int32).toNatClampNeg (0 : Int32).toNatClampNeg (8 : Int32).toNatClampNeg), o_fvf_2, o_fpf_3⟩, rfl, ⟨(by first | rfl | assumption), (by first | rfl | assumption), (by first | rfl | omega | trivial | assumption | (dsimp only; first | omega | assumption)), (show (-1) ≤ (v 1).toInt by first | omega | assumption), (show (v 1).toInt ≤ 8 by first | omega | assumption), (show (v 1).toInt ≤ (v 1).toInt by first | omega | assumption), (show (o_fvf_2 2).toInt = -2 ∨ (0 ≤ (o_fvf_2 2).toInt ∧ (o_fvf_2 2).toInt < (v 1).toInt) by first | omega | assumption)⟩, by rw [ht]; exact hP, hD⟩, hS.F ht⟩) hS.2.2 dX11_image_49
set_option maxHeartbeats 4000000 in
set_option maxRecDepth 100000 in
theorem k_X11_back (l : Launch) (D : va_G) (cs : Nat → ClassId) (A : Nat → Prop) (ad fa fq rv : Nat → Nat) (v : Nat → Int32) (a : Nat → Nat → Int32) (w : Nat → Nat → Int64) (fv fp : Nat → Nat → Int32)   (iv1_0 : 0 ≤ (v 1).toInt) (iv1_1 : (v 1).toInt ≤ 8) (iv0_0 : (-1) ≤ (v 0).toInt) (iv0_1 : (v 0).toInt ≤ 8) (iv0_2 : (v 0).toInt ≤ (v 1).toInt) (ifv17_0 : (fv 17 2).toInt = -2 ∨ (0 ≤ (fv 17 2).toInt ∧ (fv 17 2).toInt < (v 1).toInt)) (ifv14_0 : (fv 14 2).toInt = -2 ∨ (0 ≤ (fv 14 2).toInt ∧ (fv 14 2).toInt < (v 1).toInt)) : Met l yX11_back (Cond.code yX11_back cX11_back 3 (some .int) :: gw) ({ frames := 4, cells := 0, slots := 0, locals := 89 }) (va_Pc [.ref (ad 0)] (XPre D (TY cs) (CW cs ad fa fq rv v a w fv fp) A)) (va_Qi (fun (r : Int32) (z : (Nat → Int32) × (Nat → Int32) × (Nat → Int32) × (Nat → Int32)) => (((v 0).toInt < 0 ∧ r.toInt = -5 ∧ z.1 3 = (fv 14 3)) ∨ (0 ≤ (v 0).toInt ∧ r = (fv 17 3) ∧ z.1 3 = (fv 17 3))) ∧ ((z.1 2).toInt = -2 ∨ (0 ≤ (z.1 2).toInt ∧ (z.1 2).toInt < (v 1).toInt))) (XPo D (fun (z : (Nat → Int32) × (Nat → Int32) × (Nat → Int32) × (Nat → Int32)) => CW cs ad fa fq rv v (va_up (va_up a 11 z.2.2.1) 14 z.2.2.2) w (va_up fv 14 z.1) (va_up fp 14 z.2.1)) A) A) 0 0 A := by
  refine Met.ofW (cc := cX11_back) (maxL := 3) (ret := (some .int)) (by decide) rfl ?_
  intro p e s m args below meth c s₁ B hml hv
  obtain ⟨rfl, hP, hK, hD, hZ⟩ := hv
  have hx := B.exec
  have hb := B.bytes
  have hr := B.returns
  have hts := atoms_spec (ws := (Cond.code yX11_back cX11_back 3 (some .int) :: gw)) B.pre
  have hg : ∀ w ∈ gw, w.before ([.ref (ad 0)] : List Value).toArray s = true := fun w h => hts w (List.mem_cons_of_mem _ h)
  have hown : s.vm.findClass RX11 = some m.cls := findClass_of_methodNamed B.named
  have hlocks := B.notSynchronized
  have hS : va_S A s.heap s.heap [] := va_S.rf
  have hP : va_P D vwCl (CW cs ad fa fq rv v a w fv fp) s.heap := hP
  have hl := lv_entry ([.ref (ad 0)]) (n := 3) (Nat.le_of_ble_eq_true rfl)
  rw [lg_entry_eq]
  generalize (lg_sl ([.ref (ad 0)]) ++ List.replicate (3 - (lg_sl ([.ref (ad 0)])).length) Slot.unset).toArray = ls at hl ⊢
  have hl : lv_has ls 3 [(0, .ref (ad 0))] := hl
  have hcut : ∀ nk : Nat, (∀ (x1 : Int32) (x2 : Int32) (c32_a11 : Nat → Int32) (c32_a14 : Nat → Int32) (H : Heap) (locs : List Loc) (hk0 : 0 ≤ (v 0).toInt) (i1 : 0 ≤ x1.toInt) (i1b : x1.toInt ≤ 1) (i2 : 0 ≤ x2.toInt) (hmu : ((v 0).toInt - x2.toInt).toNat < nk) (hP : va_P D vwCl (CW cs ad fa fq rv v (va_up (va_up a 11 c32_a11) 14 c32_a14) w fv fp) H) (hD : va_D A (CW cs ad fa fq rv v (va_up (va_up a 11 c32_a11) 14 c32_a14) w fv fp)) (hS : va_S A s.heap H locs) (ls : Array Slot) (hl : lv_has ls 3 [(0, .ref (ad 0)), (1, .int x1), (2, .int x2)]), W p l e (headSpec (Cond.code yX11_back cX11_back 3 (some .int) :: gw) ({ frames := 4, cells := 0, slots := 0, locals := 89 })).room s m ([.ref (ad 0)] : List Value).toArray below meth c H locs 0 0 (MQ below (va_Qi (fun (r : Int32) (z : (Nat → Int32) × (Nat → Int32) × (Nat → Int32) × (Nat → Int32)) => (((v 0).toInt < 0 ∧ r.toInt = -5 ∧ z.1 3 = (fv 14 3)) ∨ (0 ≤ (v 0).toInt ∧ r = (fv 17 3) ∧ z.1 3 = (fv 17 3))) ∧ ((z.1 2).toInt = -2 ∨ (0 ≤ (z.1 2).toInt ∧ (z.1 2).toInt < (v 1).toInt))) (XPo D (fun (z : (Nat → Int32) × (Nat → Int32) × (Nat → Int32) × (Nat → Int32)) => CW cs ad fa fq rv v (va_up (va_up a 11 z.2.2.1) 14 z.2.2.2) w (va_up fv 14 z.1) (va_up fp 14 z.2.1)) A) A) ([.ref (ad 0)] : List Value).toArray s 0 0 A) (F0 m 32 ls [])) := by
    intro nk
    induction nk with
    | zero => exact (fun x1 x2 c32_a11 c32_a14 H locs hk0 i1 i1b i2 hmu hP hD hS ls hl => absurd hmu (Nat.not_lt_zero _))
    | succ nk ih =>
      intro x1 x2 c32_a11 c32_a14 H locs hk0 i1 i1b i2 hmu hP hD hS ls hl
      refine lv_iload_n hx hb dX11_back_32 rfl (lv_at hl 2 rfl) ?_
      refine lv_aload_n hx hb dX11_back_33 rfl (lv_at hl 0 rfl) ?_
      refine gf_main_keptPeople hx hb hg hown hK hP (x := (v 0)) rfl (hg _ q2_137) dX11_back_34 ?_
      refine lv_icmp_ge (tgt := 60) hx hb dX11_back_37 (by decide) (fun c_1 => ?_) (fun c_1 => ?_)
      ·
        have kc_1 : (v 0).toInt ≤ x2.toInt := i_le c_1
        refine lv_aload_n hx hb dX11_back_60 rfl (lv_at hl 0 rfl) ?_
        refine gf_main_deed hx hb hg hown hK hP rfl (hg _ q2_125) dX11_back_61 ?_
        refine lv_aload_n hx hb dX11_back_64 rfl (lv_at hl 0 rfl) ?_
        refine gf_main_keptFlight hx hb hg hown hK hP rfl (hg _ q2_135) dX11_back_65 ?_
        refine lv_aload_n hx hb dX11_back_68 rfl (lv_at hl 0 rfl) ?_
        refine gf_main_keptPeople hx hb hg hown hK hP (x := (v 0)) rfl (hg _ q2_137) dX11_back_69 ?_
        refine cV_v (As := [.ref (fa 17), .int (v 0)]) (rest := []) ⟨hx, hb, hml, hown, hg⟩ (k_X3_follow l D cs A ad fa fq rv v (va_up (va_up a 11 c32_a11) 14 c32_a14) w fv fp 14 17 (v 0) (by omega) (by omega) (by omega) (show 0 ≤ (v 0).toInt by first | omega | decide) (show (v 0).toInt ≤ 8 by first | omega | decide) (show 0 ≤ (v 1).toInt by first | omega | decide) (show (v 1).toInt ≤ 8 by first | omega | decide) (show (fv 17 2).toInt = -2 ∨ (0 ≤ (fv 17 2).toInt ∧ (fv 17 2).toInt < (v 1).toInt) by first | omega | decide)) ca_X3_follow q3_213 ⟨rfl, rfl⟩ ⟨Nat.le_of_ble_eq_true rfl, Nat.le_of_ble_eq_true rfl⟩ (rc_fl (f := 14) (by decide) hK hP) hK hP hD hS hZ rfl hl.1 rfl (Nat.le_of_ble_eq_true rfl) ⟨Nat.zero_le _, Nat.zero_le _⟩ dX11_back_72 (fun z_5 H locs wr_2 hP hD hS => ?_)
        obtain ⟨o_fvf_3, o_fpf_4⟩ := z_5
        have hP : va_P D vwCl (CW cs ad fa fq rv v (va_up (va_up a 11 c32_a11) 14 c32_a14) w (va_up fv 14 o_fvf_3) (va_up fp 14 o_fpf_4)) H := hP
        have hD : va_D A (CW cs ad fa fq rv v (va_up (va_up a 11 c32_a11) 14 c32_a14) w (va_up fv 14 o_fvf_3) (va_up fp 14 o_fpf_4)) := hD
        obtain ⟨wr_2_0, wr_2_1, wr_2_2, wr_2_3, wr_2_4, wr_2_5, wr_2_6, wr_2_7, wr_2_8⟩ : (o_fvf_3 0 = (fv 17 0)) ∧ (o_fvf_3 1 = (fv 17 1)) ∧ (o_fvf_3 2 = (fv 17 2)) ∧ (o_fvf_3 3 = (fv 17 3)) ∧ (o_fvf_3 4 = (fv 17 4)) ∧ (o_fvf_3 5 = (fv 17 5)) ∧ (o_fvf_3 6 = (fv 17 6)) ∧ (o_fvf_3 7 = (fv 17 7)) ∧ ((o_fvf_3 2).toInt = -2 ∨ (0 ≤ (o_fvf_3 2).toInt ∧ (o_fvf_3 2).toInt < (v 1).toInt)) := wr_2
        refine lv_iload_n hx hb dX11_back_75 rfl (lv_at hl 1 rfl) ?_
        refine lv_if_eq (tgt := 88) hx hb dX11_back_76 (by decide) (fun c_6 => ?_) (fun c_6 => ?_)
        ·
          have kc_6 : x1.toInt = (0 : Int) := i_eq c_6
          refine lv_aload_n hx hb dX11_back_88 rfl (lv_at hl 0 rfl) ?_
          refine gf_main_deed hx hb hg hown hK hP rfl (hg _ q2_125) dX11_back_89 ?_
          refine gf_fl_sayings (f := 14) (by decide) hx hb hg hown hK hP (x := (o_fvf_3 3)) rfl (hg _ q1_237) dX11_back_92 ?_
          exact W.iret (v := (o_fvf_3 3)) hx hb hr (fun tt ht hW => ⟨⟨(o_fvf_3 3), ⟨o_fvf_3, o_fpf_4, c32_a11, c32_a14⟩, rfl, ⟨(by first | exact Or.inl ⟨by omega, by omega, rfl⟩ | exact Or.inr ⟨by omega, by assumption, by assumption⟩), (show (o_fvf_3 2).toInt = -2 ∨ (0 ≤ (o_fvf_3 2).toInt ∧ (o_fvf_3 2).toInt < (v 1).toInt) by first | omega | assumption)⟩, by rw [ht]; exact hP, hD⟩, hS.F ht⟩) hS.2.2 dX11_back_95
        ·
          have kc_6 : x1.toInt ≠ (0 : Int) := i_ne c_6
          refine lv_aload_n hx hb dX11_back_79 rfl (lv_at hl 0 rfl) ?_
          refine gf_main_deed hx hb hg hown hK hP rfl (hg _ q2_125) dX11_back_80 ?_
          refine lv_bipush (v := (-2)) hx hb dX11_back_83 (by decide) ?_
          refine pg_fl_liar (f := 14) (by decide) hx hb hg hown hK hP hD hS (hg _ q1_235) dX11_back_85 (fun H locs hP hD hS => ?_)
          refine lv_aload_n hx hb dX11_back_88 rfl (lv_at hl 0 rfl) ?_
          refine gf_main_deed hx hb hg hown hK hP rfl (hg _ q2_125) dX11_back_89 ?_
          refine gf_fl_sayings (f := 14) (by decide) hx hb hg hown hK hP (x := (o_fvf_3 3)) rfl (hg _ q1_237) dX11_back_92 ?_
          exact W.iret (v := (o_fvf_3 3)) hx hb hr (fun tt ht hW => ⟨⟨(o_fvf_3 3), ⟨(va_up o_fvf_3 2 (-2)), o_fpf_4, c32_a11, c32_a14⟩, rfl, ⟨(by first | exact Or.inl ⟨by omega, by omega, rfl⟩ | exact Or.inr ⟨by omega, by assumption, by assumption⟩), (show (-2 : Int) = -2 ∨ (0 ≤ (-2 : Int) ∧ (-2 : Int) < (v 1).toInt) by first | omega | assumption)⟩, by rw [ht]; exact hP, hD⟩, hS.F ht⟩) hS.2.2 dX11_back_95
      ·
        have kc_1 : x2.toInt < (v 0).toInt := i_nle c_1
        refine lv_aload_n hx hb dX11_back_40 rfl (lv_at hl 0 rfl) ?_
        refine gf_main_parish hx hb hg hown hK hP rfl (hg _ q2_123) dX11_back_41 ?_
        refine lv_iload_n hx hb dX11_back_44 rfl (lv_at hl 2 rfl) ?_
        refine lv_aload_n hx hb dX11_back_45 rfl (lv_at hl 0 rfl) ?_
        refine gf_main_keptCells hx hb hg hown hK hP rfl (hg _ q2_136) dX11_back_46 ?_
        refine lv_iload_n hx hb dX11_back_49 rfl (lv_at hl 2 rfl) ?_
        refine ld_keptCells hx hb hK hP (i_in (by omega) (by omega)) dX11_back_50 ?_
        refine lv_topi (fun x_7 ex_7 => ?_)
        have ex_7 : x_7 = (a 39) x2.toNatClampNeg := ex_7
        have hx_7 : x_7.toInt = ((a 39) x2.toNatClampNeg).toInt := by rw [ex_7]
        refine cV_v (As := [.int x2, .int x_7]) (rest := []) ⟨hx, hb, hml, hown, hg⟩ (k_X9_place l D cs A ad fa fq rv v (va_up (va_up a 11 c32_a11) 14 c32_a14) w fv fp  x2 x_7 (show 0 ≤ x2.toInt by first | omega | decide) (show x2.toInt < 8 by first | omega | decide) (show 0 ≤ (v 1).toInt by first | omega | decide) (show (v 1).toInt ≤ 8 by first | omega | decide)) ca_X9_place q3_28 ⟨rfl, rfl⟩ ⟨Nat.le_of_ble_eq_true rfl, Nat.le_of_ble_eq_true rfl⟩ (rc_parish hK hP) hK hP hD hS hZ rfl hl.1 rfl (Nat.le_of_ble_eq_true rfl) ⟨Nat.zero_le _, Nat.zero_le _⟩ dX11_back_51 (fun z_11 H locs wr_8 hP hD hS => ?_)
        obtain ⟨o_a11_9, o_a14_10⟩ := z_11
        have hP : va_P D vwCl (CW cs ad fa fq rv v (va_up (va_up a 11 o_a11_9) 14 o_a14_10) w fv fp) H := hP
        have hD : va_D A (CW cs ad fa fq rv v (va_up (va_up a 11 o_a11_9) 14 o_a14_10) w fv fp) := hD
        have wr_8_0 : True := wr_8
        obtain ⟨x_12, ex_12⟩ : ∃ y : Int32, y = x2 + 1 := ⟨_, rfl⟩
        have fx_12 : x_12.toInt = x2.toInt + 1 := by rw [ex_12]; exact i_add (by first | omega | (show (_ : Int) ≤ x2.toInt + 1; omega)) (by first | omega | (show x2.toInt + 1 ≤ (_ : Int); omega))
        refine lv_iinc (v := x_12) (lv' := [(2, .int x_12), (0, .ref (ad 0)), (1, .int x1)]) hx hb dX11_back_54 hl (k := 2) rfl (by rw [ex_12]; rfl) (by decide) rfl (fun ls hl => ?_)
        refine lv_goto (tgt := 32) hx hb dX11_back_57 (by decide) ?_
        exact ih x1 x_12 o_a11_9 o_a14_10 _ _ (by omega) (by omega) (by omega) (by omega) (by omega) hP hD hS ls (lv_sub hl [1, 2, 0] rfl)
  refine lv_aload_n hx hb dX11_back_0 rfl (lv_at hl 0 rfl) ?_
  refine gf_main_keptPeople hx hb hg hown hK hP (x := (v 0)) rfl (hg _ q2_137) dX11_back_1 ?_
  refine lv_if_ge (tgt := 10) hx hb dX11_back_4 (by decide) (fun c_13 => ?_) (fun c_13 => ?_)
  ·
    have kc_13 : (0 : Int) ≤ (v 0).toInt := i_le c_13
    refine lv_aload_n hx hb dX11_back_10 rfl (lv_at hl 0 rfl) ?_
    refine gf_main_deed hx hb hg hown hK hP rfl (hg _ q2_125) dX11_back_11 ?_
    refine gf_fl_liar (f := 14) (by decide) hx hb hg hown hK hP (x := (fv 14 2)) rfl (hg _ q1_235) dX11_back_14 ?_
    refine lv_aload_n hx hb dX11_back_17 rfl (lv_at hl 0 rfl) ?_
    refine gf_main_keptPeople hx hb hg hown hK hP (x := (v 0)) rfl (hg _ q2_137) dX11_back_18 ?_
    refine lv_icmp_lt (tgt := 28) hx hb dX11_back_21 (by decide) (fun c_14 => ?_) (fun c_14 => ?_)
    ·
      have kc_14 : (fv 14 2).toInt < (v 0).toInt := i_lt c_14
      refine lv_iconst (v := 0) hx hb dX11_back_28 (by decide) ?_
      refine lv_istore_n (lv' := [(1, .int 0), (0, .ref (ad 0))]) hx hb dX11_back_29 rfl hl (by decide) rfl (fun ls hl => ?_)
      refine lv_iconst (v := 0) hx hb dX11_back_30 (by decide) ?_
      refine lv_istore_n (lv' := [(2, .int 0), (1, .int 0), (0, .ref (ad 0))]) hx hb dX11_back_31 rfl hl (by decide) rfl (fun ls hl => ?_)
      have q0_0 : (0 : Int32).toInt = 0 := rfl
      exact (hcut ((((v 0).toInt - (0 : Int32).toInt).toNat) + 1)) 0 0 (a 11) (a 14) _ _ (by omega) (by omega) (by omega) (by omega) (Nat.lt_succ_self _) hP hD hS ls (lv_sub hl [2, 1, 0] rfl)
    ·
      have kc_14 : (v 0).toInt ≤ (fv 14 2).toInt := i_nlt c_14
      refine lv_iconst (v := 1) hx hb dX11_back_24 (by decide) ?_
      refine lv_goto (tgt := 29) hx hb dX11_back_25 (by decide) ?_
      refine lv_istore_n (lv' := [(1, .int 1), (0, .ref (ad 0))]) hx hb dX11_back_29 rfl hl (by decide) rfl (fun ls hl => ?_)
      refine lv_iconst (v := 0) hx hb dX11_back_30 (by decide) ?_
      refine lv_istore_n (lv' := [(2, .int 0), (1, .int 1), (0, .ref (ad 0))]) hx hb dX11_back_31 rfl hl (by decide) rfl (fun ls hl => ?_)
      have q0_1 : (1 : Int32).toInt = 1 := rfl
      have q0_0 : (0 : Int32).toInt = 0 := rfl
      exact (hcut ((((v 0).toInt - (0 : Int32).toInt).toNat) + 1)) 1 0 (a 11) (a 14) _ _ (by omega) (by omega) (by omega) (by omega) (Nat.lt_succ_self _) hP hD hS ls (lv_sub hl [2, 1, 0] rfl)
  ·
    have kc_13 : (v 0).toInt < (0 : Int) := i_nle c_13
    refine lv_bipush (v := (-5)) hx hb dX11_back_7 (by decide) ?_
    have q0_m5 : ((-5) : Int32).toInt = (-5) := rfl
    have hP : va_P D vwCl (CW cs ad fa fq rv v (va_up (va_up a 11 (a 11)) 14 (a 14)) w (va_up fv 14 (fv 14)) (va_up fp 14 (fp 14))) _ := hP
    have hD : va_D A (CW cs ad fa fq rv v (va_up (va_up a 11 (a 11)) 14 (a 14)) w (va_up fv 14 (fv 14)) (va_up fp 14 (fp 14))) := hD
    exact W.iret (v := (-5)) hx hb hr (fun tt ht hW => ⟨⟨(-5), ⟨(fv 14), (fp 14), (a 11), (a 14)⟩, rfl, ⟨(by first | exact Or.inl ⟨by omega, by omega, rfl⟩ | exact Or.inr ⟨by omega, by assumption, by assumption⟩), (show (fv 14 2).toInt = -2 ∨ (0 ≤ (fv 14 2).toInt ∧ (fv 14 2).toInt < (v 1).toInt) by first | omega | assumption)⟩, by rw [ht]; exact hP, hD⟩, hS.F ht⟩) hS.2.2 dX11_back_9
