set_option maxHeartbeats 4000000 in
set_option maxRecDepth 100000 in
theorem k_X0_has (l : Launch) (D : va_G) (cs : Nat → ClassId) (A : Nat → Prop) (ad fa fq rv : Nat → Nat) (v : Nat → Int32) (a : Nat → Nat → Int32) (w : Nat → Nat → Int64) (fv fp : Nat → Nat → Int32)  (p1 : Int32) (iv21_0 : 0 ≤ (v 21).toInt) (iv21_1 : (v 21).toInt ≤ 50) : Met l yX0_has (Cond.code yX0_has cX0_has 2 (some .boolean) :: gw) ({ frames := 0, cells := 0, slots := 0, locals := 0 }) (va_Pc [.ref (ad 9), .int p1] (XPre D (TY cs) (CW cs ad fa fq rv v a w fv fp) A)) (vp_Si (fun (r : Int32) => ((r.toInt = 1 ∧ 0 ≤ p1.toInt ∧ p1.toInt < (v 21).toInt) ∨ (r.toInt = 0 ∧ ¬ (0 ≤ p1.toInt ∧ p1.toInt < (v 21).toInt))))) 0 0 (fun _ => False) := by
  refine Met.ofW (cc := cX0_has) (maxL := 2) (ret := (some .boolean)) (by decide) rfl ?_
  intro p e s m args below meth c s₁ B hml hv
  obtain ⟨rfl, hP, hK, hD, hZ⟩ := hv
  have hx := B.exec
  have hb := B.bytes
  have hr := B.returns
  have hts := atoms_spec (ws := (Cond.code yX0_has cX0_has 2 (some .boolean) :: gw)) B.pre
  have hg : ∀ w ∈ gw, w.before ([.ref (ad 9), .int p1] : List Value).toArray s = true := fun w h => hts w (List.mem_cons_of_mem _ h)
  have hown : s.vm.findClass RX0 = some m.cls := findClass_of_methodNamed B.named
  have hlocks := B.notSynchronized
  have hS : va_S A s.heap s.heap [] := va_S.rf
  have hl := lv_entry ([.ref (ad 9), .int p1]) (n := 2) (Nat.le_of_ble_eq_true rfl)
  rw [lg_entry_eq]
  generalize (lg_sl ([.ref (ad 9), .int p1]) ++ List.replicate (2 - (lg_sl ([.ref (ad 9), .int p1])).length) Slot.unset).toArray = ls at hl ⊢
  have hl : lv_has ls 2 [(0, .ref (ad 9)), (1, .int p1)] := hl
  refine lv_iload_n hx hb dX0_has_0 rfl (lv_at hl 1 rfl) ?_
  refine lv_if_lt (tgt := 16) hx hb dX0_has_1 (by decide) (fun c_1 => ?_) (fun c_1 => ?_)
  ·
    have kc_1 : p1.toInt < (0 : Int) := i_lt c_1
    refine lv_iconst (v := 0) hx hb dX0_has_16 (by decide) ?_
    have q0_0 : (0 : Int32).toInt = 0 := rfl
    exact W.zret (v := 0) hx hb hr rfl (fun tt ht hW => ⟨0, rfl, (by first | rfl | omega | trivial | assumption | (dsimp only; first | omega | assumption)), ht⟩) (fun _ h => by cases h) dX0_has_17
  ·
    have kc_1 : (0 : Int) ≤ p1.toInt := i_nlt c_1
    refine lv_iload_n hx hb dX0_has_4 rfl (lv_at hl 1 rfl) ?_
    refine lv_aload_n hx hb dX0_has_5 rfl (lv_at hl 0 rfl) ?_
    refine gf_acts_made hx hb hg hown hK hP (x := (v 21)) rfl (hg _ q1_84) dX0_has_6 ?_
    refine lv_icmp_ge (tgt := 16) hx hb dX0_has_9 (by decide) (fun c_2 => ?_) (fun c_2 => ?_)
    ·
      have kc_2 : (v 21).toInt ≤ p1.toInt := i_le c_2
      refine lv_iconst (v := 0) hx hb dX0_has_16 (by decide) ?_
      have q0_0 : (0 : Int32).toInt = 0 := rfl
      exact W.zret (v := 0) hx hb hr rfl (fun tt ht hW => ⟨0, rfl, (by first | rfl | omega | trivial | assumption | (dsimp only; first | omega | assumption)), ht⟩) (fun _ h => by cases h) dX0_has_17
    ·
      have kc_2 : p1.toInt < (v 21).toInt := i_nle c_2
      refine lv_iconst (v := 1) hx hb dX0_has_12 (by decide) ?_
      refine lv_goto (tgt := 17) hx hb dX0_has_13 (by decide) ?_
      have q0_1 : (1 : Int32).toInt = 1 := rfl
      exact W.zret (v := 1) hx hb hr rfl (fun tt ht hW => ⟨1, rfl, (by first | rfl | omega | trivial | assumption | (dsimp only; first | omega | assumption)), ht⟩) (fun _ h => by cases h) dX0_has_17
set_option maxHeartbeats 4000000 in
set_option maxRecDepth 100000 in
theorem k_X0_kept (l : Launch) (D : va_G) (cs : Nat → ClassId) (A : Nat → Prop) (ad fa fq rv : Nat → Nat) (v : Nat → Int32) (a : Nat → Nat → Int32) (w : Nat → Nat → Int64) (fv fp : Nat → Nat → Int32)   (iv22_0 : 0 ≤ (v 22).toInt) (iv22_1 : (v 22).toInt ≤ 1000) : Met l yX0_kept (Cond.code yX0_kept cX0_kept 1 (some .int) :: gw) ({ frames := 1, cells := 0, slots := 0, locals := 13 }) (va_Pc [.ref (ad 9)] (XPre D (TY cs) (CW cs ad fa fq rv v a w fv fp) A)) (vp_Si (fun (r : Int32) => (0 ≤ r.toInt) ∧ (r.toInt ≤ 24) ∧ (((v 22).toInt ≤ 24 ∧ r.toInt = (v 22).toInt) ∨ (24 ≤ (v 22).toInt ∧ r.toInt = 24)))) 0 0 (fun _ => False) := by
  refine Met.ofW (cc := cX0_kept) (maxL := 1) (ret := (some .int)) (by decide) rfl ?_
  intro p e s m args below meth c s₁ B hml hv
  obtain ⟨rfl, hP, hK, hD, hZ⟩ := hv
  have hx := B.exec
  have hb := B.bytes
  have hr := B.returns
  have hts := atoms_spec (ws := (Cond.code yX0_kept cX0_kept 1 (some .int) :: gw)) B.pre
  have hg : ∀ w ∈ gw, w.before ([.ref (ad 9)] : List Value).toArray s = true := fun w h => hts w (List.mem_cons_of_mem _ h)
  have hown : s.vm.findClass RX0 = some m.cls := findClass_of_methodNamed B.named
  have hlocks := B.notSynchronized
  have hS : va_S A s.heap s.heap [] := va_S.rf
  have hl := lv_entry ([.ref (ad 9)]) (n := 1) (Nat.le_of_ble_eq_true rfl)
  rw [lg_entry_eq]
  generalize (lg_sl ([.ref (ad 9)]) ++ List.replicate (1 - (lg_sl ([.ref (ad 9)])).length) Slot.unset).toArray = ls at hl ⊢
  have hl : lv_has ls 1 [(0, .ref (ad 9))] := hl
  refine lv_aload_n hx hb dX0_kept_0 rfl (lv_at hl 0 rfl) ?_
  refine gf_acts_ran hx hb hg hown hK hP (x := (v 22)) rfl (hg _ q1_88) dX0_kept_1 ?_
  refine lv_bipush (v := 24) hx hb dX0_kept_4 (by decide) ?_
  refine va_mmin hx hb (hml.trans hl.1.symm) hown (hg _ q4_161) (hg _ q3_61) (hg _ q1_16) (hg _ q3_62) (Nat.le_of_ble_eq_true rfl) (Nat.le_of_ble_eq_true rfl) (Nat.zero_le _) (Nat.zero_le _) dX0_kept_6 ?_
  refine lv_topi (fun x_1 ex_1 => ?_)
  have fx_1 := i_min ex_1
  have fx_1 : ((24 : Int) ≤ (v 22).toInt ∧ x_1.toInt = (24 : Int)) ∨ ((v 22).toInt ≤ (24 : Int) ∧ x_1.toInt = (v 22).toInt) := fx_1
  exact W.iret (v := x_1) hx hb hr (fun tt ht hW => ⟨x_1, rfl, ⟨(by first | rfl | omega | trivial | assumption | (dsimp only; first | omega | assumption)), (by first | rfl | omega | trivial | assumption | (dsimp only; first | omega | assumption)), (by first | rfl | omega | trivial | assumption | (dsimp only; first | omega | assumption))⟩, ht⟩) (fun _ h => by cases h) dX0_kept_9
set_option maxHeartbeats 4000000 in
set_option maxRecDepth 100000 in
theorem k_X0_kindOf (l : Launch) (D : va_G) (cs : Nat → ClassId) (A : Nat → Prop) (ad fa fq rv : Nat → Nat) (v : Nat → Int32) (a : Nat → Nat → Int32) (w : Nat → Nat → Int64) (fv fp : Nat → Nat → Int32)  (p1 : Int32) (iv21_0 : 0 ≤ (v 21).toInt) (iv21_1 : (v 21).toInt ≤ 50) (ia37_0 : AB 0 7 (a 37)) : Met l yX0_kindOf (Cond.code yX0_kindOf cX0_kindOf 2 (some .int) :: gw) ({ frames := 1, cells := 0, slots := 0, locals := 21 }) (va_Pc [.ref (ad 9), .int p1] (XPre D (TY cs) (CW cs ad fa fq rv v a w fv fp) A)) (vp_Si (fun (r : Int32) => (((0 ≤ p1.toInt ∧ p1.toInt < (v 21).toInt) ∧ r.toInt = ((a 37) p1.toNatClampNeg).toInt) ∨ (¬ (0 ≤ p1.toInt ∧ p1.toInt < (v 21).toInt) ∧ r.toInt = -1)) ∧ (-1 ≤ r.toInt) ∧ (r.toInt ≤ 7))) 0 0 (fun _ => False) := by
  refine Met.ofW (cc := cX0_kindOf) (maxL := 2) (ret := (some .int)) (by decide) rfl ?_
  intro p e s m args below meth c s₁ B hml hv
  obtain ⟨rfl, hP, hK, hD, hZ⟩ := hv
  have hx := B.exec
  have hb := B.bytes
  have hr := B.returns
  have hts := atoms_spec (ws := (Cond.code yX0_kindOf cX0_kindOf 2 (some .int) :: gw)) B.pre
  have hg : ∀ w ∈ gw, w.before ([.ref (ad 9), .int p1] : List Value).toArray s = true := fun w h => hts w (List.mem_cons_of_mem _ h)
  have hown : s.vm.findClass RX0 = some m.cls := findClass_of_methodNamed B.named
  have hlocks := B.notSynchronized
  have hS : va_S A s.heap s.heap [] := va_S.rf
  have hl := lv_entry ([.ref (ad 9), .int p1]) (n := 2) (Nat.le_of_ble_eq_true rfl)
  rw [lg_entry_eq]
  generalize (lg_sl ([.ref (ad 9), .int p1]) ++ List.replicate (2 - (lg_sl ([.ref (ad 9), .int p1])).length) Slot.unset).toArray = ls at hl ⊢
  have hl : lv_has ls 2 [(0, .ref (ad 9)), (1, .int p1)] := hl
  refine lv_aload_n hx hb dX0_kindOf_0 rfl (lv_at hl 0 rfl) ?_
  refine lv_iload_n hx hb dX0_kindOf_1 rfl (lv_at hl 1 rfl) ?_
  refine cV_ro (As := [.int p1]) (rest := []) ⟨hx, hb, hml, hown, hg⟩ (k_X0_has l D cs A ad fa fq rv v a w fv fp  p1 (show 0 ≤ (v 21).toInt by first | omega | decide) (show (v 21).toInt ≤ 50 by first | omega | decide)) ca_X0_has q4_131 ⟨rfl, rfl⟩ ⟨Nat.le_of_ble_eq_true rfl, Nat.le_of_ble_eq_true rfl⟩ (rc_acts hK hP) hK hP hD hS hZ rfl hl.1 rfl (Nat.le_of_ble_eq_true rfl) ⟨Nat.zero_le _, Nat.zero_le _⟩ dX0_kindOf_2 (fun r_1 wr_1 => ?_)
  have wr_1_0 : (r_1.toInt = 1 ∧ 0 ≤ p1.toInt ∧ p1.toInt < (v 21).toInt) ∨ (r_1.toInt = 0 ∧ ¬ (0 ≤ p1.toInt ∧ p1.toInt < (v 21).toInt)) := wr_1
  refine lv_if_eq (tgt := 17) hx hb dX0_kindOf_5 (by decide) (fun c_2 => ?_) (fun c_2 => ?_)
  ·
    have kc_2 : r_1.toInt = (0 : Int) := i_eq c_2
    refine lv_iconst (v := (-1)) hx hb dX0_kindOf_17 (by decide) ?_
    have q0_m1 : ((-1) : Int32).toInt = (-1) := rfl
    exact W.iret (v := (-1)) hx hb hr (fun tt ht hW => ⟨(-1), rfl, ⟨(by first | rfl | omega | trivial | assumption | (dsimp only; first | omega | assumption)), (by first | rfl | omega | trivial | assumption | (dsimp only; first | omega | assumption)), (by first | rfl | omega | trivial | assumption | (dsimp only; first | omega | assumption))⟩, ht⟩) (fun _ h => by cases h) dX0_kindOf_18
  ·
    have kc_2 : r_1.toInt ≠ (0 : Int) := i_ne c_2
    refine lv_aload_n hx hb dX0_kindOf_8 rfl (lv_at hl 0 rfl) ?_
    refine gf_acts_kind hx hb hg hown hK hP rfl (hg _ q1_83) dX0_kindOf_9 ?_
    refine lv_iload_n hx hb dX0_kindOf_12 rfl (lv_at hl 1 rfl) ?_
    refine ld_Akind hx hb hK hP (i_in (by omega) (by omega)) dX0_kindOf_13 ?_
    refine lv_topi (fun x_3 ex_3 => ?_)
    have ex_3 : x_3 = (a 37) p1.toNatClampNeg := ex_3
    have hx_3 : x_3.toInt = ((a 37) p1.toNatClampNeg).toInt := by rw [ex_3]
    have bx_3 := ia37_0 p1.toNatClampNeg
    rw [← ex_3] at bx_3
    refine lv_goto (tgt := 18) hx hb dX0_kindOf_14 (by decide) ?_
    exact W.iret (v := x_3) hx hb hr (fun tt ht hW => ⟨x_3, rfl, ⟨(by first | rfl | omega | trivial | assumption | (dsimp only; first | omega | assumption)), (by first | rfl | omega | trivial | assumption | (dsimp only; first | omega | assumption)), (by first | rfl | omega | trivial | assumption | (dsimp only; first | omega | assumption))⟩, ht⟩) (fun _ h => by cases h) dX0_kindOf_18
set_option maxHeartbeats 4000000 in
set_option maxRecDepth 100000 in
theorem k_X0_make (l : Launch) (D : va_G) (cs : Nat → ClassId) (A : Nat → Prop) (ad fa fq rv : Nat → Nat) (v : Nat → Int32) (a : Nat → Nat → Int32) (w : Nat → Nat → Int64) (fv fp : Nat → Nat → Int32)  (p1 : Int32) (h1 : 0 ≤ p1.toInt) (h2 : p1.toInt ≤ 7) (iv21_0 : 0 ≤ (v 21).toInt) (iv21_1 : (v 21).toInt ≤ 50) (ia37_0 : AB 0 7 (a 37)) : Met l yX0_make (Cond.code yX0_make cX0_make 2 (some .int) :: gw) ({ frames := 0, cells := 0, slots := 0, locals := 0 }) (va_Pc [.ref (ad 9), .int p1] (XPre D (TY cs) (CW cs ad fa fq rv v a w fv fp) A)) (va_Qi (fun (r : Int32) (z : Int32 × (Nat → Int32)) => (((v 21).toInt < 50 ∧ r.toInt = (v 21).toInt ∧ z.1.toInt = (v 21).toInt + 1) ∨ ((v 21).toInt = 50 ∧ r.toInt = -3 ∧ z.1.toInt = (v 21).toInt)) ∧ (((v 21).toInt < 50 ∧ z.2 = upd (a 37) (v 21).toNatClampNeg p1) ∨ ((v 21).toInt = 50 ∧ z.2 = (a 37))) ∧ (0 ≤ z.1.toInt) ∧ (z.1.toInt ≤ 50) ∧ (AB 0 7 z.2)) (XPo D (fun (z : Int32 × (Nat → Int32)) => CW cs ad fa fq rv (va_up v 21 z.1) (va_up a 37 z.2) w fv fp) A) A) 0 0 A := by
  refine Met.ofW (cc := cX0_make) (maxL := 2) (ret := (some .int)) (by decide) rfl ?_
  intro p e s m args below meth c s₁ B hml hv
  obtain ⟨rfl, hP, hK, hD, hZ⟩ := hv
  have hx := B.exec
  have hb := B.bytes
  have hr := B.returns
  have hts := atoms_spec (ws := (Cond.code yX0_make cX0_make 2 (some .int) :: gw)) B.pre
  have hg : ∀ w ∈ gw, w.before ([.ref (ad 9), .int p1] : List Value).toArray s = true := fun w h => hts w (List.mem_cons_of_mem _ h)
  have hown : s.vm.findClass RX0 = some m.cls := findClass_of_methodNamed B.named
  have hlocks := B.notSynchronized
  have hS : va_S A s.heap s.heap [] := va_S.rf
  have hP : va_P D vwCl (CW cs ad fa fq rv v a w fv fp) s.heap := hP
  have hl := lv_entry ([.ref (ad 9), .int p1]) (n := 2) (Nat.le_of_ble_eq_true rfl)
  rw [lg_entry_eq]
  generalize (lg_sl ([.ref (ad 9), .int p1]) ++ List.replicate (2 - (lg_sl ([.ref (ad 9), .int p1])).length) Slot.unset).toArray = ls at hl ⊢
  have hl : lv_has ls 2 [(0, .ref (ad 9)), (1, .int p1)] := hl
  refine lv_aload_n hx hb dX0_make_0 rfl (lv_at hl 0 rfl) ?_
  refine gf_acts_made hx hb hg hown hK hP (x := (v 21)) rfl (hg _ q1_84) dX0_make_1 ?_
  refine lv_bipush (v := 50) hx hb dX0_make_4 (by decide) ?_
  refine lv_icmp_lt (tgt := 12) hx hb dX0_make_6 (by decide) (fun c_1 => ?_) (fun c_1 => ?_)
  ·
    have kc_1 : (v 21).toInt < (50 : Int) := i_lt c_1
    refine lv_aload_n hx hb dX0_make_12 rfl (lv_at hl 0 rfl) ?_
    refine gf_acts_kind hx hb hg hown hK hP rfl (hg _ q1_83) dX0_make_13 ?_
    refine lv_aload_n hx hb dX0_make_16 rfl (lv_at hl 0 rfl) ?_
    refine gf_acts_made hx hb hg hown hK hP (x := (v 21)) rfl (hg _ q1_84) dX0_make_17 ?_
    refine lv_iload_n hx hb dX0_make_20 rfl (lv_at hl 1 rfl) ?_
    refine st_Akind hx hb hK hP hD hS (i_in (by omega) (by omega)) dX0_make_21 (fun H locs hP hD hS => ?_)
    have hab_2 : AB 0 7 (upd (a 37) (v 21).toNatClampNeg p1) := AB_upd ia37_0 (by omega) (by omega)
    refine lv_aload_n hx hb dX0_make_22 rfl (lv_at hl 0 rfl) ?_
    refine lv_dup hx hb dX0_make_23 rfl ?_
    refine gf_acts_made hx hb hg hown hK hP (x := (v 21)) rfl (hg _ q1_84) dX0_make_24 ?_
    refine lv_iconst (v := 1) hx hb dX0_make_27 (by decide) ?_
    refine lv_iadd hx hb dX0_make_28 ?_
    refine lv_topi (fun x_3 ex_3 => ?_)
    have fx_3 : x_3.toInt = (v 21).toInt + (1 : Int) := by rw [ex_3]; exact i_add (by first | omega | (show (_ : Int) ≤ (v 21).toInt + (1 : Int); omega)) (by first | omega | (show (v 21).toInt + (1 : Int) ≤ (_ : Int); omega))
    refine pf_acts_made hx hb hg hown hK hP hD hS (hg _ q1_84) dX0_make_29 (fun H locs hP hD hS => ?_)
    refine lv_aload_n hx hb dX0_make_32 rfl (lv_at hl 0 rfl) ?_
    refine gf_acts_made hx hb hg hown hK hP (x := x_3) rfl (hg _ q1_84) dX0_make_33 ?_
    refine lv_iconst (v := 1) hx hb dX0_make_36 (by decide) ?_
    refine lv_isub hx hb dX0_make_37 ?_
    refine lv_topi (fun x_4 ex_4 => ?_)
    have fx_4 : x_4.toInt = x_3.toInt - (1 : Int) := by rw [ex_4]; exact i_sub (by first | omega | (show (_ : Int) ≤ x_3.toInt - (1 : Int); omega)) (by first | omega | (show x_3.toInt - (1 : Int) ≤ (_ : Int); omega))
    exact W.iret (v := x_4) hx hb hr (fun tt ht hW => ⟨⟨x_4, ⟨x_3, (upd (a 37) (v 21).toNatClampNeg p1)⟩, rfl, ⟨(by first | rfl | omega | trivial | assumption | (dsimp only; first | omega | assumption)), (by (try dsimp only); first | exact Or.inl ⟨by omega, by first | rfl | assumption⟩ | exact Or.inr ⟨by omega, by first | rfl | assumption⟩ | (exfalso; omega) | (rcases hx_1 with ⟨q1, q2⟩ | ⟨q1, q2⟩ <;> first | exact Or.inl ⟨by omega, q2⟩ | exact Or.inr ⟨by omega, q2⟩)), (show 0 ≤ x_3.toInt by first | omega | assumption), (show x_3.toInt ≤ 50 by first | omega | assumption), hab_2⟩, by rw [ht]; exact hP, hD⟩, hS.F ht⟩) hS.2.2 dX0_make_38
  ·
    have kc_1 : (50 : Int) ≤ (v 21).toInt := i_nlt c_1
    refine lv_bipush (v := (-3)) hx hb dX0_make_9 (by decide) ?_
    have q0_m3 : ((-3) : Int32).toInt = (-3) := rfl
    have hP : va_P D vwCl (CW cs ad fa fq rv (va_up v 21 (v 21)) (va_up a 37 (a 37)) w fv fp) _ := hP
    have hD : va_D A (CW cs ad fa fq rv (va_up v 21 (v 21)) (va_up a 37 (a 37)) w fv fp) := hD
    exact W.iret (v := (-3)) hx hb hr (fun tt ht hW => ⟨⟨(-3), ⟨(v 21), (a 37)⟩, rfl, ⟨(by first | rfl | omega | trivial | assumption | (dsimp only; first | omega | assumption)), (by (try dsimp only); first | exact Or.inl ⟨by omega, by first | rfl | assumption⟩ | exact Or.inr ⟨by omega, by first | rfl | assumption⟩ | (exfalso; omega) | (rcases hx_1 with ⟨q1, q2⟩ | ⟨q1, q2⟩ <;> first | exact Or.inl ⟨by omega, q2⟩ | exact Or.inr ⟨by omega, q2⟩)), (show 0 ≤ (v 21).toInt by first | omega | assumption), (show (v 21).toInt ≤ 50 by first | omega | assumption), ia37_0⟩, by rw [ht]; exact hP, hD⟩, hS.F ht⟩) hS.2.2 dX0_make_11
