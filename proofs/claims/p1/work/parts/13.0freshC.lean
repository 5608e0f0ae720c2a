def FrC (v : Nat → Int32) (a fv : Nat → Nat → Int32) : Prop := v 0 = -1 ∧ v 1 = 0 ∧ v 2 = 8 ∧ v 3 = 4 ∧ v 4 = 0 ∧ v 5 = 0 ∧ v 19 = 0 ∧ v 20 = 0 ∧ v 21 = 0 ∧ v 22 = 0 ∧ (∀ j, j < 6 → a 28 j = -1) ∧ fv 14 0 = 8 ∧ fv 14 1 = 0 ∧ fv 14 2 = -2 ∧ fv 14 3 = 0 ∧ fv 14 4 = 0 ∧ fv 14 5 = 0 ∧ fv 14 6 = 0 ∧ fv 14 7 = 0
set_option maxHeartbeats 4000000 in
set_option maxRecDepth 100000 in
theorem k_F_X9_has (l : Launch) (D : va_G) (cs : Nat → ClassId) (A : Nat → Prop) (ad fa fq rv : Nat → Nat) (v : Nat → Int32) (a : Nat → Nat → Int32) (w : Nat → Nat → Int64) (fv fp : Nat → Nat → Int32)  (p1 : Int32) (hF : FrC v a fv) : Met l yX9_has (Cond.code yX9_has cX9_has 2 (some .boolean) :: gw) ({ frames := 0, cells := 0, slots := 0, locals := 0 }) (va_Pc [.ref (ad 1), .int p1] (XPre D (TY cs) (CW cs ad fa fq rv v a w fv fp) A)) (vp_Si (fun (r : Int32) => r.toInt = 0)) 0 0 (fun _ => False) := by
  refine Met.ofW (cc := cX9_has) (maxL := 2) (ret := (some .boolean)) (by decide) rfl ?_
  intro p e s m args below meth c s₁ B hml hv
  obtain ⟨rfl, hP, hK, hD, hZ⟩ := hv
  have hx := B.exec
  have hb := B.bytes
  have hr := B.returns
  have hts := atoms_spec (ws := (Cond.code yX9_has cX9_has 2 (some .boolean) :: gw)) B.pre
  have hg : ∀ w ∈ gw, w.before ([.ref (ad 1), .int p1] : List Value).toArray s = true := fun w h => hts w (List.mem_cons_of_mem _ h)
  have hown : s.vm.findClass RX9 = some m.cls := findClass_of_methodNamed B.named
  have hlocks := B.notSynchronized
  have hS : va_S A s.heap s.heap [] := va_S.rf
  have hv1 : (v 1).toInt = 0 := by rw [hF.2.1]; rfl
  have hv21 : (v 21).toInt = 0 := by rw [hF.2.2.2.2.2.2.2.2.1]; rfl
  have hl := lv_entry ([.ref (ad 1), .int p1]) (n := 2) (Nat.le_of_ble_eq_true rfl)
  rw [lg_entry_eq]
  generalize (lg_sl ([.ref (ad 1), .int p1]) ++ List.replicate (2 - (lg_sl ([.ref (ad 1), .int p1])).length) Slot.unset).toArray = ls at hl ⊢
  have hl : lv_has ls 2 [(0, .ref (ad 1)), (1, .int p1)] := hl
  refine lv_iload_n hx hb dX9_has_0 rfl (lv_at hl 1 rfl) ?_
  refine lv_if_lt (tgt := 16) hx hb dX9_has_1 (by decide) (fun c_1 => ?_) (fun c_1 => ?_)
  ·
    have kc_1 : p1.toInt < (0 : Int) := i_lt c_1
    refine lv_iconst (v := 0) hx hb dX9_has_16 (by decide) ?_
    have q0_0 : (0 : Int32).toInt = 0 := rfl
    exact W.zret (v := 0) hx hb hr rfl (fun tt ht hW => ⟨0, rfl, (by first | rfl | omega | trivial | assumption), ht⟩) (fun _ h => by cases h) dX9_has_17
  ·
    have kc_1 : (0 : Int) ≤ p1.toInt := i_nlt c_1
    refine lv_iload_n hx hb dX9_has_4 rfl (lv_at hl 1 rfl) ?_
    refine lv_aload_n hx hb dX9_has_5 rfl (lv_at hl 0 rfl) ?_
    refine gf_parish_people hx hb hg hown hK hP (x := 0) hF.2.1 (hg _ q1_108) dX9_has_6 ?_
    refine lv_icmp_ge (tgt := 16) hx hb dX9_has_9 (by decide) (fun c_2 => ?_) (fun c_2 => ?_)
    ·
      have kc_2 : (0 : Int) ≤ p1.toInt := i_le c_2
      refine lv_iconst (v := 0) hx hb dX9_has_16 (by decide) ?_
      have q0_0 : (0 : Int32).toInt = 0 := rfl
      exact W.zret (v := 0) hx hb hr rfl (fun tt ht hW => ⟨0, rfl, (by first | rfl | omega | trivial | assumption), ht⟩) (fun _ h => by cases h) dX9_has_17
    ·
      have kc_2 : p1.toInt < (0 : Int) := i_nle c_2
      exfalso; omega
set_option maxHeartbeats 4000000 in
set_option maxRecDepth 100000 in
theorem k_F_X10_isEmpty (l : Launch) (D : va_G) (cs : Nat → ClassId) (A : Nat → Prop) (ad fa fq rv : Nat → Nat) (v : Nat → Int32) (a : Nat → Nat → Int32) (w : Nat → Nat → Int64) (fv fp : Nat → Nat → Int32)  (p1 : Int32) (hF : FrC v a fv) (h1 : 0 ≤ p1.toInt) (h2 : p1.toInt < 6) : Met l yX10_isEmpty (Cond.code yX10_isEmpty cX10_isEmpty 2 (some .boolean) :: gw) ({ frames := 0, cells := 0, slots := 0, locals := 0 }) (va_Pc [.ref (ad 8), .int p1] (XPre D (TY cs) (CW cs ad fa fq rv v a w fv fp) A)) (vp_Si (fun (r : Int32) => r.toInt = 1)) 0 0 (fun _ => False) := by
  refine Met.ofW (cc := cX10_isEmpty) (maxL := 2) (ret := (some .boolean)) (by decide) rfl ?_
  intro p e s m args below meth c s₁ B hml hv
  obtain ⟨rfl, hP, hK, hD, hZ⟩ := hv
  have hx := B.exec
  have hb := B.bytes
  have hr := B.returns
  have hts := atoms_spec (ws := (Cond.code yX10_isEmpty cX10_isEmpty 2 (some .boolean) :: gw)) B.pre
  have hg : ∀ w ∈ gw, w.before ([.ref (ad 8), .int p1] : List Value).toArray s = true := fun w h => hts w (List.mem_cons_of_mem _ h)
  have hown : s.vm.findClass RX10 = some m.cls := findClass_of_methodNamed B.named
  have hlocks := B.notSynchronized
  have hS : va_S A s.heap s.heap [] := va_S.rf
  have hv1 : (v 1).toInt = 0 := by rw [hF.2.1]; rfl
  have hv21 : (v 21).toInt = 0 := by rw [hF.2.2.2.2.2.2.2.2.1]; rfl
  have hl := lv_entry ([.ref (ad 8), .int p1]) (n := 2) (Nat.le_of_ble_eq_true rfl)
  rw [lg_entry_eq]
  generalize (lg_sl ([.ref (ad 8), .int p1]) ++ List.replicate (2 - (lg_sl ([.ref (ad 8), .int p1])).length) Slot.unset).toArray = ls at hl ⊢
  have hl : lv_has ls 2 [(0, .ref (ad 8)), (1, .int p1)] := hl
  refine lv_aload_n hx hb dX10_isEmpty_0 rfl (lv_at hl 0 rfl) ?_
  refine gf_shelves_sort hx hb hg hown hK hP rfl (hg _ q1_66) dX10_isEmpty_1 ?_
  refine lv_iload_n hx hb dX10_isEmpty_4 rfl (lv_at hl 1 rfl) ?_
  refine ld_Ssort hx hb hK hP (i_in (by omega) (by omega)) dX10_isEmpty_5 ?_
  refine lv_topi (fun x_1 ex_1 => ?_)
  have ex_1 : x_1 = (a 28) p1.toNatClampNeg := ex_1
  have hx_1 : x_1.toInt = ((a 28) p1.toNatClampNeg).toInt := by rw [ex_1]
  have fx_1 : x_1 = (-1) := by rw [ex_1]; exact hF.2.2.2.2.2.2.2.2.2.2.1 _ (by show (p1).toInt.toNat < 6; omega)
  subst fx_1
  refine lv_iconst (v := (-1)) hx hb dX10_isEmpty_6 (by decide) ?_
  refine lv_icmp_ne (tgt := 14) hx hb dX10_isEmpty_7 (by decide) (fun c_2 => absurd c_2 (by decide)) (fun c_2 => ?_)
  refine lv_iconst (v := 1) hx hb dX10_isEmpty_10 (by decide) ?_
  refine lv_goto (tgt := 15) hx hb dX10_isEmpty_11 (by decide) ?_
  have q0_1 : (1 : Int32).toInt = 1 := rfl
  exact W.zret (v := 1) hx hb hr rfl (fun tt ht hW => ⟨1, rfl, (by first | rfl | omega | trivial | assumption), ht⟩) (fun _ h => by cases h) dX10_isEmpty_15
set_option maxHeartbeats 4000000 in
set_option maxRecDepth 100000 in
theorem k_F_X10_faultOfBytes (l : Launch) (D : va_G) (cs : Nat → ClassId) (A : Nat → Prop) (ad fa fq rv : Nat → Nat) (v : Nat → Int32) (a : Nat → Nat → Int32) (w : Nat → Nat → Int64) (fv fp : Nat → Nat → Int32)  (p1 : Int32) (p2 : Int32) (hF : FrC v a fv) (h1 : 0 ≤ p1.toInt) (h2 : p1.toInt < 6) : Met l yX10_faultOfBytes (Cond.code yX10_faultOfBytes cX10_faultOfBytes 3 (some .int) :: gw) ({ frames := 1, cells := 0, slots := 0, locals := 21 }) (va_Pc [.ref (ad 8), .int p1, .int p2] (XPre D (TY cs) (CW cs ad fa fq rv v a w fv fp) A)) (vp_Si (fun (r : Int32) => r.toInt = -11)) 0 0 (fun _ => False) := by
  refine Met.ofW (cc := cX10_faultOfBytes) (maxL := 3) (ret := (some .int)) (by decide) rfl ?_
  intro p e s m args below meth c s₁ B hml hv
  obtain ⟨rfl, hP, hK, hD, hZ⟩ := hv
  have hx := B.exec
  have hb := B.bytes
  have hr := B.returns
  have hts := atoms_spec (ws := (Cond.code yX10_faultOfBytes cX10_faultOfBytes 3 (some .int) :: gw)) B.pre
  have hg : ∀ w ∈ gw, w.before ([.ref (ad 8), .int p1, .int p2] : List Value).toArray s = true := fun w h => hts w (List.mem_cons_of_mem _ h)
  have hown : s.vm.findClass RX10 = some m.cls := findClass_of_methodNamed B.named
  have hlocks := B.notSynchronized
  have hS : va_S A s.heap s.heap [] := va_S.rf
  have hv1 : (v 1).toInt = 0 := by rw [hF.2.1]; rfl
  have hv21 : (v 21).toInt = 0 := by rw [hF.2.2.2.2.2.2.2.2.1]; rfl
  have hl := lv_entry ([.ref (ad 8), .int p1, .int p2]) (n := 3) (Nat.le_of_ble_eq_true rfl)
  rw [lg_entry_eq]
  generalize (lg_sl ([.ref (ad 8), .int p1, .int p2]) ++ List.replicate (3 - (lg_sl ([.ref (ad 8), .int p1, .int p2])).length) Slot.unset).toArray = ls at hl ⊢
  have hl : lv_has ls 3 [(0, .ref (ad 8)), (1, .int p1), (2, .int p2)] := hl
  refine lv_aload_n hx hb dX10_faultOfBytes_0 rfl (lv_at hl 0 rfl) ?_
  refine lv_iload_n hx hb dX10_faultOfBytes_1 rfl (lv_at hl 1 rfl) ?_
  refine cV_ro (As := [.int p1]) (rest := []) ⟨hx, hb, hml, hown, hg⟩ (k_F_X10_isEmpty l D cs A ad fa fq rv v a w fv fp  p1 hF (show 0 ≤ p1.toInt by first | omega | decide) (show p1.toInt < 6 by first | omega | decide)) ca_X10_isEmpty q3_155 ⟨rfl, rfl⟩ ⟨Nat.le_of_ble_eq_true rfl, Nat.le_of_ble_eq_true rfl⟩ (rc_shelves hK hP) hK hP hD hS hZ rfl hl.1 rfl (Nat.le_of_ble_eq_true rfl) ⟨Nat.zero_le _, Nat.zero_le _⟩ dX10_faultOfBytes_2 (fun r_1 wr_1 => ?_)
  have wr_1 : r_1.toInt = 1 := wr_1
  refine lv_if_ne (tgt := 16) hx hb dX10_faultOfBytes_5 (by decide) (fun c_2 => ?_) (fun c_2 => ?_)
  ·
    have kc_2 : r_1.toInt ≠ (0 : Int) := i_ne c_2
    refine lv_bipush (v := (-11)) hx hb dX10_faultOfBytes_16 (by decide) ?_
    have q0_m11 : ((-11) : Int32).toInt = (-11) := rfl
    exact W.iret (v := (-11)) hx hb hr (fun tt ht hW => ⟨(-11), rfl, (by first | rfl | omega | trivial | assumption), ht⟩) (fun _ h => by cases h) dX10_faultOfBytes_18
  ·
    have kc_2 : r_1.toInt = (0 : Int) := i_eq c_2
    exfalso; omega
set_option maxHeartbeats 4000000 in
set_option maxRecDepth 100000 in
theorem k_F_X10_faultOfPlace (l : Launch) (D : va_G) (cs : Nat → ClassId) (A : Nat → Prop) (ad fa fq rv : Nat → Nat) (v : Nat → Int32) (a : Nat → Nat → Int32) (w : Nat → Nat → Int64) (fv fp : Nat → Nat → Int32)  (p1 : Int32) (p2 : Int32) (hF : FrC v a fv) : Met l yX10_faultOfPlace (Cond.code yX10_faultOfPlace cX10_faultOfPlace 3 (some .int) :: gw) ({ frames := 1, cells := 0, slots := 0, locals := 21 }) (va_Pc [.ref (ad 8), .int p1, .int p2] (XPre D (TY cs) (CW cs ad fa fq rv v a w fv fp) A)) (vp_Si (fun (r : Int32) => ((0 ≤ p1.toInt ∧ p1.toInt < 6) ∧ r.toInt = -11) ∨ (¬ (0 ≤ p1.toInt ∧ p1.toInt < 6) ∧ r.toInt = -1))) 0 0 (fun _ => False) := by
  refine Met.ofW (cc := cX10_faultOfPlace) (maxL := 3) (ret := (some .int)) (by decide) rfl ?_
  intro p e s m args below meth c s₁ B hml hv
  obtain ⟨rfl, hP, hK, hD, hZ⟩ := hv
  have hx := B.exec
  have hb := B.bytes
  have hr := B.returns
  have hts := atoms_spec (ws := (Cond.code yX10_faultOfPlace cX10_faultOfPlace 3 (some .int) :: gw)) B.pre
  have hg : ∀ w ∈ gw, w.before ([.ref (ad 8), .int p1, .int p2] : List Value).toArray s = true := fun w h => hts w (List.mem_cons_of_mem _ h)
  have hown : s.vm.findClass RX10 = some m.cls := findClass_of_methodNamed B.named
  have hlocks := B.notSynchronized
  have hS : va_S A s.heap s.heap [] := va_S.rf
  have hv1 : (v 1).toInt = 0 := by rw [hF.2.1]; rfl
  have hv21 : (v 21).toInt = 0 := by rw [hF.2.2.2.2.2.2.2.2.1]; rfl
  have hl := lv_entry ([.ref (ad 8), .int p1, .int p2]) (n := 3) (Nat.le_of_ble_eq_true rfl)
  rw [lg_entry_eq]
  generalize (lg_sl ([.ref (ad 8), .int p1, .int p2]) ++ List.replicate (3 - (lg_sl ([.ref (ad 8), .int p1, .int p2])).length) Slot.unset).toArray = ls at hl ⊢
  have hl : lv_has ls 3 [(0, .ref (ad 8)), (1, .int p1), (2, .int p2)] := hl
  refine lv_iload_n hx hb dX10_faultOfPlace_0 rfl (lv_at hl 1 rfl) ?_
  refine cS_p (As := [.int p1]) (rest := []) ⟨hx, hb, hml, hown, hg⟩ (k_X10_isShelf l   p1 ) ca_X10_isShelf q4_186 ⟨rfl, rfl⟩ ⟨Nat.le_of_ble_eq_true rfl, Nat.le_of_ble_eq_true rfl⟩ rfl hl.1 rfl (Nat.le_of_ble_eq_true rfl) ⟨Nat.zero_le _, Nat.zero_le _⟩ dX10_faultOfPlace_1 (fun r_1 wr_1 => ?_)
  have wr_1 : (r_1.toInt = 1 ∧ 0 ≤ p1.toInt ∧ p1.toInt < 6) ∨ (r_1.toInt = 0 ∧ ¬ (0 ≤ p1.toInt ∧ p1.toInt < 6)) := wr_1
  refine lv_if_ne (tgt := 9) hx hb dX10_faultOfPlace_4 (by decide) (fun c_2 => ?_) (fun c_2 => ?_)
  ·
    have kc_2 : r_1.toInt ≠ (0 : Int) := i_ne c_2
    refine lv_aload_n hx hb dX10_faultOfPlace_9 rfl (lv_at hl 0 rfl) ?_
    refine lv_iload_n hx hb dX10_faultOfPlace_10 rfl (lv_at hl 1 rfl) ?_
    refine cV_ro (As := [.int p1]) (rest := []) ⟨hx, hb, hml, hown, hg⟩ (k_F_X10_isEmpty l D cs A ad fa fq rv v a w fv fp  p1 hF (show 0 ≤ p1.toInt by first | omega | decide) (show p1.toInt < 6 by first | omega | decide)) ca_X10_isEmpty q3_155 ⟨rfl, rfl⟩ ⟨Nat.le_of_ble_eq_true rfl, Nat.le_of_ble_eq_true rfl⟩ (rc_shelves hK hP) hK hP hD hS hZ rfl hl.1 rfl (Nat.le_of_ble_eq_true rfl) ⟨Nat.zero_le _, Nat.zero_le _⟩ dX10_faultOfPlace_11 (fun r_3 wr_3 => ?_)
    have wr_3 : r_3.toInt = 1 := wr_3
    refine lv_if_eq (tgt := 20) hx hb dX10_faultOfPlace_14 (by decide) (fun c_4 => ?_) (fun c_4 => ?_)
    ·
      have kc_4 : r_3.toInt = (0 : Int) := i_eq c_4
      exfalso; omega
    ·
      have kc_4 : r_3.toInt ≠ (0 : Int) := i_ne c_4
      refine lv_bipush (v := (-11)) hx hb dX10_faultOfPlace_17 (by decide) ?_
      have q0_m11 : ((-11) : Int32).toInt = (-11) := rfl
      exact W.iret (v := (-11)) hx hb hr (fun tt ht hW => ⟨(-11), rfl, (by first | rfl | omega | trivial | assumption), ht⟩) (fun _ h => by cases h) dX10_faultOfPlace_19
  ·
    have kc_2 : r_1.toInt = (0 : Int) := i_eq c_2
    refine lv_iconst (v := (-1)) hx hb dX10_faultOfPlace_7 (by decide) ?_
    have q0_m1 : ((-1) : Int32).toInt = (-1) := rfl
    exact W.iret (v := (-1)) hx hb hr (fun tt ht hW => ⟨(-1), rfl, (by first | rfl | omega | trivial | assumption), ht⟩) (fun _ h => by cases h) dX10_faultOfPlace_8
set_option maxHeartbeats 4000000 in
set_option maxRecDepth 100000 in
theorem k_F_X10_copy (l : Launch) (D : va_G) (cs : Nat → ClassId) (A : Nat → Prop) (ad fa fq rv : Nat → Nat) (v : Nat → Int32) (a : Nat → Nat → Int32) (w : Nat → Nat → Int64) (fv fp : Nat → Nat → Int32)  (p1 : Int32) (p2 : Int32) (p3 : Int32) (p4 : Int32) (p5 : Int32) (hF : FrC v a fv) (h1 : 0 ≤ p1.toInt) (h2 : p1.toInt < 6) : Met l yX10_copy (Cond.code yX10_copy cX10_copy 6 (some .int) :: gw) ({ frames := 1, cells := 0, slots := 0, locals := 21 }) (va_Pc [.ref (ad 8), .int p1, .int p2, .int p3, .int p4, .int p5] (XPre D (TY cs) (CW cs ad fa fq rv v a w fv fp) A)) (vp_Si (fun (r : Int32) => r.toInt = -11)) 0 0 (fun _ => False) := by
  refine Met.ofW (cc := cX10_copy) (maxL := 6) (ret := (some .int)) (by decide) rfl ?_
  intro p e s m args below meth c s₁ B hml hv
  obtain ⟨rfl, hP, hK, hD, hZ⟩ := hv
  have hx := B.exec
  have hb := B.bytes
  have hr := B.returns
  have hts := atoms_spec (ws := (Cond.code yX10_copy cX10_copy 6 (some .int) :: gw)) B.pre
  have hg : ∀ w ∈ gw, w.before ([.ref (ad 8), .int p1, .int p2, .int p3, .int p4, .int p5] : List Value).toArray s = true := fun w h => hts w (List.mem_cons_of_mem _ h)
  have hown : s.vm.findClass RX10 = some m.cls := findClass_of_methodNamed B.named
  have hlocks := B.notSynchronized
  have hS : va_S A s.heap s.heap [] := va_S.rf
  have hv1 : (v 1).toInt = 0 := by rw [hF.2.1]; rfl
  have hv21 : (v 21).toInt = 0 := by rw [hF.2.2.2.2.2.2.2.2.1]; rfl
  have hl := lv_entry ([.ref (ad 8), .int p1, .int p2, .int p3, .int p4, .int p5]) (n := 6) (Nat.le_of_ble_eq_true rfl)
  rw [lg_entry_eq]
  generalize (lg_sl ([.ref (ad 8), .int p1, .int p2, .int p3, .int p4, .int p5]) ++ List.replicate (6 - (lg_sl ([.ref (ad 8), .int p1, .int p2, .int p3, .int p4, .int p5])).length) Slot.unset).toArray = ls at hl ⊢
  have hl : lv_has ls 6 [(0, .ref (ad 8)), (1, .int p1), (2, .int p2), (3, .int p3), (4, .int p4), (5, .int p5)] := hl
  refine lv_aload_n hx hb dX10_copy_0 rfl (lv_at hl 0 rfl) ?_
  refine lv_iload_n hx hb dX10_copy_1 rfl (lv_at hl 1 rfl) ?_
  refine cV_ro (As := [.int p1]) (rest := []) ⟨hx, hb, hml, hown, hg⟩ (k_F_X10_isEmpty l D cs A ad fa fq rv v a w fv fp  p1 hF (show 0 ≤ p1.toInt by first | omega | decide) (show p1.toInt < 6 by first | omega | decide)) ca_X10_isEmpty q3_155 ⟨rfl, rfl⟩ ⟨Nat.le_of_ble_eq_true rfl, Nat.le_of_ble_eq_true rfl⟩ (rc_shelves hK hP) hK hP hD hS hZ rfl hl.1 rfl (Nat.le_of_ble_eq_true rfl) ⟨Nat.zero_le _, Nat.zero_le _⟩ dX10_copy_2 (fun r_1 wr_1 => ?_)
  have wr_1 : r_1.toInt = 1 := wr_1
  refine lv_if_ne (tgt := 16) hx hb dX10_copy_5 (by decide) (fun c_2 => ?_) (fun c_2 => ?_)
  ·
    have kc_2 : r_1.toInt ≠ (0 : Int) := i_ne c_2
    refine lv_bipush (v := (-11)) hx hb dX10_copy_16 (by decide) ?_
    have q0_m11 : ((-11) : Int32).toInt = (-11) := rfl
    exact W.iret (v := (-11)) hx hb hr (fun tt ht hW => ⟨(-11), rfl, (by first | rfl | omega | trivial | assumption), ht⟩) (fun _ h => by cases h) dX10_copy_18
  ·
    have kc_2 : r_1.toInt = (0 : Int) := i_eq c_2
    exfalso; omega
set_option maxHeartbeats 4000000 in
set_option maxRecDepth 100000 in
theorem k_F_X11_openDay (l : Launch) (D : va_G) (cs : Nat → ClassId) (A : Nat → Prop) (ad fa fq rv : Nat → Nat) (v : Nat → Int32) (a : Nat → Nat → Int32) (w : Nat → Nat → Int64) (fv fp : Nat → Nat → Int32)  (p1 : Int32) (hF : FrC v a fv) (h1 : 0 ≤ p1.toInt) (h2 : p1.toInt < 6) : Met l yX11_openDay (Cond.code yX11_openDay cX11_openDay 3 (some .int) :: gw) ({ frames := 2, cells := 0, slots := 0, locals := 43 }) (va_Pc [.ref (ad 0), .int p1] (XPre D (TY cs) (CW cs ad fa fq rv v a w fv fp) A)) (vp_Si (fun (r : Int32) => r.toInt = -11)) 0 0 (fun _ => False) := by
  refine Met.ofW (cc := cX11_openDay) (maxL := 3) (ret := (some .int)) (by decide) rfl ?_
  intro p e s m args below meth c s₁ B hml hv
  obtain ⟨rfl, hP, hK, hD, hZ⟩ := hv
  have hx := B.exec
  have hb := B.bytes
  have hr := B.returns
  have hts := atoms_spec (ws := (Cond.code yX11_openDay cX11_openDay 3 (some .int) :: gw)) B.pre
  have hg : ∀ w ∈ gw, w.before ([.ref (ad 0), .int p1] : List Value).toArray s = true := fun w h => hts w (List.mem_cons_of_mem _ h)
  have hown : s.vm.findClass RX11 = some m.cls := findClass_of_methodNamed B.named
  have hlocks := B.notSynchronized
  have hS : va_S A s.heap s.heap [] := va_S.rf
  have hv1 : (v 1).toInt = 0 := by rw [hF.2.1]; rfl
  have hv21 : (v 21).toInt = 0 := by rw [hF.2.2.2.2.2.2.2.2.1]; rfl
  have hl := lv_entry ([.ref (ad 0), .int p1]) (n := 3) (Nat.le_of_ble_eq_true rfl)
  rw [lg_entry_eq]
  generalize (lg_sl ([.ref (ad 0), .int p1]) ++ List.replicate (3 - (lg_sl ([.ref (ad 0), .int p1])).length) Slot.unset).toArray = ls at hl ⊢
  have hl : lv_has ls 3 [(0, .ref (ad 0)), (1, .int p1)] := hl
  refine lv_aload_n hx hb dX11_openDay_0 rfl (lv_at hl 0 rfl) ?_
  refine gf_main_shelves hx hb hg hown hK hP rfl (hg _ q2_133) dX11_openDay_1 ?_
  refine lv_iload_n hx hb dX11_openDay_4 rfl (lv_at hl 1 rfl) ?_
  refine lv_iload_n hx hb dX11_openDay_5 rfl (lv_at hl 1 rfl) ?_
  refine cV_ro (As := [.int p1, .int p1]) (rest := []) ⟨hx, hb, hml, hown, hg⟩ (k_F_X10_faultOfBytes l D cs A ad fa fq rv v a w fv fp  p1 p1 hF (show 0 ≤ p1.toInt by first | omega | decide) (show p1.toInt < 6 by first | omega | decide)) ca_X10_faultOfBytes q3_151 ⟨rfl, rfl⟩ ⟨Nat.le_of_ble_eq_true rfl, Nat.le_of_ble_eq_true rfl⟩ (rc_shelves hK hP) hK hP hD hS hZ rfl hl.1 rfl (Nat.le_of_ble_eq_true rfl) ⟨Nat.zero_le _, Nat.zero_le _⟩ dX11_openDay_6 (fun r_1 wr_1 => ?_)
  have wr_1 : r_1.toInt = -11 := wr_1
  refine lv_istore_n (lv' := [(2, .int r_1), (0, .ref (ad 0)), (1, .int p1)]) hx hb dX11_openDay_9 rfl hl (by decide) rfl (fun ls hl => ?_)
  refine lv_iload_n hx hb dX11_openDay_10 rfl (lv_at hl 0 rfl) ?_
  refine lv_if_ne (tgt := 33) hx hb dX11_openDay_11 (by decide) (fun c_2 => ?_) (fun c_2 => ?_)
  ·
    have kc_2 : r_1.toInt ≠ (0 : Int) := i_ne c_2
    refine lv_iload_n hx hb dX11_openDay_33 rfl (lv_at hl 0 rfl) ?_
    exact W.iret (v := r_1) hx hb hr (fun tt ht hW => ⟨r_1, rfl, (by first | rfl | omega | trivial | assumption), ht⟩) (fun _ h => by cases h) dX11_openDay_34
  ·
    have kc_2 : r_1.toInt = (0 : Int) := i_eq c_2
    exfalso; omega
set_option maxHeartbeats 4000000 in
set_option maxRecDepth 100000 in
theorem k_F_X9_within (l : Launch) (D : va_G) (cs : Nat → ClassId) (A : Nat → Prop) (ad fa fq rv : Nat → Nat) (v : Nat → Int32) (a : Nat → Nat → Int32) (w : Nat → Nat → Int64) (fv fp : Nat → Nat → Int32)  (p1 : Int32) (hF : FrC v a fv) : Met l yX9_within (Cond.code yX9_within cX9_within 4 (some .int) :: gw) ({ frames := 0, cells := 0, slots := 0, locals := 0 }) (va_Pc [.ref (ad 1), .int p1] (XPre D (TY cs) (CW cs ad fa fq rv v a w fv fp) A)) (vp_Si (fun (r : Int32) => r.toInt = 0)) 0 0 (fun _ => False) := by
  refine Met.ofW (cc := cX9_within) (maxL := 4) (ret := (some .int)) (by decide) rfl ?_
  intro p e s m args below meth c s₁ B hml hv
  obtain ⟨rfl, hP, hK, hD, hZ⟩ := hv
  have hx := B.exec
  have hb := B.bytes
  have hr := B.returns
  have hts := atoms_spec (ws := (Cond.code yX9_within cX9_within 4 (some .int) :: gw)) B.pre
  have hg : ∀ w ∈ gw, w.before ([.ref (ad 1), .int p1] : List Value).toArray s = true := fun w h => hts w (List.mem_cons_of_mem _ h)
  have hown : s.vm.findClass RX9 = some m.cls := findClass_of_methodNamed B.named
  have hlocks := B.notSynchronized
  have hS : va_S A s.heap s.heap [] := va_S.rf
  have hv1 : (v 1).toInt = 0 := by rw [hF.2.1]; rfl
  have hv21 : (v 21).toInt = 0 := by rw [hF.2.2.2.2.2.2.2.2.1]; rfl
  have hl := lv_entry ([.ref (ad 1), .int p1]) (n := 4) (Nat.le_of_ble_eq_true rfl)
  rw [lg_entry_eq]
  generalize (lg_sl ([.ref (ad 1), .int p1]) ++ List.replicate (4 - (lg_sl ([.ref (ad 1), .int p1])).length) Slot.unset).toArray = ls at hl ⊢
  have hl : lv_has ls 4 [(0, .ref (ad 1)), (1, .int p1)] := hl
  refine lv_iconst (v := 0) hx hb dX9_within_0 (by decide) ?_
  refine lv_istore_n (lv' := [(2, .int 0), (0, .ref (ad 1)), (1, .int p1)]) hx hb dX9_within_1 rfl hl (by decide) rfl (fun ls hl => ?_)
  refine lv_iconst (v := 0) hx hb dX9_within_2 (by decide) ?_
  refine lv_istore_n (lv' := [(3, .int 0), (2, .int 0), (0, .ref (ad 1)), (1, .int p1)]) hx hb dX9_within_3 rfl hl (by decide) rfl (fun ls hl => ?_)
  refine lv_iload_n hx hb dX9_within_4 rfl (lv_at hl 0 rfl) ?_
  refine lv_aload_n hx hb dX9_within_5 rfl (lv_at hl 2 rfl) ?_
  refine gf_parish_people hx hb hg hown hK hP (x := 0) hF.2.1 (hg _ q1_108) dX9_within_6 ?_
  refine lv_icmp_ge (tgt := 41) hx hb dX9_within_9 (by decide) (fun c_1 => ?_) (fun c_1 => absurd c_1 (by decide))
  refine lv_iload_n hx hb dX9_within_41 rfl (lv_at hl 1 rfl) ?_
  have q0_0 : (0 : Int32).toInt = 0 := rfl
  exact W.iret (v := 0) hx hb hr (fun tt ht hW => ⟨0, rfl, (by first | rfl | omega | trivial | assumption), ht⟩) (fun _ h => by cases h) dX9_within_42
set_option maxHeartbeats 4000000 in
set_option maxRecDepth 100000 in
theorem k_F_X0_has (l : Launch) (D : va_G) (cs : Nat → ClassId) (A : Nat → Prop) (ad fa fq rv : Nat → Nat) (v : Nat → Int32) (a : Nat → Nat → Int32) (w : Nat → Nat → Int64) (fv fp : Nat → Nat → Int32)  (p1 : Int32) (h21 : v 21 = 0) : Met l yX0_has (Cond.code yX0_has cX0_has 2 (some .boolean) :: gw) ({ frames := 0, cells := 0, slots := 0, locals := 0 }) (va_Pc [.ref (ad 9), .int p1] (XPre D (TY cs) (CW cs ad fa fq rv v a w fv fp) A)) (vp_Si (fun (r : Int32) => r.toInt = 0)) 0 0 (fun _ => False) := by
  refine Met.ofW (cc := cX0_has) (maxL := 2) (ret := (some .boolean)) (by decide) rfl ?_
  intro p e s m args below meth c s₁ B hml hv
  obtain ⟨rfl, hP, hK, hD, hZ⟩ := hv
  have hx := B.exec
  have hb := B.bytes
  have hr := B.returns
  have hts := atoms_spec (ws := (Cond.code yX0_has cX0_has 2 (some .boolean) :: gw)) B.pre
  have hg : ∀ w ∈ gw, w.before ([.ref (ad 9), .int p1] : List Value).toArray s = true := fun w h => hts w (List.mem_cons_of_mem _ h)
  have hown : s.vm.findClass RX0 = some m.cls := findClass_of_methodNamed B.named
  have hlocks := B.notSynchronized
  have hS : va_S A s.heap s.heap [] := va_S.rf
  have hl := lv_entry ([.ref (ad 9), .int p1]) (n := 2) (Nat.le_of_ble_eq_true rfl)
  rw [lg_entry_eq]
  generalize (lg_sl ([.ref (ad 9), .int p1]) ++ List.replicate (2 - (lg_sl ([.ref (ad 9), .int p1])).length) Slot.unset).toArray = ls at hl ⊢
  have hl : lv_has ls 2 [(0, .ref (ad 9)), (1, .int p1)] := hl
  refine lv_iload_n hx hb dX0_has_0 rfl (lv_at hl 1 rfl) ?_
  refine lv_if_lt (tgt := 16) hx hb dX0_has_1 (by decide) (fun c_1 => ?_) (fun c_1 => ?_)
  ·
    have kc_1 : p1.toInt < (0 : Int) := i_lt c_1
    refine lv_iconst (v := 0) hx hb dX0_has_16 (by decide) ?_
    have q0_0 : (0 : Int32).toInt = 0 := rfl
    exact W.zret (v := 0) hx hb hr rfl (fun tt ht hW => ⟨0, rfl, (by first | rfl | omega | trivial | assumption), ht⟩) (fun _ h => by cases h) dX0_has_17
  ·
    have kc_1 : (0 : Int) ≤ p1.toInt := i_nlt c_1
    refine lv_iload_n hx hb dX0_has_4 rfl (lv_at hl 1 rfl) ?_
    refine lv_aload_n hx hb dX0_has_5 rfl (lv_at hl 0 rfl) ?_
    refine gf_acts_made hx hb hg hown hK hP (x := 0) h21 (hg _ q1_84) dX0_has_6 ?_
    refine lv_icmp_ge (tgt := 16) hx hb dX0_has_9 (by decide) (fun c_2 => ?_) (fun c_2 => ?_)
    ·
      have kc_2 : (0 : Int) ≤ p1.toInt := i_le c_2
      refine lv_iconst (v := 0) hx hb dX0_has_16 (by decide) ?_
      have q0_0 : (0 : Int32).toInt = 0 := rfl
      exact W.zret (v := 0) hx hb hr rfl (fun tt ht hW => ⟨0, rfl, (by first | rfl | omega | trivial | assumption), ht⟩) (fun _ h => by cases h) dX0_has_17
    ·
      have kc_2 : p1.toInt < (0 : Int) := i_nle c_2
      exfalso; omega
set_option maxHeartbeats 4000000 in
set_option maxRecDepth 100000 in
theorem k_F_X0_make (l : Launch) (D : va_G) (cs : Nat → ClassId) (A : Nat → Prop) (ad fa fq rv : Nat → Nat) (v : Nat → Int32) (a : Nat → Nat → Int32) (w : Nat → Nat → Int64) (fv fp : Nat → Nat → Int32)  (p1 : Int32) (hF : FrC v a fv) : Met l yX0_make (Cond.code yX0_make cX0_make 2 (some .int) :: gw) ({ frames := 0, cells := 0, slots := 0, locals := 0 }) (va_Pc [.ref (ad 9), .int p1] (XPre D (TY cs) (CW cs ad fa fq rv v a w fv fp) A)) (va_Qi (fun (r : Int32) (z : (Nat → Int32) × Int32) => r.toInt = 0) (XPo D (fun (z : (Nat → Int32) × Int32) => CW cs ad fa fq rv (va_up v 21 z.2) (va_up a 37 z.1) w fv fp) A) A) 0 0 A := by
  refine Met.ofW (cc := cX0_make) (maxL := 2) (ret := (some .int)) (by decide) rfl ?_
  intro p e s m args below meth c s₁ B hml hv
  obtain ⟨rfl, hP, hK, hD, hZ⟩ := hv
  have hx := B.exec
  have hb := B.bytes
  have hr := B.returns
  have hts := atoms_spec (ws := (Cond.code yX0_make cX0_make 2 (some .int) :: gw)) B.pre
  have hg : ∀ w ∈ gw, w.before ([.ref (ad 9), .int p1] : List Value).toArray s = true := fun w h => hts w (List.mem_cons_of_mem _ h)
  have hown : s.vm.findClass RX0 = some m.cls := findClass_of_methodNamed B.named
  have hlocks := B.notSynchronized
  have hS : va_S A s.heap s.heap [] := va_S.rf
  have hP : va_P D vwCl (CW cs ad fa fq rv v a w fv fp) s.heap := hP
  have hv1 : (v 1).toInt = 0 := by rw [hF.2.1]; rfl
  have hv21 : (v 21).toInt = 0 := by rw [hF.2.2.2.2.2.2.2.2.1]; rfl
  have hl := lv_entry ([.ref (ad 9), .int p1]) (n := 2) (Nat.le_of_ble_eq_true rfl)
  rw [lg_entry_eq]
  generalize (lg_sl ([.ref (ad 9), .int p1]) ++ List.replicate (2 - (lg_sl ([.ref (ad 9), .int p1])).length) Slot.unset).toArray = ls at hl ⊢
  have hl : lv_has ls 2 [(0, .ref (ad 9)), (1, .int p1)] := hl
  refine lv_aload_n hx hb dX0_make_0 rfl (lv_at hl 0 rfl) ?_
  refine gf_acts_made hx hb hg hown hK hP (x := 0) hF.2.2.2.2.2.2.2.2.1 (hg _ q1_84) dX0_make_1 ?_
  refine lv_bipush (v := 50) hx hb dX0_make_4 (by decide) ?_
  refine lv_icmp_lt (tgt := 12) hx hb dX0_make_6 (by decide) (fun c_1 => ?_) (fun c_1 => absurd c_1 (by decide))
  refine lv_aload_n hx hb dX0_make_12 rfl (lv_at hl 0 rfl) ?_
  refine gf_acts_kind hx hb hg hown hK hP rfl (hg _ q1_83) dX0_make_13 ?_
  refine lv_aload_n hx hb dX0_make_16 rfl (lv_at hl 0 rfl) ?_
  refine gf_acts_made hx hb hg hown hK hP (x := 0) hF.2.2.2.2.2.2.2.2.1 (hg _ q1_84) dX0_make_17 ?_
  refine lv_iload_n hx hb dX0_make_20 rfl (lv_at hl 1 rfl) ?_
  refine st_Akind hx hb hK hP hD hS (i_in (by decide) (by decide)) dX0_make_21 (fun H locs hP hD hS => ?_)
  refine lv_aload_n hx hb dX0_make_22 rfl (lv_at hl 0 rfl) ?_
  refine lv_dup hx hb dX0_make_23 rfl ?_
  refine gf_acts_made hx hb hg hown hK hP (x := 0) hF.2.2.2.2.2.2.2.2.1 (hg _ q1_84) dX0_make_24 ?_
  refine lv_iconst (v := 1) hx hb dX0_make_27 (by decide) ?_
  refine lv_iadd hx hb dX0_make_28 ?_
  refine lv_topi (fun x_2 ex_2 => ?_)
  have fx_2 : x_2 = 1 := by rw [ex_2]; rfl
  subst fx_2
  refine pf_acts_made hx hb hg hown hK hP hD hS (hg _ q1_84) dX0_make_29 (fun H locs hP hD hS => ?_)
  refine lv_aload_n hx hb dX0_make_32 rfl (lv_at hl 0 rfl) ?_
  refine gf_acts_made hx hb hg hown hK hP (x := 1) rfl (hg _ q1_84) dX0_make_33 ?_
  refine lv_iconst (v := 1) hx hb dX0_make_36 (by decide) ?_
  refine lv_isub hx hb dX0_make_37 ?_
  refine lv_topi (fun x_3 ex_3 => ?_)
  have fx_3 : x_3 = 0 := by rw [ex_3]; rfl
  subst fx_3
  have q0_0 : (0 : Int32).toInt = 0 := rfl
  have q0_1 : (1 : Int32).toInt = 1 := rfl
  exact W.iret (v := 0) hx hb hr (fun tt ht hW => ⟨⟨0, ⟨(upd (a 37) (0 : Int32).toNatClampNeg p1), 1⟩, rfl, (by first | rfl | omega | trivial | assumption), by rw [ht]; exact hP, hD⟩, hS.F ht⟩) hS.2.2 dX0_make_38
set_option maxHeartbeats 4000000 in
set_option maxRecDepth 100000 in
theorem k_F_X0_kept (l : Launch) (D : va_G) (cs : Nat → ClassId) (A : Nat → Prop) (ad fa fq rv : Nat → Nat) (v : Nat → Int32) (a : Nat → Nat → Int32) (w : Nat → Nat → Int64) (fv fp : Nat → Nat → Int32)   (hF : FrC v a fv) : Met l yX0_kept (Cond.code yX0_kept cX0_kept 1 (some .int) :: gw) ({ frames := 1, cells := 0, slots := 0, locals := 13 }) (va_Pc [.ref (ad 9)] (XPre D (TY cs) (CW cs ad fa fq rv v a w fv fp) A)) (vp_Si (fun (r : Int32) => r.toInt = 0)) 0 0 (fun _ => False) := by
  refine Met.ofW (cc := cX0_kept) (maxL := 1) (ret := (some .int)) (by decide) rfl ?_
  intro p e s m args below meth c s₁ B hml hv
  obtain ⟨rfl, hP, hK, hD, hZ⟩ := hv
  have hx := B.exec
  have hb := B.bytes
  have hr := B.returns
  have hts := atoms_spec (ws := (Cond.code yX0_kept cX0_kept 1 (some .int) :: gw)) B.pre
  have hg : ∀ w ∈ gw, w.before ([.ref (ad 9)] : List Value).toArray s = true := fun w h => hts w (List.mem_cons_of_mem _ h)
  have hown : s.vm.findClass RX0 = some m.cls := findClass_of_methodNamed B.named
  have hlocks := B.notSynchronized
  have hS : va_S A s.heap s.heap [] := va_S.rf
  have hv1 : (v 1).toInt = 0 := by rw [hF.2.1]; rfl
  have hv21 : (v 21).toInt = 0 := by rw [hF.2.2.2.2.2.2.2.2.1]; rfl
  have hl := lv_entry ([.ref (ad 9)]) (n := 1) (Nat.le_of_ble_eq_true rfl)
  rw [lg_entry_eq]
  generalize (lg_sl ([.ref (ad 9)]) ++ List.replicate (1 - (lg_sl ([.ref (ad 9)])).length) Slot.unset).toArray = ls at hl ⊢
  have hl : lv_has ls 1 [(0, .ref (ad 9))] := hl
  refine lv_aload_n hx hb dX0_kept_0 rfl (lv_at hl 0 rfl) ?_
  refine gf_acts_ran hx hb hg hown hK hP (x := 0) hF.2.2.2.2.2.2.2.2.2.1 (hg _ q1_88) dX0_kept_1 ?_
  refine lv_bipush (v := 24) hx hb dX0_kept_4 (by decide) ?_
  refine va_mmin hx hb (hml.trans hl.1.symm) hown (hg _ q4_161) (hg _ q3_61) (hg _ q1_16) (hg _ q3_62) (Nat.le_of_ble_eq_true rfl) (Nat.le_of_ble_eq_true rfl) (Nat.zero_le _) (Nat.zero_le _) dX0_kept_6 ?_
  refine lv_topi (fun x_1 ex_1 => ?_)
  have fx_1 := i_min ex_1
  have fx_1 : ((24 : Int) ≤ (0 : Int) ∧ x_1.toInt = (24 : Int)) ∨ ((0 : Int) ≤ (24 : Int) ∧ x_1.toInt = (0 : Int)) := fx_1
  exact W.iret (v := x_1) hx hb hr (fun tt ht hW => ⟨x_1, rfl, (by first | rfl | omega | trivial | assumption), ht⟩) (fun _ h => by cases h) dX0_kept_9
set_option maxHeartbeats 4000000 in
set_option maxRecDepth 100000 in
theorem k_F_X0_perform (l : Launch) (D : va_G) (cs : Nat → ClassId) (A : Nat → Prop) (ad fa fq rv : Nat → Nat) (v : Nat → Int32) (a : Nat → Nat → Int32) (w : Nat → Nat → Int64) (fv fp : Nat → Nat → Int32)  (p1 : Int32) (p2 : Int32) (p3 : Int32) (hF : FrC v a fv) : Met l yX0_perform (Cond.code yX0_perform cX0_perform 4 (some .int) :: gw) ({ frames := 1, cells := 0, slots := 0, locals := 21 }) (va_Pc [.ref (ad 9), .int p1, .int p2, .int p3] (XPre D (TY cs) (CW cs ad fa fq rv v a w fv fp) A)) (va_Qi (fun (r : Int32) (z : Int32) => r.toInt = 0) (XPo D (fun (z : Int32) => CW cs ad fa fq rv (va_up v 22 z) a w fv fp) A) A) 0 0 A := by
  refine Met.ofW (cc := cX0_perform) (maxL := 4) (ret := (some .int)) (by decide) rfl ?_
  intro p e s m args below meth c s₁ B hml hv
  obtain ⟨rfl, hP, hK, hD, hZ⟩ := hv
  have hx := B.exec
  have hb := B.bytes
  have hr := B.returns
  have hts := atoms_spec (ws := (Cond.code yX0_perform cX0_perform 4 (some .int) :: gw)) B.pre
  have hg : ∀ w ∈ gw, w.before ([.ref (ad 9), .int p1, .int p2, .int p3] : List Value).toArray s = true := fun w h => hts w (List.mem_cons_of_mem _ h)
  have hown : s.vm.findClass RX0 = some m.cls := findClass_of_methodNamed B.named
  have hlocks := B.notSynchronized
  have hS : va_S A s.heap s.heap [] := va_S.rf
  have hP : va_P D vwCl (CW cs ad fa fq rv v a w fv fp) s.heap := hP
  have hv1 : (v 1).toInt = 0 := by rw [hF.2.1]; rfl
  have hv21 : (v 21).toInt = 0 := by rw [hF.2.2.2.2.2.2.2.2.1]; rfl
  have hl := lv_entry ([.ref (ad 9), .int p1, .int p2, .int p3]) (n := 4) (Nat.le_of_ble_eq_true rfl)
  rw [lg_entry_eq]
  generalize (lg_sl ([.ref (ad 9), .int p1, .int p2, .int p3]) ++ List.replicate (4 - (lg_sl ([.ref (ad 9), .int p1, .int p2, .int p3])).length) Slot.unset).toArray = ls at hl ⊢
  have hl : lv_has ls 4 [(0, .ref (ad 9)), (1, .int p1), (2, .int p2), (3, .int p3)] := hl
  refine lv_aload_n hx hb dX0_perform_0 rfl (lv_at hl 0 rfl) ?_
  refine lv_iconst (v := 0) hx hb dX0_perform_1 (by decide) ?_
  refine pf_acts_ran hx hb hg hown hK hP hD hS (hg _ q1_88) dX0_perform_2 (fun H locs hP hD hS => ?_)
  refine lv_aload_n hx hb dX0_perform_5 rfl (lv_at hl 0 rfl) ?_
  refine lv_iload_n hx hb dX0_perform_6 rfl (lv_at hl 1 rfl) ?_
  refine cV_ro (As := [.int p1]) (rest := []) ⟨hx, hb, hml, hown, hg⟩ (k_F_X0_has l D cs A ad fa fq rv (va_up v 22 0) a w fv fp  p1 hF.2.2.2.2.2.2.2.2.1) ca_X0_has q4_131 ⟨rfl, rfl⟩ ⟨Nat.le_of_ble_eq_true rfl, Nat.le_of_ble_eq_true rfl⟩ (rc_acts hK hP) hK hP hD hS hZ rfl hl.1 rfl (Nat.le_of_ble_eq_true rfl) ⟨Nat.zero_le _, Nat.zero_le _⟩ dX0_perform_7 (fun r_1 wr_1 => ?_)
  have wr_1 : r_1.toInt = 0 := wr_1
  refine lv_if_eq (tgt := 22) hx hb dX0_perform_10 (by decide) (fun c_2 => ?_) (fun c_2 => ?_)
  ·
    have kc_2 : r_1.toInt = (0 : Int) := i_eq c_2
    refine lv_iconst (v := 0) hx hb dX0_perform_22 (by decide) ?_
    have q0_0 : (0 : Int32).toInt = 0 := rfl
    have q0_0 : (0 : Int32).toInt = 0 := rfl
    exact W.iret (v := 0) hx hb hr (fun tt ht hW => ⟨⟨0, 0, rfl, (by first | rfl | omega | trivial | assumption), by rw [ht]; exact hP, hD⟩, hS.F ht⟩) hS.2.2 dX0_perform_23
  ·
    have kc_2 : r_1.toInt ≠ (0 : Int) := i_ne c_2
    exfalso; omega
set_option maxHeartbeats 4000000 in
set_option maxRecDepth 100000 in
theorem k_F_X11_told (l : Launch) (D : va_G) (cs : Nat → ClassId) (A : Nat → Prop) (ad fa fq rv : Nat → Nat) (v : Nat → Int32) (a : Nat → Nat → Int32) (w : Nat → Nat → Int64) (fv fp : Nat → Nat → Int32)  (p1 : Int32) (p2 : Int32) (hF : FrC v a fv) (h1 : p1.toInt = 0) (h4 : 4 ≤ p2.toInt) (h7 : p2.toInt ≤ 7) : Met l yX11_told (Cond.code yX11_told cX11_told 3 (some .int) :: gw) ({ frames := 0, cells := 0, slots := 0, locals := 0 }) (va_Pc [.ref (ad 0), .int p1, .int p2] (XPre D (TY cs) (CW cs ad fa fq rv v a w fv fp) A)) (vp_Si (fun (r : Int32) => ((p2.toInt = 4 ∧ r.toInt = 0) ∨ (p2.toInt = 5 ∧ r.toInt = 8) ∨ (p2.toInt = 6 ∧ r.toInt = 8) ∨ (p2.toInt = 7 ∧ r.toInt = 4)))) 0 0 (fun _ => False) := by
  refine Met.ofW (cc := cX11_told) (maxL := 3) (ret := (some .int)) (by decide) rfl ?_
  intro p e s m args below meth c s₁ B hml hv
  obtain ⟨rfl, hP, hK, hD, hZ⟩ := hv
  have hx := B.exec
  have hb := B.bytes
  have hr := B.returns
  have hts := atoms_spec (ws := (Cond.code yX11_told cX11_told 3 (some .int) :: gw)) B.pre
  have hg : ∀ w ∈ gw, w.before ([.ref (ad 0), .int p1, .int p2] : List Value).toArray s = true := fun w h => hts w (List.mem_cons_of_mem _ h)
  have hown : s.vm.findClass RX11 = some m.cls := findClass_of_methodNamed B.named
  have hlocks := B.notSynchronized
  have hS : va_S A s.heap s.heap [] := va_S.rf
  have hv1 : (v 1).toInt = 0 := by rw [hF.2.1]; rfl
  have hv21 : (v 21).toInt = 0 := by rw [hF.2.2.2.2.2.2.2.2.1]; rfl
  have hl := lv_entry ([.ref (ad 0), .int p1, .int p2]) (n := 3) (Nat.le_of_ble_eq_true rfl)
  rw [lg_entry_eq]
  generalize (lg_sl ([.ref (ad 0), .int p1, .int p2]) ++ List.replicate (3 - (lg_sl ([.ref (ad 0), .int p1, .int p2])).length) Slot.unset).toArray = ls at hl ⊢
  have hl : lv_has ls 3 [(0, .ref (ad 0)), (1, .int p1), (2, .int p2)] := hl
  refine lv_iload_n hx hb dX11_told_0 rfl (lv_at hl 2 rfl) ?_
  rcases (show p2.toInt = 4 ∨ p2.toInt = 5 ∨ p2.toInt = 6 ∨ (p2.toInt < 0 ∨ 6 < p2.toInt) by omega) with kc_1 | kc_1 | kc_1 | kc_1
  ·
    refine lv_tableIn (tgt := 84) hx hb dX11_told_1 (by omega) (by omega) (off := 83) (by rw [kc_1]; rfl) (by decide) ?_
    refine lv_aload_n hx hb dX11_told_84 rfl (lv_at hl 0 rfl) ?_
    refine gf_main_deed hx hb hg hown hK hP rfl (hg _ q2_125) dX11_told_85 ?_
    refine gf_fl_swarm (f := 14) (by decide) hx hb hg hown hK hP (x := 0) hF.2.2.2.2.2.2.2.2.2.2.2.2.1 (hg _ q1_233) dX11_told_88 ?_
    have q0_0 : (0 : Int32).toInt = 0 := rfl
    exact W.iret (v := 0) hx hb hr (fun tt ht hW => ⟨0, rfl, (by first | rfl | omega | trivial | assumption), ht⟩) (fun _ h => by cases h) dX11_told_91
  ·
    refine lv_tableIn (tgt := 92) hx hb dX11_told_1 (by omega) (by omega) (off := 91) (by rw [kc_1]; rfl) (by decide) ?_
    refine lv_aload_n hx hb dX11_told_92 rfl (lv_at hl 0 rfl) ?_
    refine gf_main_parish hx hb hg hown hK hP rfl (hg _ q2_123) dX11_told_93 ?_
    refine gf_parish_mile hx hb hg hown hK hP (x := 8) hF.2.2.1 (hg _ q1_112) dX11_told_96 ?_
    have q0_8 : (8 : Int32).toInt = 8 := rfl
    exact W.iret (v := 8) hx hb hr (fun tt ht hW => ⟨8, rfl, (by first | rfl | omega | trivial | assumption), ht⟩) (fun _ h => by cases h) dX11_told_99
  ·
    refine lv_tableIn (tgt := 100) hx hb dX11_told_1 (by omega) (by omega) (off := 99) (by rw [kc_1]; rfl) (by decide) ?_
    refine lv_aload_n hx hb dX11_told_100 rfl (lv_at hl 0 rfl) ?_
    refine gf_main_deed hx hb hg hown hK hP rfl (hg _ q2_125) dX11_told_101 ?_
    refine gf_fl_hour (f := 14) (by decide) hx hb hg hown hK hP (x := 8) hF.2.2.2.2.2.2.2.2.2.2.2.1 (hg _ q1_229) dX11_told_104 ?_
    have q0_8 : (8 : Int32).toInt = 8 := rfl
    exact W.iret (v := 8) hx hb hr (fun tt ht hW => ⟨8, rfl, (by first | rfl | omega | trivial | assumption), ht⟩) (fun _ h => by cases h) dX11_told_107
  ·
    refine lv_tableOut (tgt := 108) hx hb dX11_told_1 kc_1 (by decide) ?_
    refine lv_aload_n hx hb dX11_told_108 rfl (lv_at hl 0 rfl) ?_
    refine gf_main_parish hx hb hg hown hK hP rfl (hg _ q2_123) dX11_told_109 ?_
    refine gf_parish_pace hx hb hg hown hK hP (x := 4) hF.2.2.2.1 (hg _ q1_115) dX11_told_112 ?_
    have q0_4 : (4 : Int32).toInt = 4 := rfl
    exact W.iret (v := 4) hx hb hr (fun tt ht hW => ⟨4, rfl, (by first | rfl | omega | trivial | assumption), ht⟩) (fun _ h => by cases h) dX11_told_115
set_option maxHeartbeats 4000000 in
set_option maxRecDepth 100000 in
theorem k_F_X11_tell (l : Launch) (D : va_G) (cs : Nat → ClassId) (A : Nat → Prop) (ad fa fq rv : Nat → Nat) (v : Nat → Int32) (a : Nat → Nat → Int32) (w : Nat → Nat → Int64) (fv fp : Nat → Nat → Int32)  (p1 : Int32) (p2 : Int32) (p3 : Int32) (hp0 : 0 ≤ (v 1).toInt) (hp8 : (v 1).toInt ≤ 8) (h4 : 4 ≤ p2.toInt) (h7 : p2.toInt ≤ 7) : Met l yX11_tell (Cond.code yX11_tell cX11_tell 4 none :: gw) ({ frames := 4, cells := 0, slots := 0, locals := 88 }) (va_Pc [.ref (ad 0), .int p1, .int p2, .int p3] (XPre D (TY cs) (CW cs ad fa fq rv v a w fv fp) A)) (va_Qv (fun (z : Int32 × Int32 × (Nat → Int32) × (Nat → Int32)) => True) (XPo D (fun (z : Int32 × Int32 × (Nat → Int32) × (Nat → Int32)) => CW cs ad fa fq rv (va_up (va_up v 2 z.1) 3 z.2.1) (va_up a 14 z.2.2.1) w (va_up fv 14 z.2.2.2) fp) A) A) 0 0 A := by
  refine Met.ofW (cc := cX11_tell) (maxL := 4) (ret := none) (by decide) rfl ?_
  intro p e s m args below meth c s₁ B hml hv
  obtain ⟨rfl, hP, hK, hD, hZ⟩ := hv
  have hx := B.exec
  have hb := B.bytes
  have hr := B.returns
  have hts := atoms_spec (ws := (Cond.code yX11_tell cX11_tell 4 none :: gw)) B.pre
  have hg : ∀ w ∈ gw, w.before ([.ref (ad 0), .int p1, .int p2, .int p3] : List Value).toArray s = true := fun w h => hts w (List.mem_cons_of_mem _ h)
  have hown : s.vm.findClass RX11 = some m.cls := findClass_of_methodNamed B.named
  have hlocks := B.notSynchronized
  have hS : va_S A s.heap s.heap [] := va_S.rf
  have hP : va_P D vwCl (CW cs ad fa fq rv v a w fv fp) s.heap := hP
  have hl := lv_entry ([.ref (ad 0), .int p1, .int p2, .int p3]) (n := 4) (Nat.le_of_ble_eq_true rfl)
  rw [lg_entry_eq]
  generalize (lg_sl ([.ref (ad 0), .int p1, .int p2, .int p3]) ++ List.replicate (4 - (lg_sl ([.ref (ad 0), .int p1, .int p2, .int p3])).length) Slot.unset).toArray = ls at hl ⊢
  have hl : lv_has ls 4 [(0, .ref (ad 0)), (1, .int p1), (2, .int p2), (3, .int p3)] := hl
  refine lv_iload_n hx hb dX11_tell_0 rfl (lv_at hl 2 rfl) ?_
  rcases (show p2.toInt = 4 ∨ p2.toInt = 5 ∨ p2.toInt = 6 ∨ (p2.toInt < 0 ∨ 6 < p2.toInt) by omega) with kc_1 | kc_1 | kc_1 | kc_1
  ·
    refine lv_tableIn (tgt := 95) hx hb dX11_tell_1 (by omega) (by omega) (off := 94) (by rw [kc_1]; rfl) (by decide) ?_
    refine lv_aload_n hx hb dX11_tell_95 rfl (lv_at hl 0 rfl) ?_
    refine gf_main_deed hx hb hg hown hK hP rfl (hg _ q2_125) dX11_tell_96 ?_
    refine lv_iload_n hx hb dX11_tell_99 rfl (lv_at hl 3 rfl) ?_
    refine pf_fl_swarm (f := 14) (by decide) hx hb hg hown hK hP hD hS (hg _ q1_233) dX11_tell_100 (fun H locs hP hD hS => ?_)
    refine lv_goto (tgt := 136) hx hb dX11_tell_103 (by decide) ?_
    have hP : va_P D vwCl (CW cs ad fa fq rv (va_up (va_up v 2 (v 2)) 3 (v 3)) (va_up a 14 (a 14)) w (va_up fv 14 (va_up (fv 14) 1 p3)) fp) _ := hP
    have hD : va_D A (CW cs ad fa fq rv (va_up (va_up v 2 (v 2)) 3 (v 3)) (va_up a 14 (a 14)) w (va_up fv 14 (va_up (fv 14) 1 p3)) fp) := hD
    exact W.vret hx hb hr (fun tt ht hW => ⟨⟨⟨(v 2), (v 3), (a 14), (va_up (fv 14) 1 p3)⟩, rfl, trivial, by rw [ht]; exact hP, hD⟩, hS.F ht⟩) hS.2.2 dX11_tell_136
  ·
    refine lv_tableIn (tgt := 106) hx hb dX11_tell_1 (by omega) (by omega) (off := 105) (by rw [kc_1]; rfl) (by decide) ?_
    refine lv_aload_n hx hb dX11_tell_106 rfl (lv_at hl 0 rfl) ?_
    refine gf_main_parish hx hb hg hown hK hP rfl (hg _ q2_123) dX11_tell_107 ?_
    refine lv_iload_n hx hb dX11_tell_110 rfl (lv_at hl 3 rfl) ?_
    refine cV_v (As := [.int p3]) (rest := []) ⟨hx, hb, hml, hown, hg⟩ (k_X9_setMile l D cs A ad fa fq rv v a w fv fp  p3 (show 0 ≤ (v 1).toInt by first | omega | decide) (show (v 1).toInt ≤ 8 by first | omega | decide)) ca_X9_setMile q3_32 ⟨rfl, rfl⟩ ⟨Nat.le_of_ble_eq_true rfl, Nat.le_of_ble_eq_true rfl⟩ (rc_parish hK hP) hK hP hD hS hZ rfl hl.1 rfl (Nat.le_of_ble_eq_true rfl) ⟨Nat.zero_le _, Nat.zero_le _⟩ dX11_tell_111 (fun z_5 H locs wr_2 hP hD hS => ?_)
    obtain ⟨mile_3, gnear_4⟩ := z_5
    have hP : va_P D vwCl (CW cs ad fa fq rv (va_up v 2 mile_3) (va_up a 14 gnear_4) w fv fp) H := hP
    have hD : va_D A (CW cs ad fa fq rv (va_up v 2 mile_3) (va_up a 14 gnear_4) w fv fp) := hD
    have wr_2_0 : mile_3 = p3 := wr_2
    refine lv_goto (tgt := 136) hx hb dX11_tell_114 (by decide) ?_
    have hP : va_P D vwCl (CW cs ad fa fq rv (va_up (va_up v 2 mile_3) 3 (v 3)) (va_up a 14 gnear_4) w (va_up fv 14 (fv 14)) fp) _ := hP
    have hD : va_D A (CW cs ad fa fq rv (va_up (va_up v 2 mile_3) 3 (v 3)) (va_up a 14 gnear_4) w (va_up fv 14 (fv 14)) fp) := hD
    exact W.vret hx hb hr (fun tt ht hW => ⟨⟨⟨mile_3, (v 3), gnear_4, (fv 14)⟩, rfl, trivial, by rw [ht]; exact hP, hD⟩, hS.F ht⟩) hS.2.2 dX11_tell_136
  ·
    refine lv_tableIn (tgt := 117) hx hb dX11_tell_1 (by omega) (by omega) (off := 116) (by rw [kc_1]; rfl) (by decide) ?_
    refine lv_aload_n hx hb dX11_tell_117 rfl (lv_at hl 0 rfl) ?_
    refine gf_main_deed hx hb hg hown hK hP rfl (hg _ q2_125) dX11_tell_118 ?_
    refine lv_iload_n hx hb dX11_tell_121 rfl (lv_at hl 3 rfl) ?_
    refine pf_fl_hour (f := 14) (by decide) hx hb hg hown hK hP hD hS (hg _ q1_229) dX11_tell_122 (fun H locs hP hD hS => ?_)
    refine lv_goto (tgt := 136) hx hb dX11_tell_125 (by decide) ?_
    have hP : va_P D vwCl (CW cs ad fa fq rv (va_up (va_up v 2 (v 2)) 3 (v 3)) (va_up a 14 (a 14)) w (va_up fv 14 (va_up (fv 14) 0 p3)) fp) _ := hP
    have hD : va_D A (CW cs ad fa fq rv (va_up (va_up v 2 (v 2)) 3 (v 3)) (va_up a 14 (a 14)) w (va_up fv 14 (va_up (fv 14) 0 p3)) fp) := hD
    exact W.vret hx hb hr (fun tt ht hW => ⟨⟨⟨(v 2), (v 3), (a 14), (va_up (fv 14) 0 p3)⟩, rfl, trivial, by rw [ht]; exact hP, hD⟩, hS.F ht⟩) hS.2.2 dX11_tell_136
  ·
    refine lv_tableOut (tgt := 128) hx hb dX11_tell_1 kc_1 (by decide) ?_
    refine lv_aload_n hx hb dX11_tell_128 rfl (lv_at hl 0 rfl) ?_
    refine gf_main_parish hx hb hg hown hK hP rfl (hg _ q2_123) dX11_tell_129 ?_
    refine lv_iload_n hx hb dX11_tell_132 rfl (lv_at hl 3 rfl) ?_
    refine pf_parish_pace hx hb hg hown hK hP hD hS (hg _ q1_115) dX11_tell_133 (fun H locs hP hD hS => ?_)
    have hP : va_P D vwCl (CW cs ad fa fq rv (va_up (va_up v 2 (v 2)) 3 p3) (va_up a 14 (a 14)) w (va_up fv 14 (fv 14)) fp) _ := hP
    have hD : va_D A (CW cs ad fa fq rv (va_up (va_up v 2 (v 2)) 3 p3) (va_up a 14 (a 14)) w (va_up fv 14 (fv 14)) fp) := hD
    exact W.vret hx hb hr (fun tt ht hW => ⟨⟨⟨(v 2), p3, (a 14), (fv 14)⟩, rfl, trivial, by rw [ht]; exact hP, hD⟩, hS.F ht⟩) hS.2.2 dX11_tell_136
set_option maxHeartbeats 4000000 in
set_option maxRecDepth 100000 in
theorem k_F_X1_add (l : Launch) (D : va_G) (cs : Nat → ClassId) (A : Nat → Prop) (ad fa fq rv : Nat → Nat) (v : Nat → Int32) (a : Nat → Nat → Int32) (w : Nat → Nat → Int64) (fv fp : Nat → Nat → Int32)  (p1 : Int32) (p2 : Int32) (p3 : Int32) (p4 : Int32) (hF : FrC v a fv) : Met l yX1_add (Cond.code yX1_add cX1_add 5 none :: gw) ({ frames := 0, cells := 0, slots := 0, locals := 0 }) (va_Pc [.ref (ad 7), .int p1, .int p2, .int p3, .int p4] (XPre D (TY cs) (CW cs ad fa fq rv v a w fv fp) A)) (va_Qv (fun (z : Int32 × Int32 × (Nat → Int32) × (Nat → Int32) × (Nat → Int32) × (Nat → Int32)) => True) (XPo D (fun (z : Int32 × Int32 × (Nat → Int32) × (Nat → Int32) × (Nat → Int32) × (Nat → Int32)) => CW cs ad fa fq rv (va_up (va_up v 19 z.1) 20 z.2.1) (va_up (va_up (va_up (va_up a 24 z.2.2.1) 25 z.2.2.2.1) 26 z.2.2.2.2.1) 27 z.2.2.2.2.2) w fv fp) A) A) 0 0 A := by
  refine Met.ofW (cc := cX1_add) (maxL := 5) (ret := none) (by decide) rfl ?_
  intro p e s m args below meth c s₁ B hml hv
  obtain ⟨rfl, hP, hK, hD, hZ⟩ := hv
  have hx := B.exec
  have hb := B.bytes
  have hr := B.returns
  have hts := atoms_spec (ws := (Cond.code yX1_add cX1_add 5 none :: gw)) B.pre
  have hg : ∀ w ∈ gw, w.before ([.ref (ad 7), .int p1, .int p2, .int p3, .int p4] : List Value).toArray s = true := fun w h => hts w (List.mem_cons_of_mem _ h)
  have hown : s.vm.findClass RX1 = some m.cls := findClass_of_methodNamed B.named
  have hlocks := B.notSynchronized
  have hS : va_S A s.heap s.heap [] := va_S.rf
  have hP : va_P D vwCl (CW cs ad fa fq rv v a w fv fp) s.heap := hP
  have hv1 : (v 1).toInt = 0 := by rw [hF.2.1]; rfl
  have hv21 : (v 21).toInt = 0 := by rw [hF.2.2.2.2.2.2.2.2.1]; rfl
  have hl := lv_entry ([.ref (ad 7), .int p1, .int p2, .int p3, .int p4]) (n := 5) (Nat.le_of_ble_eq_true rfl)
  rw [lg_entry_eq]
  generalize (lg_sl ([.ref (ad 7), .int p1, .int p2, .int p3, .int p4]) ++ List.replicate (5 - (lg_sl ([.ref (ad 7), .int p1, .int p2, .int p3, .int p4])).length) Slot.unset).toArray = ls at hl ⊢
  have hl : lv_has ls 5 [(0, .ref (ad 7)), (1, .int p1), (2, .int p2), (3, .int p3), (4, .int p4)] := hl
  refine lv_aload_n hx hb dX1_add_0 rfl (lv_at hl 0 rfl) ?_
  refine gf_changes_done hx hb hg hown hK hP (x := 0) hF.2.2.2.2.2.2.1 (hg _ q1_40) dX1_add_1 ?_
  refine lv_bipush (v := 40) hx hb dX1_add_4 (by decide) ?_
  refine lv_icmp_lt (tgt := 43) hx hb dX1_add_6 (by decide) (fun c_1 => ?_) (fun c_1 => absurd c_1 (by decide))
  refine lv_aload_n hx hb dX1_add_43 rfl (lv_at hl 0 rfl) ?_
  refine gf_changes_number hx hb hg hown hK hP rfl (hg _ q1_32) dX1_add_44 ?_
  refine lv_aload_n hx hb dX1_add_47 rfl (lv_at hl 0 rfl) ?_
  refine gf_changes_done hx hb hg hown hK hP (x := 0) hF.2.2.2.2.2.2.1 (hg _ q1_40) dX1_add_48 ?_
  refine lv_iload_n hx hb dX1_add_51 rfl (lv_at hl 1 rfl) ?_
  refine st_Cnumber hx hb hK hP hD hS (i_in (by decide) (by decide)) dX1_add_52 (fun H locs hP hD hS => ?_)
  refine lv_aload_n hx hb dX1_add_53 rfl (lv_at hl 0 rfl) ?_
  refine gf_changes_what hx hb hg hown hK hP rfl (hg _ q1_34) dX1_add_54 ?_
  refine lv_aload_n hx hb dX1_add_57 rfl (lv_at hl 0 rfl) ?_
  refine gf_changes_done hx hb hg hown hK hP (x := 0) hF.2.2.2.2.2.2.1 (hg _ q1_40) dX1_add_58 ?_
  refine lv_iload_n hx hb dX1_add_61 rfl (lv_at hl 2 rfl) ?_
  refine st_Cwhat hx hb hK hP hD hS (i_in (by decide) (by decide)) dX1_add_62 (fun H locs hP hD hS => ?_)
  refine lv_aload_n hx hb dX1_add_63 rfl (lv_at hl 0 rfl) ?_
  refine gf_changes_was hx hb hg hown hK hP rfl (hg _ q1_36) dX1_add_64 ?_
  refine lv_aload_n hx hb dX1_add_67 rfl (lv_at hl 0 rfl) ?_
  refine gf_changes_done hx hb hg hown hK hP (x := 0) hF.2.2.2.2.2.2.1 (hg _ q1_40) dX1_add_68 ?_
  refine lv_iload_n hx hb dX1_add_71 rfl (lv_at hl 3 rfl) ?_
  refine st_Cwas hx hb hK hP hD hS (i_in (by decide) (by decide)) dX1_add_72 (fun H locs hP hD hS => ?_)
  refine lv_aload_n hx hb dX1_add_73 rfl (lv_at hl 0 rfl) ?_
  refine gf_changes_becomes hx hb hg hown hK hP rfl (hg _ q1_38) dX1_add_74 ?_
  refine lv_aload_n hx hb dX1_add_77 rfl (lv_at hl 0 rfl) ?_
  refine gf_changes_done hx hb hg hown hK hP (x := 0) hF.2.2.2.2.2.2.1 (hg _ q1_40) dX1_add_78 ?_
  refine lv_iload hx hb dX1_add_81 (lv_at hl 4 rfl) ?_
  refine st_Cbecomes hx hb hK hP hD hS (i_in (by decide) (by decide)) dX1_add_83 (fun H locs hP hD hS => ?_)
  refine lv_aload_n hx hb dX1_add_84 rfl (lv_at hl 0 rfl) ?_
  refine lv_dup hx hb dX1_add_85 rfl ?_
  refine gf_changes_done hx hb hg hown hK hP (x := 0) hF.2.2.2.2.2.2.1 (hg _ q1_40) dX1_add_86 ?_
  refine lv_iconst (v := 1) hx hb dX1_add_89 (by decide) ?_
  refine lv_iadd hx hb dX1_add_90 ?_
  refine lv_topi (fun x_2 ex_2 => ?_)
  have fx_2 : x_2 = 1 := by rw [ex_2]; rfl
  subst fx_2
  refine pf_changes_done hx hb hg hown hK hP hD hS (hg _ q1_40) dX1_add_91 (fun H locs hP hD hS => ?_)
  refine lv_aload_n hx hb dX1_add_94 rfl (lv_at hl 0 rfl) ?_
  refine lv_aload_n hx hb dX1_add_95 rfl (lv_at hl 0 rfl) ?_
  refine gf_changes_done hx hb hg hown hK hP (x := 1) rfl (hg _ q1_40) dX1_add_96 ?_
  refine pf_changes_all hx hb hg hown hK hP hD hS (hg _ q1_42) dX1_add_99 (fun H locs hP hD hS => ?_)
  have q0_1 : (1 : Int32).toInt = 1 := rfl
  have q0_1 : (1 : Int32).toInt = 1 := rfl
  exact W.vret hx hb hr (fun tt ht hW => ⟨⟨⟨1, 1, (upd (a 24) (0 : Int32).toNatClampNeg p1), (upd (a 25) (0 : Int32).toNatClampNeg p2), (upd (a 26) (0 : Int32).toNatClampNeg p3), (upd (a 27) (0 : Int32).toNatClampNeg p4)⟩, rfl, trivial, by rw [ht]; exact hP, hD⟩, hS.F ht⟩) hS.2.2 dX1_add_102
set_option maxHeartbeats 4000000 in
set_option maxRecDepth 100000 in
theorem k_F_X6_takeLetter (l : Launch) (D : va_G) (cs : Nat → ClassId) (A : Nat → Prop) (ad fa fq rv : Nat → Nat) (v : Nat → Int32) (a : Nat → Nat → Int32) (w : Nat → Nat → Int64) (fv fp : Nat → Nat → Int32)  (p1 : Int32) (hF : FrC v a fv) : Met l yX6_takeLetter (Cond.code yX6_takeLetter cX6_takeLetter 2 (some .int) :: gw) ({ frames := 0, cells := 0, slots := 0, locals := 0 }) (va_Pc [.ref (ad 2), .int p1] (XPre D (TY cs) (CW cs ad fa fq rv v a w fv fp) A)) (va_Qi (fun (r : Int32) (z : Int32 × (Nat → Int32)) => r.toInt = 1) (XPo D (fun (z : Int32 × (Nat → Int32)) => CW cs ad fa fq rv (va_up v 4 z.1) (va_up a 15 z.2) w fv fp) A) A) 0 0 A := by
  refine Met.ofW (cc := cX6_takeLetter) (maxL := 2) (ret := (some .int)) (by decide) rfl ?_
  intro p e s m args below meth c s₁ B hml hv
  obtain ⟨rfl, hP, hK, hD, hZ⟩ := hv
  have hx := B.exec
  have hb := B.bytes
  have hr := B.returns
  have hts := atoms_spec (ws := (Cond.code yX6_takeLetter cX6_takeLetter 2 (some .int) :: gw)) B.pre
  have hg : ∀ w ∈ gw, w.before ([.ref (ad 2), .int p1] : List Value).toArray s = true := fun w h => hts w (List.mem_cons_of_mem _ h)
  have hown : s.vm.findClass RX6 = some m.cls := findClass_of_methodNamed B.named
  have hlocks := B.notSynchronized
  have hS : va_S A s.heap s.heap [] := va_S.rf
  have hP : va_P D vwCl (CW cs ad fa fq rv v a w fv fp) s.heap := hP
  have hv1 : (v 1).toInt = 0 := by rw [hF.2.1]; rfl
  have hv21 : (v 21).toInt = 0 := by rw [hF.2.2.2.2.2.2.2.2.1]; rfl
  have hl := lv_entry ([.ref (ad 2), .int p1]) (n := 2) (Nat.le_of_ble_eq_true rfl)
  rw [lg_entry_eq]
  generalize (lg_sl ([.ref (ad 2), .int p1]) ++ List.replicate (2 - (lg_sl ([.ref (ad 2), .int p1])).length) Slot.unset).toArray = ls at hl ⊢
  have hl : lv_has ls 2 [(0, .ref (ad 2)), (1, .int p1)] := hl
  refine lv_aload_n hx hb dX6_takeLetter_0 rfl (lv_at hl 0 rfl) ?_
  refine gf_rules_fed hx hb hg hown hK hP (x := 0) hF.2.2.2.2.1 (hg _ q1_173) dX6_takeLetter_1 ?_
  refine lv_bipush (v := 120) hx hb dX6_takeLetter_4 (by decide) ?_
  refine lv_icmp_lt (tgt := 12) hx hb dX6_takeLetter_6 (by decide) (fun c_1 => ?_) (fun c_1 => absurd c_1 (by decide))
  refine lv_aload_n hx hb dX6_takeLetter_12 rfl (lv_at hl 0 rfl) ?_
  refine gf_rules_tape hx hb hg hown hK hP rfl (hg _ q1_172) dX6_takeLetter_13 ?_
  refine lv_aload_n hx hb dX6_takeLetter_16 rfl (lv_at hl 0 rfl) ?_
  refine gf_rules_fed hx hb hg hown hK hP (x := 0) hF.2.2.2.2.1 (hg _ q1_173) dX6_takeLetter_17 ?_
  refine lv_iload_n hx hb dX6_takeLetter_20 rfl (lv_at hl 1 rfl) ?_
  refine st_Ltape hx hb hK hP hD hS (i_in (by decide) (by decide)) dX6_takeLetter_21 (fun H locs hP hD hS => ?_)
  refine lv_aload_n hx hb dX6_takeLetter_22 rfl (lv_at hl 0 rfl) ?_
  refine lv_dup hx hb dX6_takeLetter_23 rfl ?_
  refine gf_rules_fed hx hb hg hown hK hP (x := 0) hF.2.2.2.2.1 (hg _ q1_173) dX6_takeLetter_24 ?_
  refine lv_iconst (v := 1) hx hb dX6_takeLetter_27 (by decide) ?_
  refine lv_iadd hx hb dX6_takeLetter_28 ?_
  refine lv_topi (fun x_2 ex_2 => ?_)
  have fx_2 : x_2 = 1 := by rw [ex_2]; rfl
  subst fx_2
  refine pf_rules_fed hx hb hg hown hK hP hD hS (hg _ q1_173) dX6_takeLetter_29 (fun H locs hP hD hS => ?_)
  refine lv_aload_n hx hb dX6_takeLetter_32 rfl (lv_at hl 0 rfl) ?_
  refine gf_rules_fed hx hb hg hown hK hP (x := 1) rfl (hg _ q1_173) dX6_takeLetter_33 ?_
  have q0_1 : (1 : Int32).toInt = 1 := rfl
  have q0_1 : (1 : Int32).toInt = 1 := rfl
  exact W.iret (v := 1) hx hb hr (fun tt ht hW => ⟨⟨1, ⟨1, (upd (a 15) (0 : Int32).toNatClampNeg p1)⟩, rfl, (by first | rfl | omega | trivial | assumption), by rw [ht]; exact hP, hD⟩, hS.F ht⟩) hS.2.2 dX6_takeLetter_36
set_option maxHeartbeats 4000000 in
set_option maxRecDepth 100000 in
theorem k_F_X7_sign (l : Launch) (D : va_G) (cs : Nat → ClassId) (A : Nat → Prop) (ad fa fq rv : Nat → Nat) (v : Nat → Int32) (a : Nat → Nat → Int32) (w : Nat → Nat → Int64) (fv fp : Nat → Nat → Int32)   (hF : FrC v a fv) (hr1 : v 24 = 0) (hr2 : v 25 = 0) : Met l yX7_sign (Cond.code yX7_sign cX7_sign 1 (some .int) :: gw) ({ frames := 0, cells := 0, slots := 0, locals := 0 }) (va_Pc [.ref (ad 10)] (XPre D (TY cs) (CW cs ad fa fq rv v a w fv fp) A)) (vp_Si (fun (r : Int32) => r.toInt = -1)) 0 0 (fun _ => False) := by
  refine Met.ofW (cc := cX7_sign) (maxL := 1) (ret := (some .int)) (by decide) rfl ?_
  intro p e s m args below meth c s₁ B hml hv
  obtain ⟨rfl, hP, hK, hD, hZ⟩ := hv
  have hx := B.exec
  have hb := B.bytes
  have hr := B.returns
  have hts := atoms_spec (ws := (Cond.code yX7_sign cX7_sign 1 (some .int) :: gw)) B.pre
  have hg : ∀ w ∈ gw, w.before ([.ref (ad 10)] : List Value).toArray s = true := fun w h => hts w (List.mem_cons_of_mem _ h)
  have hown : s.vm.findClass RX7 = some m.cls := findClass_of_methodNamed B.named
  have hlocks := B.notSynchronized
  have hS : va_S A s.heap s.heap [] := va_S.rf
  have hv1 : (v 1).toInt = 0 := by rw [hF.2.1]; rfl
  have hv21 : (v 21).toInt = 0 := by rw [hF.2.2.2.2.2.2.2.2.1]; rfl
  have hl := lv_entry ([.ref (ad 10)]) (n := 1) (Nat.le_of_ble_eq_true rfl)
  rw [lg_entry_eq]
  generalize (lg_sl ([.ref (ad 10)]) ++ List.replicate (1 - (lg_sl ([.ref (ad 10)])).length) Slot.unset).toArray = ls at hl ⊢
  have hl : lv_has ls 1 [(0, .ref (ad 10))] := hl
  refine lv_aload_n hx hb dX7_sign_0 rfl (lv_at hl 0 rfl) ?_
  refine gf_reader_at hx hb hg hown hK hP (x := 0) hr2 (hg _ q1_157) dX7_sign_1 ?_
  refine lv_aload_n hx hb dX7_sign_4 rfl (lv_at hl 0 rfl) ?_
  refine gf_reader_length hx hb hg hown hK hP (x := 0) hr1 (hg _ q1_156) dX7_sign_5 ?_
  refine lv_icmp_ge (tgt := 23) hx hb dX7_sign_8 (by decide) (fun c_1 => ?_) (fun c_1 => absurd c_1 (by decide))
  refine lv_iconst (v := (-1)) hx hb dX7_sign_23 (by decide) ?_
  have q0_m1 : ((-1) : Int32).toInt = (-1) := rfl
  exact W.iret (v := (-1)) hx hb hr (fun tt ht hW => ⟨(-1), rfl, (by first | rfl | omega | trivial | assumption), ht⟩) (fun _ h => by cases h) dX7_sign_24
set_option maxHeartbeats 4000000 in
set_option maxRecDepth 100000 in
theorem k_F_X7_isDigit (l : Launch)   (p1 : Int32) (h1 : p1.toInt = -1) : Met l yX7_isDigit (Cond.code yX7_isDigit cX7_isDigit 1 (some .boolean) :: gw) ({ frames := 0, cells := 0, slots := 0, locals := 0 }) (fun v _ => v = ([.int p1] : List Value).toArray) (vp_Si (fun (r : Int32) => r.toInt = 0)) 0 0 (fun _ => False) := by
  refine Met.ofW (cc := cX7_isDigit) (maxL := 1) (ret := (some .boolean)) (by decide) rfl ?_
  intro p e s m args below meth c s₁ B hml hv
  subst hv
  have hx := B.exec
  have hb := B.bytes
  have hr := B.returns
  have hts := atoms_spec (ws := (Cond.code yX7_isDigit cX7_isDigit 1 (some .boolean) :: gw)) B.pre
  have hg : ∀ w ∈ gw, w.before ([.int p1] : List Value).toArray s = true := fun w h => hts w (List.mem_cons_of_mem _ h)
  have hown : s.vm.findClass RX7 = some m.cls := findClass_of_methodNamed B.named
  have hlocks := B.notSynchronized
  have hl := lv_entry ([.int p1]) (n := 1) (Nat.le_of_ble_eq_true rfl)
  rw [lg_entry_eq]
  generalize (lg_sl ([.int p1]) ++ List.replicate (1 - (lg_sl ([.int p1])).length) Slot.unset).toArray = ls at hl ⊢
  have hl : lv_has ls 1 [(0, .int p1)] := hl
  refine lv_iload_n hx hb dX7_isDigit_0 rfl (lv_at hl 0 rfl) ?_
  refine lv_bipush (v := 48) hx hb dX7_isDigit_1 (by decide) ?_
  refine lv_icmp_lt (tgt := 16) hx hb dX7_isDigit_3 (by decide) (fun c_1 => ?_) (fun c_1 => ?_)
  ·
    have kc_1 : p1.toInt < (48 : Int) := i_lt c_1
    refine lv_iconst (v := 0) hx hb dX7_isDigit_16 (by decide) ?_
    have q0_0 : (0 : Int32).toInt = 0 := rfl
    exact W.zret (v := 0) hx hb hr rfl (fun tt ht hW => ⟨0, rfl, (by first | rfl | omega | trivial | assumption), ht⟩) (fun _ h => by cases h) dX7_isDigit_17
  ·
    have kc_1 : (48 : Int) ≤ p1.toInt := i_nlt c_1
    exfalso; omega
set_option maxHeartbeats 4000000 in
set_option maxRecDepth 100000 in
theorem k_F_X7_nameOf (l : Launch)   (p1 : Int32) (h1 : p1.toInt = -1) : Met l yX7_nameOf (Cond.code yX7_nameOf cX7_nameOf 1 (some .int) :: gw) ({ frames := 0, cells := 0, slots := 0, locals := 0 }) (fun v _ => v = ([.int p1] : List Value).toArray) (vp_Si (fun (r : Int32) => r.toInt = -1)) 0 0 (fun _ => False) := by
  refine Met.ofW (cc := cX7_nameOf) (maxL := 1) (ret := (some .int)) (by decide) rfl ?_
  intro p e s m args below meth c s₁ B hml hv
  subst hv
  have hx := B.exec
  have hb := B.bytes
  have hr := B.returns
  have hts := atoms_spec (ws := (Cond.code yX7_nameOf cX7_nameOf 1 (some .int) :: gw)) B.pre
  have hg : ∀ w ∈ gw, w.before ([.int p1] : List Value).toArray s = true := fun w h => hts w (List.mem_cons_of_mem _ h)
  have hown : s.vm.findClass RX7 = some m.cls := findClass_of_methodNamed B.named
  have hlocks := B.notSynchronized
  have hl := lv_entry ([.int p1]) (n := 1) (Nat.le_of_ble_eq_true rfl)
  rw [lg_entry_eq]
  generalize (lg_sl ([.int p1]) ++ List.replicate (1 - (lg_sl ([.int p1])).length) Slot.unset).toArray = ls at hl ⊢
  have hl : lv_has ls 1 [(0, .int p1)] := hl
  refine lv_iload_n hx hb dX7_nameOf_0 rfl (lv_at hl 0 rfl) ?_
  have kc_1 : p1.toInt < 99 ∨ 110 < p1.toInt := by omega
  ·
    refine lv_tableOut (tgt := 76) hx hb dX7_nameOf_1 kc_1 (by decide) ?_
    refine lv_iconst (v := (-1)) hx hb dX7_nameOf_76 (by decide) ?_
    have q0_m1 : ((-1) : Int32).toInt = (-1) := rfl
    exact W.iret (v := (-1)) hx hb hr (fun tt ht hW => ⟨(-1), rfl, (by first | rfl | omega | trivial | assumption), ht⟩) (fun _ h => by cases h) dX7_nameOf_77
set_option maxHeartbeats 4000000 in
set_option maxRecDepth 100000 in
theorem k_F_X7_readOne (l : Launch) (D : va_G) (cs : Nat → ClassId) (A : Nat → Prop) (ad fa fq rv : Nat → Nat) (v : Nat → Int32) (a : Nat → Nat → Int32) (w : Nat → Nat → Int64) (fv fp : Nat → Nat → Int32)  (p1 : Int32) (hF : FrC v a fv) (hr1 : v 24 = 0) (hr2 : v 25 = 0) : Met l yX7_readOne (Cond.code yX7_readOne cX7_readOne 4 (some .boolean) :: gw) ({ frames := 1, cells := 0, slots := 0, locals := 20 }) (va_Pc [.ref (ad 10), .int p1] (XPre D (TY cs) (CW cs ad fa fq rv v a w fv fp) A)) (vp_Si (fun (r : Int32) => r.toInt = 0)) 0 0 (fun _ => False) := by
  refine Met.ofW (cc := cX7_readOne) (maxL := 4) (ret := (some .boolean)) (by decide) rfl ?_
  intro p e s m args below meth c s₁ B hml hv
  obtain ⟨rfl, hP, hK, hD, hZ⟩ := hv
  have hx := B.exec
  have hb := B.bytes
  have hr := B.returns
  have hts := atoms_spec (ws := (Cond.code yX7_readOne cX7_readOne 4 (some .boolean) :: gw)) B.pre
  have hg : ∀ w ∈ gw, w.before ([.ref (ad 10), .int p1] : List Value).toArray s = true := fun w h => hts w (List.mem_cons_of_mem _ h)
  have hown : s.vm.findClass RX7 = some m.cls := findClass_of_methodNamed B.named
  have hlocks := B.notSynchronized
  have hS : va_S A s.heap s.heap [] := va_S.rf
  have hv1 : (v 1).toInt = 0 := by rw [hF.2.1]; rfl
  have hv21 : (v 21).toInt = 0 := by rw [hF.2.2.2.2.2.2.2.2.1]; rfl
  have hl := lv_entry ([.ref (ad 10), .int p1]) (n := 4) (Nat.le_of_ble_eq_true rfl)
  rw [lg_entry_eq]
  generalize (lg_sl ([.ref (ad 10), .int p1]) ++ List.replicate (4 - (lg_sl ([.ref (ad 10), .int p1])).length) Slot.unset).toArray = ls at hl ⊢
  have hl : lv_has ls 4 [(0, .ref (ad 10)), (1, .int p1)] := hl
  refine lv_aload_n hx hb dX7_readOne_0 rfl (lv_at hl 0 rfl) ?_
  refine cV_ro (As := []) (rest := []) ⟨hx, hb, hml, hown, hg⟩ (k_F_X7_sign l D cs A ad fa fq rv v a w fv fp   hF hr1 hr2) ca_X7_sign q3_91 ⟨rfl, rfl⟩ ⟨Nat.le_of_ble_eq_true rfl, Nat.le_of_ble_eq_true rfl⟩ (rc_reader hK hP) hK hP hD hS hZ rfl hl.1 rfl (Nat.le_of_ble_eq_true rfl) ⟨Nat.zero_le _, Nat.zero_le _⟩ dX7_readOne_1 (fun r_1 wr_1 => ?_)
  have wr_1 : r_1.toInt = -1 := wr_1
  refine lv_istore_n (lv' := [(2, .int r_1), (0, .ref (ad 10)), (1, .int p1)]) hx hb dX7_readOne_4 rfl hl (by decide) rfl (fun ls hl => ?_)
  refine lv_iload_n hx hb dX7_readOne_5 rfl (lv_at hl 0 rfl) ?_
  refine cS_p (As := [.int r_1]) (rest := []) ⟨hx, hb, hml, hown, hg⟩ (k_F_X7_isDigit l   r_1 (show r_1.toInt = -1 by first | omega | decide)) ca_X7_isDigit q3_95 ⟨rfl, rfl⟩ ⟨Nat.le_of_ble_eq_true rfl, Nat.le_of_ble_eq_true rfl⟩ rfl hl.1 rfl (Nat.le_of_ble_eq_true rfl) ⟨Nat.zero_le _, Nat.zero_le _⟩ dX7_readOne_6 (fun r_2 wr_2 => ?_)
  have wr_2 : r_2.toInt = 0 := wr_2
  refine lv_if_eq (tgt := 17) hx hb dX7_readOne_9 (by decide) (fun c_3 => ?_) (fun c_3 => ?_)
  ·
    have kc_3 : r_2.toInt = (0 : Int) := i_eq c_3
    refine lv_iload_n hx hb dX7_readOne_17 rfl (lv_at hl 0 rfl) ?_
    refine cS_p (As := [.int r_1]) (rest := []) ⟨hx, hb, hml, hown, hg⟩ (k_F_X7_nameOf l   r_1 (show r_1.toInt = -1 by first | omega | decide)) ca_X7_nameOf q3_106 ⟨rfl, rfl⟩ ⟨Nat.le_of_ble_eq_true rfl, Nat.le_of_ble_eq_true rfl⟩ rfl hl.1 rfl (Nat.le_of_ble_eq_true rfl) ⟨Nat.zero_le _, Nat.zero_le _⟩ dX7_readOne_18 (fun r_4 wr_4 => ?_)
    have wr_4 : r_4.toInt = -1 := wr_4
    refine lv_istore_n (lv' := [(3, .int r_4), (2, .int r_1), (0, .ref (ad 10)), (1, .int p1)]) hx hb dX7_readOne_21 rfl hl (by decide) rfl (fun ls hl => ?_)
    refine lv_iload_n hx hb dX7_readOne_22 rfl (lv_at hl 0 rfl) ?_
    refine lv_iconst (v := (-1)) hx hb dX7_readOne_23 (by decide) ?_
    refine lv_icmp_eq (tgt := 47) hx hb dX7_readOne_24 (by decide) (fun c_5 => ?_) (fun c_5 => ?_)
    ·
      have kc_5 : r_4.toInt = (-1 : Int) := i_eq c_5
      refine lv_iload_n hx hb dX7_readOne_47 rfl (lv_at hl 3 rfl) ?_
      refine lv_bipush (v := 6) hx hb dX7_readOne_48 (by decide) ?_
      refine lv_icmp_ge (tgt := 71) hx hb dX7_readOne_50 (by decide) (fun c_6 => ?_) (fun c_6 => ?_)
      ·
        have kc_6 : (6 : Int) ≤ p1.toInt := i_le c_6
        refine lv_iconst (v := 0) hx hb dX7_readOne_71 (by decide) ?_
        have q0_0 : (0 : Int32).toInt = 0 := rfl
        exact W.zret (v := 0) hx hb hr rfl (fun tt ht hW => ⟨0, rfl, (by first | rfl | omega | trivial | assumption), ht⟩) (fun _ h => by cases h) dX7_readOne_72
      ·
        have kc_6 : p1.toInt < (6 : Int) := i_nle c_6
        refine lv_iload_n hx hb dX7_readOne_53 rfl (lv_at hl 1 rfl) ?_
        refine lv_bipush (v := 33) hx hb dX7_readOne_54 (by decide) ?_
        refine lv_icmp_eq (tgt := 73) hx hb dX7_readOne_56 (by decide) (fun c_7 => ?_) (fun c_7 => ?_)
        ·
          have kc_7 : r_1.toInt = (33 : Int) := i_eq c_7
          exfalso; omega
        ·
          have kc_7 : r_1.toInt ≠ (33 : Int) := i_ne c_7
          refine lv_iload_n hx hb dX7_readOne_59 rfl (lv_at hl 1 rfl) ?_
          refine lv_bipush (v := 45) hx hb dX7_readOne_60 (by decide) ?_
          refine lv_icmp_eq (tgt := 73) hx hb dX7_readOne_62 (by decide) (fun c_8 => ?_) (fun c_8 => ?_)
          ·
            have kc_8 : r_1.toInt = (45 : Int) := i_eq c_8
            exfalso; omega
          ·
            have kc_8 : r_1.toInt ≠ (45 : Int) := i_ne c_8
            refine lv_iload_n hx hb dX7_readOne_65 rfl (lv_at hl 1 rfl) ?_
            refine lv_bipush (v := 40) hx hb dX7_readOne_66 (by decide) ?_
            refine lv_icmp_eq (tgt := 73) hx hb dX7_readOne_68 (by decide) (fun c_9 => ?_) (fun c_9 => ?_)
            ·
              have kc_9 : r_1.toInt = (40 : Int) := i_eq c_9
              exfalso; omega
            ·
              have kc_9 : r_1.toInt ≠ (40 : Int) := i_ne c_9
              refine lv_iconst (v := 0) hx hb dX7_readOne_71 (by decide) ?_
              have q0_0 : (0 : Int32).toInt = 0 := rfl
              exact W.zret (v := 0) hx hb hr rfl (fun tt ht hW => ⟨0, rfl, (by first | rfl | omega | trivial | assumption), ht⟩) (fun _ h => by cases h) dX7_readOne_72
    ·
      have kc_5 : r_4.toInt ≠ (-1 : Int) := i_ne c_5
      exfalso; omega
  ·
    have kc_3 : r_2.toInt ≠ (0 : Int) := i_ne c_3
    exfalso; omega
set_option maxHeartbeats 4000000 in
set_option maxRecDepth 100000 in
theorem k_F_X7_readProduct (l : Launch) (D : va_G) (cs : Nat → ClassId) (A : Nat → Prop) (ad fa fq rv : Nat → Nat) (v : Nat → Int32) (a : Nat → Nat → Int32) (w : Nat → Nat → Int64) (fv fp : Nat → Nat → Int32)  (p1 : Int32) (hF : FrC v a fv) (hr1 : v 24 = 0) (hr2 : v 25 = 0) : Met l yX7_readProduct (Cond.code yX7_readProduct cX7_readProduct 3 (some .boolean) :: gw) ({ frames := 2, cells := 0, slots := 0, locals := 43 }) (va_Pc [.ref (ad 10), .int p1] (XPre D (TY cs) (CW cs ad fa fq rv v a w fv fp) A)) (vp_Si (fun (r : Int32) => r.toInt = 0)) 0 0 (fun _ => False) := by
  refine Met.ofW (cc := cX7_readProduct) (maxL := 3) (ret := (some .boolean)) (by decide) rfl ?_
  intro p e s m args below meth c s₁ B hml hv
  obtain ⟨rfl, hP, hK, hD, hZ⟩ := hv
  have hx := B.exec
  have hb := B.bytes
  have hr := B.returns
  have hts := atoms_spec (ws := (Cond.code yX7_readProduct cX7_readProduct 3 (some .boolean) :: gw)) B.pre
  have hg : ∀ w ∈ gw, w.before ([.ref (ad 10), .int p1] : List Value).toArray s = true := fun w h => hts w (List.mem_cons_of_mem _ h)
  have hown : s.vm.findClass RX7 = some m.cls := findClass_of_methodNamed B.named
  have hlocks := B.notSynchronized
  have hS : va_S A s.heap s.heap [] := va_S.rf
  have hv1 : (v 1).toInt = 0 := by rw [hF.2.1]; rfl
  have hv21 : (v 21).toInt = 0 := by rw [hF.2.2.2.2.2.2.2.2.1]; rfl
  have hl := lv_entry ([.ref (ad 10), .int p1]) (n := 3) (Nat.le_of_ble_eq_true rfl)
  rw [lg_entry_eq]
  generalize (lg_sl ([.ref (ad 10), .int p1]) ++ List.replicate (3 - (lg_sl ([.ref (ad 10), .int p1])).length) Slot.unset).toArray = ls at hl ⊢
  have hl : lv_has ls 3 [(0, .ref (ad 10)), (1, .int p1)] := hl
  refine lv_aload_n hx hb dX7_readProduct_0 rfl (lv_at hl 0 rfl) ?_
  refine lv_iload_n hx hb dX7_readProduct_1 rfl (lv_at hl 1 rfl) ?_
  refine cV_ro (As := [.int p1]) (rest := []) ⟨hx, hb, hml, hown, hg⟩ (k_F_X7_readOne l D cs A ad fa fq rv v a w fv fp  p1 hF hr1 hr2) ca_X7_readOne q3_87 ⟨rfl, rfl⟩ ⟨Nat.le_of_ble_eq_true rfl, Nat.le_of_ble_eq_true rfl⟩ (rc_reader hK hP) hK hP hD hS hZ rfl hl.1 rfl (Nat.le_of_ble_eq_true rfl) ⟨Nat.zero_le _, Nat.zero_le _⟩ dX7_readProduct_2 (fun r_1 wr_1 => ?_)
  have wr_1 : r_1.toInt = 0 := wr_1
  refine lv_if_ne (tgt := 10) hx hb dX7_readProduct_5 (by decide) (fun c_2 => ?_) (fun c_2 => ?_)
  ·
    have kc_2 : r_1.toInt ≠ (0 : Int) := i_ne c_2
    exfalso; omega
  ·
    have kc_2 : r_1.toInt = (0 : Int) := i_eq c_2
    refine lv_iconst (v := 0) hx hb dX7_readProduct_8 (by decide) ?_
    have q0_0 : (0 : Int32).toInt = 0 := rfl
    exact W.zret (v := 0) hx hb hr rfl (fun tt ht hW => ⟨0, rfl, (by first | rfl | omega | trivial | assumption), ht⟩) (fun _ h => by cases h) dX7_readProduct_9
set_option maxHeartbeats 4000000 in
set_option maxRecDepth 100000 in
theorem k_F_X7_readSum (l : Launch) (D : va_G) (cs : Nat → ClassId) (A : Nat → Prop) (ad fa fq rv : Nat → Nat) (v : Nat → Int32) (a : Nat → Nat → Int32) (w : Nat → Nat → Int64) (fv fp : Nat → Nat → Int32)  (p1 : Int32) (hF : FrC v a fv) (hr1 : v 24 = 0) (hr2 : v 25 = 0) : Met l yX7_readSum (Cond.code yX7_readSum cX7_readSum 3 (some .boolean) :: gw) ({ frames := 3, cells := 0, slots := 0, locals := 65 }) (va_Pc [.ref (ad 10), .int p1] (XPre D (TY cs) (CW cs ad fa fq rv v a w fv fp) A)) (vp_Si (fun (r : Int32) => r.toInt = 0)) 0 0 (fun _ => False) := by
  refine Met.ofW (cc := cX7_readSum) (maxL := 3) (ret := (some .boolean)) (by decide) rfl ?_
  intro p e s m args below meth c s₁ B hml hv
  obtain ⟨rfl, hP, hK, hD, hZ⟩ := hv
  have hx := B.exec
  have hb := B.bytes
  have hr := B.returns
  have hts := atoms_spec (ws := (Cond.code yX7_readSum cX7_readSum 3 (some .boolean) :: gw)) B.pre
  have hg : ∀ w ∈ gw, w.before ([.ref (ad 10), .int p1] : List Value).toArray s = true := fun w h => hts w (List.mem_cons_of_mem _ h)
  have hown : s.vm.findClass RX7 = some m.cls := findClass_of_methodNamed B.named
  have hlocks := B.notSynchronized
  have hS : va_S A s.heap s.heap [] := va_S.rf
  have hv1 : (v 1).toInt = 0 := by rw [hF.2.1]; rfl
  have hv21 : (v 21).toInt = 0 := by rw [hF.2.2.2.2.2.2.2.2.1]; rfl
  have hl := lv_entry ([.ref (ad 10), .int p1]) (n := 3) (Nat.le_of_ble_eq_true rfl)
  rw [lg_entry_eq]
  generalize (lg_sl ([.ref (ad 10), .int p1]) ++ List.replicate (3 - (lg_sl ([.ref (ad 10), .int p1])).length) Slot.unset).toArray = ls at hl ⊢
  have hl : lv_has ls 3 [(0, .ref (ad 10)), (1, .int p1)] := hl
  refine lv_aload_n hx hb dX7_readSum_0 rfl (lv_at hl 0 rfl) ?_
  refine lv_iload_n hx hb dX7_readSum_1 rfl (lv_at hl 1 rfl) ?_
  refine cV_ro (As := [.int p1]) (rest := []) ⟨hx, hb, hml, hown, hg⟩ (k_F_X7_readProduct l D cs A ad fa fq rv v a w fv fp  p1 hF hr1 hr2) ca_X7_readProduct q3_83 ⟨rfl, rfl⟩ ⟨Nat.le_of_ble_eq_true rfl, Nat.le_of_ble_eq_true rfl⟩ (rc_reader hK hP) hK hP hD hS hZ rfl hl.1 rfl (Nat.le_of_ble_eq_true rfl) ⟨Nat.zero_le _, Nat.zero_le _⟩ dX7_readSum_2 (fun r_1 wr_1 => ?_)
  have wr_1 : r_1.toInt = 0 := wr_1
  refine lv_if_ne (tgt := 10) hx hb dX7_readSum_5 (by decide) (fun c_2 => ?_) (fun c_2 => ?_)
  ·
    have kc_2 : r_1.toInt ≠ (0 : Int) := i_ne c_2
    exfalso; omega
  ·
    have kc_2 : r_1.toInt = (0 : Int) := i_eq c_2
    refine lv_iconst (v := 0) hx hb dX7_readSum_8 (by decide) ?_
    have q0_0 : (0 : Int32).toInt = 0 := rfl
    exact W.zret (v := 0) hx hb hr rfl (fun tt ht hW => ⟨0, rfl, (by first | rfl | omega | trivial | assumption), ht⟩) (fun _ h => by cases h) dX7_readSum_9
set_option maxHeartbeats 4000000 in
set_option maxRecDepth 100000 in
theorem k_F_X7_readCompared (l : Launch) (D : va_G) (cs : Nat → ClassId) (A : Nat → Prop) (ad fa fq rv : Nat → Nat) (v : Nat → Int32) (a : Nat → Nat → Int32) (w : Nat → Nat → Int64) (fv fp : Nat → Nat → Int32)  (p1 : Int32) (hF : FrC v a fv) (hr1 : v 24 = 0) (hr2 : v 25 = 0) : Met l yX7_readCompared (Cond.code yX7_readCompared cX7_readCompared 3 (some .boolean) :: gw) ({ frames := 4, cells := 0, slots := 0, locals := 87 }) (va_Pc [.ref (ad 10), .int p1] (XPre D (TY cs) (CW cs ad fa fq rv v a w fv fp) A)) (vp_Si (fun (r : Int32) => r.toInt = 0)) 0 0 (fun _ => False) := by
  refine Met.ofW (cc := cX7_readCompared) (maxL := 3) (ret := (some .boolean)) (by decide) rfl ?_
  intro p e s m args below meth c s₁ B hml hv
  obtain ⟨rfl, hP, hK, hD, hZ⟩ := hv
  have hx := B.exec
  have hb := B.bytes
  have hr := B.returns
  have hts := atoms_spec (ws := (Cond.code yX7_readCompared cX7_readCompared 3 (some .boolean) :: gw)) B.pre
  have hg : ∀ w ∈ gw, w.before ([.ref (ad 10), .int p1] : List Value).toArray s = true := fun w h => hts w (List.mem_cons_of_mem _ h)
  have hown : s.vm.findClass RX7 = some m.cls := findClass_of_methodNamed B.named
  have hlocks := B.notSynchronized
  have hS : va_S A s.heap s.heap [] := va_S.rf
  have hv1 : (v 1).toInt = 0 := by rw [hF.2.1]; rfl
  have hv21 : (v 21).toInt = 0 := by rw [hF.2.2.2.2.2.2.2.2.1]; rfl
  have hl := lv_entry ([.ref (ad 10), .int p1]) (n := 3) (Nat.le_of_ble_eq_true rfl)
  rw [lg_entry_eq]
  generalize (lg_sl ([.ref (ad 10), .int p1]) ++ List.replicate (3 - (lg_sl ([.ref (ad 10), .int p1])).length) Slot.unset).toArray = ls at hl ⊢
  have hl : lv_has ls 3 [(0, .ref (ad 10)), (1, .int p1)] := hl
  refine lv_aload_n hx hb dX7_readCompared_0 rfl (lv_at hl 0 rfl) ?_
  refine lv_iload_n hx hb dX7_readCompared_1 rfl (lv_at hl 1 rfl) ?_
  refine cV_ro (As := [.int p1]) (rest := []) ⟨hx, hb, hml, hown, hg⟩ (k_F_X7_readSum l D cs A ad fa fq rv v a w fv fp  p1 hF hr1 hr2) ca_X7_readSum q3_79 ⟨rfl, rfl⟩ ⟨Nat.le_of_ble_eq_true rfl, Nat.le_of_ble_eq_true rfl⟩ (rc_reader hK hP) hK hP hD hS hZ rfl hl.1 rfl (Nat.le_of_ble_eq_true rfl) ⟨Nat.zero_le _, Nat.zero_le _⟩ dX7_readCompared_2 (fun r_1 wr_1 => ?_)
  have wr_1 : r_1.toInt = 0 := wr_1
  refine lv_if_ne (tgt := 10) hx hb dX7_readCompared_5 (by decide) (fun c_2 => ?_) (fun c_2 => ?_)
  ·
    have kc_2 : r_1.toInt ≠ (0 : Int) := i_ne c_2
    exfalso; omega
  ·
    have kc_2 : r_1.toInt = (0 : Int) := i_eq c_2
    refine lv_iconst (v := 0) hx hb dX7_readCompared_8 (by decide) ?_
    have q0_0 : (0 : Int32).toInt = 0 := rfl
    exact W.zret (v := 0) hx hb hr rfl (fun tt ht hW => ⟨0, rfl, (by first | rfl | omega | trivial | assumption), ht⟩) (fun _ h => by cases h) dX7_readCompared_9
set_option maxHeartbeats 4000000 in
set_option maxRecDepth 100000 in
theorem k_F_X7_readBoth (l : Launch) (D : va_G) (cs : Nat → ClassId) (A : Nat → Prop) (ad fa fq rv : Nat → Nat) (v : Nat → Int32) (a : Nat → Nat → Int32) (w : Nat → Nat → Int64) (fv fp : Nat → Nat → Int32)  (p1 : Int32) (hF : FrC v a fv) (hr1 : v 24 = 0) (hr2 : v 25 = 0) : Met l yX7_readBoth (Cond.code yX7_readBoth cX7_readBoth 2 (some .boolean) :: gw) ({ frames := 5, cells := 0, slots := 0, locals := 109 }) (va_Pc [.ref (ad 10), .int p1] (XPre D (TY cs) (CW cs ad fa fq rv v a w fv fp) A)) (vp_Si (fun (r : Int32) => r.toInt = 0)) 0 0 (fun _ => False) := by
  refine Met.ofW (cc := cX7_readBoth) (maxL := 2) (ret := (some .boolean)) (by decide) rfl ?_
  intro p e s m args below meth c s₁ B hml hv
  obtain ⟨rfl, hP, hK, hD, hZ⟩ := hv
  have hx := B.exec
  have hb := B.bytes
  have hr := B.returns
  have hts := atoms_spec (ws := (Cond.code yX7_readBoth cX7_readBoth 2 (some .boolean) :: gw)) B.pre
  have hg : ∀ w ∈ gw, w.before ([.ref (ad 10), .int p1] : List Value).toArray s = true := fun w h => hts w (List.mem_cons_of_mem _ h)
  have hown : s.vm.findClass RX7 = some m.cls := findClass_of_methodNamed B.named
  have hlocks := B.notSynchronized
  have hS : va_S A s.heap s.heap [] := va_S.rf
  have hv1 : (v 1).toInt = 0 := by rw [hF.2.1]; rfl
  have hv21 : (v 21).toInt = 0 := by rw [hF.2.2.2.2.2.2.2.2.1]; rfl
  have hl := lv_entry ([.ref (ad 10), .int p1]) (n := 2) (Nat.le_of_ble_eq_true rfl)
  rw [lg_entry_eq]
  generalize (lg_sl ([.ref (ad 10), .int p1]) ++ List.replicate (2 - (lg_sl ([.ref (ad 10), .int p1])).length) Slot.unset).toArray = ls at hl ⊢
  have hl : lv_has ls 2 [(0, .ref (ad 10)), (1, .int p1)] := hl
  refine lv_aload_n hx hb dX7_readBoth_0 rfl (lv_at hl 0 rfl) ?_
  refine lv_iload_n hx hb dX7_readBoth_1 rfl (lv_at hl 1 rfl) ?_
  refine cV_ro (As := [.int p1]) (rest := []) ⟨hx, hb, hml, hown, hg⟩ (k_F_X7_readCompared l D cs A ad fa fq rv v a w fv fp  p1 hF hr1 hr2) ca_X7_readCompared q3_75 ⟨rfl, rfl⟩ ⟨Nat.le_of_ble_eq_true rfl, Nat.le_of_ble_eq_true rfl⟩ (rc_reader hK hP) hK hP hD hS hZ rfl hl.1 rfl (Nat.le_of_ble_eq_true rfl) ⟨Nat.zero_le _, Nat.zero_le _⟩ dX7_readBoth_2 (fun r_1 wr_1 => ?_)
  have wr_1 : r_1.toInt = 0 := wr_1
  refine lv_if_ne (tgt := 10) hx hb dX7_readBoth_5 (by decide) (fun c_2 => ?_) (fun c_2 => ?_)
  ·
    have kc_2 : r_1.toInt ≠ (0 : Int) := i_ne c_2
    exfalso; omega
  ·
    have kc_2 : r_1.toInt = (0 : Int) := i_eq c_2
    refine lv_iconst (v := 0) hx hb dX7_readBoth_8 (by decide) ?_
    have q0_0 : (0 : Int32).toInt = 0 := rfl
    exact W.zret (v := 0) hx hb hr rfl (fun tt ht hW => ⟨0, rfl, (by first | rfl | omega | trivial | assumption), ht⟩) (fun _ h => by cases h) dX7_readBoth_9
set_option maxHeartbeats 4000000 in
set_option maxRecDepth 100000 in
theorem k_F_X7_readEither (l : Launch) (D : va_G) (cs : Nat → ClassId) (A : Nat → Prop) (ad fa fq rv : Nat → Nat) (v : Nat → Int32) (a : Nat → Nat → Int32) (w : Nat → Nat → Int64) (fv fp : Nat → Nat → Int32)  (p1 : Int32) (hF : FrC v a fv) (hr1 : v 24 = 0) (hr2 : v 25 = 0) : Met l yX7_readEither (Cond.code yX7_readEither cX7_readEither 2 (some .boolean) :: gw) ({ frames := 6, cells := 0, slots := 0, locals := 130 }) (va_Pc [.ref (ad 10), .int p1] (XPre D (TY cs) (CW cs ad fa fq rv v a w fv fp) A)) (vp_Si (fun (r : Int32) => r.toInt = 0)) 0 0 (fun _ => False) := by
  refine Met.ofW (cc := cX7_readEither) (maxL := 2) (ret := (some .boolean)) (by decide) rfl ?_
  intro p e s m args below meth c s₁ B hml hv
  obtain ⟨rfl, hP, hK, hD, hZ⟩ := hv
  have hx := B.exec
  have hb := B.bytes
  have hr := B.returns
  have hts := atoms_spec (ws := (Cond.code yX7_readEither cX7_readEither 2 (some .boolean) :: gw)) B.pre
  have hg : ∀ w ∈ gw, w.before ([.ref (ad 10), .int p1] : List Value).toArray s = true := fun w h => hts w (List.mem_cons_of_mem _ h)
  have hown : s.vm.findClass RX7 = some m.cls := findClass_of_methodNamed B.named
  have hlocks := B.notSynchronized
  have hS : va_S A s.heap s.heap [] := va_S.rf
  have hv1 : (v 1).toInt = 0 := by rw [hF.2.1]; rfl
  have hv21 : (v 21).toInt = 0 := by rw [hF.2.2.2.2.2.2.2.2.1]; rfl
  have hl := lv_entry ([.ref (ad 10), .int p1]) (n := 2) (Nat.le_of_ble_eq_true rfl)
  rw [lg_entry_eq]
  generalize (lg_sl ([.ref (ad 10), .int p1]) ++ List.replicate (2 - (lg_sl ([.ref (ad 10), .int p1])).length) Slot.unset).toArray = ls at hl ⊢
  have hl : lv_has ls 2 [(0, .ref (ad 10)), (1, .int p1)] := hl
  refine lv_aload_n hx hb dX7_readEither_0 rfl (lv_at hl 0 rfl) ?_
  refine lv_iload_n hx hb dX7_readEither_1 rfl (lv_at hl 1 rfl) ?_
  refine cV_ro (As := [.int p1]) (rest := []) ⟨hx, hb, hml, hown, hg⟩ (k_F_X7_readBoth l D cs A ad fa fq rv v a w fv fp  p1 hF hr1 hr2) ca_X7_readBoth q3_71 ⟨rfl, rfl⟩ ⟨Nat.le_of_ble_eq_true rfl, Nat.le_of_ble_eq_true rfl⟩ (rc_reader hK hP) hK hP hD hS hZ rfl hl.1 rfl (Nat.le_of_ble_eq_true rfl) ⟨Nat.zero_le _, Nat.zero_le _⟩ dX7_readEither_2 (fun r_1 wr_1 => ?_)
  have wr_1 : r_1.toInt = 0 := wr_1
  refine lv_if_ne (tgt := 10) hx hb dX7_readEither_5 (by decide) (fun c_2 => ?_) (fun c_2 => ?_)
  ·
    have kc_2 : r_1.toInt ≠ (0 : Int) := i_ne c_2
    exfalso; omega
  ·
    have kc_2 : r_1.toInt = (0 : Int) := i_eq c_2
    refine lv_iconst (v := 0) hx hb dX7_readEither_8 (by decide) ?_
    have q0_0 : (0 : Int32).toInt = 0 := rfl
    exact W.zret (v := 0) hx hb hr rfl (fun tt ht hW => ⟨0, rfl, (by first | rfl | omega | trivial | assumption), ht⟩) (fun _ h => by cases h) dX7_readEither_9
set_option maxHeartbeats 4000000 in
set_option maxRecDepth 100000 in
theorem k_F_X7_readLine (l : Launch) (D : va_G) (cs : Nat → ClassId) (A : Nat → Prop) (ad fa fq rv : Nat → Nat) (v : Nat → Int32) (a : Nat → Nat → Int32) (w : Nat → Nat → Int64) (fv fp : Nat → Nat → Int32)   (hF : FrC v a fv) (hr1 : v 24 = 0) (hr2 : v 25 = 0) : Met l yX7_readLine (Cond.code yX7_readLine cX7_readLine 2 (some .boolean) :: gw) ({ frames := 7, cells := 0, slots := 0, locals := 151 }) (va_Pc [.ref (ad 10)] (XPre D (TY cs) (CW cs ad fa fq rv v a w fv fp) A)) (vp_Si (fun (r : Int32) => r.toInt = 0)) 0 0 (fun _ => False) := by
  refine Met.ofW (cc := cX7_readLine) (maxL := 2) (ret := (some .boolean)) (by decide) rfl ?_
  intro p e s m args below meth c s₁ B hml hv
  obtain ⟨rfl, hP, hK, hD, hZ⟩ := hv
  have hx := B.exec
  have hb := B.bytes
  have hr := B.returns
  have hts := atoms_spec (ws := (Cond.code yX7_readLine cX7_readLine 2 (some .boolean) :: gw)) B.pre
  have hg : ∀ w ∈ gw, w.before ([.ref (ad 10)] : List Value).toArray s = true := fun w h => hts w (List.mem_cons_of_mem _ h)
  have hown : s.vm.findClass RX7 = some m.cls := findClass_of_methodNamed B.named
  have hlocks := B.notSynchronized
  have hS : va_S A s.heap s.heap [] := va_S.rf
  have hv1 : (v 1).toInt = 0 := by rw [hF.2.1]; rfl
  have hv21 : (v 21).toInt = 0 := by rw [hF.2.2.2.2.2.2.2.2.1]; rfl
  have hl := lv_entry ([.ref (ad 10)]) (n := 2) (Nat.le_of_ble_eq_true rfl)
  rw [lg_entry_eq]
  generalize (lg_sl ([.ref (ad 10)]) ++ List.replicate (2 - (lg_sl ([.ref (ad 10)])).length) Slot.unset).toArray = ls at hl ⊢
  have hl : lv_has ls 2 [(0, .ref (ad 10))] := hl
  refine lv_aload_n hx hb dX7_readLine_0 rfl (lv_at hl 0 rfl) ?_
  refine lv_iconst (v := 0) hx hb dX7_readLine_1 (by decide) ?_
  refine cV_ro (As := [.int 0]) (rest := []) ⟨hx, hb, hml, hown, hg⟩ (k_F_X7_readEither l D cs A ad fa fq rv v a w fv fp  0 hF hr1 hr2) ca_X7_readEither q3_67 ⟨rfl, rfl⟩ ⟨Nat.le_of_ble_eq_true rfl, Nat.le_of_ble_eq_true rfl⟩ (rc_reader hK hP) hK hP hD hS hZ rfl hl.1 rfl (Nat.le_of_ble_eq_true rfl) ⟨Nat.zero_le _, Nat.zero_le _⟩ dX7_readLine_2 (fun r_1 wr_1 => ?_)
  have wr_1 : r_1.toInt = 0 := wr_1
  refine lv_if_ne (tgt := 10) hx hb dX7_readLine_5 (by decide) (fun c_2 => ?_) (fun c_2 => ?_)
  ·
    have kc_2 : r_1.toInt ≠ (0 : Int) := i_ne c_2
    exfalso; omega
  ·
    have kc_2 : r_1.toInt = (0 : Int) := i_eq c_2
    refine lv_iconst (v := 0) hx hb dX7_readLine_8 (by decide) ?_
    have q0_0 : (0 : Int32).toInt = 0 := rfl
    exact W.zret (v := 0) hx hb hr rfl (fun tt ht hW => ⟨0, rfl, (by first | rfl | omega | trivial | assumption), ht⟩) (fun _ h => by cases h) dX7_readLine_9
set_option maxHeartbeats 4000000 in
set_option maxRecDepth 100000 in
theorem k_F_X7_read (l : Launch) (D : va_G) (cs : Nat → ClassId) (A : Nat → Prop) (ad fa fq rv : Nat → Nat) (v : Nat → Int32) (a : Nat → Nat → Int32) (w : Nat → Nat → Int64) (fv fp : Nat → Nat → Int32)  (p2 : Int32) (hF : FrC v a fv) (hp2 : p2 = 0) : Met l yX7_read (Cond.code yX7_read cX7_read 5 (some .boolean) :: gw) ({ frames := 8, cells := 0, slots := 0, locals := 172 }) (va_Pc [.ref (ad 10), .ref (ad 15), .int p2, .ref (ad 19)] (XPre D (TY cs) (CW cs ad fa fq rv v a w fv fp) A)) (va_Qi (fun (r : Int32) (z : Nat × Nat × Int32 × Int32 × Int32) => (r.toInt = 0) ∧ (z.2.2.2.1.toInt = 0)) (XPo D (fun (z : Nat × Nat × Int32 × Int32 × Int32) => CW cs ad fa fq (va_up (va_up rv 0 z.1) 1 z.2.1) (va_up (va_up (va_up v 24 z.2.2.1) 25 z.2.2.2.1) 26 z.2.2.2.2) a w fv fp) A) A) 0 0 A := by
  refine Met.ofW (cc := cX7_read) (maxL := 5) (ret := (some .boolean)) (by decide) rfl ?_
  intro p e s m args below meth c s₁ B hml hv
  obtain ⟨rfl, hP, hK, hD, hZ⟩ := hv
  have hx := B.exec
  have hb := B.bytes
  have hr := B.returns
  have hts := atoms_spec (ws := (Cond.code yX7_read cX7_read 5 (some .boolean) :: gw)) B.pre
  have hg : ∀ w ∈ gw, w.before ([.ref (ad 10), .ref (ad 15), .int p2, .ref (ad 19)] : List Value).toArray s = true := fun w h => hts w (List.mem_cons_of_mem _ h)
  have hown : s.vm.findClass RX7 = some m.cls := findClass_of_methodNamed B.named
  have hlocks := B.notSynchronized
  have hS : va_S A s.heap s.heap [] := va_S.rf
  have hP : va_P D vwCl (CW cs ad fa fq rv v a w fv fp) s.heap := hP
  have hv1 : (v 1).toInt = 0 := by rw [hF.2.1]; rfl
  have hv21 : (v 21).toInt = 0 := by rw [hF.2.2.2.2.2.2.2.2.1]; rfl
  have kp2 : p2.toInt = 0 := by rw [hp2]; rfl
  have hl := lv_entry ([.ref (ad 10), .ref (ad 15), .int p2, .ref (ad 19)]) (n := 5) (Nat.le_of_ble_eq_true rfl)
  rw [lg_entry_eq]
  generalize (lg_sl ([.ref (ad 10), .ref (ad 15), .int p2, .ref (ad 19)]) ++ List.replicate (5 - (lg_sl ([.ref (ad 10), .ref (ad 15), .int p2, .ref (ad 19)])).length) Slot.unset).toArray = ls at hl ⊢
  have hl : lv_has ls 5 [(0, .ref (ad 10)), (1, .ref (ad 15)), (2, .int p2), (3, .ref (ad 19))] := hl
  refine lv_aload_n hx hb dX7_read_0 rfl (lv_at hl 0 rfl) ?_
  refine lv_aload_n hx hb dX7_read_1 rfl (lv_at hl 1 rfl) ?_
  refine pf_reader_text hx hb hg hown hK hP hD hS (hg _ q1_154) dX7_read_2 (fun H locs hP hD hS => ?_)
  refine lv_aload_n hx hb dX7_read_5 rfl (lv_at hl 0 rfl) ?_
  refine lv_iload_n hx hb dX7_read_6 rfl (lv_at hl 2 rfl) ?_
  refine lv_aload_n hx hb dX7_read_7 rfl (lv_at hl 1 rfl) ?_
  refine al_Ltape hx hb hK hP dX7_read_8 ?_
  refine va_mmin hx hb (hml.trans hl.1.symm) hown (hg _ q3_60) (hg _ q3_61) (hg _ q1_16) (hg _ q3_62) (Nat.le_of_ble_eq_true rfl) (Nat.le_of_ble_eq_true rfl) (Nat.zero_le _) (Nat.zero_le _) dX7_read_9 ?_
  refine lv_topi (fun x_1 ex_1 => ?_)
  have fx_1 := i_min ex_1
  have fx_1 : ((120 : Int) ≤ p2.toInt ∧ x_1.toInt = (120 : Int)) ∨ (p2.toInt ≤ (120 : Int) ∧ x_1.toInt = p2.toInt) := fx_1
  refine pf_reader_length hx hb hg hown hK hP hD hS (hg _ q1_156) dX7_read_12 (fun H locs hP hD hS => ?_)
  refine lv_aload_n hx hb dX7_read_15 rfl (lv_at hl 0 rfl) ?_
  refine lv_aload_n hx hb dX7_read_16 rfl (lv_at hl 3 rfl) ?_
  refine pf_reader_code hx hb hg hown hK hP hD hS (hg _ q1_155) dX7_read_17 (fun H locs hP hD hS => ?_)
  refine lv_aload_n hx hb dX7_read_20 rfl (lv_at hl 0 rfl) ?_
  refine lv_iconst (v := 0) hx hb dX7_read_21 (by decide) ?_
  refine pf_reader_at hx hb hg hown hK hP hD hS (hg _ q1_157) dX7_read_22 (fun H locs hP hD hS => ?_)
  refine lv_aload_n hx hb dX7_read_25 rfl (lv_at hl 0 rfl) ?_
  refine lv_iconst (v := 0) hx hb dX7_read_26 (by decide) ?_
  refine pf_reader_size hx hb hg hown hK hP hD hS (hg _ q1_159) dX7_read_27 (fun H locs hP hD hS => ?_)
  refine lv_iconst (v := 0) hx hb dX7_read_30 (by decide) ?_
  refine lv_istore (lv' := [(4, .int 0), (0, .ref (ad 10)), (1, .ref (ad 15)), (2, .int p2), (3, .ref (ad 19))]) hx hb dX7_read_31 hl (by decide) rfl (fun ls hl => ?_)
  refine lv_iload hx hb dX7_read_33 (lv_at hl 0 rfl) ?_
  refine lv_aload_n hx hb dX7_read_35 rfl (lv_at hl 1 rfl) ?_
  refine gf_reader_length hx hb hg hown hK hP (x := x_1) rfl (hg _ q1_156) dX7_read_36 ?_
  refine lv_icmp_gt (tgt := 81) hx hb dX7_read_39 (by decide) (fun c_2 => ?_) (fun c_2 => ?_)
  ·
    have kc_2 : x_1.toInt < (0 : Int) := i_lt c_2
    exfalso; omega
  ·
    have kc_2 : (0 : Int) ≤ x_1.toInt := i_nlt c_2
    refine lv_aload_n hx hb dX7_read_42 rfl (lv_at hl 1 rfl) ?_
    have hz24 : x_1 = 0 := i_inj (by have q : (0 : Int32).toInt = 0 := rfl; omega)
    refine cV_ro (As := []) (rest := []) ⟨hx, hb, hml, hown, hg⟩ (k_F_X7_readLine l D cs A ad fa fq (va_up (va_up rv 0 (ad 15)) 1 (ad 19)) (va_up (va_up (va_up v 24 x_1) 25 0) 26 0) a w fv fp   hF hz24 rfl) ca_X7_readLine q3_63 ⟨rfl, rfl⟩ ⟨Nat.le_of_ble_eq_true rfl, Nat.le_of_ble_eq_true rfl⟩ (rc_reader hK hP) hK hP hD hS hZ rfl hl.1 rfl (Nat.le_of_ble_eq_true rfl) ⟨Nat.zero_le _, Nat.zero_le _⟩ dX7_read_43 (fun r_3 wr_3 => ?_)
    have wr_3 : r_3.toInt = 0 := wr_3
    refine lv_if_ne (tgt := 51) hx hb dX7_read_46 (by decide) (fun c_4 => ?_) (fun c_4 => ?_)
    ·
      have kc_4 : r_3.toInt ≠ (0 : Int) := i_ne c_4
      exfalso; omega
    ·
      have kc_4 : r_3.toInt = (0 : Int) := i_eq c_4
      refine lv_iconst (v := 0) hx hb dX7_read_49 (by decide) ?_
      have q0_0 : (0 : Int32).toInt = 0 := rfl
      have q0_0 : (0 : Int32).toInt = 0 := rfl
      have q0_0 : (0 : Int32).toInt = 0 := rfl
      exact W.zret (v := 0) hx hb hr rfl (fun tt ht hW => ⟨⟨0, ⟨(ad 15), (ad 19), x_1, 0, 0⟩, rfl, ⟨(by first | rfl | omega | trivial | assumption), (by first | rfl | omega | trivial | assumption)⟩, by rw [ht]; exact hP, hD⟩, hS.F ht⟩) hS.2.2 dX7_read_50
set_option maxHeartbeats 4000000 in
set_option maxRecDepth 100000 in
theorem k_F_X6_takeText (l : Launch) (D : va_G) (cs : Nat → ClassId) (A : Nat → Prop) (ad fa fq rv : Nat → Nat) (v : Nat → Int32) (a : Nat → Nat → Int32) (w : Nat → Nat → Int64) (fv fp : Nat → Nat → Int32)   (hF : FrC v a fv) : Met l yX6_takeText (Cond.code yX6_takeText cX6_takeText 3 (some .int) :: gw) ({ frames := 9, cells := 0, slots := 0, locals := 196 }) (va_Pc [.ref (ad 2)] (XPre D (TY cs) (CW cs ad fa fq rv v a w fv fp) A)) (va_Qi (fun (r : Int32) (z : Nat × Nat × Int32 × Int32 × Int32 × Int32) => r.toInt = -100) (XPo D (fun (z : Nat × Nat × Int32 × Int32 × Int32 × Int32) => CW cs ad fa fq (va_up (va_up rv 0 z.1) 1 z.2.1) (va_up (va_up (va_up (va_up v 24 z.2.2.1) 25 z.2.2.2.1) 26 z.2.2.2.2.1) 4 z.2.2.2.2.2) a w fv fp) A) A) 0 0 A := by
  refine Met.ofW (cc := cX6_takeText) (maxL := 3) (ret := (some .int)) (by decide) rfl ?_
  intro p e s m args below meth c s₁ B hml hv
  obtain ⟨rfl, hP, hK, hD, hZ⟩ := hv
  have hx := B.exec
  have hb := B.bytes
  have hr := B.returns
  have hts := atoms_spec (ws := (Cond.code yX6_takeText cX6_takeText 3 (some .int) :: gw)) B.pre
  have hg : ∀ w ∈ gw, w.before ([.ref (ad 2)] : List Value).toArray s = true := fun w h => hts w (List.mem_cons_of_mem _ h)
  have hown : s.vm.findClass RX6 = some m.cls := findClass_of_methodNamed B.named
  have hlocks := B.notSynchronized
  have hS : va_S A s.heap s.heap [] := va_S.rf
  have hP : va_P D vwCl (CW cs ad fa fq rv v a w fv fp) s.heap := hP
  have hv1 : (v 1).toInt = 0 := by rw [hF.2.1]; rfl
  have hv21 : (v 21).toInt = 0 := by rw [hF.2.2.2.2.2.2.2.2.1]; rfl
  have hl := lv_entry ([.ref (ad 2)]) (n := 3) (Nat.le_of_ble_eq_true rfl)
  rw [lg_entry_eq]
  generalize (lg_sl ([.ref (ad 2)]) ++ List.replicate (3 - (lg_sl ([.ref (ad 2)])).length) Slot.unset).toArray = ls at hl ⊢
  have hl : lv_has ls 3 [(0, .ref (ad 2))] := hl
  refine lv_aload_n hx hb dX6_takeText_0 rfl (lv_at hl 0 rfl) ?_
  refine gf_rules_reader hx hb hg hown hK hP rfl (hg _ q1_175) dX6_takeText_1 ?_
  refine lv_aload_n hx hb dX6_takeText_4 rfl (lv_at hl 0 rfl) ?_
  refine gf_rules_tape hx hb hg hown hK hP rfl (hg _ q1_172) dX6_takeText_5 ?_
  refine lv_aload_n hx hb dX6_takeText_8 rfl (lv_at hl 0 rfl) ?_
  refine gf_rules_fed hx hb hg hown hK hP (x := 0) hF.2.2.2.2.1 (hg _ q1_173) dX6_takeText_9 ?_
  refine lv_aload_n hx hb dX6_takeText_12 rfl (lv_at hl 0 rfl) ?_
  refine gf_rules_spare hx hb hg hown hK hP rfl (hg _ q1_179) dX6_takeText_13 ?_
  refine cV_i (As := [.ref (ad 15), .int 0, .ref (ad 19)]) (rest := []) ⟨hx, hb, hml, hown, hg⟩ (k_F_X7_read l D cs A ad fa fq rv v a w fv fp  0 hF (show (0 : Int32) = 0 by first | omega | decide)) ca_X7_read q3_56 ⟨rfl, rfl⟩ ⟨Nat.le_of_ble_eq_true rfl, Nat.le_of_ble_eq_true rfl⟩ (rc_reader hK hP) hK hP hD hS hZ rfl hl.1 rfl (Nat.le_of_ble_eq_true rfl) ⟨Nat.zero_le _, Nat.zero_le _⟩ dX6_takeText_16 (fun r_1 z_7 H locs wr_1 hP hD hS => ?_)
  obtain ⟨q0_2, q1_3, len_4, at__5, siz_6⟩ := z_7
  have hP : va_P D vwCl (CW cs ad fa fq (va_up (va_up rv 0 q0_2) 1 q1_3) (va_up (va_up (va_up v 24 len_4) 25 at__5) 26 siz_6) a w fv fp) H := hP
  have hD : va_D A (CW cs ad fa fq (va_up (va_up rv 0 q0_2) 1 q1_3) (va_up (va_up (va_up v 24 len_4) 25 at__5) 26 siz_6) a w fv fp) := hD
  obtain ⟨wr_1_0, wr_1_1⟩ : (r_1.toInt = 0) ∧ (at__5.toInt = 0) := wr_1
  refine lv_istore_n (lv' := [(1, .int r_1), (0, .ref (ad 2))]) hx hb dX6_takeText_19 rfl hl (by decide) rfl (fun ls hl => ?_)
  refine lv_aload_n hx hb dX6_takeText_20 rfl (lv_at hl 1 rfl) ?_
  refine lv_iconst (v := 0) hx hb dX6_takeText_21 (by decide) ?_
  refine pf_rules_fed hx hb hg hown hK hP hD hS (hg _ q1_173) dX6_takeText_22 (fun H locs hP hD hS => ?_)
  refine lv_iload_n hx hb dX6_takeText_25 rfl (lv_at hl 0 rfl) ?_
  refine lv_if_ne (tgt := 40) hx hb dX6_takeText_26 (by decide) (fun c_8 => ?_) (fun c_8 => ?_)
  ·
    have kc_8 : r_1.toInt ≠ (0 : Int) := i_ne c_8
    exfalso; omega
  ·
    have kc_8 : r_1.toInt = (0 : Int) := i_eq c_8
    refine lv_bipush (v := (-100)) hx hb dX6_takeText_29 (by decide) ?_
    refine lv_aload_n hx hb dX6_takeText_31 rfl (lv_at hl 1 rfl) ?_
    refine gf_rules_reader hx hb hg hown hK hP rfl (hg _ q1_175) dX6_takeText_32 ?_
    refine gf_reader_at hx hb hg hown hK hP (x := at__5) rfl (hg _ q1_158) dX6_takeText_35 ?_
    refine lv_isub hx hb dX6_takeText_38 ?_
    refine lv_topi (fun x_9 ex_9 => ?_)
    have fx_9 : x_9.toInt = (-100 : Int) - at__5.toInt := by rw [ex_9]; exact i_sub (by first | omega | (show (_ : Int) ≤ (-100 : Int) - at__5.toInt; omega)) (by first | omega | (show (-100 : Int) - at__5.toInt ≤ (_ : Int); omega))
    have q0_0 : (0 : Int32).toInt = 0 := rfl
    exact W.iret (v := x_9) hx hb hr (fun tt ht hW => ⟨⟨x_9, ⟨q0_2, q1_3, len_4, at__5, siz_6, 0⟩, rfl, (by first | rfl | omega | trivial | assumption), by rw [ht]; exact hP, hD⟩, hS.F ht⟩) hS.2.2 dX6_takeText_39
set_option maxHeartbeats 4000000 in
set_option maxRecDepth 100000 in
theorem k_F_X11_person (l : Launch) (D : va_G) (cs : Nat → ClassId) (A : Nat → Prop) (ad fa fq rv : Nat → Nat) (v : Nat → Int32) (a : Nat → Nat → Int32) (w : Nat → Nat → Int64) (fv fp : Nat → Nat → Int32)  (p1 : Int32) (hF : FrC v a fv) : Met l yX11_person (Cond.code yX11_person cX11_person 2 (some .int) :: gw) ({ frames := 5, cells := 0, slots := 0, locals := 114 }) (va_Pc [.ref (ad 0), .int p1] (XPre D (TY cs) (CW cs ad fa fq rv v a w fv fp) A)) (va_Qi (fun (r : Int32) (z : Int32 × (Nat → Int32) × (Nat → Int32) × (Nat → Int32) × (Nat → Int32) × (Nat → Int32)) => ((0 ≤ p1.toInt ∧ p1.toInt < 256) ∧ r.toInt = 0) ∨ (¬ (0 ≤ p1.toInt ∧ p1.toInt < 256) ∧ r.toInt = -1)) (XPo D (fun (z : Int32 × (Nat → Int32) × (Nat → Int32) × (Nat → Int32) × (Nat → Int32) × (Nat → Int32)) => CW cs ad fa fq rv (va_up v 1 z.1) (va_up (va_up (va_up (va_up a 11 z.2.1) 12 z.2.2.1) 13 z.2.2.2.1) 14 z.2.2.2.2.1) w fv (va_up fp 14 z.2.2.2.2.2)) A) A) 0 0 A := by
  refine Met.ofW (cc := cX11_person) (maxL := 2) (ret := (some .int)) (by decide) rfl ?_
  intro p e s m args below meth c s₁ B hml hv
  obtain ⟨rfl, hP, hK, hD, hZ⟩ := hv
  have hx := B.exec
  have hb := B.bytes
  have hr := B.returns
  have hts := atoms_spec (ws := (Cond.code yX11_person cX11_person 2 (some .int) :: gw)) B.pre
  have hg : ∀ w ∈ gw, w.before ([.ref (ad 0), .int p1] : List Value).toArray s = true := fun w h => hts w (List.mem_cons_of_mem _ h)
  have hown : s.vm.findClass RX11 = some m.cls := findClass_of_methodNamed B.named
  have hlocks := B.notSynchronized
  have hS : va_S A s.heap s.heap [] := va_S.rf
  have hP : va_P D vwCl (CW cs ad fa fq rv v a w fv fp) s.heap := hP
  have hv1 : (v 1).toInt = 0 := by rw [hF.2.1]; rfl
  have hv21 : (v 21).toInt = 0 := by rw [hF.2.2.2.2.2.2.2.2.1]; rfl
  have hl := lv_entry ([.ref (ad 0), .int p1]) (n := 2) (Nat.le_of_ble_eq_true rfl)
  rw [lg_entry_eq]
  generalize (lg_sl ([.ref (ad 0), .int p1]) ++ List.replicate (2 - (lg_sl ([.ref (ad 0), .int p1])).length) Slot.unset).toArray = ls at hl ⊢
  have hl : lv_has ls 2 [(0, .ref (ad 0)), (1, .int p1)] := hl
  refine lv_iload_n hx hb dX11_person_0 rfl (lv_at hl 1 rfl) ?_
  refine cS_p (As := [.int p1]) (rest := []) ⟨hx, hb, hml, hown, hg⟩ (k_X11_isCell l   p1 ) ca_X11_isCell q2_173 ⟨rfl, rfl⟩ ⟨Nat.le_of_ble_eq_true rfl, Nat.le_of_ble_eq_true rfl⟩ rfl hl.1 rfl (Nat.le_of_ble_eq_true rfl) ⟨Nat.zero_le _, Nat.zero_le _⟩ dX11_person_1 (fun r_1 wr_1 => ?_)
  have wr_1 : (r_1.toInt = 1 ∧ 0 ≤ p1.toInt ∧ p1.toInt < 256) ∨ (r_1.toInt = 0 ∧ ¬ (0 ≤ p1.toInt ∧ p1.toInt < 256)) := wr_1
  refine lv_if_ne (tgt := 9) hx hb dX11_person_4 (by decide) (fun c_2 => ?_) (fun c_2 => ?_)
  ·
    have kc_2 : r_1.toInt ≠ (0 : Int) := i_ne c_2
    refine lv_aload_n hx hb dX11_person_9 rfl (lv_at hl 0 rfl) ?_
    refine gf_main_parish hx hb hg hown hK hP rfl (hg _ q2_123) dX11_person_10 ?_
    refine gf_parish_people hx hb hg hown hK hP (x := 0) hF.2.1 (hg _ q1_109) dX11_person_13 ?_
    refine lv_bipush (v := 8) hx hb dX11_person_16 (by decide) ?_
    refine lv_icmp_lt (tgt := 24) hx hb dX11_person_18 (by decide) (fun c_3 => ?_) (fun c_3 => absurd c_3 (by decide))
    refine lv_aload_n hx hb dX11_person_24 rfl (lv_at hl 0 rfl) ?_
    refine lv_iload_n hx hb dX11_person_25 rfl (lv_at hl 1 rfl) ?_
    refine lv_bipush (v := 6) hx hb dX11_person_26 (by decide) ?_
    refine lv_iconst (v := 0) hx hb dX11_person_28 (by decide) ?_
    refine cV_i (As := [.int p1, .int 6, .int 0]) (rest := []) ⟨hx, hb, hml, hown, hg⟩ (k_X11_join l D cs A ad fa fq rv v a w fv fp  p1 6 0 (show 0 ≤ (v 1).toInt by first | omega | decide) (show (v 1).toInt ≤ 7 by first | omega | decide)) ca_X11_join q2_176 ⟨rfl, rfl⟩ ⟨Nat.le_of_ble_eq_true rfl, Nat.le_of_ble_eq_true rfl⟩ (rc_main hK hP) hK hP hD hS hZ rfl hl.1 rfl (Nat.le_of_ble_eq_true rfl) ⟨Nat.zero_le _, Nat.zero_le _⟩ dX11_person_29 (fun r_4 z_11 H locs wr_4 hP hD hS => ?_)
    obtain ⟨pn_5, gcell_6, gcheek_7, gpay_8, gnear_9, gpads_10⟩ := z_11
    have hP : va_P D vwCl (CW cs ad fa fq rv (va_up v 1 pn_5) (va_up (va_up (va_up (va_up a 11 gcell_6) 12 gcheek_7) 13 gpay_8) 14 gnear_9) w fv (va_up fp 14 gpads_10)) H := hP
    have hD : va_D A (CW cs ad fa fq rv (va_up v 1 pn_5) (va_up (va_up (va_up (va_up a 11 gcell_6) 12 gcheek_7) 13 gpay_8) 14 gnear_9) w fv (va_up fp 14 gpads_10)) := hD
    obtain ⟨wr_4_0, wr_4_1⟩ : (r_4.toInt = (v 1).toInt) ∧ (pn_5.toInt = (v 1).toInt + 1) := wr_4
    exact W.iret (v := r_4) hx hb hr (fun tt ht hW => ⟨⟨r_4, ⟨pn_5, gcell_6, gcheek_7, gpay_8, gnear_9, gpads_10⟩, rfl, (by first | rfl | omega | trivial | assumption), by rw [ht]; exact hP, hD⟩, hS.F ht⟩) hS.2.2 dX11_person_32
  ·
    have kc_2 : r_1.toInt = (0 : Int) := i_eq c_2
    refine lv_iconst (v := (-1)) hx hb dX11_person_7 (by decide) ?_
    have q0_m1 : ((-1) : Int32).toInt = (-1) := rfl
    have hP : va_P D vwCl (CW cs ad fa fq rv (va_up v 1 (v 1)) (va_up (va_up (va_up (va_up a 11 (a 11)) 12 (a 12)) 13 (a 13)) 14 (a 14)) w fv (va_up fp 14 (fp 14))) _ := hP
    have hD : va_D A (CW cs ad fa fq rv (va_up v 1 (v 1)) (va_up (va_up (va_up (va_up a 11 (a 11)) 12 (a 12)) 13 (a 13)) 14 (a 14)) w fv (va_up fp 14 (fp 14))) := hD
    exact W.iret (v := (-1)) hx hb hr (fun tt ht hW => ⟨⟨(-1), ⟨(v 1), (a 11), (a 12), (a 13), (a 14), (fp 14)⟩, rfl, (by first | rfl | omega | trivial | assumption), by rw [ht]; exact hP, hD⟩, hS.F ht⟩) hS.2.2 dX11_person_8
set_option maxHeartbeats 4000000 in
set_option maxRecDepth 100000 in
theorem k_F_X11_people (l : Launch) (D : va_G) (cs : Nat → ClassId) (A : Nat → Prop) (ad fa fq rv : Nat → Nat) (v : Nat → Int32) (a : Nat → Nat → Int32) (w : Nat → Nat → Int64) (fv fp : Nat → Nat → Int32)  (p1 : Int32) (p2 : Int32) (p3 : Int32) (hF : FrC v a fv) : Met l yX11_people (Cond.code yX11_people cX11_people 5 (some .int) :: gw) ({ frames := 1, cells := 0, slots := 0, locals := 21 }) (va_Pc [.ref (ad 0), .int p1, .int p2, .int p3] (XPre D (TY cs) (CW cs ad fa fq rv v a w fv fp) A)) (vp_Si (fun (r : Int32) => ((0 ≤ p1.toInt ∧ p1.toInt < 6 ∧ 1 ≤ p3.toInt ∧ p3.toInt ≤ 8) ∧ r.toInt = 0) ∨ (¬ (0 ≤ p1.toInt ∧ p1.toInt < 6 ∧ 1 ≤ p3.toInt ∧ p3.toInt ≤ 8) ∧ r.toInt = -1))) 0 0 (fun _ => False) := by
  refine Met.ofW (cc := cX11_people) (maxL := 5) (ret := (some .int)) (by decide) rfl ?_
  intro p e s m args below meth c s₁ B hml hv
  obtain ⟨rfl, hP, hK, hD, hZ⟩ := hv
  have hx := B.exec
  have hb := B.bytes
  have hr := B.returns
  have hts := atoms_spec (ws := (Cond.code yX11_people cX11_people 5 (some .int) :: gw)) B.pre
  have hg : ∀ w ∈ gw, w.before ([.ref (ad 0), .int p1, .int p2, .int p3] : List Value).toArray s = true := fun w h => hts w (List.mem_cons_of_mem _ h)
  have hown : s.vm.findClass RX11 = some m.cls := findClass_of_methodNamed B.named
  have hlocks := B.notSynchronized
  have hS : va_S A s.heap s.heap [] := va_S.rf
  have hv1 : (v 1).toInt = 0 := by rw [hF.2.1]; rfl
  have hv21 : (v 21).toInt = 0 := by rw [hF.2.2.2.2.2.2.2.2.1]; rfl
  have hl := lv_entry ([.ref (ad 0), .int p1, .int p2, .int p3]) (n := 5) (Nat.le_of_ble_eq_true rfl)
  rw [lg_entry_eq]
  generalize (lg_sl ([.ref (ad 0), .int p1, .int p2, .int p3]) ++ List.replicate (5 - (lg_sl ([.ref (ad 0), .int p1, .int p2, .int p3])).length) Slot.unset).toArray = ls at hl ⊢
  have hl : lv_has ls 5 [(0, .ref (ad 0)), (1, .int p1), (2, .int p2), (3, .int p3)] := hl
  refine lv_iload_n hx hb dX11_people_0 rfl (lv_at hl 1 rfl) ?_
  refine cS_p (As := [.int p1]) (rest := []) ⟨hx, hb, hml, hown, hg⟩ (k_X10_isShelf l   p1 ) ca_X10_isShelf q2_205 ⟨rfl, rfl⟩ ⟨Nat.le_of_ble_eq_true rfl, Nat.le_of_ble_eq_true rfl⟩ rfl hl.1 rfl (Nat.le_of_ble_eq_true rfl) ⟨Nat.zero_le _, Nat.zero_le _⟩ dX11_people_1 (fun r_1 wr_1 => ?_)
  have wr_1 : (r_1.toInt = 1 ∧ 0 ≤ p1.toInt ∧ p1.toInt < 6) ∨ (r_1.toInt = 0 ∧ ¬ (0 ≤ p1.toInt ∧ p1.toInt < 6)) := wr_1
  refine lv_if_eq (tgt := 18) hx hb dX11_people_4 (by decide) (fun c_2 => ?_) (fun c_2 => ?_)
  ·
    have kc_2 : r_1.toInt = (0 : Int) := i_eq c_2
    refine lv_iconst (v := (-1)) hx hb dX11_people_18 (by decide) ?_
    have q0_m1 : ((-1) : Int32).toInt = (-1) := rfl
    exact W.iret (v := (-1)) hx hb hr (fun tt ht hW => ⟨(-1), rfl, (by first | rfl | omega | trivial | assumption), ht⟩) (fun _ h => by cases h) dX11_people_19
  ·
    have kc_2 : r_1.toInt ≠ (0 : Int) := i_ne c_2
    refine lv_iload_n hx hb dX11_people_7 rfl (lv_at hl 3 rfl) ?_
    refine lv_iconst (v := 1) hx hb dX11_people_8 (by decide) ?_
    refine lv_icmp_lt (tgt := 18) hx hb dX11_people_9 (by decide) (fun c_3 => ?_) (fun c_3 => ?_)
    ·
      have kc_3 : p3.toInt < (1 : Int) := i_lt c_3
      refine lv_iconst (v := (-1)) hx hb dX11_people_18 (by decide) ?_
      have q0_m1 : ((-1) : Int32).toInt = (-1) := rfl
      exact W.iret (v := (-1)) hx hb hr (fun tt ht hW => ⟨(-1), rfl, (by first | rfl | omega | trivial | assumption), ht⟩) (fun _ h => by cases h) dX11_people_19
    ·
      have kc_3 : (1 : Int) ≤ p3.toInt := i_nlt c_3
      refine lv_iload_n hx hb dX11_people_12 rfl (lv_at hl 3 rfl) ?_
      refine lv_bipush (v := 8) hx hb dX11_people_13 (by decide) ?_
      refine lv_icmp_le (tgt := 20) hx hb dX11_people_15 (by decide) (fun c_4 => ?_) (fun c_4 => ?_)
      ·
        have kc_4 : p3.toInt ≤ (8 : Int) := i_le c_4
        refine lv_aload_n hx hb dX11_people_20 rfl (lv_at hl 0 rfl) ?_
        refine gf_main_shelves hx hb hg hown hK hP rfl (hg _ q2_133) dX11_people_21 ?_
        refine lv_iload_n hx hb dX11_people_24 rfl (lv_at hl 1 rfl) ?_
        refine cV_ro (As := [.int p1]) (rest := []) ⟨hx, hb, hml, hown, hg⟩ (k_F_X10_isEmpty l D cs A ad fa fq rv v a w fv fp  p1 hF (show 0 ≤ p1.toInt by first | omega | decide) (show p1.toInt < 6 by first | omega | decide)) ca_X10_isEmpty q2_208 ⟨rfl, rfl⟩ ⟨Nat.le_of_ble_eq_true rfl, Nat.le_of_ble_eq_true rfl⟩ (rc_shelves hK hP) hK hP hD hS hZ rfl hl.1 rfl (Nat.le_of_ble_eq_true rfl) ⟨Nat.zero_le _, Nat.zero_le _⟩ dX11_people_25 (fun r_5 wr_5 => ?_)
        have wr_5 : r_5.toInt = 1 := wr_5
        refine lv_if_eq (tgt := 33) hx hb dX11_people_28 (by decide) (fun c_6 => ?_) (fun c_6 => ?_)
        ·
          have kc_6 : r_5.toInt = (0 : Int) := i_eq c_6
          exfalso; omega
        ·
          have kc_6 : r_5.toInt ≠ (0 : Int) := i_ne c_6
          refine lv_iconst (v := 0) hx hb dX11_people_31 (by decide) ?_
          have q0_0 : (0 : Int32).toInt = 0 := rfl
          exact W.iret (v := 0) hx hb hr (fun tt ht hW => ⟨0, rfl, (by first | rfl | omega | trivial | assumption), ht⟩) (fun _ h => by cases h) dX11_people_32
      ·
        have kc_4 : (8 : Int) < p3.toInt := i_nle c_4
        refine lv_iconst (v := (-1)) hx hb dX11_people_18 (by decide) ?_
        have q0_m1 : ((-1) : Int32).toInt = (-1) := rfl
        exact W.iret (v := (-1)) hx hb hr (fun tt ht hW => ⟨(-1), rfl, (by first | rfl | omega | trivial | assumption), ht⟩) (fun _ h => by cases h) dX11_people_19
set_option maxHeartbeats 4000000 in
set_option maxRecDepth 100000 in
theorem k_F_X11_mend (l : Launch) (D : va_G) (cs : Nat → ClassId) (A : Nat → Prop) (ad fa fq rv : Nat → Nat) (v : Nat → Int32) (a : Nat → Nat → Int32) (w : Nat → Nat → Int64) (fv fp : Nat → Nat → Int32)  (p1 : Int32) (p2 : Int32) (p3 : Int32) (hF : FrC v a fv) : Met l yX11_mend (Cond.code yX11_mend cX11_mend 5 (some .int) :: gw) ({ frames := 5, cells := 0, slots := 0, locals := 111 }) (va_Pc [.ref (ad 0), .int p1, .int p2, .int p3] (XPre D (TY cs) (CW cs ad fa fq rv v a w fv fp) A)) (va_Qi (fun (r : Int32) (z : Int32 × Int32 × (Nat → Int32) × (Nat → Int32) × Int32 × Int32 × (Nat → Int32) × (Nat → Int32) × (Nat → Int32) × (Nat → Int32)) => ((p1.toInt = 0 ∧ ((p2.toInt = 4 ∧ 0 ≤ p3.toInt ∧ p3.toInt ≤ 255) ∨ (p2.toInt = 5 ∧ 1 ≤ p3.toInt ∧ p3.toInt ≤ 20) ∨ (p2.toInt = 6 ∧ 0 ≤ p3.toInt ∧ p3.toInt ≤ 23) ∨ (p2.toInt = 7 ∧ 1 ≤ p3.toInt ∧ p3.toInt ≤ 9))) ∧ ((p2.toInt = 4 ∧ r.toInt = 0) ∨ (p2.toInt = 5 ∧ r.toInt = 8) ∨ (p2.toInt = 6 ∧ r.toInt = 8) ∨ (p2.toInt = 7 ∧ r.toInt = 4))) ∨ (¬ (p1.toInt = 0 ∧ ((p2.toInt = 4 ∧ 0 ≤ p3.toInt ∧ p3.toInt ≤ 255) ∨ (p2.toInt = 5 ∧ 1 ≤ p3.toInt ∧ p3.toInt ≤ 20) ∨ (p2.toInt = 6 ∧ 0 ≤ p3.toInt ∧ p3.toInt ≤ 23) ∨ (p2.toInt = 7 ∧ 1 ≤ p3.toInt ∧ p3.toInt ≤ 9))) ∧ r.toInt = -1)) (XPo D (fun (z : Int32 × Int32 × (Nat → Int32) × (Nat → Int32) × Int32 × Int32 × (Nat → Int32) × (Nat → Int32) × (Nat → Int32) × (Nat → Int32)) => CW cs ad fa fq rv (va_up (va_up (va_up (va_up v 2 z.1) 3 z.2.1) 19 z.2.2.2.2.1) 20 z.2.2.2.2.2.1) (va_up (va_up (va_up (va_up (va_up a 14 z.2.2.1) 24 z.2.2.2.2.2.2.1) 25 z.2.2.2.2.2.2.2.1) 26 z.2.2.2.2.2.2.2.2.1) 27 z.2.2.2.2.2.2.2.2.2) w (va_up fv 14 z.2.2.2.1) fp) A) A) 0 0 A := by
  refine Met.ofW (cc := cX11_mend) (maxL := 5) (ret := (some .int)) (by decide) rfl ?_
  intro p e s m args below meth c s₁ B hml hv
  obtain ⟨rfl, hP, hK, hD, hZ⟩ := hv
  have hx := B.exec
  have hb := B.bytes
  have hr := B.returns
  have hts := atoms_spec (ws := (Cond.code yX11_mend cX11_mend 5 (some .int) :: gw)) B.pre
  have hg : ∀ w ∈ gw, w.before ([.ref (ad 0), .int p1, .int p2, .int p3] : List Value).toArray s = true := fun w h => hts w (List.mem_cons_of_mem _ h)
  have hown : s.vm.findClass RX11 = some m.cls := findClass_of_methodNamed B.named
  have hlocks := B.notSynchronized
  have hS : va_S A s.heap s.heap [] := va_S.rf
  have hP : va_P D vwCl (CW cs ad fa fq rv v a w fv fp) s.heap := hP
  have hv1 : (v 1).toInt = 0 := by rw [hF.2.1]; rfl
  have hv21 : (v 21).toInt = 0 := by rw [hF.2.2.2.2.2.2.2.2.1]; rfl
  have hl := lv_entry ([.ref (ad 0), .int p1, .int p2, .int p3]) (n := 5) (Nat.le_of_ble_eq_true rfl)
  rw [lg_entry_eq]
  generalize (lg_sl ([.ref (ad 0), .int p1, .int p2, .int p3]) ++ List.replicate (5 - (lg_sl ([.ref (ad 0), .int p1, .int p2, .int p3])).length) Slot.unset).toArray = ls at hl ⊢
  have hl : lv_has ls 5 [(0, .ref (ad 0)), (1, .int p1), (2, .int p2), (3, .int p3)] := hl
  refine lv_aload_n hx hb dX11_mend_0 rfl (lv_at hl 0 rfl) ?_
  refine lv_iload_n hx hb dX11_mend_1 rfl (lv_at hl 1 rfl) ?_
  refine lv_iload_n hx hb dX11_mend_2 rfl (lv_at hl 2 rfl) ?_
  refine cV_ro (As := [.int p1, .int p2]) (rest := []) ⟨hx, hb, hml, hown, hg⟩ (k_X11_isTold l D cs A ad fa fq rv v a w fv fp  p1 p2 ) ca_X11_isTold q3_0 ⟨rfl, rfl⟩ ⟨Nat.le_of_ble_eq_true rfl, Nat.le_of_ble_eq_true rfl⟩ (rc_main hK hP) hK hP hD hS hZ rfl hl.1 rfl (Nat.le_of_ble_eq_true rfl) ⟨Nat.zero_le _, Nat.zero_le _⟩ dX11_mend_3 (fun r_1 wr_1 => ?_)
  have wr_1 : (r_1.toInt = 1 ∧ ((0 ≤ p2.toInt ∧ p2.toInt ≤ 3 ∧ 0 ≤ p1.toInt ∧ p1.toInt < (v 1).toInt) ∨ (4 ≤ p2.toInt ∧ p2.toInt ≤ 7 ∧ p1.toInt = 0))) ∨ (r_1.toInt = 0 ∧ ¬ (((0 ≤ p2.toInt ∧ p2.toInt ≤ 3 ∧ 0 ≤ p1.toInt ∧ p1.toInt < (v 1).toInt) ∨ (4 ≤ p2.toInt ∧ p2.toInt ≤ 7 ∧ p1.toInt = 0)))) := wr_1
  refine lv_if_eq (tgt := 27) hx hb dX11_mend_6 (by decide) (fun c_2 => ?_) (fun c_2 => ?_)
  ·
    have kc_2 : r_1.toInt = (0 : Int) := i_eq c_2
    refine lv_iconst (v := (-1)) hx hb dX11_mend_27 (by decide) ?_
    have q0_m1 : ((-1) : Int32).toInt = (-1) := rfl
    have hP : va_P D vwCl (CW cs ad fa fq rv (va_up (va_up (va_up (va_up v 2 (v 2)) 3 (v 3)) 19 (v 19)) 20 (v 20)) (va_up (va_up (va_up (va_up (va_up a 14 (a 14)) 24 (a 24)) 25 (a 25)) 26 (a 26)) 27 (a 27)) w (va_up fv 14 (fv 14)) fp) _ := hP
    have hD : va_D A (CW cs ad fa fq rv (va_up (va_up (va_up (va_up v 2 (v 2)) 3 (v 3)) 19 (v 19)) 20 (v 20)) (va_up (va_up (va_up (va_up (va_up a 14 (a 14)) 24 (a 24)) 25 (a 25)) 26 (a 26)) 27 (a 27)) w (va_up fv 14 (fv 14)) fp) := hD
    exact W.iret (v := (-1)) hx hb hr (fun tt ht hW => ⟨⟨(-1), ⟨(v 2), (v 3), (a 14), (fv 14), (v 19), (v 20), (a 24), (a 25), (a 26), (a 27)⟩, rfl, (by first | rfl | omega | trivial | assumption), by rw [ht]; exact hP, hD⟩, hS.F ht⟩) hS.2.2 dX11_mend_28
  ·
    have kc_2 : r_1.toInt ≠ (0 : Int) := i_ne c_2
    refine lv_iload_n hx hb dX11_mend_9 rfl (lv_at hl 3 rfl) ?_
    obtain ⟨t0, t1, t2, ⟨a0, b0⟩, ⟨a1, b1⟩, ⟨a2, b2⟩⟩ := id hZ
    refine va_gets hx hb a1 hS hown (hg _ q3_8) (fun _ h9 => h9) dX11_mend_10 ?_
    refine lv_iload_n hx hb dX11_mend_13 rfl (lv_at hl 2 rfl) ?_
    refine va_ti hx hb b1 hS (i_in (by omega) (by omega)) rfl dX11_mend_14 ?_
    refine lv_topi (fun x_3 ex_3 => ?_)
    have fx_3 := zt1 (i := p2) (by omega) (by omega)
    rw [← ex_3] at fx_3
    refine lv_icmp_lt (tgt := 27) hx hb dX11_mend_15 (by decide) (fun c_4 => ?_) (fun c_4 => ?_)
    ·
      have kc_4 : p3.toInt < x_3.toInt := i_lt c_4
      refine lv_iconst (v := (-1)) hx hb dX11_mend_27 (by decide) ?_
      have q0_m1 : ((-1) : Int32).toInt = (-1) := rfl
      have hP : va_P D vwCl (CW cs ad fa fq rv (va_up (va_up (va_up (va_up v 2 (v 2)) 3 (v 3)) 19 (v 19)) 20 (v 20)) (va_up (va_up (va_up (va_up (va_up a 14 (a 14)) 24 (a 24)) 25 (a 25)) 26 (a 26)) 27 (a 27)) w (va_up fv 14 (fv 14)) fp) _ := hP
      have hD : va_D A (CW cs ad fa fq rv (va_up (va_up (va_up (va_up v 2 (v 2)) 3 (v 3)) 19 (v 19)) 20 (v 20)) (va_up (va_up (va_up (va_up (va_up a 14 (a 14)) 24 (a 24)) 25 (a 25)) 26 (a 26)) 27 (a 27)) w (va_up fv 14 (fv 14)) fp) := hD
      exact W.iret (v := (-1)) hx hb hr (fun tt ht hW => ⟨⟨(-1), ⟨(v 2), (v 3), (a 14), (fv 14), (v 19), (v 20), (a 24), (a 25), (a 26), (a 27)⟩, rfl, (by first | rfl | omega | trivial | assumption), by rw [ht]; exact hP, hD⟩, hS.F ht⟩) hS.2.2 dX11_mend_28
    ·
      have kc_4 : x_3.toInt ≤ p3.toInt := i_nlt c_4
      refine lv_iload_n hx hb dX11_mend_18 rfl (lv_at hl 3 rfl) ?_
      obtain ⟨t0, t1, t2, ⟨a0, b0⟩, ⟨a1, b1⟩, ⟨a2, b2⟩⟩ := id hZ
      refine va_gets hx hb a0 hS hown (hg _ q2_234) (fun _ h9 => h9) dX11_mend_19 ?_
      refine lv_iload_n hx hb dX11_mend_22 rfl (lv_at hl 2 rfl) ?_
      refine va_ti hx hb b0 hS (i_in (by omega) (by omega)) rfl dX11_mend_23 ?_
      refine lv_topi (fun x_5 ex_5 => ?_)
      have fx_5 := zt0 (i := p2) (by omega) (by omega)
      rw [← ex_5] at fx_5
      refine lv_icmp_le (tgt := 29) hx hb dX11_mend_24 (by decide) (fun c_6 => ?_) (fun c_6 => ?_)
      ·
        have kc_6 : p3.toInt ≤ x_5.toInt := i_le c_6
        refine lv_aload_n hx hb dX11_mend_29 rfl (lv_at hl 0 rfl) ?_
        refine lv_iload_n hx hb dX11_mend_30 rfl (lv_at hl 1 rfl) ?_
        refine lv_iload_n hx hb dX11_mend_31 rfl (lv_at hl 2 rfl) ?_
        refine cV_ro (As := [.int p1, .int p2]) (rest := []) ⟨hx, hb, hml, hown, hg⟩ (k_F_X11_told l D cs A ad fa fq rv v a w fv fp  p1 p2 hF (show p1.toInt = 0 by first | omega | decide) (show 4 ≤ p2.toInt by first | omega | decide) (show p2.toInt ≤ 7 by first | omega | decide)) ca_X11_told q3_10 ⟨rfl, rfl⟩ ⟨Nat.le_of_ble_eq_true rfl, Nat.le_of_ble_eq_true rfl⟩ (rc_main hK hP) hK hP hD hS hZ rfl hl.1 rfl (Nat.le_of_ble_eq_true rfl) ⟨Nat.zero_le _, Nat.zero_le _⟩ dX11_mend_32 (fun r_7 wr_7 => ?_)
        have wr_7 : ((p2.toInt = 4 ∧ r_7.toInt = 0) ∨ (p2.toInt = 5 ∧ r_7.toInt = 8) ∨ (p2.toInt = 6 ∧ r_7.toInt = 8) ∨ (p2.toInt = 7 ∧ r_7.toInt = 4)) := wr_7
        refine lv_istore (lv' := [(4, .int r_7), (0, .ref (ad 0)), (1, .int p1), (2, .int p2), (3, .int p3)]) hx hb dX11_mend_35 hl (by decide) rfl (fun ls hl => ?_)
        refine lv_iload hx hb dX11_mend_37 (lv_at hl 0 rfl) ?_
        refine lv_iload_n hx hb dX11_mend_39 rfl (lv_at hl 4 rfl) ?_
        refine lv_icmp_eq (tgt := 62) hx hb dX11_mend_40 (by decide) (fun c_8 => ?_) (fun c_8 => ?_)
        ·
          have kc_8 : r_7.toInt = p3.toInt := i_eq c_8
          refine lv_iload hx hb dX11_mend_62 (lv_at hl 0 rfl) ?_
          have hP : va_P D vwCl (CW cs ad fa fq rv (va_up (va_up (va_up (va_up v 2 (v 2)) 3 (v 3)) 19 (v 19)) 20 (v 20)) (va_up (va_up (va_up (va_up (va_up a 14 (a 14)) 24 (a 24)) 25 (a 25)) 26 (a 26)) 27 (a 27)) w (va_up fv 14 (fv 14)) fp) _ := hP
          have hD : va_D A (CW cs ad fa fq rv (va_up (va_up (va_up (va_up v 2 (v 2)) 3 (v 3)) 19 (v 19)) 20 (v 20)) (va_up (va_up (va_up (va_up (va_up a 14 (a 14)) 24 (a 24)) 25 (a 25)) 26 (a 26)) 27 (a 27)) w (va_up fv 14 (fv 14)) fp) := hD
          exact W.iret (v := r_7) hx hb hr (fun tt ht hW => ⟨⟨r_7, ⟨(v 2), (v 3), (a 14), (fv 14), (v 19), (v 20), (a 24), (a 25), (a 26), (a 27)⟩, rfl, (by first | rfl | omega | trivial | assumption), by rw [ht]; exact hP, hD⟩, hS.F ht⟩) hS.2.2 dX11_mend_64
        ·
          have kc_8 : r_7.toInt ≠ p3.toInt := i_ne c_8
          refine lv_aload_n hx hb dX11_mend_43 rfl (lv_at hl 1 rfl) ?_
          refine gf_main_changes hx hb hg hown hK hP rfl (hg _ q2_132) dX11_mend_44 ?_
          refine lv_iload_n hx hb dX11_mend_47 rfl (lv_at hl 2 rfl) ?_
          refine lv_iload_n hx hb dX11_mend_48 rfl (lv_at hl 3 rfl) ?_
          refine lv_iload hx hb dX11_mend_49 (lv_at hl 0 rfl) ?_
          refine lv_iload_n hx hb dX11_mend_51 rfl (lv_at hl 4 rfl) ?_
          refine cV_v (As := [.int p1, .int p2, .int r_7, .int p3]) (rest := []) ⟨hx, hb, hml, hown, hg⟩ (k_F_X1_add l D cs A ad fa fq rv v a w fv fp  p1 p2 r_7 p3 hF) ca_X1_add q3_14 ⟨rfl, rfl⟩ ⟨Nat.le_of_ble_eq_true rfl, Nat.le_of_ble_eq_true rfl⟩ (rc_changes hK hP) hK hP hD hS hZ rfl hl.1 rfl (Nat.le_of_ble_eq_true rfl) ⟨Nat.zero_le _, Nat.zero_le _⟩ dX11_mend_52 (fun z_16 H locs wr_9 hP hD hS => ?_)
          obtain ⟨done_10, all_11, g1_12, g2_13, g3_14, g4_15⟩ := z_16
          have hP : va_P D vwCl (CW cs ad fa fq rv (va_up (va_up v 19 done_10) 20 all_11) (va_up (va_up (va_up (va_up a 24 g1_12) 25 g2_13) 26 g3_14) 27 g4_15) w fv fp) H := hP
          have hD : va_D A (CW cs ad fa fq rv (va_up (va_up v 19 done_10) 20 all_11) (va_up (va_up (va_up (va_up a 24 g1_12) 25 g2_13) 26 g3_14) 27 g4_15) w fv fp) := hD
          refine lv_aload_n hx hb dX11_mend_55 rfl (lv_at hl 1 rfl) ?_
          refine lv_iload_n hx hb dX11_mend_56 rfl (lv_at hl 2 rfl) ?_
          refine lv_iload_n hx hb dX11_mend_57 rfl (lv_at hl 3 rfl) ?_
          refine lv_iload_n hx hb dX11_mend_58 rfl (lv_at hl 4 rfl) ?_
          refine cV_v (As := [.int p1, .int p2, .int p3]) (rest := []) ⟨hx, hb, hml, hown, hg⟩ (k_F_X11_tell l D cs A ad fa fq rv (va_up (va_up v 19 done_10) 20 all_11) (va_up (va_up (va_up (va_up a 24 g1_12) 25 g2_13) 26 g3_14) 27 g4_15) w fv fp  p1 p2 p3 (show 0 ≤ (v 1).toInt by first | omega | decide) (show (v 1).toInt ≤ 8 by first | omega | decide) (show 4 ≤ p2.toInt by first | omega | decide) (show p2.toInt ≤ 7 by first | omega | decide)) ca_X11_tell q3_24 ⟨rfl, rfl⟩ ⟨Nat.le_of_ble_eq_true rfl, Nat.le_of_ble_eq_true rfl⟩ (rc_main hK hP) hK hP hD hS hZ rfl hl.1 rfl (Nat.le_of_ble_eq_true rfl) ⟨Nat.zero_le _, Nat.zero_le _⟩ dX11_mend_59 (fun z_22 H locs wr_17 hP hD hS => ?_)
          obtain ⟨mile_18, pace_19, gnear_20, g_21⟩ := z_22
          have hP : va_P D vwCl (CW cs ad fa fq rv (va_up (va_up (va_up (va_up v 19 done_10) 20 all_11) 2 mile_18) 3 pace_19) (va_up (va_up (va_up (va_up (va_up a 24 g1_12) 25 g2_13) 26 g3_14) 27 g4_15) 14 gnear_20) w (va_up fv 14 g_21) fp) H := hP
          have hD : va_D A (CW cs ad fa fq rv (va_up (va_up (va_up (va_up v 19 done_10) 20 all_11) 2 mile_18) 3 pace_19) (va_up (va_up (va_up (va_up (va_up a 24 g1_12) 25 g2_13) 26 g3_14) 27 g4_15) 14 gnear_20) w (va_up fv 14 g_21) fp) := hD
          refine lv_iload hx hb dX11_mend_62 (lv_at hl 0 rfl) ?_
          have hP : va_P D vwCl (CW cs ad fa fq rv (va_up (va_up (va_up (va_up v 2 mile_18) 3 pace_19) 19 done_10) 20 all_11) (va_up (va_up (va_up (va_up (va_up a 14 gnear_20) 24 g1_12) 25 g2_13) 26 g3_14) 27 g4_15) w (va_up fv 14 g_21) fp) _ := hP
          have hD : va_D A (CW cs ad fa fq rv (va_up (va_up (va_up (va_up v 2 mile_18) 3 pace_19) 19 done_10) 20 all_11) (va_up (va_up (va_up (va_up (va_up a 14 gnear_20) 24 g1_12) 25 g2_13) 26 g3_14) 27 g4_15) w (va_up fv 14 g_21) fp) := hD
          exact W.iret (v := r_7) hx hb hr (fun tt ht hW => ⟨⟨r_7, ⟨mile_18, pace_19, gnear_20, g_21, done_10, all_11, g1_12, g2_13, g3_14, g4_15⟩, rfl, (by first | rfl | omega | trivial | assumption), by rw [ht]; exact hP, hD⟩, hS.F ht⟩) hS.2.2 dX11_mend_64
      ·
        have kc_6 : x_5.toInt < p3.toInt := i_nle c_6
        refine lv_iconst (v := (-1)) hx hb dX11_mend_27 (by decide) ?_
        have q0_m1 : ((-1) : Int32).toInt = (-1) := rfl
        have hP : va_P D vwCl (CW cs ad fa fq rv (va_up (va_up (va_up (va_up v 2 (v 2)) 3 (v 3)) 19 (v 19)) 20 (v 20)) (va_up (va_up (va_up (va_up (va_up a 14 (a 14)) 24 (a 24)) 25 (a 25)) 26 (a 26)) 27 (a 27)) w (va_up fv 14 (fv 14)) fp) _ := hP
        have hD : va_D A (CW cs ad fa fq rv (va_up (va_up (va_up (va_up v 2 (v 2)) 3 (v 3)) 19 (v 19)) 20 (v 20)) (va_up (va_up (va_up (va_up (va_up a 14 (a 14)) 24 (a 24)) 25 (a 25)) 26 (a 26)) 27 (a 27)) w (va_up fv 14 (fv 14)) fp) := hD
        exact W.iret (v := (-1)) hx hb hr (fun tt ht hW => ⟨⟨(-1), ⟨(v 2), (v 3), (a 14), (fv 14), (v 19), (v 20), (a 24), (a 25), (a 26), (a 27)⟩, rfl, (by first | rfl | omega | trivial | assumption), by rw [ht]; exact hP, hD⟩, hS.F ht⟩) hS.2.2 dX11_mend_28
set_option maxHeartbeats 4000000 in
set_option maxRecDepth 100000 in
theorem k_F_X11_of (l : Launch) (D : va_G) (cs : Nat → ClassId) (A : Nat → Prop) (ad fa fq rv : Nat → Nat) (v : Nat → Int32) (a : Nat → Nat → Int32) (w : Nat → Nat → Int64) (fv fp : Nat → Nat → Int32)  (p1 : Int32) (p2 : Int32) (hF : FrC v a fv) : Met l yX11_of (Cond.code yX11_of cX11_of 3 (some .int) :: gw) ({ frames := 2, cells := 0, slots := 0, locals := 43 }) (va_Pc [.ref (ad 0), .int p1, .int p2] (XPre D (TY cs) (CW cs ad fa fq rv v a w fv fp) A)) (vp_Si (fun (r : Int32) => ((p1.toInt = 0 ∧ 4 ≤ p2.toInt ∧ p2.toInt ≤ 7) ∧ ((p2.toInt = 4 ∧ r.toInt = 0) ∨ (p2.toInt = 5 ∧ r.toInt = 8) ∨ (p2.toInt = 6 ∧ r.toInt = 8) ∨ (p2.toInt = 7 ∧ r.toInt = 4))) ∨ (¬ (p1.toInt = 0 ∧ 4 ≤ p2.toInt ∧ p2.toInt ≤ 7) ∧ r.toInt = -1))) 0 0 (fun _ => False) := by
  refine Met.ofW (cc := cX11_of) (maxL := 3) (ret := (some .int)) (by decide) rfl ?_
  intro p e s m args below meth c s₁ B hml hv
  obtain ⟨rfl, hP, hK, hD, hZ⟩ := hv
  have hx := B.exec
  have hb := B.bytes
  have hr := B.returns
  have hts := atoms_spec (ws := (Cond.code yX11_of cX11_of 3 (some .int) :: gw)) B.pre
  have hg : ∀ w ∈ gw, w.before ([.ref (ad 0), .int p1, .int p2] : List Value).toArray s = true := fun w h => hts w (List.mem_cons_of_mem _ h)
  have hown : s.vm.findClass RX11 = some m.cls := findClass_of_methodNamed B.named
  have hlocks := B.notSynchronized
  have hS : va_S A s.heap s.heap [] := va_S.rf
  have hv1 : (v 1).toInt = 0 := by rw [hF.2.1]; rfl
  have hv21 : (v 21).toInt = 0 := by rw [hF.2.2.2.2.2.2.2.2.1]; rfl
  have hl := lv_entry ([.ref (ad 0), .int p1, .int p2]) (n := 3) (Nat.le_of_ble_eq_true rfl)
  rw [lg_entry_eq]
  generalize (lg_sl ([.ref (ad 0), .int p1, .int p2]) ++ List.replicate (3 - (lg_sl ([.ref (ad 0), .int p1, .int p2])).length) Slot.unset).toArray = ls at hl ⊢
  have hl : lv_has ls 3 [(0, .ref (ad 0)), (1, .int p1), (2, .int p2)] := hl
  refine lv_aload_n hx hb dX11_of_0 rfl (lv_at hl 0 rfl) ?_
  refine lv_iload_n hx hb dX11_of_1 rfl (lv_at hl 1 rfl) ?_
  refine lv_iload_n hx hb dX11_of_2 rfl (lv_at hl 2 rfl) ?_
  refine cV_ro (As := [.int p1, .int p2]) (rest := []) ⟨hx, hb, hml, hown, hg⟩ (k_X11_isTold l D cs A ad fa fq rv v a w fv fp  p1 p2 ) ca_X11_isTold q3_0 ⟨rfl, rfl⟩ ⟨Nat.le_of_ble_eq_true rfl, Nat.le_of_ble_eq_true rfl⟩ (rc_main hK hP) hK hP hD hS hZ rfl hl.1 rfl (Nat.le_of_ble_eq_true rfl) ⟨Nat.zero_le _, Nat.zero_le _⟩ dX11_of_3 (fun r_1 wr_1 => ?_)
  have wr_1 : (r_1.toInt = 1 ∧ ((0 ≤ p2.toInt ∧ p2.toInt ≤ 3 ∧ 0 ≤ p1.toInt ∧ p1.toInt < (v 1).toInt) ∨ (4 ≤ p2.toInt ∧ p2.toInt ≤ 7 ∧ p1.toInt = 0))) ∨ (r_1.toInt = 0 ∧ ¬ (((0 ≤ p2.toInt ∧ p2.toInt ≤ 3 ∧ 0 ≤ p1.toInt ∧ p1.toInt < (v 1).toInt) ∨ (4 ≤ p2.toInt ∧ p2.toInt ≤ 7 ∧ p1.toInt = 0)))) := wr_1
  refine lv_if_eq (tgt := 18) hx hb dX11_of_6 (by decide) (fun c_2 => ?_) (fun c_2 => ?_)
  ·
    have kc_2 : r_1.toInt = (0 : Int) := i_eq c_2
    refine lv_iconst (v := (-1)) hx hb dX11_of_18 (by decide) ?_
    have q0_m1 : ((-1) : Int32).toInt = (-1) := rfl
    exact W.iret (v := (-1)) hx hb hr (fun tt ht hW => ⟨(-1), rfl, (by first | rfl | omega | trivial | assumption), ht⟩) (fun _ h => by cases h) dX11_of_19
  ·
    have kc_2 : r_1.toInt ≠ (0 : Int) := i_ne c_2
    refine lv_aload_n hx hb dX11_of_9 rfl (lv_at hl 0 rfl) ?_
    refine lv_iload_n hx hb dX11_of_10 rfl (lv_at hl 1 rfl) ?_
    refine lv_iload_n hx hb dX11_of_11 rfl (lv_at hl 2 rfl) ?_
    refine cV_ro (As := [.int p1, .int p2]) (rest := []) ⟨hx, hb, hml, hown, hg⟩ (k_F_X11_told l D cs A ad fa fq rv v a w fv fp  p1 p2 hF (show p1.toInt = 0 by first | omega | decide) (show 4 ≤ p2.toInt by first | omega | decide) (show p2.toInt ≤ 7 by first | omega | decide)) ca_X11_told q3_10 ⟨rfl, rfl⟩ ⟨Nat.le_of_ble_eq_true rfl, Nat.le_of_ble_eq_true rfl⟩ (rc_main hK hP) hK hP hD hS hZ rfl hl.1 rfl (Nat.le_of_ble_eq_true rfl) ⟨Nat.zero_le _, Nat.zero_le _⟩ dX11_of_12 (fun r_3 wr_3 => ?_)
    have wr_3 : ((p2.toInt = 4 ∧ r_3.toInt = 0) ∨ (p2.toInt = 5 ∧ r_3.toInt = 8) ∨ (p2.toInt = 6 ∧ r_3.toInt = 8) ∨ (p2.toInt = 7 ∧ r_3.toInt = 4)) := wr_3
    refine lv_goto (tgt := 19) hx hb dX11_of_15 (by decide) ?_
    exact W.iret (v := r_3) hx hb hr (fun tt ht hW => ⟨r_3, rfl, (by first | rfl | omega | trivial | assumption), ht⟩) (fun _ h => by cases h) dX11_of_19
set_option maxHeartbeats 4000000 in
set_option maxRecDepth 100000 in
theorem k_F_X11_feed (l : Launch) (D : va_G) (cs : Nat → ClassId) (A : Nat → Prop) (ad fa fq rv : Nat → Nat) (v : Nat → Int32) (a : Nat → Nat → Int32) (w : Nat → Nat → Int64) (fv fp : Nat → Nat → Int32)  (p1 : Int32) (hF : FrC v a fv) : Met l yX11_feed (Cond.code yX11_feed cX11_feed 2 (some .int) :: gw) ({ frames := 1, cells := 0, slots := 0, locals := 21 }) (va_Pc [.ref (ad 0), .int p1] (XPre D (TY cs) (CW cs ad fa fq rv v a w fv fp) A)) (va_Qi (fun (r : Int32) (z : Int32 × (Nat → Int32)) => ((0 ≤ p1.toInt ∧ p1.toInt ≤ 255) ∧ r.toInt = 1) ∨ (¬ (0 ≤ p1.toInt ∧ p1.toInt ≤ 255) ∧ r.toInt = -1)) (XPo D (fun (z : Int32 × (Nat → Int32)) => CW cs ad fa fq rv (va_up v 4 z.1) (va_up a 15 z.2) w fv fp) A) A) 0 0 A := by
  refine Met.ofW (cc := cX11_feed) (maxL := 2) (ret := (some .int)) (by decide) rfl ?_
  intro p e s m args below meth c s₁ B hml hv
  obtain ⟨rfl, hP, hK, hD, hZ⟩ := hv
  have hx := B.exec
  have hb := B.bytes
  have hr := B.returns
  have hts := atoms_spec (ws := (Cond.code yX11_feed cX11_feed 2 (some .int) :: gw)) B.pre
  have hg : ∀ w ∈ gw, w.before ([.ref (ad 0), .int p1] : List Value).toArray s = true := fun w h => hts w (List.mem_cons_of_mem _ h)
  have hown : s.vm.findClass RX11 = some m.cls := findClass_of_methodNamed B.named
  have hlocks := B.notSynchronized
  have hS : va_S A s.heap s.heap [] := va_S.rf
  have hP : va_P D vwCl (CW cs ad fa fq rv v a w fv fp) s.heap := hP
  have hv1 : (v 1).toInt = 0 := by rw [hF.2.1]; rfl
  have hv21 : (v 21).toInt = 0 := by rw [hF.2.2.2.2.2.2.2.2.1]; rfl
  have hl := lv_entry ([.ref (ad 0), .int p1]) (n := 2) (Nat.le_of_ble_eq_true rfl)
  rw [lg_entry_eq]
  generalize (lg_sl ([.ref (ad 0), .int p1]) ++ List.replicate (2 - (lg_sl ([.ref (ad 0), .int p1])).length) Slot.unset).toArray = ls at hl ⊢
  have hl : lv_has ls 2 [(0, .ref (ad 0)), (1, .int p1)] := hl
  refine lv_iload_n hx hb dX11_feed_0 rfl (lv_at hl 1 rfl) ?_
  refine lv_if_lt (tgt := 11) hx hb dX11_feed_1 (by decide) (fun c_1 => ?_) (fun c_1 => ?_)
  ·
    have kc_1 : p1.toInt < (0 : Int) := i_lt c_1
    refine lv_iconst (v := (-1)) hx hb dX11_feed_11 (by decide) ?_
    have q0_m1 : ((-1) : Int32).toInt = (-1) := rfl
    have hP : va_P D vwCl (CW cs ad fa fq rv (va_up v 4 (v 4)) (va_up a 15 (a 15)) w fv fp) _ := hP
    have hD : va_D A (CW cs ad fa fq rv (va_up v 4 (v 4)) (va_up a 15 (a 15)) w fv fp) := hD
    exact W.iret (v := (-1)) hx hb hr (fun tt ht hW => ⟨⟨(-1), ⟨(v 4), (a 15)⟩, rfl, (by first | rfl | omega | trivial | assumption), by rw [ht]; exact hP, hD⟩, hS.F ht⟩) hS.2.2 dX11_feed_12
  ·
    have kc_1 : (0 : Int) ≤ p1.toInt := i_nlt c_1
    refine lv_iload_n hx hb dX11_feed_4 rfl (lv_at hl 1 rfl) ?_
    refine lv_sipush (v := 255) hx hb dX11_feed_5 (by decide) ?_
    refine lv_icmp_le (tgt := 13) hx hb dX11_feed_8 (by decide) (fun c_2 => ?_) (fun c_2 => ?_)
    ·
      have kc_2 : p1.toInt ≤ (255 : Int) := i_le c_2
      refine lv_aload_n hx hb dX11_feed_13 rfl (lv_at hl 0 rfl) ?_
      refine gf_main_rules hx hb hg hown hK hP rfl (hg _ q2_124) dX11_feed_14 ?_
      refine lv_iload_n hx hb dX11_feed_17 rfl (lv_at hl 1 rfl) ?_
      refine cV_i (As := [.int p1]) (rest := []) ⟨hx, hb, hml, hown, hg⟩ (k_F_X6_takeLetter l D cs A ad fa fq rv v a w fv fp  p1 hF) ca_X6_takeLetter q3_44 ⟨rfl, rfl⟩ ⟨Nat.le_of_ble_eq_true rfl, Nat.le_of_ble_eq_true rfl⟩ (rc_rules hK hP) hK hP hD hS hZ rfl hl.1 rfl (Nat.le_of_ble_eq_true rfl) ⟨Nat.zero_le _, Nat.zero_le _⟩ dX11_feed_18 (fun r_3 z_6 H locs wr_3 hP hD hS => ?_)
      obtain ⟨fed_4, gtape_5⟩ := z_6
      have hP : va_P D vwCl (CW cs ad fa fq rv (va_up v 4 fed_4) (va_up a 15 gtape_5) w fv fp) H := hP
      have hD : va_D A (CW cs ad fa fq rv (va_up v 4 fed_4) (va_up a 15 gtape_5) w fv fp) := hD
      have wr_3 : r_3.toInt = 1 := wr_3
      exact W.iret (v := r_3) hx hb hr (fun tt ht hW => ⟨⟨r_3, ⟨fed_4, gtape_5⟩, rfl, (by first | rfl | omega | trivial | assumption), by rw [ht]; exact hP, hD⟩, hS.F ht⟩) hS.2.2 dX11_feed_21
    ·
      have kc_2 : (255 : Int) < p1.toInt := i_nle c_2
      refine lv_iconst (v := (-1)) hx hb dX11_feed_11 (by decide) ?_
      have q0_m1 : ((-1) : Int32).toInt = (-1) := rfl
      have hP : va_P D vwCl (CW cs ad fa fq rv (va_up v 4 (v 4)) (va_up a 15 (a 15)) w fv fp) _ := hP
      have hD : va_D A (CW cs ad fa fq rv (va_up v 4 (v 4)) (va_up a 15 (a 15)) w fv fp) := hD
      exact W.iret (v := (-1)) hx hb hr (fun tt ht hW => ⟨⟨(-1), ⟨(v 4), (a 15)⟩, rfl, (by first | rfl | omega | trivial | assumption), by rw [ht]; exact hP, hD⟩, hS.F ht⟩) hS.2.2 dX11_feed_12
set_option maxHeartbeats 4000000 in
set_option maxRecDepth 100000 in
theorem k_F_X11_law (l : Launch) (D : va_G) (cs : Nat → ClassId) (A : Nat → Prop) (ad fa fq rv : Nat → Nat) (v : Nat → Int32) (a : Nat → Nat → Int32) (w : Nat → Nat → Int64) (fv fp : Nat → Nat → Int32)   (hF : FrC v a fv) : Met l yX11_law (Cond.code yX11_law cX11_law 1 (some .int) :: gw) ({ frames := 10, cells := 0, slots := 0, locals := 218 }) (va_Pc [.ref (ad 0)] (XPre D (TY cs) (CW cs ad fa fq rv v a w fv fp) A)) (va_Qi (fun (r : Int32) (z : Nat × Nat × Int32 × Int32 × Int32 × Int32) => r.toInt = -100) (XPo D (fun (z : Nat × Nat × Int32 × Int32 × Int32 × Int32) => CW cs ad fa fq (va_up (va_up rv 0 z.1) 1 z.2.1) (va_up (va_up (va_up (va_up v 24 z.2.2.1) 25 z.2.2.2.1) 26 z.2.2.2.2.1) 4 z.2.2.2.2.2) a w fv fp) A) A) 0 0 A := by
  refine Met.ofW (cc := cX11_law) (maxL := 1) (ret := (some .int)) (by decide) rfl ?_
  intro p e s m args below meth c s₁ B hml hv
  obtain ⟨rfl, hP, hK, hD, hZ⟩ := hv
  have hx := B.exec
  have hb := B.bytes
  have hr := B.returns
  have hts := atoms_spec (ws := (Cond.code yX11_law cX11_law 1 (some .int) :: gw)) B.pre
  have hg : ∀ w ∈ gw, w.before ([.ref (ad 0)] : List Value).toArray s = true := fun w h => hts w (List.mem_cons_of_mem _ h)
  have hown : s.vm.findClass RX11 = some m.cls := findClass_of_methodNamed B.named
  have hlocks := B.notSynchronized
  have hS : va_S A s.heap s.heap [] := va_S.rf
  have hP : va_P D vwCl (CW cs ad fa fq rv v a w fv fp) s.heap := hP
  have hv1 : (v 1).toInt = 0 := by rw [hF.2.1]; rfl
  have hv21 : (v 21).toInt = 0 := by rw [hF.2.2.2.2.2.2.2.2.1]; rfl
  have hl := lv_entry ([.ref (ad 0)]) (n := 1) (Nat.le_of_ble_eq_true rfl)
  rw [lg_entry_eq]
  generalize (lg_sl ([.ref (ad 0)]) ++ List.replicate (1 - (lg_sl ([.ref (ad 0)])).length) Slot.unset).toArray = ls at hl ⊢
  have hl : lv_has ls 1 [(0, .ref (ad 0))] := hl
  refine lv_aload_n hx hb dX11_law_0 rfl (lv_at hl 0 rfl) ?_
  refine gf_main_rules hx hb hg hown hK hP rfl (hg _ q2_124) dX11_law_1 ?_
  refine cV_i (As := []) (rest := []) ⟨hx, hb, hml, hown, hg⟩ (k_F_X6_takeText l D cs A ad fa fq rv v a w fv fp   hF) ca_X6_takeText q3_52 ⟨rfl, rfl⟩ ⟨Nat.le_of_ble_eq_true rfl, Nat.le_of_ble_eq_true rfl⟩ (rc_rules hK hP) hK hP hD hS hZ rfl hl.1 rfl (Nat.le_of_ble_eq_true rfl) ⟨Nat.zero_le _, Nat.zero_le _⟩ dX11_law_4 (fun r_1 z_8 H locs wr_1 hP hD hS => ?_)
  obtain ⟨q0_2, q1_3, len_4, at__5, siz_6, fed_7⟩ := z_8
  have hP : va_P D vwCl (CW cs ad fa fq (va_up (va_up rv 0 q0_2) 1 q1_3) (va_up (va_up (va_up (va_up v 24 len_4) 25 at__5) 26 siz_6) 4 fed_7) a w fv fp) H := hP
  have hD : va_D A (CW cs ad fa fq (va_up (va_up rv 0 q0_2) 1 q1_3) (va_up (va_up (va_up (va_up v 24 len_4) 25 at__5) 26 siz_6) 4 fed_7) a w fv fp) := hD
  have wr_1 : r_1.toInt = -100 := wr_1
  exact W.iret (v := r_1) hx hb hr (fun tt ht hW => ⟨⟨r_1, ⟨q0_2, q1_3, len_4, at__5, siz_6, fed_7⟩, rfl, (by first | rfl | omega | trivial | assumption), by rw [ht]; exact hP, hD⟩, hS.F ht⟩) hS.2.2 dX11_law_7
set_option maxHeartbeats 4000000 in
set_option maxRecDepth 100000 in
theorem k_F_X11_loud (l : Launch) (D : va_G) (cs : Nat → ClassId) (A : Nat → Prop) (ad fa fq rv : Nat → Nat) (v : Nat → Int32) (a : Nat → Nat → Int32) (w : Nat → Nat → Int64) (fv fp : Nat → Nat → Int32)  (p1 : Int32) (hF : FrC v a fv) : Met l yX11_loud (Cond.code yX11_loud cX11_loud 2 (some .int) :: gw) ({ frames := 1, cells := 0, slots := 0, locals := 21 }) (va_Pc [.ref (ad 0), .int p1] (XPre D (TY cs) (CW cs ad fa fq rv v a w fv fp) A)) (vp_Si (fun (r : Int32) => r.toInt = -1)) 0 0 (fun _ => False) := by
  refine Met.ofW (cc := cX11_loud) (maxL := 2) (ret := (some .int)) (by decide) rfl ?_
  intro p e s m args below meth c s₁ B hml hv
  obtain ⟨rfl, hP, hK, hD, hZ⟩ := hv
  have hx := B.exec
  have hb := B.bytes
  have hr := B.returns
  have hts := atoms_spec (ws := (Cond.code yX11_loud cX11_loud 2 (some .int) :: gw)) B.pre
  have hg : ∀ w ∈ gw, w.before ([.ref (ad 0), .int p1] : List Value).toArray s = true := fun w h => hts w (List.mem_cons_of_mem _ h)
  have hown : s.vm.findClass RX11 = some m.cls := findClass_of_methodNamed B.named
  have hlocks := B.notSynchronized
  have hS : va_S A s.heap s.heap [] := va_S.rf
  have hv1 : (v 1).toInt = 0 := by rw [hF.2.1]; rfl
  have hv21 : (v 21).toInt = 0 := by rw [hF.2.2.2.2.2.2.2.2.1]; rfl
  have hl := lv_entry ([.ref (ad 0), .int p1]) (n := 2) (Nat.le_of_ble_eq_true rfl)
  rw [lg_entry_eq]
  generalize (lg_sl ([.ref (ad 0), .int p1]) ++ List.replicate (2 - (lg_sl ([.ref (ad 0), .int p1])).length) Slot.unset).toArray = ls at hl ⊢
  have hl : lv_has ls 2 [(0, .ref (ad 0)), (1, .int p1)] := hl
  refine lv_aload_n hx hb dX11_loud_0 rfl (lv_at hl 0 rfl) ?_
  refine gf_main_parish hx hb hg hown hK hP rfl (hg _ q2_123) dX11_loud_1 ?_
  refine lv_iload_n hx hb dX11_loud_4 rfl (lv_at hl 1 rfl) ?_
  refine cV_ro (As := [.int p1]) (rest := []) ⟨hx, hb, hml, hown, hg⟩ (k_F_X9_has l D cs A ad fa fq rv v a w fv fp  p1 hF) ca_X9_has q3_4 ⟨rfl, rfl⟩ ⟨Nat.le_of_ble_eq_true rfl, Nat.le_of_ble_eq_true rfl⟩ (rc_parish hK hP) hK hP hD hS hZ rfl hl.1 rfl (Nat.le_of_ble_eq_true rfl) ⟨Nat.zero_le _, Nat.zero_le _⟩ dX11_loud_5 (fun r_1 wr_1 => ?_)
  have wr_1 : r_1.toInt = 0 := wr_1
  refine lv_if_ne (tgt := 13) hx hb dX11_loud_8 (by decide) (fun c_2 => ?_) (fun c_2 => ?_)
  ·
    have kc_2 : r_1.toInt ≠ (0 : Int) := i_ne c_2
    exfalso; omega
  ·
    have kc_2 : r_1.toInt = (0 : Int) := i_eq c_2
    refine lv_iconst (v := (-1)) hx hb dX11_loud_11 (by decide) ?_
    have q0_m1 : ((-1) : Int32).toInt = (-1) := rfl
    exact W.iret (v := (-1)) hx hb hr (fun tt ht hW => ⟨(-1), rfl, (by first | rfl | omega | trivial | assumption), ht⟩) (fun _ h => by cases h) dX11_loud_12
set_option maxHeartbeats 4000000 in
set_option maxRecDepth 100000 in
theorem k_F_X11_day (l : Launch) (D : va_G) (cs : Nat → ClassId) (A : Nat → Prop) (ad fa fq rv : Nat → Nat) (v : Nat → Int32) (a : Nat → Nat → Int32) (w : Nat → Nat → Int64) (fv fp : Nat → Nat → Int32)  (p1 : Int32) (p2 : Int32) (p3 : Int32) (hF : FrC v a fv) : Met l yX11_day (Cond.code yX11_day cX11_day 6 (some .int) :: gw) ({ frames := 3, cells := 0, slots := 0, locals := 65 }) (va_Pc [.ref (ad 0), .int p1, .int p2, .int p3] (XPre D (TY cs) (CW cs ad fa fq rv v a w fv fp) A)) (vp_Si (fun (r : Int32) => ((0 ≤ p1.toInt ∧ p1.toInt < 6 ∧ 0 ≤ p2.toInt ∧ p2.toInt ≤ 24 ∧ 0 ≤ p3.toInt ∧ p3.toInt ≤ 2) ∧ r.toInt = -11) ∨ (¬ (0 ≤ p1.toInt ∧ p1.toInt < 6 ∧ 0 ≤ p2.toInt ∧ p2.toInt ≤ 24 ∧ 0 ≤ p3.toInt ∧ p3.toInt ≤ 2) ∧ r.toInt = -1))) 0 0 (fun _ => False) := by
  refine Met.ofW (cc := cX11_day) (maxL := 6) (ret := (some .int)) (by decide) rfl ?_
  intro p e s m args below meth c s₁ B hml hv
  obtain ⟨rfl, hP, hK, hD, hZ⟩ := hv
  have hx := B.exec
  have hb := B.bytes
  have hr := B.returns
  have hts := atoms_spec (ws := (Cond.code yX11_day cX11_day 6 (some .int) :: gw)) B.pre
  have hg : ∀ w ∈ gw, w.before ([.ref (ad 0), .int p1, .int p2, .int p3] : List Value).toArray s = true := fun w h => hts w (List.mem_cons_of_mem _ h)
  have hown : s.vm.findClass RX11 = some m.cls := findClass_of_methodNamed B.named
  have hlocks := B.notSynchronized
  have hS : va_S A s.heap s.heap [] := va_S.rf
  have hv1 : (v 1).toInt = 0 := by rw [hF.2.1]; rfl
  have hv21 : (v 21).toInt = 0 := by rw [hF.2.2.2.2.2.2.2.2.1]; rfl
  have hl := lv_entry ([.ref (ad 0), .int p1, .int p2, .int p3]) (n := 6) (Nat.le_of_ble_eq_true rfl)
  rw [lg_entry_eq]
  generalize (lg_sl ([.ref (ad 0), .int p1, .int p2, .int p3]) ++ List.replicate (6 - (lg_sl ([.ref (ad 0), .int p1, .int p2, .int p3])).length) Slot.unset).toArray = ls at hl ⊢
  have hl : lv_has ls 6 [(0, .ref (ad 0)), (1, .int p1), (2, .int p2), (3, .int p3)] := hl
  refine lv_iload_n hx hb dX11_day_0 rfl (lv_at hl 1 rfl) ?_
  refine cS_p (As := [.int p1]) (rest := []) ⟨hx, hb, hml, hown, hg⟩ (k_X10_isShelf l   p1 ) ca_X10_isShelf q2_205 ⟨rfl, rfl⟩ ⟨Nat.le_of_ble_eq_true rfl, Nat.le_of_ble_eq_true rfl⟩ rfl hl.1 rfl (Nat.le_of_ble_eq_true rfl) ⟨Nat.zero_le _, Nat.zero_le _⟩ dX11_day_1 (fun r_1 wr_1 => ?_)
  have wr_1 : (r_1.toInt = 1 ∧ 0 ≤ p1.toInt ∧ p1.toInt < 6) ∨ (r_1.toInt = 0 ∧ ¬ (0 ≤ p1.toInt ∧ p1.toInt < 6)) := wr_1
  refine lv_if_eq (tgt := 26) hx hb dX11_day_4 (by decide) (fun c_2 => ?_) (fun c_2 => ?_)
  ·
    have kc_2 : r_1.toInt = (0 : Int) := i_eq c_2
    refine lv_iconst (v := (-1)) hx hb dX11_day_26 (by decide) ?_
    have q0_m1 : ((-1) : Int32).toInt = (-1) := rfl
    exact W.iret (v := (-1)) hx hb hr (fun tt ht hW => ⟨(-1), rfl, (by first | rfl | omega | trivial | assumption), ht⟩) (fun _ h => by cases h) dX11_day_27
  ·
    have kc_2 : r_1.toInt ≠ (0 : Int) := i_ne c_2
    refine lv_iload_n hx hb dX11_day_7 rfl (lv_at hl 2 rfl) ?_
    refine lv_if_lt (tgt := 26) hx hb dX11_day_8 (by decide) (fun c_3 => ?_) (fun c_3 => ?_)
    ·
      have kc_3 : p2.toInt < (0 : Int) := i_lt c_3
      refine lv_iconst (v := (-1)) hx hb dX11_day_26 (by decide) ?_
      have q0_m1 : ((-1) : Int32).toInt = (-1) := rfl
      exact W.iret (v := (-1)) hx hb hr (fun tt ht hW => ⟨(-1), rfl, (by first | rfl | omega | trivial | assumption), ht⟩) (fun _ h => by cases h) dX11_day_27
    ·
      have kc_3 : (0 : Int) ≤ p2.toInt := i_nlt c_3
      refine lv_iload_n hx hb dX11_day_11 rfl (lv_at hl 2 rfl) ?_
      refine lv_bipush (v := 24) hx hb dX11_day_12 (by decide) ?_
      refine lv_icmp_gt (tgt := 26) hx hb dX11_day_14 (by decide) (fun c_4 => ?_) (fun c_4 => ?_)
      ·
        have kc_4 : (24 : Int) < p2.toInt := i_lt c_4
        refine lv_iconst (v := (-1)) hx hb dX11_day_26 (by decide) ?_
        have q0_m1 : ((-1) : Int32).toInt = (-1) := rfl
        exact W.iret (v := (-1)) hx hb hr (fun tt ht hW => ⟨(-1), rfl, (by first | rfl | omega | trivial | assumption), ht⟩) (fun _ h => by cases h) dX11_day_27
      ·
        have kc_4 : p2.toInt ≤ (24 : Int) := i_nlt c_4
        refine lv_iload_n hx hb dX11_day_17 rfl (lv_at hl 3 rfl) ?_
        refine lv_if_lt (tgt := 26) hx hb dX11_day_18 (by decide) (fun c_5 => ?_) (fun c_5 => ?_)
        ·
          have kc_5 : p3.toInt < (0 : Int) := i_lt c_5
          refine lv_iconst (v := (-1)) hx hb dX11_day_26 (by decide) ?_
          have q0_m1 : ((-1) : Int32).toInt = (-1) := rfl
          exact W.iret (v := (-1)) hx hb hr (fun tt ht hW => ⟨(-1), rfl, (by first | rfl | omega | trivial | assumption), ht⟩) (fun _ h => by cases h) dX11_day_27
        ·
          have kc_5 : (0 : Int) ≤ p3.toInt := i_nlt c_5
          refine lv_iload_n hx hb dX11_day_21 rfl (lv_at hl 3 rfl) ?_
          refine lv_iconst (v := 2) hx hb dX11_day_22 (by decide) ?_
          refine lv_icmp_le (tgt := 28) hx hb dX11_day_23 (by decide) (fun c_6 => ?_) (fun c_6 => ?_)
          ·
            have kc_6 : p3.toInt ≤ (2 : Int) := i_le c_6
            refine lv_aload_n hx hb dX11_day_28 rfl (lv_at hl 0 rfl) ?_
            refine lv_iload_n hx hb dX11_day_29 rfl (lv_at hl 1 rfl) ?_
            refine cV_ro (As := [.int p1]) (rest := []) ⟨hx, hb, hml, hown, hg⟩ (k_F_X11_openDay l D cs A ad fa fq rv v a w fv fp  p1 hF (show 0 ≤ p1.toInt by first | omega | decide) (show p1.toInt < 6 by first | omega | decide)) ca_X11_openDay q3_147 ⟨rfl, rfl⟩ ⟨Nat.le_of_ble_eq_true rfl, Nat.le_of_ble_eq_true rfl⟩ (rc_main hK hP) hK hP hD hS hZ rfl hl.1 rfl (Nat.le_of_ble_eq_true rfl) ⟨Nat.zero_le _, Nat.zero_le _⟩ dX11_day_30 (fun r_7 wr_7 => ?_)
            have wr_7 : r_7.toInt = -11 := wr_7
            refine lv_istore (lv' := [(4, .int r_7), (0, .ref (ad 0)), (1, .int p1), (2, .int p2), (3, .int p3)]) hx hb dX11_day_33 hl (by decide) rfl (fun ls hl => ?_)
            refine lv_iload hx hb dX11_day_35 (lv_at hl 0 rfl) ?_
            refine lv_if_ge (tgt := 43) hx hb dX11_day_37 (by decide) (fun c_8 => ?_) (fun c_8 => ?_)
            ·
              have kc_8 : (0 : Int) ≤ r_7.toInt := i_le c_8
              exfalso; omega
            ·
              have kc_8 : r_7.toInt < (0 : Int) := i_nle c_8
              refine lv_iload hx hb dX11_day_40 (lv_at hl 0 rfl) ?_
              exact W.iret (v := r_7) hx hb hr (fun tt ht hW => ⟨r_7, rfl, (by first | rfl | omega | trivial | assumption), ht⟩) (fun _ h => by cases h) dX11_day_42
          ·
            have kc_6 : (2 : Int) < p3.toInt := i_nle c_6
            refine lv_iconst (v := (-1)) hx hb dX11_day_26 (by decide) ?_
            have q0_m1 : ((-1) : Int32).toInt = (-1) := rfl
            exact W.iret (v := (-1)) hx hb hr (fun tt ht hW => ⟨(-1), rfl, (by first | rfl | omega | trivial | assumption), ht⟩) (fun _ h => by cases h) dX11_day_27
set_option maxHeartbeats 4000000 in
set_option maxRecDepth 100000 in
theorem k_F_X11_stung (l : Launch) (D : va_G) (cs : Nat → ClassId) (A : Nat → Prop) (ad fa fq rv : Nat → Nat) (v : Nat → Int32) (a : Nat → Nat → Int32) (w : Nat → Nat → Int64) (fv fp : Nat → Nat → Int32)  (p1 : Int32) (p2 : Int32) (p3 : Int32) (p4 : Int32) (hF : FrC v a fv) : Met l yX11_stung (Cond.code yX11_stung cX11_stung 11 (some .int) :: gw) ({ frames := 1, cells := 0, slots := 0, locals := 21 }) (va_Pc [.ref (ad 0), .int p1, .int p2, .int p3, .int p4] (XPre D (TY cs) (CW cs ad fa fq rv v a w fv fp) A)) (vp_Si (fun (r : Int32) => r.toInt = -1)) 0 0 (fun _ => False) := by
  refine Met.ofW (cc := cX11_stung) (maxL := 11) (ret := (some .int)) (by decide) rfl ?_
  intro p e s m args below meth c s₁ B hml hv
  obtain ⟨rfl, hP, hK, hD, hZ⟩ := hv
  have hx := B.exec
  have hb := B.bytes
  have hr := B.returns
  have hts := atoms_spec (ws := (Cond.code yX11_stung cX11_stung 11 (some .int) :: gw)) B.pre
  have hg : ∀ w ∈ gw, w.before ([.ref (ad 0), .int p1, .int p2, .int p3, .int p4] : List Value).toArray s = true := fun w h => hts w (List.mem_cons_of_mem _ h)
  have hown : s.vm.findClass RX11 = some m.cls := findClass_of_methodNamed B.named
  have hlocks := B.notSynchronized
  have hS : va_S A s.heap s.heap [] := va_S.rf
  have hv1 : (v 1).toInt = 0 := by rw [hF.2.1]; rfl
  have hv21 : (v 21).toInt = 0 := by rw [hF.2.2.2.2.2.2.2.2.1]; rfl
  have hl := lv_entry ([.ref (ad 0), .int p1, .int p2, .int p3, .int p4]) (n := 11) (Nat.le_of_ble_eq_true rfl)
  rw [lg_entry_eq]
  generalize (lg_sl ([.ref (ad 0), .int p1, .int p2, .int p3, .int p4]) ++ List.replicate (11 - (lg_sl ([.ref (ad 0), .int p1, .int p2, .int p3, .int p4])).length) Slot.unset).toArray = ls at hl ⊢
  have hl : lv_has ls 11 [(0, .ref (ad 0)), (1, .int p1), (2, .int p2), (3, .int p3), (4, .int p4)] := hl
  refine lv_iload_n hx hb dX11_stung_0 rfl (lv_at hl 1 rfl) ?_
  refine cS_p (As := [.int p1]) (rest := []) ⟨hx, hb, hml, hown, hg⟩ (k_X10_isShelf l   p1 ) ca_X10_isShelf q2_205 ⟨rfl, rfl⟩ ⟨Nat.le_of_ble_eq_true rfl, Nat.le_of_ble_eq_true rfl⟩ rfl hl.1 rfl (Nat.le_of_ble_eq_true rfl) ⟨Nat.zero_le _, Nat.zero_le _⟩ dX11_stung_1 (fun r_1 wr_1 => ?_)
  have wr_1 : (r_1.toInt = 1 ∧ 0 ≤ p1.toInt ∧ p1.toInt < 6) ∨ (r_1.toInt = 0 ∧ ¬ (0 ≤ p1.toInt ∧ p1.toInt < 6)) := wr_1
  refine lv_if_eq (tgt := 39) hx hb dX11_stung_4 (by decide) (fun c_2 => ?_) (fun c_2 => ?_)
  ·
    have kc_2 : r_1.toInt = (0 : Int) := i_eq c_2
    refine lv_iconst (v := (-1)) hx hb dX11_stung_39 (by decide) ?_
    have q0_m1 : ((-1) : Int32).toInt = (-1) := rfl
    exact W.iret (v := (-1)) hx hb hr (fun tt ht hW => ⟨(-1), rfl, (by first | rfl | omega | trivial | assumption), ht⟩) (fun _ h => by cases h) dX11_stung_40
  ·
    have kc_2 : r_1.toInt ≠ (0 : Int) := i_ne c_2
    refine lv_iload_n hx hb dX11_stung_7 rfl (lv_at hl 2 rfl) ?_
    refine lv_if_lt (tgt := 39) hx hb dX11_stung_8 (by decide) (fun c_3 => ?_) (fun c_3 => ?_)
    ·
      have kc_3 : p2.toInt < (0 : Int) := i_lt c_3
      refine lv_iconst (v := (-1)) hx hb dX11_stung_39 (by decide) ?_
      have q0_m1 : ((-1) : Int32).toInt = (-1) := rfl
      exact W.iret (v := (-1)) hx hb hr (fun tt ht hW => ⟨(-1), rfl, (by first | rfl | omega | trivial | assumption), ht⟩) (fun _ h => by cases h) dX11_stung_40
    ·
      have kc_3 : (0 : Int) ≤ p2.toInt := i_nlt c_3
      refine lv_iload_n hx hb dX11_stung_11 rfl (lv_at hl 2 rfl) ?_
      refine lv_bipush (v := 24) hx hb dX11_stung_12 (by decide) ?_
      refine lv_icmp_gt (tgt := 39) hx hb dX11_stung_14 (by decide) (fun c_4 => ?_) (fun c_4 => ?_)
      ·
        have kc_4 : (24 : Int) < p2.toInt := i_lt c_4
        refine lv_iconst (v := (-1)) hx hb dX11_stung_39 (by decide) ?_
        have q0_m1 : ((-1) : Int32).toInt = (-1) := rfl
        exact W.iret (v := (-1)) hx hb hr (fun tt ht hW => ⟨(-1), rfl, (by first | rfl | omega | trivial | assumption), ht⟩) (fun _ h => by cases h) dX11_stung_40
      ·
        have kc_4 : p2.toInt ≤ (24 : Int) := i_nlt c_4
        refine lv_aload_n hx hb dX11_stung_17 rfl (lv_at hl 0 rfl) ?_
        refine gf_main_parish hx hb hg hown hK hP rfl (hg _ q2_123) dX11_stung_18 ?_
        refine lv_iload_n hx hb dX11_stung_21 rfl (lv_at hl 3 rfl) ?_
        refine cV_ro (As := [.int p3]) (rest := []) ⟨hx, hb, hml, hown, hg⟩ (k_F_X9_has l D cs A ad fa fq rv v a w fv fp  p3 hF) ca_X9_has q3_4 ⟨rfl, rfl⟩ ⟨Nat.le_of_ble_eq_true rfl, Nat.le_of_ble_eq_true rfl⟩ (rc_parish hK hP) hK hP hD hS hZ rfl hl.1 rfl (Nat.le_of_ble_eq_true rfl) ⟨Nat.zero_le _, Nat.zero_le _⟩ dX11_stung_22 (fun r_5 wr_5 => ?_)
        have wr_5 : r_5.toInt = 0 := wr_5
        refine lv_if_eq (tgt := 39) hx hb dX11_stung_25 (by decide) (fun c_6 => ?_) (fun c_6 => ?_)
        ·
          have kc_6 : r_5.toInt = (0 : Int) := i_eq c_6
          refine lv_iconst (v := (-1)) hx hb dX11_stung_39 (by decide) ?_
          have q0_m1 : ((-1) : Int32).toInt = (-1) := rfl
          exact W.iret (v := (-1)) hx hb hr (fun tt ht hW => ⟨(-1), rfl, (by first | rfl | omega | trivial | assumption), ht⟩) (fun _ h => by cases h) dX11_stung_40
        ·
          have kc_6 : r_5.toInt ≠ (0 : Int) := i_ne c_6
          exfalso; omega
set_option maxHeartbeats 4000000 in
set_option maxRecDepth 100000 in
theorem k_F_X11_reach (l : Launch) (D : va_G) (cs : Nat → ClassId) (A : Nat → Prop) (ad fa fq rv : Nat → Nat) (v : Nat → Int32) (a : Nat → Nat → Int32) (w : Nat → Nat → Int64) (fv fp : Nat → Nat → Int32)   (hF : FrC v a fv) : Met l yX11_reach (Cond.code yX11_reach cX11_reach 1 (some .int) :: gw) ({ frames := 1, cells := 0, slots := 0, locals := 23 }) (va_Pc [.ref (ad 0)] (XPre D (TY cs) (CW cs ad fa fq rv v a w fv fp) A)) (vp_Si (fun (r : Int32) => r.toInt = 0)) 0 0 (fun _ => False) := by
  refine Met.ofW (cc := cX11_reach) (maxL := 1) (ret := (some .int)) (by decide) rfl ?_
  intro p e s m args below meth c s₁ B hml hv
  obtain ⟨rfl, hP, hK, hD, hZ⟩ := hv
  have hx := B.exec
  have hb := B.bytes
  have hr := B.returns
  have hts := atoms_spec (ws := (Cond.code yX11_reach cX11_reach 1 (some .int) :: gw)) B.pre
  have hg : ∀ w ∈ gw, w.before ([.ref (ad 0)] : List Value).toArray s = true := fun w h => hts w (List.mem_cons_of_mem _ h)
  have hown : s.vm.findClass RX11 = some m.cls := findClass_of_methodNamed B.named
  have hlocks := B.notSynchronized
  have hS : va_S A s.heap s.heap [] := va_S.rf
  have hv1 : (v 1).toInt = 0 := by rw [hF.2.1]; rfl
  have hv21 : (v 21).toInt = 0 := by rw [hF.2.2.2.2.2.2.2.2.1]; rfl
  have hl := lv_entry ([.ref (ad 0)]) (n := 1) (Nat.le_of_ble_eq_true rfl)
  rw [lg_entry_eq]
  generalize (lg_sl ([.ref (ad 0)]) ++ List.replicate (1 - (lg_sl ([.ref (ad 0)])).length) Slot.unset).toArray = ls at hl ⊢
  have hl : lv_has ls 1 [(0, .ref (ad 0))] := hl
  refine lv_aload_n hx hb dX11_reach_0 rfl (lv_at hl 0 rfl) ?_
  refine gf_main_parish hx hb hg hown hK hP rfl (hg _ q2_123) dX11_reach_1 ?_
  refine lv_aload_n hx hb dX11_reach_4 rfl (lv_at hl 0 rfl) ?_
  refine gf_main_deed hx hb hg hown hK hP rfl (hg _ q2_125) dX11_reach_5 ?_
  refine gf_fl_swarm (f := 14) (by decide) hx hb hg hown hK hP (x := 0) hF.2.2.2.2.2.2.2.2.2.2.2.2.1 (hg _ q1_233) dX11_reach_8 ?_
  refine cV_ro (As := [.int 0]) (rest := []) ⟨hx, hb, hml, hown, hg⟩ (k_F_X9_within l D cs A ad fa fq rv v a w fv fp  0 hF) ca_X9_within q3_200 ⟨rfl, rfl⟩ ⟨Nat.le_of_ble_eq_true rfl, Nat.le_of_ble_eq_true rfl⟩ (rc_parish hK hP) hK hP hD hS hZ rfl hl.1 rfl (Nat.le_of_ble_eq_true rfl) ⟨Nat.zero_le _, Nat.zero_le _⟩ dX11_reach_11 (fun r_1 wr_1 => ?_)
  have wr_1 : r_1.toInt = 0 := wr_1
  exact W.iret (v := r_1) hx hb hr (fun tt ht hW => ⟨r_1, rfl, (by first | rfl | omega | trivial | assumption), ht⟩) (fun _ h => by cases h) dX11_reach_14
set_option maxHeartbeats 4000000 in
set_option maxRecDepth 100000 in
theorem k_F_X11_soon (l : Launch) (D : va_G) (cs : Nat → ClassId) (A : Nat → Prop) (ad fa fq rv : Nat → Nat) (v : Nat → Int32) (a : Nat → Nat → Int32) (w : Nat → Nat → Int64) (fv fp : Nat → Nat → Int32)  (p1 : Int32) (hF : FrC v a fv) : Met l yX11_soon (Cond.code yX11_soon cX11_soon 2 (some .int) :: gw) ({ frames := 1, cells := 0, slots := 0, locals := 21 }) (va_Pc [.ref (ad 0), .int p1] (XPre D (TY cs) (CW cs ad fa fq rv v a w fv fp) A)) (vp_Si (fun (r : Int32) => r.toInt = -1)) 0 0 (fun _ => False) := by
  refine Met.ofW (cc := cX11_soon) (maxL := 2) (ret := (some .int)) (by decide) rfl ?_
  intro p e s m args below meth c s₁ B hml hv
  obtain ⟨rfl, hP, hK, hD, hZ⟩ := hv
  have hx := B.exec
  have hb := B.bytes
  have hr := B.returns
  have hts := atoms_spec (ws := (Cond.code yX11_soon cX11_soon 2 (some .int) :: gw)) B.pre
  have hg : ∀ w ∈ gw, w.before ([.ref (ad 0), .int p1] : List Value).toArray s = true := fun w h => hts w (List.mem_cons_of_mem _ h)
  have hown : s.vm.findClass RX11 = some m.cls := findClass_of_methodNamed B.named
  have hlocks := B.notSynchronized
  have hS : va_S A s.heap s.heap [] := va_S.rf
  have hv1 : (v 1).toInt = 0 := by rw [hF.2.1]; rfl
  have hv21 : (v 21).toInt = 0 := by rw [hF.2.2.2.2.2.2.2.2.1]; rfl
  have hl := lv_entry ([.ref (ad 0), .int p1]) (n := 2) (Nat.le_of_ble_eq_true rfl)
  rw [lg_entry_eq]
  generalize (lg_sl ([.ref (ad 0), .int p1]) ++ List.replicate (2 - (lg_sl ([.ref (ad 0), .int p1])).length) Slot.unset).toArray = ls at hl ⊢
  have hl : lv_has ls 2 [(0, .ref (ad 0)), (1, .int p1)] := hl
  refine lv_aload_n hx hb dX11_soon_0 rfl (lv_at hl 0 rfl) ?_
  refine gf_main_parish hx hb hg hown hK hP rfl (hg _ q2_123) dX11_soon_1 ?_
  refine lv_iload_n hx hb dX11_soon_4 rfl (lv_at hl 1 rfl) ?_
  refine cV_ro (As := [.int p1]) (rest := []) ⟨hx, hb, hml, hown, hg⟩ (k_F_X9_has l D cs A ad fa fq rv v a w fv fp  p1 hF) ca_X9_has q3_4 ⟨rfl, rfl⟩ ⟨Nat.le_of_ble_eq_true rfl, Nat.le_of_ble_eq_true rfl⟩ (rc_parish hK hP) hK hP hD hS hZ rfl hl.1 rfl (Nat.le_of_ble_eq_true rfl) ⟨Nat.zero_le _, Nat.zero_le _⟩ dX11_soon_5 (fun r_1 wr_1 => ?_)
  have wr_1 : r_1.toInt = 0 := wr_1
  refine lv_if_ne (tgt := 13) hx hb dX11_soon_8 (by decide) (fun c_2 => ?_) (fun c_2 => ?_)
  ·
    have kc_2 : r_1.toInt ≠ (0 : Int) := i_ne c_2
    exfalso; omega
  ·
    have kc_2 : r_1.toInt = (0 : Int) := i_eq c_2
    refine lv_iconst (v := (-1)) hx hb dX11_soon_11 (by decide) ?_
    have q0_m1 : ((-1) : Int32).toInt = (-1) := rfl
    exact W.iret (v := (-1)) hx hb hr (fun tt ht hW => ⟨(-1), rfl, (by first | rfl | omega | trivial | assumption), ht⟩) (fun _ h => by cases h) dX11_soon_12
set_option maxHeartbeats 4000000 in
set_option maxRecDepth 100000 in
theorem k_F_X11_passOn (l : Launch) (D : va_G) (cs : Nat → ClassId) (A : Nat → Prop) (ad fa fq rv : Nat → Nat) (v : Nat → Int32) (a : Nat → Nat → Int32) (w : Nat → Nat → Int64) (fv fp : Nat → Nat → Int32)  (p1 : Int32) (p2 : Int32) (p3 : Int32) (hF : FrC v a fv) : Met l yX11_passOn (Cond.code yX11_passOn cX11_passOn 9 (some .int) :: gw) ({ frames := 1, cells := 0, slots := 0, locals := 21 }) (va_Pc [.ref (ad 0), .int p1, .int p2, .int p3] (XPre D (TY cs) (CW cs ad fa fq rv v a w fv fp) A)) (vp_Si (fun (r : Int32) => r.toInt = -1)) 0 0 (fun _ => False) := by
  refine Met.ofW (cc := cX11_passOn) (maxL := 9) (ret := (some .int)) (by decide) rfl ?_
  intro p e s m args below meth c s₁ B hml hv
  obtain ⟨rfl, hP, hK, hD, hZ⟩ := hv
  have hx := B.exec
  have hb := B.bytes
  have hr := B.returns
  have hts := atoms_spec (ws := (Cond.code yX11_passOn cX11_passOn 9 (some .int) :: gw)) B.pre
  have hg : ∀ w ∈ gw, w.before ([.ref (ad 0), .int p1, .int p2, .int p3] : List Value).toArray s = true := fun w h => hts w (List.mem_cons_of_mem _ h)
  have hown : s.vm.findClass RX11 = some m.cls := findClass_of_methodNamed B.named
  have hlocks := B.notSynchronized
  have hS : va_S A s.heap s.heap [] := va_S.rf
  have hv1 : (v 1).toInt = 0 := by rw [hF.2.1]; rfl
  have hv21 : (v 21).toInt = 0 := by rw [hF.2.2.2.2.2.2.2.2.1]; rfl
  have hl := lv_entry ([.ref (ad 0), .int p1, .int p2, .int p3]) (n := 9) (Nat.le_of_ble_eq_true rfl)
  rw [lg_entry_eq]
  generalize (lg_sl ([.ref (ad 0), .int p1, .int p2, .int p3]) ++ List.replicate (9 - (lg_sl ([.ref (ad 0), .int p1, .int p2, .int p3])).length) Slot.unset).toArray = ls at hl ⊢
  have hl : lv_has ls 9 [(0, .ref (ad 0)), (1, .int p1), (2, .int p2), (3, .int p3)] := hl
  refine lv_iload_n hx hb dX11_passOn_0 rfl (lv_at hl 1 rfl) ?_
  refine cS_p (As := [.int p1]) (rest := []) ⟨hx, hb, hml, hown, hg⟩ (k_X10_isShelf l   p1 ) ca_X10_isShelf q2_205 ⟨rfl, rfl⟩ ⟨Nat.le_of_ble_eq_true rfl, Nat.le_of_ble_eq_true rfl⟩ rfl hl.1 rfl (Nat.le_of_ble_eq_true rfl) ⟨Nat.zero_le _, Nat.zero_le _⟩ dX11_passOn_1 (fun r_1 wr_1 => ?_)
  have wr_1 : (r_1.toInt = 1 ∧ 0 ≤ p1.toInt ∧ p1.toInt < 6) ∨ (r_1.toInt = 0 ∧ ¬ (0 ≤ p1.toInt ∧ p1.toInt < 6)) := wr_1
  refine lv_if_eq (tgt := 27) hx hb dX11_passOn_4 (by decide) (fun c_2 => ?_) (fun c_2 => ?_)
  ·
    have kc_2 : r_1.toInt = (0 : Int) := i_eq c_2
    refine lv_iconst (v := (-1)) hx hb dX11_passOn_27 (by decide) ?_
    have q0_m1 : ((-1) : Int32).toInt = (-1) := rfl
    exact W.iret (v := (-1)) hx hb hr (fun tt ht hW => ⟨(-1), rfl, (by first | rfl | omega | trivial | assumption), ht⟩) (fun _ h => by cases h) dX11_passOn_28
  ·
    have kc_2 : r_1.toInt ≠ (0 : Int) := i_ne c_2
    refine lv_aload_n hx hb dX11_passOn_7 rfl (lv_at hl 0 rfl) ?_
    refine gf_main_parish hx hb hg hown hK hP rfl (hg _ q2_123) dX11_passOn_8 ?_
    refine lv_iload_n hx hb dX11_passOn_11 rfl (lv_at hl 2 rfl) ?_
    refine cV_ro (As := [.int p2]) (rest := []) ⟨hx, hb, hml, hown, hg⟩ (k_F_X9_has l D cs A ad fa fq rv v a w fv fp  p2 hF) ca_X9_has q3_4 ⟨rfl, rfl⟩ ⟨Nat.le_of_ble_eq_true rfl, Nat.le_of_ble_eq_true rfl⟩ (rc_parish hK hP) hK hP hD hS hZ rfl hl.1 rfl (Nat.le_of_ble_eq_true rfl) ⟨Nat.zero_le _, Nat.zero_le _⟩ dX11_passOn_12 (fun r_3 wr_3 => ?_)
    have wr_3 : r_3.toInt = 0 := wr_3
    refine lv_if_eq (tgt := 27) hx hb dX11_passOn_15 (by decide) (fun c_4 => ?_) (fun c_4 => ?_)
    ·
      have kc_4 : r_3.toInt = (0 : Int) := i_eq c_4
      refine lv_iconst (v := (-1)) hx hb dX11_passOn_27 (by decide) ?_
      have q0_m1 : ((-1) : Int32).toInt = (-1) := rfl
      exact W.iret (v := (-1)) hx hb hr (fun tt ht hW => ⟨(-1), rfl, (by first | rfl | omega | trivial | assumption), ht⟩) (fun _ h => by cases h) dX11_passOn_28
    ·
      have kc_4 : r_3.toInt ≠ (0 : Int) := i_ne c_4
      exfalso; omega
set_option maxHeartbeats 4000000 in
set_option maxRecDepth 100000 in
theorem k_F_X11_orders (l : Launch) (D : va_G) (cs : Nat → ClassId) (A : Nat → Prop) (ad fa fq rv : Nat → Nat) (v : Nat → Int32) (a : Nat → Nat → Int32) (w : Nat → Nat → Int64) (fv fp : Nat → Nat → Int32)  (p1 : Int32) (p2 : Int32) (hF : FrC v a fv) : Met l yX11_orders (Cond.code yX11_orders cX11_orders 4 (some .int) :: gw) ({ frames := 3, cells := 0, slots := 0, locals := 65 }) (va_Pc [.ref (ad 0), .int p1, .int p2] (XPre D (TY cs) (CW cs ad fa fq rv v a w fv fp) A)) (vp_Si (fun (r : Int32) => ((0 ≤ p1.toInt ∧ p1.toInt < 6 ∧ -2 ≤ p2.toInt) ∧ r.toInt = -11) ∨ (¬ (0 ≤ p1.toInt ∧ p1.toInt < 6 ∧ -2 ≤ p2.toInt) ∧ r.toInt = -1))) 0 0 (fun _ => False) := by
  refine Met.ofW (cc := cX11_orders) (maxL := 4) (ret := (some .int)) (by decide) rfl ?_
  intro p e s m args below meth c s₁ B hml hv
  obtain ⟨rfl, hP, hK, hD, hZ⟩ := hv
  have hx := B.exec
  have hb := B.bytes
  have hr := B.returns
  have hts := atoms_spec (ws := (Cond.code yX11_orders cX11_orders 4 (some .int) :: gw)) B.pre
  have hg : ∀ w ∈ gw, w.before ([.ref (ad 0), .int p1, .int p2] : List Value).toArray s = true := fun w h => hts w (List.mem_cons_of_mem _ h)
  have hown : s.vm.findClass RX11 = some m.cls := findClass_of_methodNamed B.named
  have hlocks := B.notSynchronized
  have hS : va_S A s.heap s.heap [] := va_S.rf
  have hv1 : (v 1).toInt = 0 := by rw [hF.2.1]; rfl
  have hv21 : (v 21).toInt = 0 := by rw [hF.2.2.2.2.2.2.2.2.1]; rfl
  have hl := lv_entry ([.ref (ad 0), .int p1, .int p2]) (n := 4) (Nat.le_of_ble_eq_true rfl)
  rw [lg_entry_eq]
  generalize (lg_sl ([.ref (ad 0), .int p1, .int p2]) ++ List.replicate (4 - (lg_sl ([.ref (ad 0), .int p1, .int p2])).length) Slot.unset).toArray = ls at hl ⊢
  have hl : lv_has ls 4 [(0, .ref (ad 0)), (1, .int p1), (2, .int p2)] := hl
  refine lv_iload_n hx hb dX11_orders_0 rfl (lv_at hl 1 rfl) ?_
  refine cS_p (As := [.int p1]) (rest := []) ⟨hx, hb, hml, hown, hg⟩ (k_X10_isShelf l   p1 ) ca_X10_isShelf q2_205 ⟨rfl, rfl⟩ ⟨Nat.le_of_ble_eq_true rfl, Nat.le_of_ble_eq_true rfl⟩ rfl hl.1 rfl (Nat.le_of_ble_eq_true rfl) ⟨Nat.zero_le _, Nat.zero_le _⟩ dX11_orders_1 (fun r_1 wr_1 => ?_)
  have wr_1 : (r_1.toInt = 1 ∧ 0 ≤ p1.toInt ∧ p1.toInt < 6) ∨ (r_1.toInt = 0 ∧ ¬ (0 ≤ p1.toInt ∧ p1.toInt < 6)) := wr_1
  refine lv_if_eq (tgt := 13) hx hb dX11_orders_4 (by decide) (fun c_2 => ?_) (fun c_2 => ?_)
  ·
    have kc_2 : r_1.toInt = (0 : Int) := i_eq c_2
    refine lv_iconst (v := (-1)) hx hb dX11_orders_13 (by decide) ?_
    have q0_m1 : ((-1) : Int32).toInt = (-1) := rfl
    exact W.iret (v := (-1)) hx hb hr (fun tt ht hW => ⟨(-1), rfl, (by first | rfl | omega | trivial | assumption), ht⟩) (fun _ h => by cases h) dX11_orders_14
  ·
    have kc_2 : r_1.toInt ≠ (0 : Int) := i_ne c_2
    refine lv_iload_n hx hb dX11_orders_7 rfl (lv_at hl 2 rfl) ?_
    refine lv_bipush (v := (-2)) hx hb dX11_orders_8 (by decide) ?_
    refine lv_icmp_ge (tgt := 15) hx hb dX11_orders_10 (by decide) (fun c_3 => ?_) (fun c_3 => ?_)
    ·
      have kc_3 : (-2 : Int) ≤ p2.toInt := i_le c_3
      refine lv_aload_n hx hb dX11_orders_15 rfl (lv_at hl 0 rfl) ?_
      refine lv_iload_n hx hb dX11_orders_16 rfl (lv_at hl 1 rfl) ?_
      refine cV_ro (As := [.int p1]) (rest := []) ⟨hx, hb, hml, hown, hg⟩ (k_F_X11_openDay l D cs A ad fa fq rv v a w fv fp  p1 hF (show 0 ≤ p1.toInt by first | omega | decide) (show p1.toInt < 6 by first | omega | decide)) ca_X11_openDay q3_147 ⟨rfl, rfl⟩ ⟨Nat.le_of_ble_eq_true rfl, Nat.le_of_ble_eq_true rfl⟩ (rc_main hK hP) hK hP hD hS hZ rfl hl.1 rfl (Nat.le_of_ble_eq_true rfl) ⟨Nat.zero_le _, Nat.zero_le _⟩ dX11_orders_17 (fun r_4 wr_4 => ?_)
      have wr_4 : r_4.toInt = -11 := wr_4
      refine lv_istore_n (lv' := [(3, .int r_4), (0, .ref (ad 0)), (1, .int p1), (2, .int p2)]) hx hb dX11_orders_20 rfl hl (by decide) rfl (fun ls hl => ?_)
      refine lv_iload_n hx hb dX11_orders_21 rfl (lv_at hl 0 rfl) ?_
      refine lv_if_ge (tgt := 27) hx hb dX11_orders_22 (by decide) (fun c_5 => ?_) (fun c_5 => ?_)
      ·
        have kc_5 : (0 : Int) ≤ r_4.toInt := i_le c_5
        exfalso; omega
      ·
        have kc_5 : r_4.toInt < (0 : Int) := i_nle c_5
        refine lv_iload_n hx hb dX11_orders_25 rfl (lv_at hl 0 rfl) ?_
        exact W.iret (v := r_4) hx hb hr (fun tt ht hW => ⟨r_4, rfl, (by first | rfl | omega | trivial | assumption), ht⟩) (fun _ h => by cases h) dX11_orders_26
    ·
      have kc_3 : p2.toInt < (-2 : Int) := i_nle c_3
      refine lv_iconst (v := (-1)) hx hb dX11_orders_13 (by decide) ?_
      have q0_m1 : ((-1) : Int32).toInt = (-1) := rfl
      exact W.iret (v := (-1)) hx hb hr (fun tt ht hW => ⟨(-1), rfl, (by first | rfl | omega | trivial | assumption), ht⟩) (fun _ h => by cases h) dX11_orders_14
set_option maxHeartbeats 4000000 in
set_option maxRecDepth 100000 in
theorem k_F_X11_stand (l : Launch) (D : va_G) (cs : Nat → ClassId) (A : Nat → Prop) (ad fa fq rv : Nat → Nat) (v : Nat → Int32) (a : Nat → Nat → Int32) (w : Nat → Nat → Int64) (fv fp : Nat → Nat → Int32)  (p1 : Int32) (p2 : Int32) (p3 : Int32) (hF : FrC v a fv) : Met l yX11_stand (Cond.code yX11_stand cX11_stand 9 (some .int) :: gw) ({ frames := 1, cells := 0, slots := 0, locals := 21 }) (va_Pc [.ref (ad 0), .int p1, .int p2, .int p3] (XPre D (TY cs) (CW cs ad fa fq rv v a w fv fp) A)) (vp_Si (fun (r : Int32) => r.toInt = -1)) 0 0 (fun _ => False) := by
  refine Met.ofW (cc := cX11_stand) (maxL := 9) (ret := (some .int)) (by decide) rfl ?_
  intro p e s m args below meth c s₁ B hml hv
  obtain ⟨rfl, hP, hK, hD, hZ⟩ := hv
  have hx := B.exec
  have hb := B.bytes
  have hr := B.returns
  have hts := atoms_spec (ws := (Cond.code yX11_stand cX11_stand 9 (some .int) :: gw)) B.pre
  have hg : ∀ w ∈ gw, w.before ([.ref (ad 0), .int p1, .int p2, .int p3] : List Value).toArray s = true := fun w h => hts w (List.mem_cons_of_mem _ h)
  have hown : s.vm.findClass RX11 = some m.cls := findClass_of_methodNamed B.named
  have hlocks := B.notSynchronized
  have hS : va_S A s.heap s.heap [] := va_S.rf
  have hv1 : (v 1).toInt = 0 := by rw [hF.2.1]; rfl
  have hv21 : (v 21).toInt = 0 := by rw [hF.2.2.2.2.2.2.2.2.1]; rfl
  have hl := lv_entry ([.ref (ad 0), .int p1, .int p2, .int p3]) (n := 9) (Nat.le_of_ble_eq_true rfl)
  rw [lg_entry_eq]
  generalize (lg_sl ([.ref (ad 0), .int p1, .int p2, .int p3]) ++ List.replicate (9 - (lg_sl ([.ref (ad 0), .int p1, .int p2, .int p3])).length) Slot.unset).toArray = ls at hl ⊢
  have hl : lv_has ls 9 [(0, .ref (ad 0)), (1, .int p1), (2, .int p2), (3, .int p3)] := hl
  refine lv_iload_n hx hb dX11_stand_0 rfl (lv_at hl 1 rfl) ?_
  refine cS_p (As := [.int p1]) (rest := []) ⟨hx, hb, hml, hown, hg⟩ (k_X10_isShelf l   p1 ) ca_X10_isShelf q2_205 ⟨rfl, rfl⟩ ⟨Nat.le_of_ble_eq_true rfl, Nat.le_of_ble_eq_true rfl⟩ rfl hl.1 rfl (Nat.le_of_ble_eq_true rfl) ⟨Nat.zero_le _, Nat.zero_le _⟩ dX11_stand_1 (fun r_1 wr_1 => ?_)
  have wr_1 : (r_1.toInt = 1 ∧ 0 ≤ p1.toInt ∧ p1.toInt < 6) ∨ (r_1.toInt = 0 ∧ ¬ (0 ≤ p1.toInt ∧ p1.toInt < 6)) := wr_1
  refine lv_if_eq (tgt := 27) hx hb dX11_stand_4 (by decide) (fun c_2 => ?_) (fun c_2 => ?_)
  ·
    have kc_2 : r_1.toInt = (0 : Int) := i_eq c_2
    refine lv_iconst (v := (-1)) hx hb dX11_stand_27 (by decide) ?_
    have q0_m1 : ((-1) : Int32).toInt = (-1) := rfl
    exact W.iret (v := (-1)) hx hb hr (fun tt ht hW => ⟨(-1), rfl, (by first | rfl | omega | trivial | assumption), ht⟩) (fun _ h => by cases h) dX11_stand_28
  ·
    have kc_2 : r_1.toInt ≠ (0 : Int) := i_ne c_2
    refine lv_aload_n hx hb dX11_stand_7 rfl (lv_at hl 0 rfl) ?_
    refine gf_main_parish hx hb hg hown hK hP rfl (hg _ q2_123) dX11_stand_8 ?_
    refine lv_iload_n hx hb dX11_stand_11 rfl (lv_at hl 2 rfl) ?_
    refine cV_ro (As := [.int p2]) (rest := []) ⟨hx, hb, hml, hown, hg⟩ (k_F_X9_has l D cs A ad fa fq rv v a w fv fp  p2 hF) ca_X9_has q3_4 ⟨rfl, rfl⟩ ⟨Nat.le_of_ble_eq_true rfl, Nat.le_of_ble_eq_true rfl⟩ (rc_parish hK hP) hK hP hD hS hZ rfl hl.1 rfl (Nat.le_of_ble_eq_true rfl) ⟨Nat.zero_le _, Nat.zero_le _⟩ dX11_stand_12 (fun r_3 wr_3 => ?_)
    have wr_3 : r_3.toInt = 0 := wr_3
    refine lv_if_eq (tgt := 27) hx hb dX11_stand_15 (by decide) (fun c_4 => ?_) (fun c_4 => ?_)
    ·
      have kc_4 : r_3.toInt = (0 : Int) := i_eq c_4
      refine lv_iconst (v := (-1)) hx hb dX11_stand_27 (by decide) ?_
      have q0_m1 : ((-1) : Int32).toInt = (-1) := rfl
      exact W.iret (v := (-1)) hx hb hr (fun tt ht hW => ⟨(-1), rfl, (by first | rfl | omega | trivial | assumption), ht⟩) (fun _ h => by cases h) dX11_stand_28
    ·
      have kc_4 : r_3.toInt ≠ (0 : Int) := i_ne c_4
      exfalso; omega
set_option maxHeartbeats 4000000 in
set_option maxRecDepth 100000 in
theorem k_F_X11_lastWord (l : Launch) (D : va_G) (cs : Nat → ClassId) (A : Nat → Prop) (ad fa fq rv : Nat → Nat) (v : Nat → Int32) (a : Nat → Nat → Int32) (w : Nat → Nat → Int64) (fv fp : Nat → Nat → Int32)  (p1 : Int32) (p2 : Int32) (p3 : Int32) (hF : FrC v a fv) : Met l yX11_lastWord (Cond.code yX11_lastWord cX11_lastWord 6 (some .int) :: gw) ({ frames := 1, cells := 0, slots := 0, locals := 21 }) (va_Pc [.ref (ad 0), .int p1, .int p2, .int p3] (XPre D (TY cs) (CW cs ad fa fq rv v a w fv fp) A)) (vp_Si (fun (r : Int32) => r.toInt = -1)) 0 0 (fun _ => False) := by
  refine Met.ofW (cc := cX11_lastWord) (maxL := 6) (ret := (some .int)) (by decide) rfl ?_
  intro p e s m args below meth c s₁ B hml hv
  obtain ⟨rfl, hP, hK, hD, hZ⟩ := hv
  have hx := B.exec
  have hb := B.bytes
  have hr := B.returns
  have hts := atoms_spec (ws := (Cond.code yX11_lastWord cX11_lastWord 6 (some .int) :: gw)) B.pre
  have hg : ∀ w ∈ gw, w.before ([.ref (ad 0), .int p1, .int p2, .int p3] : List Value).toArray s = true := fun w h => hts w (List.mem_cons_of_mem _ h)
  have hown : s.vm.findClass RX11 = some m.cls := findClass_of_methodNamed B.named
  have hlocks := B.notSynchronized
  have hS : va_S A s.heap s.heap [] := va_S.rf
  have hv1 : (v 1).toInt = 0 := by rw [hF.2.1]; rfl
  have hv21 : (v 21).toInt = 0 := by rw [hF.2.2.2.2.2.2.2.2.1]; rfl
  have hl := lv_entry ([.ref (ad 0), .int p1, .int p2, .int p3]) (n := 6) (Nat.le_of_ble_eq_true rfl)
  rw [lg_entry_eq]
  generalize (lg_sl ([.ref (ad 0), .int p1, .int p2, .int p3]) ++ List.replicate (6 - (lg_sl ([.ref (ad 0), .int p1, .int p2, .int p3])).length) Slot.unset).toArray = ls at hl ⊢
  have hl : lv_has ls 6 [(0, .ref (ad 0)), (1, .int p1), (2, .int p2), (3, .int p3)] := hl
  refine lv_iload_n hx hb dX11_lastWord_0 rfl (lv_at hl 1 rfl) ?_
  refine lv_if_lt (tgt := 24) hx hb dX11_lastWord_1 (by decide) (fun c_1 => ?_) (fun c_1 => ?_)
  ·
    have kc_1 : p1.toInt < (0 : Int) := i_lt c_1
    refine lv_iconst (v := (-1)) hx hb dX11_lastWord_24 (by decide) ?_
    have q0_m1 : ((-1) : Int32).toInt = (-1) := rfl
    exact W.iret (v := (-1)) hx hb hr (fun tt ht hW => ⟨(-1), rfl, (by first | rfl | omega | trivial | assumption), ht⟩) (fun _ h => by cases h) dX11_lastWord_25
  ·
    have kc_1 : (0 : Int) ≤ p1.toInt := i_nlt c_1
    refine lv_iload_n hx hb dX11_lastWord_4 rfl (lv_at hl 2 rfl) ?_
    refine lv_iconst (v := 1) hx hb dX11_lastWord_5 (by decide) ?_
    refine lv_icmp_lt (tgt := 24) hx hb dX11_lastWord_6 (by decide) (fun c_2 => ?_) (fun c_2 => ?_)
    ·
      have kc_2 : p2.toInt < (1 : Int) := i_lt c_2
      refine lv_iconst (v := (-1)) hx hb dX11_lastWord_24 (by decide) ?_
      have q0_m1 : ((-1) : Int32).toInt = (-1) := rfl
      exact W.iret (v := (-1)) hx hb hr (fun tt ht hW => ⟨(-1), rfl, (by first | rfl | omega | trivial | assumption), ht⟩) (fun _ h => by cases h) dX11_lastWord_25
    ·
      have kc_2 : (1 : Int) ≤ p2.toInt := i_nlt c_2
      refine lv_iload_n hx hb dX11_lastWord_9 rfl (lv_at hl 2 rfl) ?_
      refine lv_bipush (v := 6) hx hb dX11_lastWord_10 (by decide) ?_
      refine lv_icmp_gt (tgt := 24) hx hb dX11_lastWord_12 (by decide) (fun c_3 => ?_) (fun c_3 => ?_)
      ·
        have kc_3 : (6 : Int) < p2.toInt := i_lt c_3
        refine lv_iconst (v := (-1)) hx hb dX11_lastWord_24 (by decide) ?_
        have q0_m1 : ((-1) : Int32).toInt = (-1) := rfl
        exact W.iret (v := (-1)) hx hb hr (fun tt ht hW => ⟨(-1), rfl, (by first | rfl | omega | trivial | assumption), ht⟩) (fun _ h => by cases h) dX11_lastWord_25
      ·
        have kc_3 : p2.toInt ≤ (6 : Int) := i_nlt c_3
        refine lv_iload_n hx hb dX11_lastWord_15 rfl (lv_at hl 3 rfl) ?_
        refine lv_if_lt (tgt := 24) hx hb dX11_lastWord_16 (by decide) (fun c_4 => ?_) (fun c_4 => ?_)
        ·
          have kc_4 : p3.toInt < (0 : Int) := i_lt c_4
          refine lv_iconst (v := (-1)) hx hb dX11_lastWord_24 (by decide) ?_
          have q0_m1 : ((-1) : Int32).toInt = (-1) := rfl
          exact W.iret (v := (-1)) hx hb hr (fun tt ht hW => ⟨(-1), rfl, (by first | rfl | omega | trivial | assumption), ht⟩) (fun _ h => by cases h) dX11_lastWord_25
        ·
          have kc_4 : (0 : Int) ≤ p3.toInt := i_nlt c_4
          refine lv_iload_n hx hb dX11_lastWord_19 rfl (lv_at hl 3 rfl) ?_
          refine lv_iconst (v := 1) hx hb dX11_lastWord_20 (by decide) ?_
          refine lv_icmp_le (tgt := 26) hx hb dX11_lastWord_21 (by decide) (fun c_5 => ?_) (fun c_5 => ?_)
          ·
            have kc_5 : p3.toInt ≤ (1 : Int) := i_le c_5
            refine lv_iload_n hx hb dX11_lastWord_26 rfl (lv_at hl 1 rfl) ?_
            refine lv_bipush (v := 10) hx hb dX11_lastWord_27 (by decide) ?_
            refine lv_idiv hx hb dX11_lastWord_29 (by decide) ?_
            refine lv_topi (fun x_6 ex_6 => ?_)
            have fx_6 : x_6.toInt = p1.toInt / (10 : Int) := by rw [ex_6]; exact i_div (by omega) (by first | omega | decide)
            refine lv_istore (lv' := [(4, .int x_6), (0, .ref (ad 0)), (1, .int p1), (2, .int p2), (3, .int p3)]) hx hb dX11_lastWord_30 hl (by decide) rfl (fun ls hl => ?_)
            refine lv_iload_n hx hb dX11_lastWord_32 rfl (lv_at hl 2 rfl) ?_
            refine lv_bipush (v := 10) hx hb dX11_lastWord_33 (by decide) ?_
            refine lv_irem hx hb dX11_lastWord_35 (by decide) ?_
            refine lv_topi (fun x_7 ex_7 => ?_)
            have fx_7 : x_7.toInt = p1.toInt % (10 : Int) := by rw [ex_7]; exact i_rem (by omega) (by first | omega | decide)
            refine lv_istore (lv' := [(5, .int x_7), (4, .int x_6), (0, .ref (ad 0)), (1, .int p1), (2, .int p2), (3, .int p3)]) hx hb dX11_lastWord_36 hl (by decide) rfl (fun ls hl => ?_)
            refine lv_iload hx hb dX11_lastWord_38 (lv_at hl 1 rfl) ?_
            refine lv_iload hx hb dX11_lastWord_40 (lv_at hl 0 rfl) ?_
            refine lv_icmp_eq (tgt := 69) hx hb dX11_lastWord_42 (by decide) (fun c_8 => ?_) (fun c_8 => ?_)
            ·
              have kc_8 : x_6.toInt = x_7.toInt := i_eq c_8
              refine lv_iconst (v := (-1)) hx hb dX11_lastWord_69 (by decide) ?_
              have q0_m1 : ((-1) : Int32).toInt = (-1) := rfl
              exact W.iret (v := (-1)) hx hb hr (fun tt ht hW => ⟨(-1), rfl, (by first | rfl | omega | trivial | assumption), ht⟩) (fun _ h => by cases h) dX11_lastWord_70
            ·
              have kc_8 : x_6.toInt ≠ x_7.toInt := i_ne c_8
              refine lv_aload_n hx hb dX11_lastWord_45 rfl (lv_at hl 2 rfl) ?_
              refine gf_main_parish hx hb hg hown hK hP rfl (hg _ q2_123) dX11_lastWord_46 ?_
              refine lv_iload hx hb dX11_lastWord_49 (lv_at hl 1 rfl) ?_
              refine cV_ro (As := [.int x_6]) (rest := []) ⟨hx, hb, hml, hown, hg⟩ (k_F_X9_has l D cs A ad fa fq rv v a w fv fp  x_6 hF) ca_X9_has q3_4 ⟨rfl, rfl⟩ ⟨Nat.le_of_ble_eq_true rfl, Nat.le_of_ble_eq_true rfl⟩ (rc_parish hK hP) hK hP hD hS hZ rfl hl.1 rfl (Nat.le_of_ble_eq_true rfl) ⟨Nat.zero_le _, Nat.zero_le _⟩ dX11_lastWord_51 (fun r_9 wr_9 => ?_)
              have wr_9 : r_9.toInt = 0 := wr_9
              refine lv_if_eq (tgt := 69) hx hb dX11_lastWord_54 (by decide) (fun c_10 => ?_) (fun c_10 => ?_)
              ·
                have kc_10 : r_9.toInt = (0 : Int) := i_eq c_10
                refine lv_iconst (v := (-1)) hx hb dX11_lastWord_69 (by decide) ?_
                have q0_m1 : ((-1) : Int32).toInt = (-1) := rfl
                exact W.iret (v := (-1)) hx hb hr (fun tt ht hW => ⟨(-1), rfl, (by first | rfl | omega | trivial | assumption), ht⟩) (fun _ h => by cases h) dX11_lastWord_70
              ·
                have kc_10 : r_9.toInt ≠ (0 : Int) := i_ne c_10
                exfalso; omega
          ·
            have kc_5 : (1 : Int) < p3.toInt := i_nle c_5
            refine lv_iconst (v := (-1)) hx hb dX11_lastWord_24 (by decide) ?_
            have q0_m1 : ((-1) : Int32).toInt = (-1) := rfl
            exact W.iret (v := (-1)) hx hb hr (fun tt ht hW => ⟨(-1), rfl, (by first | rfl | omega | trivial | assumption), ht⟩) (fun _ h => by cases h) dX11_lastWord_25
set_option maxHeartbeats 4000000 in
set_option maxRecDepth 100000 in
theorem k_F_X11_crier (l : Launch) (D : va_G) (cs : Nat → ClassId) (A : Nat → Prop) (ad fa fq rv : Nat → Nat) (v : Nat → Int32) (a : Nat → Nat → Int32) (w : Nat → Nat → Int64) (fv fp : Nat → Nat → Int32)  (p1 : Int32) (p2 : Int32) (hF : FrC v a fv) : Met l yX11_crier (Cond.code yX11_crier cX11_crier 8 (some .int) :: gw) ({ frames := 1, cells := 0, slots := 0, locals := 21 }) (va_Pc [.ref (ad 0), .int p1, .int p2] (XPre D (TY cs) (CW cs ad fa fq rv v a w fv fp) A)) (vp_Si (fun (r : Int32) => r.toInt = -1)) 0 0 (fun _ => False) := by
  refine Met.ofW (cc := cX11_crier) (maxL := 8) (ret := (some .int)) (by decide) rfl ?_
  intro p e s m args below meth c s₁ B hml hv
  obtain ⟨rfl, hP, hK, hD, hZ⟩ := hv
  have hx := B.exec
  have hb := B.bytes
  have hr := B.returns
  have hts := atoms_spec (ws := (Cond.code yX11_crier cX11_crier 8 (some .int) :: gw)) B.pre
  have hg : ∀ w ∈ gw, w.before ([.ref (ad 0), .int p1, .int p2] : List Value).toArray s = true := fun w h => hts w (List.mem_cons_of_mem _ h)
  have hown : s.vm.findClass RX11 = some m.cls := findClass_of_methodNamed B.named
  have hlocks := B.notSynchronized
  have hS : va_S A s.heap s.heap [] := va_S.rf
  have hv1 : (v 1).toInt = 0 := by rw [hF.2.1]; rfl
  have hv21 : (v 21).toInt = 0 := by rw [hF.2.2.2.2.2.2.2.2.1]; rfl
  have hl := lv_entry ([.ref (ad 0), .int p1, .int p2]) (n := 8) (Nat.le_of_ble_eq_true rfl)
  rw [lg_entry_eq]
  generalize (lg_sl ([.ref (ad 0), .int p1, .int p2]) ++ List.replicate (8 - (lg_sl ([.ref (ad 0), .int p1, .int p2])).length) Slot.unset).toArray = ls at hl ⊢
  have hl : lv_has ls 8 [(0, .ref (ad 0)), (1, .int p1), (2, .int p2)] := hl
  refine lv_aload_n hx hb dX11_crier_0 rfl (lv_at hl 0 rfl) ?_
  refine gf_main_parish hx hb hg hown hK hP rfl (hg _ q2_123) dX11_crier_1 ?_
  refine lv_iload_n hx hb dX11_crier_4 rfl (lv_at hl 1 rfl) ?_
  refine cV_ro (As := [.int p1]) (rest := []) ⟨hx, hb, hml, hown, hg⟩ (k_F_X9_has l D cs A ad fa fq rv v a w fv fp  p1 hF) ca_X9_has q3_4 ⟨rfl, rfl⟩ ⟨Nat.le_of_ble_eq_true rfl, Nat.le_of_ble_eq_true rfl⟩ (rc_parish hK hP) hK hP hD hS hZ rfl hl.1 rfl (Nat.le_of_ble_eq_true rfl) ⟨Nat.zero_le _, Nat.zero_le _⟩ dX11_crier_5 (fun r_1 wr_1 => ?_)
  have wr_1 : r_1.toInt = 0 := wr_1
  refine lv_if_eq (tgt := 20) hx hb dX11_crier_8 (by decide) (fun c_2 => ?_) (fun c_2 => ?_)
  ·
    have kc_2 : r_1.toInt = (0 : Int) := i_eq c_2
    refine lv_iconst (v := (-1)) hx hb dX11_crier_20 (by decide) ?_
    have q0_m1 : ((-1) : Int32).toInt = (-1) := rfl
    exact W.iret (v := (-1)) hx hb hr (fun tt ht hW => ⟨(-1), rfl, (by first | rfl | omega | trivial | assumption), ht⟩) (fun _ h => by cases h) dX11_crier_21
  ·
    have kc_2 : r_1.toInt ≠ (0 : Int) := i_ne c_2
    exfalso; omega
set_option maxHeartbeats 4000000 in
set_option maxRecDepth 100000 in
theorem k_F_X11_keepNear (l : Launch) (D : va_G) (cs : Nat → ClassId) (A : Nat → Prop) (ad fa fq rv : Nat → Nat) (v : Nat → Int32) (a : Nat → Nat → Int32) (w : Nat → Nat → Int64) (fv fp : Nat → Nat → Int32)  (p1 : Int32) (hF : FrC v a fv) : Met l yX11_keepNear (Cond.code yX11_keepNear cX11_keepNear 4 (some .int) :: gw) ({ frames := 1, cells := 0, slots := 0, locals := 21 }) (va_Pc [.ref (ad 0), .int p1] (XPre D (TY cs) (CW cs ad fa fq rv v a w fv fp) A)) (vp_Si (fun (r : Int32) => r.toInt = -1)) 0 0 (fun _ => False) := by
  refine Met.ofW (cc := cX11_keepNear) (maxL := 4) (ret := (some .int)) (by decide) rfl ?_
  intro p e s m args below meth c s₁ B hml hv
  obtain ⟨rfl, hP, hK, hD, hZ⟩ := hv
  have hx := B.exec
  have hb := B.bytes
  have hr := B.returns
  have hts := atoms_spec (ws := (Cond.code yX11_keepNear cX11_keepNear 4 (some .int) :: gw)) B.pre
  have hg : ∀ w ∈ gw, w.before ([.ref (ad 0), .int p1] : List Value).toArray s = true := fun w h => hts w (List.mem_cons_of_mem _ h)
  have hown : s.vm.findClass RX11 = some m.cls := findClass_of_methodNamed B.named
  have hlocks := B.notSynchronized
  have hS : va_S A s.heap s.heap [] := va_S.rf
  have hv1 : (v 1).toInt = 0 := by rw [hF.2.1]; rfl
  have hv21 : (v 21).toInt = 0 := by rw [hF.2.2.2.2.2.2.2.2.1]; rfl
  have hl := lv_entry ([.ref (ad 0), .int p1]) (n := 4) (Nat.le_of_ble_eq_true rfl)
  rw [lg_entry_eq]
  generalize (lg_sl ([.ref (ad 0), .int p1]) ++ List.replicate (4 - (lg_sl ([.ref (ad 0), .int p1])).length) Slot.unset).toArray = ls at hl ⊢
  have hl : lv_has ls 4 [(0, .ref (ad 0)), (1, .int p1)] := hl
  refine lv_aload_n hx hb dX11_keepNear_0 rfl (lv_at hl 0 rfl) ?_
  refine gf_main_parish hx hb hg hown hK hP rfl (hg _ q2_123) dX11_keepNear_1 ?_
  refine lv_iload_n hx hb dX11_keepNear_4 rfl (lv_at hl 1 rfl) ?_
  refine cV_ro (As := [.int p1]) (rest := []) ⟨hx, hb, hml, hown, hg⟩ (k_F_X9_has l D cs A ad fa fq rv v a w fv fp  p1 hF) ca_X9_has q3_4 ⟨rfl, rfl⟩ ⟨Nat.le_of_ble_eq_true rfl, Nat.le_of_ble_eq_true rfl⟩ (rc_parish hK hP) hK hP hD hS hZ rfl hl.1 rfl (Nat.le_of_ble_eq_true rfl) ⟨Nat.zero_le _, Nat.zero_le _⟩ dX11_keepNear_5 (fun r_1 wr_1 => ?_)
  have wr_1 : r_1.toInt = 0 := wr_1
  refine lv_if_ne (tgt := 13) hx hb dX11_keepNear_8 (by decide) (fun c_2 => ?_) (fun c_2 => ?_)
  ·
    have kc_2 : r_1.toInt ≠ (0 : Int) := i_ne c_2
    exfalso; omega
  ·
    have kc_2 : r_1.toInt = (0 : Int) := i_eq c_2
    refine lv_iconst (v := (-1)) hx hb dX11_keepNear_11 (by decide) ?_
    have q0_m1 : ((-1) : Int32).toInt = (-1) := rfl
    exact W.iret (v := (-1)) hx hb hr (fun tt ht hW => ⟨(-1), rfl, (by first | rfl | omega | trivial | assumption), ht⟩) (fun _ h => by cases h) dX11_keepNear_12
set_option maxHeartbeats 4000000 in
set_option maxRecDepth 100000 in
theorem k_F_X11_heard (l : Launch) (D : va_G) (cs : Nat → ClassId) (A : Nat → Prop) (ad fa fq rv : Nat → Nat) (v : Nat → Int32) (a : Nat → Nat → Int32) (w : Nat → Nat → Int64) (fv fp : Nat → Nat → Int32)  (p1 : Int32) (p2 : Int32) (p3 : Int32) (hF : FrC v a fv) : Met l yX11_heard (Cond.code yX11_heard cX11_heard 5 (some .int) :: gw) ({ frames := 2, cells := 0, slots := 0, locals := 43 }) (va_Pc [.ref (ad 0), .int p1, .int p2, .int p3] (XPre D (TY cs) (CW cs ad fa fq rv v a w fv fp) A)) (vp_Si (fun (r : Int32) => ((0 ≤ p1.toInt ∧ p1.toInt < 6 ∧ 0 ≤ p2.toInt ∧ p2.toInt < 6 ∧ 0 ≤ p3.toInt ∧ p3.toInt ≤ 3) ∧ r.toInt = -11) ∨ (¬ (0 ≤ p1.toInt ∧ p1.toInt < 6 ∧ 0 ≤ p2.toInt ∧ p2.toInt < 6 ∧ 0 ≤ p3.toInt ∧ p3.toInt ≤ 3) ∧ r.toInt = -1))) 0 0 (fun _ => False) := by
  refine Met.ofW (cc := cX11_heard) (maxL := 5) (ret := (some .int)) (by decide) rfl ?_
  intro p e s m args below meth c s₁ B hml hv
  obtain ⟨rfl, hP, hK, hD, hZ⟩ := hv
  have hx := B.exec
  have hb := B.bytes
  have hr := B.returns
  have hts := atoms_spec (ws := (Cond.code yX11_heard cX11_heard 5 (some .int) :: gw)) B.pre
  have hg : ∀ w ∈ gw, w.before ([.ref (ad 0), .int p1, .int p2, .int p3] : List Value).toArray s = true := fun w h => hts w (List.mem_cons_of_mem _ h)
  have hown : s.vm.findClass RX11 = some m.cls := findClass_of_methodNamed B.named
  have hlocks := B.notSynchronized
  have hS : va_S A s.heap s.heap [] := va_S.rf
  have hv1 : (v 1).toInt = 0 := by rw [hF.2.1]; rfl
  have hv21 : (v 21).toInt = 0 := by rw [hF.2.2.2.2.2.2.2.2.1]; rfl
  have hl := lv_entry ([.ref (ad 0), .int p1, .int p2, .int p3]) (n := 5) (Nat.le_of_ble_eq_true rfl)
  rw [lg_entry_eq]
  generalize (lg_sl ([.ref (ad 0), .int p1, .int p2, .int p3]) ++ List.replicate (5 - (lg_sl ([.ref (ad 0), .int p1, .int p2, .int p3])).length) Slot.unset).toArray = ls at hl ⊢
  have hl : lv_has ls 5 [(0, .ref (ad 0)), (1, .int p1), (2, .int p2), (3, .int p3)] := hl
  refine lv_iload_n hx hb dX11_heard_0 rfl (lv_at hl 1 rfl) ?_
  refine cS_p (As := [.int p1]) (rest := []) ⟨hx, hb, hml, hown, hg⟩ (k_X10_isShelf l   p1 ) ca_X10_isShelf q2_205 ⟨rfl, rfl⟩ ⟨Nat.le_of_ble_eq_true rfl, Nat.le_of_ble_eq_true rfl⟩ rfl hl.1 rfl (Nat.le_of_ble_eq_true rfl) ⟨Nat.zero_le _, Nat.zero_le _⟩ dX11_heard_1 (fun r_1 wr_1 => ?_)
  have wr_1 : (r_1.toInt = 1 ∧ 0 ≤ p1.toInt ∧ p1.toInt < 6) ∨ (r_1.toInt = 0 ∧ ¬ (0 ≤ p1.toInt ∧ p1.toInt < 6)) := wr_1
  refine lv_if_eq (tgt := 23) hx hb dX11_heard_4 (by decide) (fun c_2 => ?_) (fun c_2 => ?_)
  ·
    have kc_2 : r_1.toInt = (0 : Int) := i_eq c_2
    refine lv_iconst (v := (-1)) hx hb dX11_heard_23 (by decide) ?_
    have q0_m1 : ((-1) : Int32).toInt = (-1) := rfl
    exact W.iret (v := (-1)) hx hb hr (fun tt ht hW => ⟨(-1), rfl, (by first | rfl | omega | trivial | assumption), ht⟩) (fun _ h => by cases h) dX11_heard_24
  ·
    have kc_2 : r_1.toInt ≠ (0 : Int) := i_ne c_2
    refine lv_iload_n hx hb dX11_heard_7 rfl (lv_at hl 2 rfl) ?_
    refine cS_p (As := [.int p2]) (rest := []) ⟨hx, hb, hml, hown, hg⟩ (k_X10_isShelf l   p2 ) ca_X10_isShelf q2_205 ⟨rfl, rfl⟩ ⟨Nat.le_of_ble_eq_true rfl, Nat.le_of_ble_eq_true rfl⟩ rfl hl.1 rfl (Nat.le_of_ble_eq_true rfl) ⟨Nat.zero_le _, Nat.zero_le _⟩ dX11_heard_8 (fun r_3 wr_3 => ?_)
    have wr_3 : (r_3.toInt = 1 ∧ 0 ≤ p2.toInt ∧ p2.toInt < 6) ∨ (r_3.toInt = 0 ∧ ¬ (0 ≤ p2.toInt ∧ p2.toInt < 6)) := wr_3
    refine lv_if_eq (tgt := 23) hx hb dX11_heard_11 (by decide) (fun c_4 => ?_) (fun c_4 => ?_)
    ·
      have kc_4 : r_3.toInt = (0 : Int) := i_eq c_4
      refine lv_iconst (v := (-1)) hx hb dX11_heard_23 (by decide) ?_
      have q0_m1 : ((-1) : Int32).toInt = (-1) := rfl
      exact W.iret (v := (-1)) hx hb hr (fun tt ht hW => ⟨(-1), rfl, (by first | rfl | omega | trivial | assumption), ht⟩) (fun _ h => by cases h) dX11_heard_24
    ·
      have kc_4 : r_3.toInt ≠ (0 : Int) := i_ne c_4
      refine lv_iload_n hx hb dX11_heard_14 rfl (lv_at hl 3 rfl) ?_
      refine lv_if_lt (tgt := 23) hx hb dX11_heard_15 (by decide) (fun c_5 => ?_) (fun c_5 => ?_)
      ·
        have kc_5 : p3.toInt < (0 : Int) := i_lt c_5
        refine lv_iconst (v := (-1)) hx hb dX11_heard_23 (by decide) ?_
        have q0_m1 : ((-1) : Int32).toInt = (-1) := rfl
        exact W.iret (v := (-1)) hx hb hr (fun tt ht hW => ⟨(-1), rfl, (by first | rfl | omega | trivial | assumption), ht⟩) (fun _ h => by cases h) dX11_heard_24
      ·
        have kc_5 : (0 : Int) ≤ p3.toInt := i_nlt c_5
        refine lv_iload_n hx hb dX11_heard_18 rfl (lv_at hl 3 rfl) ?_
        refine lv_iconst (v := 3) hx hb dX11_heard_19 (by decide) ?_
        refine lv_icmp_le (tgt := 25) hx hb dX11_heard_20 (by decide) (fun c_6 => ?_) (fun c_6 => ?_)
        ·
          have kc_6 : p3.toInt ≤ (3 : Int) := i_le c_6
          refine lv_aload_n hx hb dX11_heard_25 rfl (lv_at hl 0 rfl) ?_
          refine gf_main_shelves hx hb hg hown hK hP rfl (hg _ q2_133) dX11_heard_26 ?_
          refine lv_iload_n hx hb dX11_heard_29 rfl (lv_at hl 1 rfl) ?_
          refine lv_iload_n hx hb dX11_heard_30 rfl (lv_at hl 2 rfl) ?_
          refine cV_ro (As := [.int p1, .int p2]) (rest := []) ⟨hx, hb, hml, hown, hg⟩ (k_F_X10_faultOfBytes l D cs A ad fa fq rv v a w fv fp  p1 p2 hF (show 0 ≤ p1.toInt by first | omega | decide) (show p1.toInt < 6 by first | omega | decide)) ca_X10_faultOfBytes q3_151 ⟨rfl, rfl⟩ ⟨Nat.le_of_ble_eq_true rfl, Nat.le_of_ble_eq_true rfl⟩ (rc_shelves hK hP) hK hP hD hS hZ rfl hl.1 rfl (Nat.le_of_ble_eq_true rfl) ⟨Nat.zero_le _, Nat.zero_le _⟩ dX11_heard_31 (fun r_7 wr_7 => ?_)
          have wr_7 : r_7.toInt = -11 := wr_7
          refine lv_istore (lv' := [(4, .int r_7), (0, .ref (ad 0)), (1, .int p1), (2, .int p2), (3, .int p3)]) hx hb dX11_heard_34 hl (by decide) rfl (fun ls hl => ?_)
          refine lv_iload hx hb dX11_heard_36 (lv_at hl 0 rfl) ?_
          refine lv_if_ge (tgt := 44) hx hb dX11_heard_38 (by decide) (fun c_8 => ?_) (fun c_8 => ?_)
          ·
            have kc_8 : (0 : Int) ≤ r_7.toInt := i_le c_8
            exfalso; omega
          ·
            have kc_8 : r_7.toInt < (0 : Int) := i_nle c_8
            refine lv_iload hx hb dX11_heard_41 (lv_at hl 0 rfl) ?_
            exact W.iret (v := r_7) hx hb hr (fun tt ht hW => ⟨r_7, rfl, (by first | rfl | omega | trivial | assumption), ht⟩) (fun _ h => by cases h) dX11_heard_43
        ·
          have kc_6 : (3 : Int) < p3.toInt := i_nle c_6
          refine lv_iconst (v := (-1)) hx hb dX11_heard_23 (by decide) ?_
          have q0_m1 : ((-1) : Int32).toInt = (-1) := rfl
          exact W.iret (v := (-1)) hx hb hr (fun tt ht hW => ⟨(-1), rfl, (by first | rfl | omega | trivial | assumption), ht⟩) (fun _ h => by cases h) dX11_heard_24
set_option maxHeartbeats 4000000 in
set_option maxRecDepth 100000 in
theorem k_F_X11_drawn (l : Launch) (D : va_G) (cs : Nat → ClassId) (A : Nat → Prop) (ad fa fq rv : Nat → Nat) (v : Nat → Int32) (a : Nat → Nat → Int32) (w : Nat → Nat → Int64) (fv fp : Nat → Nat → Int32)  (p1 : Int32) (p2 : Int32) (p3 : Int32) (hF : FrC v a fv) : Met l yX11_drawn (Cond.code yX11_drawn cX11_drawn 12 (some .int) :: gw) ({ frames := 0, cells := 0, slots := 0, locals := 0 }) (va_Pc [.ref (ad 0), .int p1, .int p2, .int p3] (XPre D (TY cs) (CW cs ad fa fq rv v a w fv fp) A)) (vp_Si (fun (r : Int32) => ((p3.toInt = -1 ∧ 0 ≤ p2.toInt ∧ 1 ≤ p2.toInt / 100 ∧ p2.toInt / 100 ≤ 30 ∧ 1 ≤ p2.toInt % 100 ∧ p2.toInt % 100 ≤ 40) ∧ r.toInt = 0) ∨ (¬ (p3.toInt = -1 ∧ 0 ≤ p2.toInt ∧ 1 ≤ p2.toInt / 100 ∧ p2.toInt / 100 ≤ 30 ∧ 1 ≤ p2.toInt % 100 ∧ p2.toInt % 100 ≤ 40) ∧ r.toInt = -1))) 0 0 (fun _ => False) := by
  refine Met.ofW (cc := cX11_drawn) (maxL := 12) (ret := (some .int)) (by decide) rfl ?_
  intro p e s m args below meth c s₁ B hml hv
  obtain ⟨rfl, hP, hK, hD, hZ⟩ := hv
  have hx := B.exec
  have hb := B.bytes
  have hr := B.returns
  have hts := atoms_spec (ws := (Cond.code yX11_drawn cX11_drawn 12 (some .int) :: gw)) B.pre
  have hg : ∀ w ∈ gw, w.before ([.ref (ad 0), .int p1, .int p2, .int p3] : List Value).toArray s = true := fun w h => hts w (List.mem_cons_of_mem _ h)
  have hown : s.vm.findClass RX11 = some m.cls := findClass_of_methodNamed B.named
  have hlocks := B.notSynchronized
  have hS : va_S A s.heap s.heap [] := va_S.rf
  have hv1 : (v 1).toInt = 0 := by rw [hF.2.1]; rfl
  have hv21 : (v 21).toInt = 0 := by rw [hF.2.2.2.2.2.2.2.2.1]; rfl
  have hl := lv_entry ([.ref (ad 0), .int p1, .int p2, .int p3]) (n := 12) (Nat.le_of_ble_eq_true rfl)
  rw [lg_entry_eq]
  generalize (lg_sl ([.ref (ad 0), .int p1, .int p2, .int p3]) ++ List.replicate (12 - (lg_sl ([.ref (ad 0), .int p1, .int p2, .int p3])).length) Slot.unset).toArray = ls at hl ⊢
  have hl : lv_has ls 12 [(0, .ref (ad 0)), (1, .int p1), (2, .int p2), (3, .int p3)] := hl
  refine lv_iload_n hx hb dX11_drawn_0 rfl (lv_at hl 2 rfl) ?_
  refine lv_if_lt (tgt := 20) hx hb dX11_drawn_1 (by decide) (fun c_1 => ?_) (fun c_1 => ?_)
  ·
    have kc_1 : p2.toInt < (0 : Int) := i_lt c_1
    refine lv_iconst (v := (-1)) hx hb dX11_drawn_20 (by decide) ?_
    have q0_m1 : ((-1) : Int32).toInt = (-1) := rfl
    exact W.iret (v := (-1)) hx hb hr (fun tt ht hW => ⟨(-1), rfl, (by first | rfl | omega | trivial | assumption), ht⟩) (fun _ h => by cases h) dX11_drawn_21
  ·
    have kc_1 : (0 : Int) ≤ p2.toInt := i_nlt c_1
    refine lv_iload_n hx hb dX11_drawn_4 rfl (lv_at hl 3 rfl) ?_
    refine lv_iconst (v := (-1)) hx hb dX11_drawn_5 (by decide) ?_
    refine lv_icmp_lt (tgt := 20) hx hb dX11_drawn_6 (by decide) (fun c_2 => ?_) (fun c_2 => ?_)
    ·
      have kc_2 : p3.toInt < (-1 : Int) := i_lt c_2
      refine lv_iconst (v := (-1)) hx hb dX11_drawn_20 (by decide) ?_
      have q0_m1 : ((-1) : Int32).toInt = (-1) := rfl
      exact W.iret (v := (-1)) hx hb hr (fun tt ht hW => ⟨(-1), rfl, (by first | rfl | omega | trivial | assumption), ht⟩) (fun _ h => by cases h) dX11_drawn_21
    ·
      have kc_2 : (-1 : Int) ≤ p3.toInt := i_nlt c_2
      refine lv_iload_n hx hb dX11_drawn_9 rfl (lv_at hl 3 rfl) ?_
      refine lv_aload_n hx hb dX11_drawn_10 rfl (lv_at hl 0 rfl) ?_
      refine gf_main_parish hx hb hg hown hK hP rfl (hg _ q2_123) dX11_drawn_11 ?_
      refine gf_parish_people hx hb hg hown hK hP (x := 0) hF.2.1 (hg _ q1_109) dX11_drawn_14 ?_
      refine lv_icmp_lt (tgt := 22) hx hb dX11_drawn_17 (by decide) (fun c_3 => ?_) (fun c_3 => ?_)
      ·
        have kc_3 : p3.toInt < (0 : Int) := i_lt c_3
        refine lv_iload_n hx hb dX11_drawn_22 rfl (lv_at hl 2 rfl) ?_
        refine lv_bipush (v := 100) hx hb dX11_drawn_23 (by decide) ?_
        refine lv_idiv hx hb dX11_drawn_25 (by decide) ?_
        refine lv_topi (fun x_4 ex_4 => ?_)
        have fx_4 : x_4.toInt = p2.toInt / (100 : Int) := by rw [ex_4]; exact i_div (by omega) (by first | omega | decide)
        refine lv_istore (lv' := [(4, .int x_4), (0, .ref (ad 0)), (1, .int p1), (2, .int p2), (3, .int p3)]) hx hb dX11_drawn_26 hl (by decide) rfl (fun ls hl => ?_)
        refine lv_iload_n hx hb dX11_drawn_28 rfl (lv_at hl 3 rfl) ?_
        refine lv_bipush (v := 100) hx hb dX11_drawn_29 (by decide) ?_
        refine lv_irem hx hb dX11_drawn_31 (by decide) ?_
        refine lv_topi (fun x_5 ex_5 => ?_)
        have fx_5 : x_5.toInt = p2.toInt % (100 : Int) := by rw [ex_5]; exact i_rem (by omega) (by first | omega | decide)
        refine lv_istore (lv' := [(5, .int x_5), (4, .int x_4), (0, .ref (ad 0)), (1, .int p1), (2, .int p2), (3, .int p3)]) hx hb dX11_drawn_32 hl (by decide) rfl (fun ls hl => ?_)
        refine lv_iload hx hb dX11_drawn_34 (lv_at hl 1 rfl) ?_
        refine lv_iconst (v := 1) hx hb dX11_drawn_36 (by decide) ?_
        refine lv_icmp_lt (tgt := 60) hx hb dX11_drawn_37 (by decide) (fun c_6 => ?_) (fun c_6 => ?_)
        ·
          have kc_6 : x_4.toInt < (1 : Int) := i_lt c_6
          refine lv_iconst (v := (-1)) hx hb dX11_drawn_60 (by decide) ?_
          have q0_m1 : ((-1) : Int32).toInt = (-1) := rfl
          exact W.iret (v := (-1)) hx hb hr (fun tt ht hW => ⟨(-1), rfl, (by first | rfl | omega | trivial | assumption), ht⟩) (fun _ h => by cases h) dX11_drawn_61
        ·
          have kc_6 : (1 : Int) ≤ x_4.toInt := i_nlt c_6
          refine lv_iload hx hb dX11_drawn_40 (lv_at hl 1 rfl) ?_
          refine lv_bipush (v := 30) hx hb dX11_drawn_42 (by decide) ?_
          refine lv_icmp_gt (tgt := 60) hx hb dX11_drawn_44 (by decide) (fun c_7 => ?_) (fun c_7 => ?_)
          ·
            have kc_7 : (30 : Int) < x_4.toInt := i_lt c_7
            refine lv_iconst (v := (-1)) hx hb dX11_drawn_60 (by decide) ?_
            have q0_m1 : ((-1) : Int32).toInt = (-1) := rfl
            exact W.iret (v := (-1)) hx hb hr (fun tt ht hW => ⟨(-1), rfl, (by first | rfl | omega | trivial | assumption), ht⟩) (fun _ h => by cases h) dX11_drawn_61
          ·
            have kc_7 : x_4.toInt ≤ (30 : Int) := i_nlt c_7
            refine lv_iload hx hb dX11_drawn_47 (lv_at hl 0 rfl) ?_
            refine lv_iconst (v := 1) hx hb dX11_drawn_49 (by decide) ?_
            refine lv_icmp_lt (tgt := 60) hx hb dX11_drawn_50 (by decide) (fun c_8 => ?_) (fun c_8 => ?_)
            ·
              have kc_8 : x_5.toInt < (1 : Int) := i_lt c_8
              refine lv_iconst (v := (-1)) hx hb dX11_drawn_60 (by decide) ?_
              have q0_m1 : ((-1) : Int32).toInt = (-1) := rfl
              exact W.iret (v := (-1)) hx hb hr (fun tt ht hW => ⟨(-1), rfl, (by first | rfl | omega | trivial | assumption), ht⟩) (fun _ h => by cases h) dX11_drawn_61
            ·
              have kc_8 : (1 : Int) ≤ x_5.toInt := i_nlt c_8
              refine lv_iload hx hb dX11_drawn_53 (lv_at hl 0 rfl) ?_
              refine lv_bipush (v := 40) hx hb dX11_drawn_55 (by decide) ?_
              refine lv_icmp_le (tgt := 62) hx hb dX11_drawn_57 (by decide) (fun c_9 => ?_) (fun c_9 => ?_)
              ·
                have kc_9 : x_5.toInt ≤ (40 : Int) := i_le c_9
                refine lv_aload_n hx hb dX11_drawn_62 rfl (lv_at hl 2 rfl) ?_
                refine gf_main_parish hx hb hg hown hK hP rfl (hg _ q2_123) dX11_drawn_63 ?_
                refine gf_parish_people hx hb hg hown hK hP (x := 0) hF.2.1 (hg _ q1_109) dX11_drawn_66 ?_
                refine lv_if_ne (tgt := 74) hx hb dX11_drawn_69 (by decide) (fun c_10 => absurd c_10 (by decide)) (fun c_10 => ?_)
                refine lv_iconst (v := 0) hx hb dX11_drawn_72 (by decide) ?_
                have q0_0 : (0 : Int32).toInt = 0 := rfl
                exact W.iret (v := 0) hx hb hr (fun tt ht hW => ⟨0, rfl, (by first | rfl | omega | trivial | assumption), ht⟩) (fun _ h => by cases h) dX11_drawn_73
              ·
                have kc_9 : (40 : Int) < x_5.toInt := i_nle c_9
                refine lv_iconst (v := (-1)) hx hb dX11_drawn_60 (by decide) ?_
                have q0_m1 : ((-1) : Int32).toInt = (-1) := rfl
                exact W.iret (v := (-1)) hx hb hr (fun tt ht hW => ⟨(-1), rfl, (by first | rfl | omega | trivial | assumption), ht⟩) (fun _ h => by cases h) dX11_drawn_61
      ·
        have kc_3 : (0 : Int) ≤ p3.toInt := i_nlt c_3
        refine lv_iconst (v := (-1)) hx hb dX11_drawn_20 (by decide) ?_
        have q0_m1 : ((-1) : Int32).toInt = (-1) := rfl
        exact W.iret (v := (-1)) hx hb hr (fun tt ht hW => ⟨(-1), rfl, (by first | rfl | omega | trivial | assumption), ht⟩) (fun _ h => by cases h) dX11_drawn_21
set_option maxHeartbeats 4000000 in
set_option maxRecDepth 100000 in
theorem k_F_X11_say (l : Launch) (D : va_G) (cs : Nat → ClassId) (A : Nat → Prop) (ad fa fq rv : Nat → Nat) (v : Nat → Int32) (a : Nat → Nat → Int32) (w : Nat → Nat → Int64) (fv fp : Nat → Nat → Int32)  (p1 : Int32) (p2 : Int32) (hF : FrC v a fv) : Met l yX11_say (Cond.code yX11_say cX11_say 3 (some .int) :: gw) ({ frames := 1, cells := 0, slots := 0, locals := 21 }) (va_Pc [.ref (ad 0), .int p1, .int p2] (XPre D (TY cs) (CW cs ad fa fq rv v a w fv fp) A)) (vp_Si (fun (r : Int32) => r.toInt = -1)) 0 0 (fun _ => False) := by
  refine Met.ofW (cc := cX11_say) (maxL := 3) (ret := (some .int)) (by decide) rfl ?_
  intro p e s m args below meth c s₁ B hml hv
  obtain ⟨rfl, hP, hK, hD, hZ⟩ := hv
  have hx := B.exec
  have hb := B.bytes
  have hr := B.returns
  have hts := atoms_spec (ws := (Cond.code yX11_say cX11_say 3 (some .int) :: gw)) B.pre
  have hg : ∀ w ∈ gw, w.before ([.ref (ad 0), .int p1, .int p2] : List Value).toArray s = true := fun w h => hts w (List.mem_cons_of_mem _ h)
  have hown : s.vm.findClass RX11 = some m.cls := findClass_of_methodNamed B.named
  have hlocks := B.notSynchronized
  have hS : va_S A s.heap s.heap [] := va_S.rf
  have hv1 : (v 1).toInt = 0 := by rw [hF.2.1]; rfl
  have hv21 : (v 21).toInt = 0 := by rw [hF.2.2.2.2.2.2.2.2.1]; rfl
  have hl := lv_entry ([.ref (ad 0), .int p1, .int p2]) (n := 3) (Nat.le_of_ble_eq_true rfl)
  rw [lg_entry_eq]
  generalize (lg_sl ([.ref (ad 0), .int p1, .int p2]) ++ List.replicate (3 - (lg_sl ([.ref (ad 0), .int p1, .int p2])).length) Slot.unset).toArray = ls at hl ⊢
  have hl : lv_has ls 3 [(0, .ref (ad 0)), (1, .int p1), (2, .int p2)] := hl
  refine lv_aload_n hx hb dX11_say_0 rfl (lv_at hl 0 rfl) ?_
  refine gf_main_parish hx hb hg hown hK hP rfl (hg _ q2_123) dX11_say_1 ?_
  refine lv_iload_n hx hb dX11_say_4 rfl (lv_at hl 1 rfl) ?_
  refine cV_ro (As := [.int p1]) (rest := []) ⟨hx, hb, hml, hown, hg⟩ (k_F_X9_has l D cs A ad fa fq rv v a w fv fp  p1 hF) ca_X9_has q3_4 ⟨rfl, rfl⟩ ⟨Nat.le_of_ble_eq_true rfl, Nat.le_of_ble_eq_true rfl⟩ (rc_parish hK hP) hK hP hD hS hZ rfl hl.1 rfl (Nat.le_of_ble_eq_true rfl) ⟨Nat.zero_le _, Nat.zero_le _⟩ dX11_say_5 (fun r_1 wr_1 => ?_)
  have wr_1 : r_1.toInt = 0 := wr_1
  refine lv_if_eq (tgt := 20) hx hb dX11_say_8 (by decide) (fun c_2 => ?_) (fun c_2 => ?_)
  ·
    have kc_2 : r_1.toInt = (0 : Int) := i_eq c_2
    refine lv_iconst (v := (-1)) hx hb dX11_say_20 (by decide) ?_
    have q0_m1 : ((-1) : Int32).toInt = (-1) := rfl
    exact W.iret (v := (-1)) hx hb hr (fun tt ht hW => ⟨(-1), rfl, (by first | rfl | omega | trivial | assumption), ht⟩) (fun _ h => by cases h) dX11_say_21
  ·
    have kc_2 : r_1.toInt ≠ (0 : Int) := i_ne c_2
    exfalso; omega
set_option maxHeartbeats 4000000 in
set_option maxRecDepth 100000 in
theorem k_F_X11_go (l : Launch) (D : va_G) (cs : Nat → ClassId) (A : Nat → Prop) (ad fa fq rv : Nat → Nat) (v : Nat → Int32) (a : Nat → Nat → Int32) (w : Nat → Nat → Int64) (fv fp : Nat → Nat → Int32)  (p1 : Int32) (p2 : Int32) (hF : FrC v a fv) : Met l yX11_go (Cond.code yX11_go cX11_go 4 (some .int) :: gw) ({ frames := 1, cells := 0, slots := 0, locals := 21 }) (va_Pc [.ref (ad 0), .int p1, .int p2] (XPre D (TY cs) (CW cs ad fa fq rv v a w fv fp) A)) (vp_Si (fun (r : Int32) => r.toInt = -1)) 0 0 (fun _ => False) := by
  refine Met.ofW (cc := cX11_go) (maxL := 4) (ret := (some .int)) (by decide) rfl ?_
  intro p e s m args below meth c s₁ B hml hv
  obtain ⟨rfl, hP, hK, hD, hZ⟩ := hv
  have hx := B.exec
  have hb := B.bytes
  have hr := B.returns
  have hts := atoms_spec (ws := (Cond.code yX11_go cX11_go 4 (some .int) :: gw)) B.pre
  have hg : ∀ w ∈ gw, w.before ([.ref (ad 0), .int p1, .int p2] : List Value).toArray s = true := fun w h => hts w (List.mem_cons_of_mem _ h)
  have hown : s.vm.findClass RX11 = some m.cls := findClass_of_methodNamed B.named
  have hlocks := B.notSynchronized
  have hS : va_S A s.heap s.heap [] := va_S.rf
  have hv1 : (v 1).toInt = 0 := by rw [hF.2.1]; rfl
  have hv21 : (v 21).toInt = 0 := by rw [hF.2.2.2.2.2.2.2.2.1]; rfl
  have hl := lv_entry ([.ref (ad 0), .int p1, .int p2]) (n := 4) (Nat.le_of_ble_eq_true rfl)
  rw [lg_entry_eq]
  generalize (lg_sl ([.ref (ad 0), .int p1, .int p2]) ++ List.replicate (4 - (lg_sl ([.ref (ad 0), .int p1, .int p2])).length) Slot.unset).toArray = ls at hl ⊢
  have hl : lv_has ls 4 [(0, .ref (ad 0)), (1, .int p1), (2, .int p2)] := hl
  refine lv_aload_n hx hb dX11_go_0 rfl (lv_at hl 0 rfl) ?_
  refine gf_main_parish hx hb hg hown hK hP rfl (hg _ q2_123) dX11_go_1 ?_
  refine lv_iload_n hx hb dX11_go_4 rfl (lv_at hl 1 rfl) ?_
  refine cV_ro (As := [.int p1]) (rest := []) ⟨hx, hb, hml, hown, hg⟩ (k_F_X9_has l D cs A ad fa fq rv v a w fv fp  p1 hF) ca_X9_has q3_4 ⟨rfl, rfl⟩ ⟨Nat.le_of_ble_eq_true rfl, Nat.le_of_ble_eq_true rfl⟩ (rc_parish hK hP) hK hP hD hS hZ rfl hl.1 rfl (Nat.le_of_ble_eq_true rfl) ⟨Nat.zero_le _, Nat.zero_le _⟩ dX11_go_5 (fun r_1 wr_1 => ?_)
  have wr_1 : r_1.toInt = 0 := wr_1
  refine lv_if_eq (tgt := 18) hx hb dX11_go_8 (by decide) (fun c_2 => ?_) (fun c_2 => ?_)
  ·
    have kc_2 : r_1.toInt = (0 : Int) := i_eq c_2
    refine lv_iconst (v := (-1)) hx hb dX11_go_18 (by decide) ?_
    have q0_m1 : ((-1) : Int32).toInt = (-1) := rfl
    exact W.iret (v := (-1)) hx hb hr (fun tt ht hW => ⟨(-1), rfl, (by first | rfl | omega | trivial | assumption), ht⟩) (fun _ h => by cases h) dX11_go_19
  ·
    have kc_2 : r_1.toInt ≠ (0 : Int) := i_ne c_2
    exfalso; omega
set_option maxHeartbeats 4000000 in
set_option maxRecDepth 100000 in
theorem k_F_X11_pad (l : Launch) (D : va_G) (cs : Nat → ClassId) (A : Nat → Prop) (ad fa fq rv : Nat → Nat) (v : Nat → Int32) (a : Nat → Nat → Int32) (w : Nat → Nat → Int64) (fv fp : Nat → Nat → Int32)  (p1 : Int32) (hF : FrC v a fv) : Met l yX11_pad (Cond.code yX11_pad cX11_pad 2 (some .int) :: gw) ({ frames := 1, cells := 0, slots := 0, locals := 21 }) (va_Pc [.ref (ad 0), .int p1] (XPre D (TY cs) (CW cs ad fa fq rv v a w fv fp) A)) (vp_Si (fun (r : Int32) => r.toInt = -1)) 0 0 (fun _ => False) := by
  refine Met.ofW (cc := cX11_pad) (maxL := 2) (ret := (some .int)) (by decide) rfl ?_
  intro p e s m args below meth c s₁ B hml hv
  obtain ⟨rfl, hP, hK, hD, hZ⟩ := hv
  have hx := B.exec
  have hb := B.bytes
  have hr := B.returns
  have hts := atoms_spec (ws := (Cond.code yX11_pad cX11_pad 2 (some .int) :: gw)) B.pre
  have hg : ∀ w ∈ gw, w.before ([.ref (ad 0), .int p1] : List Value).toArray s = true := fun w h => hts w (List.mem_cons_of_mem _ h)
  have hown : s.vm.findClass RX11 = some m.cls := findClass_of_methodNamed B.named
  have hlocks := B.notSynchronized
  have hS : va_S A s.heap s.heap [] := va_S.rf
  have hv1 : (v 1).toInt = 0 := by rw [hF.2.1]; rfl
  have hv21 : (v 21).toInt = 0 := by rw [hF.2.2.2.2.2.2.2.2.1]; rfl
  have hl := lv_entry ([.ref (ad 0), .int p1]) (n := 2) (Nat.le_of_ble_eq_true rfl)
  rw [lg_entry_eq]
  generalize (lg_sl ([.ref (ad 0), .int p1]) ++ List.replicate (2 - (lg_sl ([.ref (ad 0), .int p1])).length) Slot.unset).toArray = ls at hl ⊢
  have hl : lv_has ls 2 [(0, .ref (ad 0)), (1, .int p1)] := hl
  refine lv_aload_n hx hb dX11_pad_0 rfl (lv_at hl 0 rfl) ?_
  refine gf_main_parish hx hb hg hown hK hP rfl (hg _ q2_123) dX11_pad_1 ?_
  refine lv_iload_n hx hb dX11_pad_4 rfl (lv_at hl 1 rfl) ?_
  refine cV_ro (As := [.int p1]) (rest := []) ⟨hx, hb, hml, hown, hg⟩ (k_F_X9_has l D cs A ad fa fq rv v a w fv fp  p1 hF) ca_X9_has q3_4 ⟨rfl, rfl⟩ ⟨Nat.le_of_ble_eq_true rfl, Nat.le_of_ble_eq_true rfl⟩ (rc_parish hK hP) hK hP hD hS hZ rfl hl.1 rfl (Nat.le_of_ble_eq_true rfl) ⟨Nat.zero_le _, Nat.zero_le _⟩ dX11_pad_5 (fun r_1 wr_1 => ?_)
  have wr_1 : r_1.toInt = 0 := wr_1
  refine lv_if_ne (tgt := 13) hx hb dX11_pad_8 (by decide) (fun c_2 => ?_) (fun c_2 => ?_)
  ·
    have kc_2 : r_1.toInt ≠ (0 : Int) := i_ne c_2
    exfalso; omega
  ·
    have kc_2 : r_1.toInt = (0 : Int) := i_eq c_2
    refine lv_iconst (v := (-1)) hx hb dX11_pad_11 (by decide) ?_
    have q0_m1 : ((-1) : Int32).toInt = (-1) := rfl
    exact W.iret (v := (-1)) hx hb hr (fun tt ht hW => ⟨(-1), rfl, (by first | rfl | omega | trivial | assumption), ht⟩) (fun _ h => by cases h) dX11_pad_12
set_option maxHeartbeats 4000000 in
set_option maxRecDepth 100000 in
theorem k_F_X11_led (l : Launch) (D : va_G) (cs : Nat → ClassId) (A : Nat → Prop) (ad fa fq rv : Nat → Nat) (v : Nat → Int32) (a : Nat → Nat → Int32) (w : Nat → Nat → Int64) (fv fp : Nat → Nat → Int32)  (p1 : Int32) (hF : FrC v a fv) : Met l yX11_led (Cond.code yX11_led cX11_led 2 (some .int) :: gw) ({ frames := 0, cells := 0, slots := 0, locals := 0 }) (va_Pc [.ref (ad 0), .int p1] (XPre D (TY cs) (CW cs ad fa fq rv v a w fv fp) A)) (vp_Si (fun (r : Int32) => (0 ≤ p1.toInt ∧ p1.toInt ≤ 4 ∧ r.toInt = 0) ∨ (p1.toInt = 5 ∧ r.toInt = -2) ∨ (p1.toInt = 6 ∧ r.toInt = 0) ∨ ((p1.toInt < 0 ∨ 6 < p1.toInt) ∧ r.toInt = -1))) 0 0 (fun _ => False) := by
  refine Met.ofW (cc := cX11_led) (maxL := 2) (ret := (some .int)) (by decide) rfl ?_
  intro p e s m args below meth c s₁ B hml hv
  obtain ⟨rfl, hP, hK, hD, hZ⟩ := hv
  have hx := B.exec
  have hb := B.bytes
  have hr := B.returns
  have hts := atoms_spec (ws := (Cond.code yX11_led cX11_led 2 (some .int) :: gw)) B.pre
  have hg : ∀ w ∈ gw, w.before ([.ref (ad 0), .int p1] : List Value).toArray s = true := fun w h => hts w (List.mem_cons_of_mem _ h)
  have hown : s.vm.findClass RX11 = some m.cls := findClass_of_methodNamed B.named
  have hlocks := B.notSynchronized
  have hS : va_S A s.heap s.heap [] := va_S.rf
  have hv1 : (v 1).toInt = 0 := by rw [hF.2.1]; rfl
  have hv21 : (v 21).toInt = 0 := by rw [hF.2.2.2.2.2.2.2.2.1]; rfl
  have hl := lv_entry ([.ref (ad 0), .int p1]) (n := 2) (Nat.le_of_ble_eq_true rfl)
  rw [lg_entry_eq]
  generalize (lg_sl ([.ref (ad 0), .int p1]) ++ List.replicate (2 - (lg_sl ([.ref (ad 0), .int p1])).length) Slot.unset).toArray = ls at hl ⊢
  have hl : lv_has ls 2 [(0, .ref (ad 0)), (1, .int p1)] := hl
  refine lv_iload_n hx hb dX11_led_0 rfl (lv_at hl 1 rfl) ?_
  rcases (show p1.toInt = 0 ∨ p1.toInt = 1 ∨ p1.toInt = 2 ∨ p1.toInt = 3 ∨ p1.toInt = 4 ∨ p1.toInt = 5 ∨ p1.toInt = 6 ∨ (p1.toInt < 0 ∨ 6 < p1.toInt) by omega) with kc_1 | kc_1 | kc_1 | kc_1 | kc_1 | kc_1 | kc_1 | kc_1
  ·
    refine lv_tableIn (tgt := 44) hx hb dX11_led_1 (by omega) (by omega) (off := 43) (by rw [kc_1]; rfl) (by decide) ?_
    refine lv_aload_n hx hb dX11_led_44 rfl (lv_at hl 0 rfl) ?_
    refine gf_main_deed hx hb hg hown hK hP rfl (hg _ q2_125) dX11_led_45 ?_
    refine gf_fl_sayings (f := 14) (by decide) hx hb hg hown hK hP (x := 0) hF.2.2.2.2.2.2.2.2.2.2.2.2.2.2.1 (hg _ q1_237) dX11_led_48 ?_
    have q0_0 : (0 : Int32).toInt = 0 := rfl
    exact W.iret (v := 0) hx hb hr (fun tt ht hW => ⟨0, rfl, (by first | rfl | omega | trivial | assumption), ht⟩) (fun _ h => by cases h) dX11_led_51
  ·
    refine lv_tableIn (tgt := 52) hx hb dX11_led_1 (by omega) (by omega) (off := 51) (by rw [kc_1]; rfl) (by decide) ?_
    refine lv_aload_n hx hb dX11_led_52 rfl (lv_at hl 0 rfl) ?_
    refine gf_main_deed hx hb hg hown hK hP rfl (hg _ q2_125) dX11_led_53 ?_
    refine gf_fl_lies (f := 14) (by decide) hx hb hg hown hK hP (x := 0) hF.2.2.2.2.2.2.2.2.2.2.2.2.2.2.2.1 (hg _ q2_0) dX11_led_56 ?_
    have q0_0 : (0 : Int32).toInt = 0 := rfl
    exact W.iret (v := 0) hx hb hr (fun tt ht hW => ⟨0, rfl, (by first | rfl | omega | trivial | assumption), ht⟩) (fun _ h => by cases h) dX11_led_59
  ·
    refine lv_tableIn (tgt := 60) hx hb dX11_led_1 (by omega) (by omega) (off := 59) (by rw [kc_1]; rfl) (by decide) ?_
    refine lv_aload_n hx hb dX11_led_60 rfl (lv_at hl 0 rfl) ?_
    refine gf_main_deed hx hb hg hown hK hP rfl (hg _ q2_125) dX11_led_61 ?_
    refine gf_fl_louds (f := 14) (by decide) hx hb hg hown hK hP (x := 0) hF.2.2.2.2.2.2.2.2.2.2.2.2.2.2.2.2.1 (hg _ q2_2) dX11_led_64 ?_
    have q0_0 : (0 : Int32).toInt = 0 := rfl
    exact W.iret (v := 0) hx hb hr (fun tt ht hW => ⟨0, rfl, (by first | rfl | omega | trivial | assumption), ht⟩) (fun _ h => by cases h) dX11_led_67
  ·
    refine lv_tableIn (tgt := 68) hx hb dX11_led_1 (by omega) (by omega) (off := 67) (by rw [kc_1]; rfl) (by decide) ?_
    refine lv_aload_n hx hb dX11_led_68 rfl (lv_at hl 0 rfl) ?_
    refine gf_main_deed hx hb hg hown hK hP rfl (hg _ q2_125) dX11_led_69 ?_
    refine gf_fl_stings (f := 14) (by decide) hx hb hg hown hK hP (x := 0) hF.2.2.2.2.2.2.2.2.2.2.2.2.2.2.2.2.2.1 (hg _ q2_4) dX11_led_72 ?_
    have q0_0 : (0 : Int32).toInt = 0 := rfl
    exact W.iret (v := 0) hx hb hr (fun tt ht hW => ⟨0, rfl, (by first | rfl | omega | trivial | assumption), ht⟩) (fun _ h => by cases h) dX11_led_75
  ·
    refine lv_tableIn (tgt := 76) hx hb dX11_led_1 (by omega) (by omega) (off := 75) (by rw [kc_1]; rfl) (by decide) ?_
    refine lv_aload_n hx hb dX11_led_76 rfl (lv_at hl 0 rfl) ?_
    refine gf_main_deed hx hb hg hown hK hP rfl (hg _ q2_125) dX11_led_77 ?_
    refine gf_fl_hurts (f := 14) (by decide) hx hb hg hown hK hP (x := 0) hF.2.2.2.2.2.2.2.2.2.2.2.2.2.2.2.2.2.2 (hg _ q2_7) dX11_led_80 ?_
    have q0_0 : (0 : Int32).toInt = 0 := rfl
    exact W.iret (v := 0) hx hb hr (fun tt ht hW => ⟨0, rfl, (by first | rfl | omega | trivial | assumption), ht⟩) (fun _ h => by cases h) dX11_led_83
  ·
    refine lv_tableIn (tgt := 84) hx hb dX11_led_1 (by omega) (by omega) (off := 83) (by rw [kc_1]; rfl) (by decide) ?_
    refine lv_aload_n hx hb dX11_led_84 rfl (lv_at hl 0 rfl) ?_
    refine gf_main_deed hx hb hg hown hK hP rfl (hg _ q2_125) dX11_led_85 ?_
    refine gf_fl_liar (f := 14) (by decide) hx hb hg hown hK hP (x := (-2)) hF.2.2.2.2.2.2.2.2.2.2.2.2.2.1 (hg _ q1_235) dX11_led_88 ?_
    have q0_m2 : ((-2) : Int32).toInt = (-2) := rfl
    exact W.iret (v := (-2)) hx hb hr (fun tt ht hW => ⟨(-2), rfl, (by first | rfl | omega | trivial | assumption), ht⟩) (fun _ h => by cases h) dX11_led_91
  ·
    refine lv_tableIn (tgt := 92) hx hb dX11_led_1 (by omega) (by omega) (off := 91) (by rw [kc_1]; rfl) (by decide) ?_
    refine lv_aload_n hx hb dX11_led_92 rfl (lv_at hl 0 rfl) ?_
    refine gf_main_deed hx hb hg hown hK hP rfl (hg _ q2_125) dX11_led_93 ?_
    refine gf_fl_swarm (f := 14) (by decide) hx hb hg hown hK hP (x := 0) hF.2.2.2.2.2.2.2.2.2.2.2.2.1 (hg _ q1_233) dX11_led_96 ?_
    have q0_0 : (0 : Int32).toInt = 0 := rfl
    exact W.iret (v := 0) hx hb hr (fun tt ht hW => ⟨0, rfl, (by first | rfl | omega | trivial | assumption), ht⟩) (fun _ h => by cases h) dX11_led_99
  ·
    refine lv_tableOut (tgt := 100) hx hb dX11_led_1 kc_1 (by decide) ?_
    refine lv_iconst (v := (-1)) hx hb dX11_led_100 (by decide) ?_
    have q0_m1 : ((-1) : Int32).toInt = (-1) := rfl
    exact W.iret (v := (-1)) hx hb hr (fun tt ht hW => ⟨(-1), rfl, (by first | rfl | omega | trivial | assumption), ht⟩) (fun _ h => by cases h) dX11_led_101
set_option maxHeartbeats 4000000 in
set_option maxRecDepth 100000 in
theorem k_F_X11_image (l : Launch) (D : va_G) (cs : Nat → ClassId) (A : Nat → Prop) (ad fa fq rv : Nat → Nat) (v : Nat → Int32) (a : Nat → Nat → Int32) (w : Nat → Nat → Int64) (fv fp : Nat → Nat → Int32)   (hF : FrC v a fv) : Met l yX11_image (Cond.code yX11_image cX11_image 1 (some .int) :: gw) ({ frames := 2, cells := 0, slots := 0, locals := 82 }) (va_Pc [.ref (ad 0)] (XPre D (TY cs) (CW cs ad fa fq rv v a w fv fp) A)) (va_Qi (fun (r : Int32) (z : Int32 × (Nat → Int32) × (Nat → Int32) × (Nat → Int32)) => r.toInt = 0) (XPo D (fun (z : Int32 × (Nat → Int32) × (Nat → Int32) × (Nat → Int32)) => CW cs ad fa fq rv (va_up v 0 z.1) (va_up a 39 z.2.1) w (va_up fv 17 z.2.2.1) (va_up fp 17 z.2.2.2)) A) A) 0 0 A := by
  refine Met.ofW (cc := cX11_image) (maxL := 1) (ret := (some .int)) (by decide) rfl ?_
  intro p e s m args below meth c s₁ B hml hv
  obtain ⟨rfl, hP, hK, hD, hZ⟩ := hv
  have hx := B.exec
  have hb := B.bytes
  have hr := B.returns
  have hts := atoms_spec (ws := (Cond.code yX11_image cX11_image 1 (some .int) :: gw)) B.pre
  have hg : ∀ w ∈ gw, w.before ([.ref (ad 0)] : List Value).toArray s = true := fun w h => hts w (List.mem_cons_of_mem _ h)
  have hown : s.vm.findClass RX11 = some m.cls := findClass_of_methodNamed B.named
  have hlocks := B.notSynchronized
  have hS : va_S A s.heap s.heap [] := va_S.rf
  have hP : va_P D vwCl (CW cs ad fa fq rv v a w fv fp) s.heap := hP
  have hv1 : (v 1).toInt = 0 := by rw [hF.2.1]; rfl
  have hv21 : (v 21).toInt = 0 := by rw [hF.2.2.2.2.2.2.2.2.1]; rfl
  have hl := lv_entry ([.ref (ad 0)]) (n := 1) (Nat.le_of_ble_eq_true rfl)
  rw [lg_entry_eq]
  generalize (lg_sl ([.ref (ad 0)]) ++ List.replicate (1 - (lg_sl ([.ref (ad 0)])).length) Slot.unset).toArray = ls at hl ⊢
  have hl : lv_has ls 1 [(0, .ref (ad 0))] := hl
  refine lv_aload_n hx hb dX11_image_0 rfl (lv_at hl 0 rfl) ?_
  refine lv_aload_n hx hb dX11_image_1 rfl (lv_at hl 0 rfl) ?_
  refine gf_main_parish hx hb hg hown hK hP rfl (hg _ q2_123) dX11_image_2 ?_
  refine gf_parish_people hx hb hg hown hK hP (x := 0) hF.2.1 (hg _ q1_109) dX11_image_5 ?_
  refine pf_main_keptPeople hx hb hg hown hK hP hD hS (hg _ q2_137) dX11_image_8 (fun H locs hP hD hS => ?_)
  refine lv_aload_n hx hb dX11_image_11 rfl (lv_at hl 0 rfl) ?_
  refine gf_main_parish hx hb hg hown hK hP rfl (hg _ q2_123) dX11_image_12 ?_
  refine gf_parish_cell hx hb hg hown hK hP rfl (hg _ q1_119) dX11_image_15 ?_
  refine lv_iconst (v := 0) hx hb dX11_image_18 (by decide) ?_
  refine lv_aload_n hx hb dX11_image_19 rfl (lv_at hl 0 rfl) ?_
  refine gf_main_keptCells hx hb hg hown hK hP rfl (hg _ q2_136) dX11_image_20 ?_
  refine lv_iconst (v := 0) hx hb dX11_image_23 (by decide) ?_
  refine lv_bipush (v := 8) hx hb dX11_image_24 (by decide) ?_
  refine va_copyi hx hb (hml.trans hl.1.symm) hown (hg _ q4_99) (hg _ q3_23) (hg _ q3_22) (hg _ q1_15) hK hP hD hS 11 39 0 0 rfl rfl rfl rfl rfl (fun q => absurd q (by decide)) (fun q => absurd q (by decide)) (fun q => absurd q (by decide)) (by show 0 + 8 ≤ 8; omega) (by show 0 + 8 ≤ 8; omega) (fun _ _ => rfl) (Nat.le_of_ble_eq_true rfl) (Nat.le_of_ble_eq_true rfl) dX11_image_26 (fun H locs hP hD hS => ?_)
  have hP : va_P D vwCl (CW cs ad fa fq rv (va_up v 0 0) (va_up a 39 (va_cpy (a 11) (a 39) (0 : Int32).toNatClampNeg (0 : Int32).toNatClampNeg (8 : Int32).toNatClampNeg)) w fv fp) H := hP
  have hD : va_D A (CW cs ad fa fq rv (va_up v 0 0) (va_up a 39 (va_cpy (a 11) (a 39) (0 : Int32).toNatClampNeg (0 : Int32).toNatClampNeg (8 : Int32).toNatClampNeg)) w fv fp) := hD
  refine lv_aload_n hx hb dX11_image_29 rfl (lv_at hl 0 rfl) ?_
  refine gf_main_keptFlight hx hb hg hown hK hP rfl (hg _ q2_135) dX11_image_30 ?_
  refine lv_aload_n hx hb dX11_image_33 rfl (lv_at hl 0 rfl) ?_
  refine gf_main_deed hx hb hg hown hK hP rfl (hg _ q2_125) dX11_image_34 ?_
  refine lv_bipush (v := 8) hx hb dX11_image_37 (by decide) ?_
  refine cV_v (As := [.ref (fa 14), .int 8]) (rest := []) ⟨hx, hb, hml, hown, hg⟩ (k_X3_follow l D cs A ad fa fq rv (va_up v 0 0) (va_up a 39 (va_cpy (a 11) (a 39) (0 : Int32).toNatClampNeg (0 : Int32).toNatClampNeg (8 : Int32).toNatClampNeg)) w fv fp 17 14 8 (by omega) (by omega) (by omega) (show 0 ≤ (8 : Int) by first | omega | decide) (show (8 : Int) ≤ 8 by first | omega | decide)) ca_X3_follow q3_213 ⟨rfl, rfl⟩ ⟨Nat.le_of_ble_eq_true rfl, Nat.le_of_ble_eq_true rfl⟩ (rc_fl (f := 17) (by decide) hK hP) hK hP hD hS hZ rfl hl.1 rfl (Nat.le_of_ble_eq_true rfl) ⟨Nat.zero_le _, Nat.zero_le _⟩ dX11_image_39 (fun z_4 H locs wr_1 hP hD hS => ?_)
  obtain ⟨g_2, h_3⟩ := z_4
  have hP : va_P D vwCl (CW cs ad fa fq rv (va_up v 0 0) (va_up a 39 (va_cpy (a 11) (a 39) (0 : Int32).toNatClampNeg (0 : Int32).toNatClampNeg (8 : Int32).toNatClampNeg)) w (va_up fv 17 g_2) (va_up fp 17 h_3)) H := hP
  have hD : va_D A (CW cs ad fa fq rv (va_up v 0 0) (va_up a 39 (va_cpy (a 11) (a 39) (0 : Int32).toNatClampNeg (0 : Int32).toNatClampNeg (8 : Int32).toNatClampNeg)) w (va_up fv 17 g_2) (va_up fp 17 h_3)) := hD
  obtain ⟨wr_1_0, wr_1_1, wr_1_2, wr_1_3, wr_1_4, wr_1_5, wr_1_6, wr_1_7⟩ : (g_2 0 = (fv 14 0)) ∧ (g_2 1 = (fv 14 1)) ∧ (g_2 2 = (fv 14 2)) ∧ (g_2 3 = (fv 14 3)) ∧ (g_2 4 = (fv 14 4)) ∧ (g_2 5 = (fv 14 5)) ∧ (g_2 6 = (fv 14 6)) ∧ (g_2 7 = (fv 14 7)) := wr_1
  refine lv_aload_n hx hb dX11_image_42 rfl (lv_at hl 0 rfl) ?_
  refine gf_main_deed hx hb hg hown hK hP rfl (hg _ q2_125) dX11_image_43 ?_
  refine gf_fl_sayings (f := 14) (by decide) hx hb hg hown hK hP (x := 0) hF.2.2.2.2.2.2.2.2.2.2.2.2.2.2.1 (hg _ q1_237) dX11_image_46 ?_
  have q0_0 : (0 : Int32).toInt = 0 := rfl
  have q0_0 : (0 : Int32).toInt = 0 := rfl
  exact W.iret (v := 0) hx hb hr (fun tt ht hW => ⟨⟨0, ⟨0, (va_cpy (a 11) (a 39) (0 : Int32).toNatClampNeg (0 : Int32).toNatClampNeg (8 : Int32).toNatClampNeg), g_2, h_3⟩, rfl, (by first | rfl | omega | trivial | assumption), by rw [ht]; exact hP, hD⟩, hS.F ht⟩) hS.2.2 dX11_image_49
set_option maxHeartbeats 4000000 in
set_option maxRecDepth 100000 in
theorem k_F_X11_back (l : Launch) (D : va_G) (cs : Nat → ClassId) (A : Nat → Prop) (ad fa fq rv : Nat → Nat) (v : Nat → Int32) (a : Nat → Nat → Int32) (w : Nat → Nat → Int64) (fv fp : Nat → Nat → Int32)   (hF : FrC v a fv) : Met l yX11_back (Cond.code yX11_back cX11_back 3 (some .int) :: gw) ({ frames := 0, cells := 0, slots := 0, locals := 0 }) (va_Pc [.ref (ad 0)] (XPre D (TY cs) (CW cs ad fa fq rv v a w fv fp) A)) (vp_Si (fun (r : Int32) => r.toInt = -5)) 0 0 (fun _ => False) := by
  refine Met.ofW (cc := cX11_back) (maxL := 3) (ret := (some .int)) (by decide) rfl ?_
  intro p e s m args below meth c s₁ B hml hv
  obtain ⟨rfl, hP, hK, hD, hZ⟩ := hv
  have hx := B.exec
  have hb := B.bytes
  have hr := B.returns
  have hts := atoms_spec (ws := (Cond.code yX11_back cX11_back 3 (some .int) :: gw)) B.pre
  have hg : ∀ w ∈ gw, w.before ([.ref (ad 0)] : List Value).toArray s = true := fun w h => hts w (List.mem_cons_of_mem _ h)
  have hown : s.vm.findClass RX11 = some m.cls := findClass_of_methodNamed B.named
  have hlocks := B.notSynchronized
  have hS : va_S A s.heap s.heap [] := va_S.rf
  have hv1 : (v 1).toInt = 0 := by rw [hF.2.1]; rfl
  have hv21 : (v 21).toInt = 0 := by rw [hF.2.2.2.2.2.2.2.2.1]; rfl
  have hl := lv_entry ([.ref (ad 0)]) (n := 3) (Nat.le_of_ble_eq_true rfl)
  rw [lg_entry_eq]
  generalize (lg_sl ([.ref (ad 0)]) ++ List.replicate (3 - (lg_sl ([.ref (ad 0)])).length) Slot.unset).toArray = ls at hl ⊢
  have hl : lv_has ls 3 [(0, .ref (ad 0))] := hl
  refine lv_aload_n hx hb dX11_back_0 rfl (lv_at hl 0 rfl) ?_
  refine gf_main_keptPeople hx hb hg hown hK hP (x := (-1)) hF.1 (hg _ q2_137) dX11_back_1 ?_
  refine lv_if_ge (tgt := 10) hx hb dX11_back_4 (by decide) (fun c_1 => absurd c_1 (by decide)) (fun c_1 => ?_)
  refine lv_bipush (v := (-5)) hx hb dX11_back_7 (by decide) ?_
  have q0_m5 : ((-5) : Int32).toInt = (-5) := rfl
  exact W.iret (v := (-5)) hx hb hr (fun tt ht hW => ⟨(-5), rfl, (by first | rfl | omega | trivial | assumption), ht⟩) (fun _ h => by cases h) dX11_back_9
set_option maxHeartbeats 4000000 in
set_option maxRecDepth 100000 in
theorem k_F_X11_undo (l : Launch) (D : va_G) (cs : Nat → ClassId) (A : Nat → Prop) (ad fa fq rv : Nat → Nat) (v : Nat → Int32) (a : Nat → Nat → Int32) (w : Nat → Nat → Int64) (fv fp : Nat → Nat → Int32)   (hF : FrC v a fv) : Met l yX11_undo (Cond.code yX11_undo cX11_undo 2 (some .int) :: gw) ({ frames := 0, cells := 0, slots := 0, locals := 0 }) (va_Pc [.ref (ad 0)] (XPre D (TY cs) (CW cs ad fa fq rv v a w fv fp) A)) (vp_Si (fun (r : Int32) => r.toInt = -5)) 0 0 (fun _ => False) := by
  refine Met.ofW (cc := cX11_undo) (maxL := 2) (ret := (some .int)) (by decide) rfl ?_
  intro p e s m args below meth c s₁ B hml hv
  obtain ⟨rfl, hP, hK, hD, hZ⟩ := hv
  have hx := B.exec
  have hb := B.bytes
  have hr := B.returns
  have hts := atoms_spec (ws := (Cond.code yX11_undo cX11_undo 2 (some .int) :: gw)) B.pre
  have hg : ∀ w ∈ gw, w.before ([.ref (ad 0)] : List Value).toArray s = true := fun w h => hts w (List.mem_cons_of_mem _ h)
  have hown : s.vm.findClass RX11 = some m.cls := findClass_of_methodNamed B.named
  have hlocks := B.notSynchronized
  have hS : va_S A s.heap s.heap [] := va_S.rf
  have hv1 : (v 1).toInt = 0 := by rw [hF.2.1]; rfl
  have hv21 : (v 21).toInt = 0 := by rw [hF.2.2.2.2.2.2.2.2.1]; rfl
  have hl := lv_entry ([.ref (ad 0)]) (n := 2) (Nat.le_of_ble_eq_true rfl)
  rw [lg_entry_eq]
  generalize (lg_sl ([.ref (ad 0)]) ++ List.replicate (2 - (lg_sl ([.ref (ad 0)])).length) Slot.unset).toArray = ls at hl ⊢
  have hl : lv_has ls 2 [(0, .ref (ad 0))] := hl
  refine lv_aload_n hx hb dX11_undo_0 rfl (lv_at hl 0 rfl) ?_
  refine gf_main_changes hx hb hg hown hK hP rfl (hg _ q2_132) dX11_undo_1 ?_
  refine gf_changes_done hx hb hg hown hK hP (x := 0) hF.2.2.2.2.2.2.1 (hg _ q1_41) dX11_undo_4 ?_
  refine lv_if_ne (tgt := 13) hx hb dX11_undo_7 (by decide) (fun c_1 => absurd c_1 (by decide)) (fun c_1 => ?_)
  refine lv_bipush (v := (-5)) hx hb dX11_undo_10 (by decide) ?_
  have q0_m5 : ((-5) : Int32).toInt = (-5) := rfl
  exact W.iret (v := (-5)) hx hb hr (fun tt ht hW => ⟨(-5), rfl, (by first | rfl | omega | trivial | assumption), ht⟩) (fun _ h => by cases h) dX11_undo_12
set_option maxHeartbeats 4000000 in
set_option maxRecDepth 100000 in
theorem k_F_X11_redo (l : Launch) (D : va_G) (cs : Nat → ClassId) (A : Nat → Prop) (ad fa fq rv : Nat → Nat) (v : Nat → Int32) (a : Nat → Nat → Int32) (w : Nat → Nat → Int64) (fv fp : Nat → Nat → Int32)   (hF : FrC v a fv) : Met l yX11_redo (Cond.code yX11_redo cX11_redo 2 (some .int) :: gw) ({ frames := 0, cells := 0, slots := 0, locals := 0 }) (va_Pc [.ref (ad 0)] (XPre D (TY cs) (CW cs ad fa fq rv v a w fv fp) A)) (vp_Si (fun (r : Int32) => r.toInt = -5)) 0 0 (fun _ => False) := by
  refine Met.ofW (cc := cX11_redo) (maxL := 2) (ret := (some .int)) (by decide) rfl ?_
  intro p e s m args below meth c s₁ B hml hv
  obtain ⟨rfl, hP, hK, hD, hZ⟩ := hv
  have hx := B.exec
  have hb := B.bytes
  have hr := B.returns
  have hts := atoms_spec (ws := (Cond.code yX11_redo cX11_redo 2 (some .int) :: gw)) B.pre
  have hg : ∀ w ∈ gw, w.before ([.ref (ad 0)] : List Value).toArray s = true := fun w h => hts w (List.mem_cons_of_mem _ h)
  have hown : s.vm.findClass RX11 = some m.cls := findClass_of_methodNamed B.named
  have hlocks := B.notSynchronized
  have hS : va_S A s.heap s.heap [] := va_S.rf
  have hv1 : (v 1).toInt = 0 := by rw [hF.2.1]; rfl
  have hv21 : (v 21).toInt = 0 := by rw [hF.2.2.2.2.2.2.2.2.1]; rfl
  have hl := lv_entry ([.ref (ad 0)]) (n := 2) (Nat.le_of_ble_eq_true rfl)
  rw [lg_entry_eq]
  generalize (lg_sl ([.ref (ad 0)]) ++ List.replicate (2 - (lg_sl ([.ref (ad 0)])).length) Slot.unset).toArray = ls at hl ⊢
  have hl : lv_has ls 2 [(0, .ref (ad 0))] := hl
  refine lv_aload_n hx hb dX11_redo_0 rfl (lv_at hl 0 rfl) ?_
  refine gf_main_changes hx hb hg hown hK hP rfl (hg _ q2_132) dX11_redo_1 ?_
  refine gf_changes_done hx hb hg hown hK hP (x := 0) hF.2.2.2.2.2.2.1 (hg _ q1_41) dX11_redo_4 ?_
  refine lv_aload_n hx hb dX11_redo_7 rfl (lv_at hl 0 rfl) ?_
  refine gf_main_changes hx hb hg hown hK hP rfl (hg _ q2_132) dX11_redo_8 ?_
  refine gf_changes_all hx hb hg hown hK hP (x := 0) hF.2.2.2.2.2.2.2.1 (hg _ q1_43) dX11_redo_11 ?_
  refine lv_icmp_ne (tgt := 20) hx hb dX11_redo_14 (by decide) (fun c_1 => absurd c_1 (by decide)) (fun c_1 => ?_)
  refine lv_bipush (v := (-5)) hx hb dX11_redo_17 (by decide) ?_
  have q0_m5 : ((-5) : Int32).toInt = (-5) := rfl
  exact W.iret (v := (-5)) hx hb hr (fun tt ht hW => ⟨(-5), rfl, (by first | rfl | omega | trivial | assumption), ht⟩) (fun _ h => by cases h) dX11_redo_19
set_option maxHeartbeats 4000000 in
set_option maxRecDepth 100000 in
theorem k_F_X11_body (l : Launch) (D : va_G) (cs : Nat → ClassId) (A : Nat → Prop) (ad fa fq rv : Nat → Nat) (v : Nat → Int32) (a : Nat → Nat → Int32) (w : Nat → Nat → Int64) (fv fp : Nat → Nat → Int32)  (p1 : Int32) (hF : FrC v a fv) : Met l yX11_body (Cond.code yX11_body cX11_body 2 (some .int) :: gw) ({ frames := 1, cells := 0, slots := 0, locals := 21 }) (va_Pc [.ref (ad 0), .int p1] (XPre D (TY cs) (CW cs ad fa fq rv v a w fv fp) A)) (va_Qi (fun (r : Int32) (z : (Nat → Int32) × Int32) => ((0 ≤ p1.toInt ∧ p1.toInt ≤ 7) ∧ r.toInt = 0) ∨ (¬ (0 ≤ p1.toInt ∧ p1.toInt ≤ 7) ∧ r.toInt = -1)) (XPo D (fun (z : (Nat → Int32) × Int32) => CW cs ad fa fq rv (va_up v 21 z.2) (va_up a 37 z.1) w fv fp) A) A) 0 0 A := by
  refine Met.ofW (cc := cX11_body) (maxL := 2) (ret := (some .int)) (by decide) rfl ?_
  intro p e s m args below meth c s₁ B hml hv
  obtain ⟨rfl, hP, hK, hD, hZ⟩ := hv
  have hx := B.exec
  have hb := B.bytes
  have hr := B.returns
  have hts := atoms_spec (ws := (Cond.code yX11_body cX11_body 2 (some .int) :: gw)) B.pre
  have hg : ∀ w ∈ gw, w.before ([.ref (ad 0), .int p1] : List Value).toArray s = true := fun w h => hts w (List.mem_cons_of_mem _ h)
  have hown : s.vm.findClass RX11 = some m.cls := findClass_of_methodNamed B.named
  have hlocks := B.notSynchronized
  have hS : va_S A s.heap s.heap [] := va_S.rf
  have hP : va_P D vwCl (CW cs ad fa fq rv v a w fv fp) s.heap := hP
  have hv1 : (v 1).toInt = 0 := by rw [hF.2.1]; rfl
  have hv21 : (v 21).toInt = 0 := by rw [hF.2.2.2.2.2.2.2.2.1]; rfl
  have hl := lv_entry ([.ref (ad 0), .int p1]) (n := 2) (Nat.le_of_ble_eq_true rfl)
  rw [lg_entry_eq]
  generalize (lg_sl ([.ref (ad 0), .int p1]) ++ List.replicate (2 - (lg_sl ([.ref (ad 0), .int p1])).length) Slot.unset).toArray = ls at hl ⊢
  have hl : lv_has ls 2 [(0, .ref (ad 0)), (1, .int p1)] := hl
  refine lv_iload_n hx hb dX11_body_0 rfl (lv_at hl 1 rfl) ?_
  refine cS_p (As := [.int p1]) (rest := []) ⟨hx, hb, hml, hown, hg⟩ (k_X0_isKind l   p1 ) ca_X0_isKind q4_116 ⟨rfl, rfl⟩ ⟨Nat.le_of_ble_eq_true rfl, Nat.le_of_ble_eq_true rfl⟩ rfl hl.1 rfl (Nat.le_of_ble_eq_true rfl) ⟨Nat.zero_le _, Nat.zero_le _⟩ dX11_body_1 (fun r_1 wr_1 => ?_)
  have wr_1 : (r_1.toInt = 1 ∧ 0 ≤ p1.toInt ∧ p1.toInt ≤ 7) ∨ (r_1.toInt = 0 ∧ ¬ (0 ≤ p1.toInt ∧ p1.toInt ≤ 7)) := wr_1
  refine lv_if_eq (tgt := 18) hx hb dX11_body_4 (by decide) (fun c_2 => ?_) (fun c_2 => ?_)
  ·
    have kc_2 : r_1.toInt = (0 : Int) := i_eq c_2
    refine lv_iconst (v := (-1)) hx hb dX11_body_18 (by decide) ?_
    have q0_m1 : ((-1) : Int32).toInt = (-1) := rfl
    have hP : va_P D vwCl (CW cs ad fa fq rv (va_up v 21 (v 21)) (va_up a 37 (a 37)) w fv fp) _ := hP
    have hD : va_D A (CW cs ad fa fq rv (va_up v 21 (v 21)) (va_up a 37 (a 37)) w fv fp) := hD
    exact W.iret (v := (-1)) hx hb hr (fun tt ht hW => ⟨⟨(-1), ⟨(a 37), (v 21)⟩, rfl, (by first | rfl | omega | trivial | assumption), by rw [ht]; exact hP, hD⟩, hS.F ht⟩) hS.2.2 dX11_body_19
  ·
    have kc_2 : r_1.toInt ≠ (0 : Int) := i_ne c_2
    refine lv_aload_n hx hb dX11_body_7 rfl (lv_at hl 0 rfl) ?_
    refine gf_main_acts hx hb hg hown hK hP rfl (hg _ q2_134) dX11_body_8 ?_
    refine lv_iload_n hx hb dX11_body_11 rfl (lv_at hl 1 rfl) ?_
    refine cV_i (As := [.int p1]) (rest := []) ⟨hx, hb, hml, hown, hg⟩ (k_F_X0_make l D cs A ad fa fq rv v a w fv fp  p1 hF) ca_X0_make q4_119 ⟨rfl, rfl⟩ ⟨Nat.le_of_ble_eq_true rfl, Nat.le_of_ble_eq_true rfl⟩ (rc_acts hK hP) hK hP hD hS hZ rfl hl.1 rfl (Nat.le_of_ble_eq_true rfl) ⟨Nat.zero_le _, Nat.zero_le _⟩ dX11_body_12 (fun r_3 z_6 H locs wr_3 hP hD hS => ?_)
    obtain ⟨gkind_4, made_5⟩ := z_6
    have hP : va_P D vwCl (CW cs ad fa fq rv (va_up v 21 made_5) (va_up a 37 gkind_4) w fv fp) H := hP
    have hD : va_D A (CW cs ad fa fq rv (va_up v 21 made_5) (va_up a 37 gkind_4) w fv fp) := hD
    have wr_3 : r_3.toInt = 0 := wr_3
    refine lv_goto (tgt := 19) hx hb dX11_body_15 (by decide) ?_
    exact W.iret (v := r_3) hx hb hr (fun tt ht hW => ⟨⟨r_3, ⟨gkind_4, made_5⟩, rfl, (by first | rfl | omega | trivial | assumption), by rw [ht]; exact hP, hD⟩, hS.F ht⟩) hS.2.2 dX11_body_19
set_option maxHeartbeats 4000000 in
set_option maxRecDepth 100000 in
theorem k_F_X11_act (l : Launch) (D : va_G) (cs : Nat → ClassId) (A : Nat → Prop) (ad fa fq rv : Nat → Nat) (v : Nat → Int32) (a : Nat → Nat → Int32) (w : Nat → Nat → Int64) (fv fp : Nat → Nat → Int32)  (p1 : Int32) (p2 : Int32) (p3 : Int32) (hF : FrC v a fv) : Met l yX11_act (Cond.code yX11_act cX11_act 4 (some .int) :: gw) ({ frames := 2, cells := 0, slots := 0, locals := 44 }) (va_Pc [.ref (ad 0), .int p1, .int p2, .int p3] (XPre D (TY cs) (CW cs ad fa fq rv v a w fv fp) A)) (va_Qi (fun (r : Int32) (z : Int32) => r.toInt = 0) (XPo D (fun (z : Int32) => CW cs ad fa fq rv (va_up v 22 z) a w fv fp) A) A) 0 0 A := by
  refine Met.ofW (cc := cX11_act) (maxL := 4) (ret := (some .int)) (by decide) rfl ?_
  intro p e s m args below meth c s₁ B hml hv
  obtain ⟨rfl, hP, hK, hD, hZ⟩ := hv
  have hx := B.exec
  have hb := B.bytes
  have hr := B.returns
  have hts := atoms_spec (ws := (Cond.code yX11_act cX11_act 4 (some .int) :: gw)) B.pre
  have hg : ∀ w ∈ gw, w.before ([.ref (ad 0), .int p1, .int p2, .int p3] : List Value).toArray s = true := fun w h => hts w (List.mem_cons_of_mem _ h)
  have hown : s.vm.findClass RX11 = some m.cls := findClass_of_methodNamed B.named
  have hlocks := B.notSynchronized
  have hS : va_S A s.heap s.heap [] := va_S.rf
  have hP : va_P D vwCl (CW cs ad fa fq rv v a w fv fp) s.heap := hP
  have hv1 : (v 1).toInt = 0 := by rw [hF.2.1]; rfl
  have hv21 : (v 21).toInt = 0 := by rw [hF.2.2.2.2.2.2.2.2.1]; rfl
  have hl := lv_entry ([.ref (ad 0), .int p1, .int p2, .int p3]) (n := 4) (Nat.le_of_ble_eq_true rfl)
  rw [lg_entry_eq]
  generalize (lg_sl ([.ref (ad 0), .int p1, .int p2, .int p3]) ++ List.replicate (4 - (lg_sl ([.ref (ad 0), .int p1, .int p2, .int p3])).length) Slot.unset).toArray = ls at hl ⊢
  have hl : lv_has ls 4 [(0, .ref (ad 0)), (1, .int p1), (2, .int p2), (3, .int p3)] := hl
  refine lv_aload_n hx hb dX11_act_0 rfl (lv_at hl 0 rfl) ?_
  refine gf_main_acts hx hb hg hown hK hP rfl (hg _ q2_134) dX11_act_1 ?_
  refine lv_iload_n hx hb dX11_act_4 rfl (lv_at hl 1 rfl) ?_
  refine lv_iload_n hx hb dX11_act_5 rfl (lv_at hl 2 rfl) ?_
  refine lv_iload_n hx hb dX11_act_6 rfl (lv_at hl 3 rfl) ?_
  refine cV_i (As := [.int p1, .int p2, .int p3]) (rest := []) ⟨hx, hb, hml, hown, hg⟩ (k_F_X0_perform l D cs A ad fa fq rv v a w fv fp  p1 p2 p3 hF) ca_X0_perform q4_127 ⟨rfl, rfl⟩ ⟨Nat.le_of_ble_eq_true rfl, Nat.le_of_ble_eq_true rfl⟩ (rc_acts hK hP) hK hP hD hS hZ rfl hl.1 rfl (Nat.le_of_ble_eq_true rfl) ⟨Nat.zero_le _, Nat.zero_le _⟩ dX11_act_7 (fun r_1 ran_2 H locs wr_1 hP hD hS => ?_)
  have hP : va_P D vwCl (CW cs ad fa fq rv (va_up v 22 ran_2) a w fv fp) H := hP
  have hD : va_D A (CW cs ad fa fq rv (va_up v 22 ran_2) a w fv fp) := hD
  have wr_1 : r_1.toInt = 0 := wr_1
  exact W.iret (v := r_1) hx hb hr (fun tt ht hW => ⟨⟨r_1, ran_2, rfl, (by first | rfl | omega | trivial | assumption), by rw [ht]; exact hP, hD⟩, hS.F ht⟩) hS.2.2 dX11_act_10
set_option maxHeartbeats 4000000 in
set_option maxRecDepth 100000 in
theorem k_F_X11_trace (l : Launch) (D : va_G) (cs : Nat → ClassId) (A : Nat → Prop) (ad fa fq rv : Nat → Nat) (v : Nat → Int32) (a : Nat → Nat → Int32) (w : Nat → Nat → Int64) (fv fp : Nat → Nat → Int32)  (p1 : Int32) (hF : FrC v a fv) : Met l yX11_trace (Cond.code yX11_trace cX11_trace 2 (some .int) :: gw) ({ frames := 2, cells := 0, slots := 0, locals := 33 }) (va_Pc [.ref (ad 0), .int p1] (XPre D (TY cs) (CW cs ad fa fq rv v a w fv fp) A)) (vp_Si (fun (r : Int32) => r.toInt = -1)) 0 0 (fun _ => False) := by
  refine Met.ofW (cc := cX11_trace) (maxL := 2) (ret := (some .int)) (by decide) rfl ?_
  intro p e s m args below meth c s₁ B hml hv
  obtain ⟨rfl, hP, hK, hD, hZ⟩ := hv
  have hx := B.exec
  have hb := B.bytes
  have hr := B.returns
  have hts := atoms_spec (ws := (Cond.code yX11_trace cX11_trace 2 (some .int) :: gw)) B.pre
  have hg : ∀ w ∈ gw, w.before ([.ref (ad 0), .int p1] : List Value).toArray s = true := fun w h => hts w (List.mem_cons_of_mem _ h)
  have hown : s.vm.findClass RX11 = some m.cls := findClass_of_methodNamed B.named
  have hlocks := B.notSynchronized
  have hS : va_S A s.heap s.heap [] := va_S.rf
  have hv1 : (v 1).toInt = 0 := by rw [hF.2.1]; rfl
  have hv21 : (v 21).toInt = 0 := by rw [hF.2.2.2.2.2.2.2.2.1]; rfl
  have hl := lv_entry ([.ref (ad 0), .int p1]) (n := 2) (Nat.le_of_ble_eq_true rfl)
  rw [lg_entry_eq]
  generalize (lg_sl ([.ref (ad 0), .int p1]) ++ List.replicate (2 - (lg_sl ([.ref (ad 0), .int p1])).length) Slot.unset).toArray = ls at hl ⊢
  have hl : lv_has ls 2 [(0, .ref (ad 0)), (1, .int p1)] := hl
  refine lv_iload_n hx hb dX11_trace_0 rfl (lv_at hl 1 rfl) ?_
  refine lv_if_lt (tgt := 27) hx hb dX11_trace_1 (by decide) (fun c_1 => ?_) (fun c_1 => ?_)
  ·
    have kc_1 : p1.toInt < (0 : Int) := i_lt c_1
    refine lv_iconst (v := (-1)) hx hb dX11_trace_27 (by decide) ?_
    have q0_m1 : ((-1) : Int32).toInt = (-1) := rfl
    exact W.iret (v := (-1)) hx hb hr (fun tt ht hW => ⟨(-1), rfl, (by first | rfl | omega | trivial | assumption), ht⟩) (fun _ h => by cases h) dX11_trace_28
  ·
    have kc_1 : (0 : Int) ≤ p1.toInt := i_nlt c_1
    refine lv_iload_n hx hb dX11_trace_4 rfl (lv_at hl 1 rfl) ?_
    refine lv_aload_n hx hb dX11_trace_5 rfl (lv_at hl 0 rfl) ?_
    refine gf_main_acts hx hb hg hown hK hP rfl (hg _ q2_134) dX11_trace_6 ?_
    refine cV_ro (As := []) (rest := [.int p1]) ⟨hx, hb, hml, hown, hg⟩ (k_F_X0_kept l D cs A ad fa fq rv v a w fv fp   hF) ca_X0_kept q4_157 ⟨rfl, rfl⟩ ⟨Nat.le_of_ble_eq_true rfl, Nat.le_of_ble_eq_true rfl⟩ (rc_acts hK hP) hK hP hD hS hZ rfl hl.1 rfl (Nat.le_of_ble_eq_true rfl) ⟨Nat.zero_le _, Nat.zero_le _⟩ dX11_trace_9 (fun r_2 wr_2 => ?_)
    have wr_2 : r_2.toInt = 0 := wr_2
    refine lv_icmp_ge (tgt := 27) hx hb dX11_trace_12 (by decide) (fun c_3 => ?_) (fun c_3 => ?_)
    ·
      have kc_3 : r_2.toInt ≤ p1.toInt := i_le c_3
      refine lv_iconst (v := (-1)) hx hb dX11_trace_27 (by decide) ?_
      have q0_m1 : ((-1) : Int32).toInt = (-1) := rfl
      exact W.iret (v := (-1)) hx hb hr (fun tt ht hW => ⟨(-1), rfl, (by first | rfl | omega | trivial | assumption), ht⟩) (fun _ h => by cases h) dX11_trace_28
    ·
      have kc_3 : p1.toInt < r_2.toInt := i_nle c_3
      exfalso; omega
set_option maxHeartbeats 4000000 in
set_option maxRecDepth 100000 in
theorem k_F_X11_keep (l : Launch) (D : va_G) (cs : Nat → ClassId) (A : Nat → Prop) (ad fa fq rv : Nat → Nat) (v : Nat → Int32) (a : Nat → Nat → Int32) (w : Nat → Nat → Int64) (fv fp : Nat → Nat → Int32)  (p1 : Int32) (p2 : Int32) (hF : FrC v a fv) : Met l yX11_keep (Cond.code yX11_keep cX11_keep 3 (some .int) :: gw) ({ frames := 2, cells := 0, slots := 0, locals := 47 }) (va_Pc [.ref (ad 0), .int p1, .int p2] (XPre D (TY cs) (CW cs ad fa fq rv v a w fv fp) A)) (va_Qi (fun (r : Int32) (z : (Nat → Int32) × (Nat → Int32) × (Nat → Int64)) => ((0 ≤ p1.toInt ∧ p1.toInt < 6 ∧ p2.toInt = -1) ∧ r.toInt = 1) ∨ (¬ (0 ≤ p1.toInt ∧ p1.toInt < 6 ∧ p2.toInt = -1) ∧ r.toInt = -1)) (XPo D (fun (z : (Nat → Int32) × (Nat → Int32) × (Nat → Int64)) => CW cs ad fa fq rv v (va_up (va_up a 28 z.1) 29 z.2.1) (va_up w p1.toNatClampNeg z.2.2) fv fp) A) A) 0 0 A := by
  refine Met.ofW (cc := cX11_keep) (maxL := 3) (ret := (some .int)) (by decide) rfl ?_
  intro p e s m args below meth c s₁ B hml hv
  obtain ⟨rfl, hP, hK, hD, hZ⟩ := hv
  have hx := B.exec
  have hb := B.bytes
  have hr := B.returns
  have hts := atoms_spec (ws := (Cond.code yX11_keep cX11_keep 3 (some .int) :: gw)) B.pre
  have hg : ∀ w ∈ gw, w.before ([.ref (ad 0), .int p1, .int p2] : List Value).toArray s = true := fun w h => hts w (List.mem_cons_of_mem _ h)
  have hown : s.vm.findClass RX11 = some m.cls := findClass_of_methodNamed B.named
  have hlocks := B.notSynchronized
  have hS : va_S A s.heap s.heap [] := va_S.rf
  have hP : va_P D vwCl (CW cs ad fa fq rv v a w fv fp) s.heap := hP
  have hv1 : (v 1).toInt = 0 := by rw [hF.2.1]; rfl
  have hv21 : (v 21).toInt = 0 := by rw [hF.2.2.2.2.2.2.2.2.1]; rfl
  have hl := lv_entry ([.ref (ad 0), .int p1, .int p2]) (n := 3) (Nat.le_of_ble_eq_true rfl)
  rw [lg_entry_eq]
  generalize (lg_sl ([.ref (ad 0), .int p1, .int p2]) ++ List.replicate (3 - (lg_sl ([.ref (ad 0), .int p1, .int p2])).length) Slot.unset).toArray = ls at hl ⊢
  have hl : lv_has ls 3 [(0, .ref (ad 0)), (1, .int p1), (2, .int p2)] := hl
  refine lv_iload_n hx hb dX11_keep_0 rfl (lv_at hl 1 rfl) ?_
  refine cS_p (As := [.int p1]) (rest := []) ⟨hx, hb, hml, hown, hg⟩ (k_X10_isShelf l   p1 ) ca_X10_isShelf q2_205 ⟨rfl, rfl⟩ ⟨Nat.le_of_ble_eq_true rfl, Nat.le_of_ble_eq_true rfl⟩ rfl hl.1 rfl (Nat.le_of_ble_eq_true rfl) ⟨Nat.zero_le _, Nat.zero_le _⟩ dX11_keep_1 (fun r_1 wr_1 => ?_)
  have wr_1 : (r_1.toInt = 1 ∧ 0 ≤ p1.toInt ∧ p1.toInt < 6) ∨ (r_1.toInt = 0 ∧ ¬ (0 ≤ p1.toInt ∧ p1.toInt < 6)) := wr_1
  refine lv_if_eq (tgt := 23) hx hb dX11_keep_4 (by decide) (fun c_2 => ?_) (fun c_2 => ?_)
  ·
    have kc_2 : r_1.toInt = (0 : Int) := i_eq c_2
    refine lv_iconst (v := (-1)) hx hb dX11_keep_23 (by decide) ?_
    have q0_m1 : ((-1) : Int32).toInt = (-1) := rfl
    have hP : va_P D vwCl (CW cs ad fa fq rv v (va_up (va_up a 28 (a 28)) 29 (a 29)) (va_up w p1.toNatClampNeg (w p1.toNatClampNeg)) fv fp) _ := (by rw [va_up_id w p1.toNatClampNeg]; exact hP)
    have hD : va_D A (CW cs ad fa fq rv v (va_up (va_up a 28 (a 28)) 29 (a 29)) (va_up w p1.toNatClampNeg (w p1.toNatClampNeg)) fv fp) := (by rw [va_up_id w p1.toNatClampNeg]; exact hD)
    exact W.iret (v := (-1)) hx hb hr (fun tt ht hW => ⟨⟨(-1), ⟨(a 28), (a 29), (w p1.toNatClampNeg)⟩, rfl, (by first | rfl | omega | trivial | assumption), by rw [ht]; exact hP, hD⟩, hS.F ht⟩) hS.2.2 dX11_keep_24
  ·
    have kc_2 : r_1.toInt ≠ (0 : Int) := i_ne c_2
    refine lv_iload_n hx hb dX11_keep_7 rfl (lv_at hl 2 rfl) ?_
    refine lv_iconst (v := (-1)) hx hb dX11_keep_8 (by decide) ?_
    refine lv_icmp_eq (tgt := 25) hx hb dX11_keep_9 (by decide) (fun c_3 => ?_) (fun c_3 => ?_)
    ·
      have kc_3 : p2.toInt = (-1 : Int) := i_eq c_3
      refine lv_aload_n hx hb dX11_keep_25 rfl (lv_at hl 0 rfl) ?_
      refine gf_main_shelves hx hb hg hown hK hP rfl (hg _ q2_133) dX11_keep_26 ?_
      refine lv_iload_n hx hb dX11_keep_29 rfl (lv_at hl 1 rfl) ?_
      refine lv_iload_n hx hb dX11_keep_30 rfl (lv_at hl 2 rfl) ?_
      refine lv_iconst (v := (-1)) hx hb dX11_keep_31 (by decide) ?_
      refine lv_icmp_ne (tgt := 39) hx hb dX11_keep_32 (by decide) (fun c_4 => ?_) (fun c_4 => ?_)
      ·
        have kc_4 : p2.toInt ≠ (-1 : Int) := i_ne c_4
        exfalso; omega
      ·
        have kc_4 : p2.toInt = (-1 : Int) := i_eq c_4
        refine lv_iconst (v := (-1)) hx hb dX11_keep_35 (by decide) ?_
        refine lv_goto (tgt := 40) hx hb dX11_keep_36 (by decide) ?_
        refine lv_iload_n hx hb dX11_keep_40 rfl (lv_at hl 2 rfl) ?_
        refine cV_v (As := [.int p1, .int (-1), .int p2]) (rest := []) ⟨hx, hb, hml, hown, hg⟩ (k_X10_lay l D cs A ad fa fq rv v a w fv fp  p1 (-1) p2 (show 0 ≤ p1.toInt by first | omega | decide) (show p1.toInt < 6 by first | omega | decide)) ca_X10_lay q4_167 ⟨rfl, rfl⟩ ⟨Nat.le_of_ble_eq_true rfl, Nat.le_of_ble_eq_true rfl⟩ (rc_shelves hK hP) hK hP hD hS hZ rfl hl.1 rfl (Nat.le_of_ble_eq_true rfl) ⟨Nat.zero_le _, Nat.zero_le _⟩ dX11_keep_41 (fun z_9 H locs wr_5 hP hD hS => ?_)
        obtain ⟨gsort_6, gsize_7, grow_8⟩ := z_9
        have hP : va_P D vwCl (CW cs ad fa fq rv v (va_up (va_up a 28 gsort_6) 29 gsize_7) (va_up w p1.toNatClampNeg grow_8) fv fp) H := hP
        have hD : va_D A (CW cs ad fa fq rv v (va_up (va_up a 28 gsort_6) 29 gsize_7) (va_up w p1.toNatClampNeg grow_8) fv fp) := hD
        obtain ⟨wr_5_0, wr_5_1, wr_5_2⟩ : (gsort_6 = upd (a 28) p1.toNatClampNeg (-1 : Int32)) ∧ (gsize_7 = upd (a 29) p1.toNatClampNeg p2) ∧ (∀ j, j < 60 → grow_8 j = 0) := wr_5
        refine lv_iconst (v := 1) hx hb dX11_keep_44 (by decide) ?_
        have q0_1 : (1 : Int32).toInt = 1 := rfl
        exact W.iret (v := 1) hx hb hr (fun tt ht hW => ⟨⟨1, ⟨gsort_6, gsize_7, grow_8⟩, rfl, (by first | rfl | omega | trivial | assumption), by rw [ht]; exact hP, hD⟩, hS.F ht⟩) hS.2.2 dX11_keep_45
    ·
      have kc_3 : p2.toInt ≠ (-1 : Int) := i_ne c_3
      refine lv_aload_n hx hb dX11_keep_12 rfl (lv_at hl 0 rfl) ?_
      refine gf_main_acts hx hb hg hown hK hP rfl (hg _ q2_134) dX11_keep_13 ?_
      refine lv_iload_n hx hb dX11_keep_16 rfl (lv_at hl 2 rfl) ?_
      refine cV_ro (As := [.int p2]) (rest := []) ⟨hx, hb, hml, hown, hg⟩ (k_F_X0_has l D cs A ad fa fq rv v a w fv fp  p2 hF.2.2.2.2.2.2.2.2.1) ca_X0_has q4_166 ⟨rfl, rfl⟩ ⟨Nat.le_of_ble_eq_true rfl, Nat.le_of_ble_eq_true rfl⟩ (rc_acts hK hP) hK hP hD hS hZ rfl hl.1 rfl (Nat.le_of_ble_eq_true rfl) ⟨Nat.zero_le _, Nat.zero_le _⟩ dX11_keep_17 (fun r_10 wr_10 => ?_)
      have wr_10 : r_10.toInt = 0 := wr_10
      refine lv_if_ne (tgt := 25) hx hb dX11_keep_20 (by decide) (fun c_11 => ?_) (fun c_11 => ?_)
      ·
        have kc_11 : r_10.toInt ≠ (0 : Int) := i_ne c_11
        exfalso; omega
      ·
        have kc_11 : r_10.toInt = (0 : Int) := i_eq c_11
        refine lv_iconst (v := (-1)) hx hb dX11_keep_23 (by decide) ?_
        have q0_m1 : ((-1) : Int32).toInt = (-1) := rfl
        have hP : va_P D vwCl (CW cs ad fa fq rv v (va_up (va_up a 28 (a 28)) 29 (a 29)) (va_up w p1.toNatClampNeg (w p1.toNatClampNeg)) fv fp) _ := (by rw [va_up_id w p1.toNatClampNeg]; exact hP)
        have hD : va_D A (CW cs ad fa fq rv v (va_up (va_up a 28 (a 28)) 29 (a 29)) (va_up w p1.toNatClampNeg (w p1.toNatClampNeg)) fv fp) := (by rw [va_up_id w p1.toNatClampNeg]; exact hD)
        exact W.iret (v := (-1)) hx hb hr (fun tt ht hW => ⟨⟨(-1), ⟨(a 28), (a 29), (w p1.toNatClampNeg)⟩, rfl, (by first | rfl | omega | trivial | assumption), by rw [ht]; exact hP, hD⟩, hS.F ht⟩) hS.2.2 dX11_keep_24
set_option maxHeartbeats 4000000 in
set_option maxRecDepth 100000 in
theorem k_F_X11_row (l : Launch) (D : va_G) (cs : Nat → ClassId) (A : Nat → Prop) (ad fa fq rv : Nat → Nat) (v : Nat → Int32) (a : Nat → Nat → Int32) (w : Nat → Nat → Int64) (fv fp : Nat → Nat → Int32)  (p1 : Int32) (p2 : Int32) (p3 : Int32) (hF : FrC v a fv) : Met l yX11_row (Cond.code yX11_row cX11_row 4 (some .int) :: gw) ({ frames := 2, cells := 0, slots := 0, locals := 47 }) (va_Pc [.ref (ad 0), .int p1, .int p2, .int p3] (XPre D (TY cs) (CW cs ad fa fq rv v a w fv fp) A)) (va_Qi (fun (r : Int32) (z : (Nat → Int32) × (Nat → Int32) × (Nat → Int64)) => ((0 ≤ p1.toInt ∧ p1.toInt < 6 ∧ 0 ≤ p2.toInt ∧ p2.toInt ≤ 4 ∧ p3.toInt ≤ 60) ∧ ((p3.toInt < 0 ∧ r.toInt = -14) ∨ (0 ≤ p3.toInt ∧ r.toInt = 1))) ∨ (¬ (0 ≤ p1.toInt ∧ p1.toInt < 6 ∧ 0 ≤ p2.toInt ∧ p2.toInt ≤ 4 ∧ p3.toInt ≤ 60) ∧ r.toInt = -1)) (XPo D (fun (z : (Nat → Int32) × (Nat → Int32) × (Nat → Int64)) => CW cs ad fa fq rv v (va_up (va_up a 28 z.1) 29 z.2.1) (va_up w p1.toNatClampNeg z.2.2) fv fp) A) A) 0 0 A := by
  refine Met.ofW (cc := cX11_row) (maxL := 4) (ret := (some .int)) (by decide) rfl ?_
  intro p e s m args below meth c s₁ B hml hv
  obtain ⟨rfl, hP, hK, hD, hZ⟩ := hv
  have hx := B.exec
  have hb := B.bytes
  have hr := B.returns
  have hts := atoms_spec (ws := (Cond.code yX11_row cX11_row 4 (some .int) :: gw)) B.pre
  have hg : ∀ w ∈ gw, w.before ([.ref (ad 0), .int p1, .int p2, .int p3] : List Value).toArray s = true := fun w h => hts w (List.mem_cons_of_mem _ h)
  have hown : s.vm.findClass RX11 = some m.cls := findClass_of_methodNamed B.named
  have hlocks := B.notSynchronized
  have hS : va_S A s.heap s.heap [] := va_S.rf
  have hP : va_P D vwCl (CW cs ad fa fq rv v a w fv fp) s.heap := hP
  have hv1 : (v 1).toInt = 0 := by rw [hF.2.1]; rfl
  have hv21 : (v 21).toInt = 0 := by rw [hF.2.2.2.2.2.2.2.2.1]; rfl
  have hl := lv_entry ([.ref (ad 0), .int p1, .int p2, .int p3]) (n := 4) (Nat.le_of_ble_eq_true rfl)
  rw [lg_entry_eq]
  generalize (lg_sl ([.ref (ad 0), .int p1, .int p2, .int p3]) ++ List.replicate (4 - (lg_sl ([.ref (ad 0), .int p1, .int p2, .int p3])).length) Slot.unset).toArray = ls at hl ⊢
  have hl : lv_has ls 4 [(0, .ref (ad 0)), (1, .int p1), (2, .int p2), (3, .int p3)] := hl
  refine lv_iload_n hx hb dX11_row_0 rfl (lv_at hl 1 rfl) ?_
  refine cS_p (As := [.int p1]) (rest := []) ⟨hx, hb, hml, hown, hg⟩ (k_X10_isShelf l   p1 ) ca_X10_isShelf q2_205 ⟨rfl, rfl⟩ ⟨Nat.le_of_ble_eq_true rfl, Nat.le_of_ble_eq_true rfl⟩ rfl hl.1 rfl (Nat.le_of_ble_eq_true rfl) ⟨Nat.zero_le _, Nat.zero_le _⟩ dX11_row_1 (fun r_1 wr_1 => ?_)
  have wr_1 : (r_1.toInt = 1 ∧ 0 ≤ p1.toInt ∧ p1.toInt < 6) ∨ (r_1.toInt = 0 ∧ ¬ (0 ≤ p1.toInt ∧ p1.toInt < 6)) := wr_1
  refine lv_if_eq (tgt := 22) hx hb dX11_row_4 (by decide) (fun c_2 => ?_) (fun c_2 => ?_)
  ·
    have kc_2 : r_1.toInt = (0 : Int) := i_eq c_2
    refine lv_iconst (v := (-1)) hx hb dX11_row_22 (by decide) ?_
    have q0_m1 : ((-1) : Int32).toInt = (-1) := rfl
    have hP : va_P D vwCl (CW cs ad fa fq rv v (va_up (va_up a 28 (a 28)) 29 (a 29)) (va_up w p1.toNatClampNeg (w p1.toNatClampNeg)) fv fp) _ := (by rw [va_up_id w p1.toNatClampNeg]; exact hP)
    have hD : va_D A (CW cs ad fa fq rv v (va_up (va_up a 28 (a 28)) 29 (a 29)) (va_up w p1.toNatClampNeg (w p1.toNatClampNeg)) fv fp) := (by rw [va_up_id w p1.toNatClampNeg]; exact hD)
    exact W.iret (v := (-1)) hx hb hr (fun tt ht hW => ⟨⟨(-1), ⟨(a 28), (a 29), (w p1.toNatClampNeg)⟩, rfl, (by first | rfl | omega | trivial | assumption), by rw [ht]; exact hP, hD⟩, hS.F ht⟩) hS.2.2 dX11_row_23
  ·
    have kc_2 : r_1.toInt ≠ (0 : Int) := i_ne c_2
    refine lv_iload_n hx hb dX11_row_7 rfl (lv_at hl 2 rfl) ?_
    refine lv_if_lt (tgt := 22) hx hb dX11_row_8 (by decide) (fun c_3 => ?_) (fun c_3 => ?_)
    ·
      have kc_3 : p2.toInt < (0 : Int) := i_lt c_3
      refine lv_iconst (v := (-1)) hx hb dX11_row_22 (by decide) ?_
      have q0_m1 : ((-1) : Int32).toInt = (-1) := rfl
      have hP : va_P D vwCl (CW cs ad fa fq rv v (va_up (va_up a 28 (a 28)) 29 (a 29)) (va_up w p1.toNatClampNeg (w p1.toNatClampNeg)) fv fp) _ := (by rw [va_up_id w p1.toNatClampNeg]; exact hP)
      have hD : va_D A (CW cs ad fa fq rv v (va_up (va_up a 28 (a 28)) 29 (a 29)) (va_up w p1.toNatClampNeg (w p1.toNatClampNeg)) fv fp) := (by rw [va_up_id w p1.toNatClampNeg]; exact hD)
      exact W.iret (v := (-1)) hx hb hr (fun tt ht hW => ⟨⟨(-1), ⟨(a 28), (a 29), (w p1.toNatClampNeg)⟩, rfl, (by first | rfl | omega | trivial | assumption), by rw [ht]; exact hP, hD⟩, hS.F ht⟩) hS.2.2 dX11_row_23
    ·
      have kc_3 : (0 : Int) ≤ p2.toInt := i_nlt c_3
      refine lv_iload_n hx hb dX11_row_11 rfl (lv_at hl 2 rfl) ?_
      refine lv_iconst (v := 4) hx hb dX11_row_12 (by decide) ?_
      refine lv_icmp_gt (tgt := 22) hx hb dX11_row_13 (by decide) (fun c_4 => ?_) (fun c_4 => ?_)
      ·
        have kc_4 : (4 : Int) < p2.toInt := i_lt c_4
        refine lv_iconst (v := (-1)) hx hb dX11_row_22 (by decide) ?_
        have q0_m1 : ((-1) : Int32).toInt = (-1) := rfl
        have hP : va_P D vwCl (CW cs ad fa fq rv v (va_up (va_up a 28 (a 28)) 29 (a 29)) (va_up w p1.toNatClampNeg (w p1.toNatClampNeg)) fv fp) _ := (by rw [va_up_id w p1.toNatClampNeg]; exact hP)
        have hD : va_D A (CW cs ad fa fq rv v (va_up (va_up a 28 (a 28)) 29 (a 29)) (va_up w p1.toNatClampNeg (w p1.toNatClampNeg)) fv fp) := (by rw [va_up_id w p1.toNatClampNeg]; exact hD)
        exact W.iret (v := (-1)) hx hb hr (fun tt ht hW => ⟨⟨(-1), ⟨(a 28), (a 29), (w p1.toNatClampNeg)⟩, rfl, (by first | rfl | omega | trivial | assumption), by rw [ht]; exact hP, hD⟩, hS.F ht⟩) hS.2.2 dX11_row_23
      ·
        have kc_4 : p2.toInt ≤ (4 : Int) := i_nlt c_4
        refine lv_iload_n hx hb dX11_row_16 rfl (lv_at hl 3 rfl) ?_
        refine lv_bipush (v := 60) hx hb dX11_row_17 (by decide) ?_
        refine lv_icmp_le (tgt := 24) hx hb dX11_row_19 (by decide) (fun c_5 => ?_) (fun c_5 => ?_)
        ·
          have kc_5 : p3.toInt ≤ (60 : Int) := i_le c_5
          refine lv_iload_n hx hb dX11_row_24 rfl (lv_at hl 3 rfl) ?_
          refine lv_if_ge (tgt := 31) hx hb dX11_row_25 (by decide) (fun c_6 => ?_) (fun c_6 => ?_)
          ·
            have kc_6 : (0 : Int) ≤ p3.toInt := i_le c_6
            refine lv_aload_n hx hb dX11_row_31 rfl (lv_at hl 0 rfl) ?_
            refine gf_main_shelves hx hb hg hown hK hP rfl (hg _ q2_133) dX11_row_32 ?_
            refine lv_iload_n hx hb dX11_row_35 rfl (lv_at hl 1 rfl) ?_
            refine lv_iload_n hx hb dX11_row_36 rfl (lv_at hl 2 rfl) ?_
            refine lv_iload_n hx hb dX11_row_37 rfl (lv_at hl 3 rfl) ?_
            refine cV_v (As := [.int p1, .int p2, .int p3]) (rest := []) ⟨hx, hb, hml, hown, hg⟩ (k_X10_lay l D cs A ad fa fq rv v a w fv fp  p1 p2 p3 (show 0 ≤ p1.toInt by first | omega | decide) (show p1.toInt < 6 by first | omega | decide)) ca_X10_lay q4_167 ⟨rfl, rfl⟩ ⟨Nat.le_of_ble_eq_true rfl, Nat.le_of_ble_eq_true rfl⟩ (rc_shelves hK hP) hK hP hD hS hZ rfl hl.1 rfl (Nat.le_of_ble_eq_true rfl) ⟨Nat.zero_le _, Nat.zero_le _⟩ dX11_row_38 (fun z_11 H locs wr_7 hP hD hS => ?_)
            obtain ⟨gsort_8, gsize_9, grow_10⟩ := z_11
            have hP : va_P D vwCl (CW cs ad fa fq rv v (va_up (va_up a 28 gsort_8) 29 gsize_9) (va_up w p1.toNatClampNeg grow_10) fv fp) H := hP
            have hD : va_D A (CW cs ad fa fq rv v (va_up (va_up a 28 gsort_8) 29 gsize_9) (va_up w p1.toNatClampNeg grow_10) fv fp) := hD
            obtain ⟨wr_7_0, wr_7_1, wr_7_2⟩ : (gsort_8 = upd (a 28) p1.toNatClampNeg p2) ∧ (gsize_9 = upd (a 29) p1.toNatClampNeg p3) ∧ (∀ j, j < 60 → grow_10 j = 0) := wr_7
            refine lv_iconst (v := 1) hx hb dX11_row_41 (by decide) ?_
            have q0_1 : (1 : Int32).toInt = 1 := rfl
            exact W.iret (v := 1) hx hb hr (fun tt ht hW => ⟨⟨1, ⟨gsort_8, gsize_9, grow_10⟩, rfl, (by first | rfl | omega | trivial | assumption), by rw [ht]; exact hP, hD⟩, hS.F ht⟩) hS.2.2 dX11_row_42
          ·
            have kc_6 : p3.toInt < (0 : Int) := i_nle c_6
            refine lv_bipush (v := (-14)) hx hb dX11_row_28 (by decide) ?_
            have q0_m14 : ((-14) : Int32).toInt = (-14) := rfl
            have hP : va_P D vwCl (CW cs ad fa fq rv v (va_up (va_up a 28 (a 28)) 29 (a 29)) (va_up w p1.toNatClampNeg (w p1.toNatClampNeg)) fv fp) _ := (by rw [va_up_id w p1.toNatClampNeg]; exact hP)
            have hD : va_D A (CW cs ad fa fq rv v (va_up (va_up a 28 (a 28)) 29 (a 29)) (va_up w p1.toNatClampNeg (w p1.toNatClampNeg)) fv fp) := (by rw [va_up_id w p1.toNatClampNeg]; exact hD)
            exact W.iret (v := (-14)) hx hb hr (fun tt ht hW => ⟨⟨(-14), ⟨(a 28), (a 29), (w p1.toNatClampNeg)⟩, rfl, (by first | rfl | omega | trivial | assumption), by rw [ht]; exact hP, hD⟩, hS.F ht⟩) hS.2.2 dX11_row_30
        ·
          have kc_5 : (60 : Int) < p3.toInt := i_nle c_5
          refine lv_iconst (v := (-1)) hx hb dX11_row_22 (by decide) ?_
          have q0_m1 : ((-1) : Int32).toInt = (-1) := rfl
          have hP : va_P D vwCl (CW cs ad fa fq rv v (va_up (va_up a 28 (a 28)) 29 (a 29)) (va_up w p1.toNatClampNeg (w p1.toNatClampNeg)) fv fp) _ := (by rw [va_up_id w p1.toNatClampNeg]; exact hP)
          have hD : va_D A (CW cs ad fa fq rv v (va_up (va_up a 28 (a 28)) 29 (a 29)) (va_up w p1.toNatClampNeg (w p1.toNatClampNeg)) fv fp) := (by rw [va_up_id w p1.toNatClampNeg]; exact hD)
          exact W.iret (v := (-1)) hx hb hr (fun tt ht hW => ⟨⟨(-1), ⟨(a 28), (a 29), (w p1.toNatClampNeg)⟩, rfl, (by first | rfl | omega | trivial | assumption), by rw [ht]; exact hP, hD⟩, hS.F ht⟩) hS.2.2 dX11_row_23
set_option maxHeartbeats 4000000 in
set_option maxRecDepth 100000 in
theorem k_F_X11_put (l : Launch) (D : va_G) (cs : Nat → ClassId) (A : Nat → Prop) (ad fa fq rv : Nat → Nat) (v : Nat → Int32) (a : Nat → Nat → Int32) (w : Nat → Nat → Int64) (fv fp : Nat → Nat → Int32)  (p1 : Int32) (p2 : Int32) (p3 : Int64) (hF : FrC v a fv) : Met l yX11_put (Cond.code yX11_put cX11_put 6 (some .int) :: gw) ({ frames := 2, cells := 0, slots := 0, locals := 43 }) (va_Pc [.ref (ad 0), .int p1, .int p2, .long p3] (XPre D (TY cs) (CW cs ad fa fq rv v a w fv fp) A)) (vp_Si (fun (r : Int32) => ((0 ≤ p1.toInt ∧ p1.toInt < 6) ∧ r.toInt = -11) ∨ (¬ (0 ≤ p1.toInt ∧ p1.toInt < 6) ∧ r.toInt = -1))) 0 0 (fun _ => False) := by
  refine Met.ofW (cc := cX11_put) (maxL := 6) (ret := (some .int)) (by decide) rfl ?_
  intro p e s m args below meth c s₁ B hml hv
  obtain ⟨rfl, hP, hK, hD, hZ⟩ := hv
  have hx := B.exec
  have hb := B.bytes
  have hr := B.returns
  have hts := atoms_spec (ws := (Cond.code yX11_put cX11_put 6 (some .int) :: gw)) B.pre
  have hg : ∀ w ∈ gw, w.before ([.ref (ad 0), .int p1, .int p2, .long p3] : List Value).toArray s = true := fun w h => hts w (List.mem_cons_of_mem _ h)
  have hown : s.vm.findClass RX11 = some m.cls := findClass_of_methodNamed B.named
  have hlocks := B.notSynchronized
  have hS : va_S A s.heap s.heap [] := va_S.rf
  have hv1 : (v 1).toInt = 0 := by rw [hF.2.1]; rfl
  have hv21 : (v 21).toInt = 0 := by rw [hF.2.2.2.2.2.2.2.2.1]; rfl
  have hl := lv_entry ([.ref (ad 0), .int p1, .int p2, .long p3]) (n := 6) (Nat.le_of_ble_eq_true rfl)
  rw [lg_entry_eq]
  generalize (lg_sl ([.ref (ad 0), .int p1, .int p2, .long p3]) ++ List.replicate (6 - (lg_sl ([.ref (ad 0), .int p1, .int p2, .long p3])).length) Slot.unset).toArray = ls at hl ⊢
  have hl : lv_has ls 6 [(0, .ref (ad 0)), (1, .int p1), (2, .int p2), (3, .long p3)] := hl
  refine lv_aload_n hx hb dX11_put_0 rfl (lv_at hl 0 rfl) ?_
  refine gf_main_shelves hx hb hg hown hK hP rfl (hg _ q2_133) dX11_put_1 ?_
  refine lv_iload_n hx hb dX11_put_4 rfl (lv_at hl 1 rfl) ?_
  refine lv_iload_n hx hb dX11_put_5 rfl (lv_at hl 2 rfl) ?_
  refine cV_ro (As := [.int p1, .int p2]) (rest := []) ⟨hx, hb, hml, hown, hg⟩ (k_F_X10_faultOfPlace l D cs A ad fa fq rv v a w fv fp  p1 p2 hF) ca_X10_faultOfPlace q4_182 ⟨rfl, rfl⟩ ⟨Nat.le_of_ble_eq_true rfl, Nat.le_of_ble_eq_true rfl⟩ (rc_shelves hK hP) hK hP hD hS hZ rfl hl.1 rfl (Nat.le_of_ble_eq_true rfl) ⟨Nat.zero_le _, Nat.zero_le _⟩ dX11_put_6 (fun r_1 wr_1 => ?_)
  have wr_1 : ((0 ≤ p1.toInt ∧ p1.toInt < 6) ∧ r_1.toInt = -11) ∨ (¬ (0 ≤ p1.toInt ∧ p1.toInt < 6) ∧ r_1.toInt = -1) := wr_1
  refine lv_istore (lv' := [(5, .int r_1), (0, .ref (ad 0)), (1, .int p1), (2, .int p2), (3, .long p3)]) hx hb dX11_put_9 hl (by decide) rfl (fun ls hl => ?_)
  refine lv_iload hx hb dX11_put_11 (lv_at hl 0 rfl) ?_
  refine lv_if_ge (tgt := 19) hx hb dX11_put_13 (by decide) (fun c_2 => ?_) (fun c_2 => ?_)
  ·
    have kc_2 : (0 : Int) ≤ r_1.toInt := i_le c_2
    exfalso; omega
  ·
    have kc_2 : r_1.toInt < (0 : Int) := i_nle c_2
    refine lv_iload hx hb dX11_put_16 (lv_at hl 0 rfl) ?_
    exact W.iret (v := r_1) hx hb hr (fun tt ht hW => ⟨r_1, rfl, (by first | rfl | omega | trivial | assumption), ht⟩) (fun _ h => by cases h) dX11_put_18
set_option maxHeartbeats 4000000 in
set_option maxRecDepth 100000 in
theorem k_F_X11_element (l : Launch) (D : va_G) (cs : Nat → ClassId) (A : Nat → Prop) (ad fa fq rv : Nat → Nat) (v : Nat → Int32) (a : Nat → Nat → Int32) (w : Nat → Nat → Int64) (fv fp : Nat → Nat → Int32)  (p1 : Int32) (p2 : Int32) (hF : FrC v a fv) : Met l yX11_element (Cond.code yX11_element cX11_element 3 (some .long) :: gw) ({ frames := 2, cells := 0, slots := 0, locals := 43 }) (va_Pc [.ref (ad 0), .int p1, .int p2] (XPre D (TY cs) (CW cs ad fa fq rv v a w fv fp) A)) (vp_Sl (fun (r : Int64) => r = -9223372036854775808)) 0 0 (fun _ => False) := by
  refine Met.ofW (cc := cX11_element) (maxL := 3) (ret := (some .long)) (by decide) rfl ?_
  intro p e s m args below meth c s₁ B hml hv
  obtain ⟨rfl, hP, hK, hD, hZ⟩ := hv
  have hx := B.exec
  have hb := B.bytes
  have hr := B.returns
  have hts := atoms_spec (ws := (Cond.code yX11_element cX11_element 3 (some .long) :: gw)) B.pre
  have hg : ∀ w ∈ gw, w.before ([.ref (ad 0), .int p1, .int p2] : List Value).toArray s = true := fun w h => hts w (List.mem_cons_of_mem _ h)
  have hown : s.vm.findClass RX11 = some m.cls := findClass_of_methodNamed B.named
  have hlocks := B.notSynchronized
  have hS : va_S A s.heap s.heap [] := va_S.rf
  have hv1 : (v 1).toInt = 0 := by rw [hF.2.1]; rfl
  have hv21 : (v 21).toInt = 0 := by rw [hF.2.2.2.2.2.2.2.2.1]; rfl
  have hl := lv_entry ([.ref (ad 0), .int p1, .int p2]) (n := 3) (Nat.le_of_ble_eq_true rfl)
  rw [lg_entry_eq]
  generalize (lg_sl ([.ref (ad 0), .int p1, .int p2]) ++ List.replicate (3 - (lg_sl ([.ref (ad 0), .int p1, .int p2])).length) Slot.unset).toArray = ls at hl ⊢
  have hl : lv_has ls 3 [(0, .ref (ad 0)), (1, .int p1), (2, .int p2)] := hl
  refine lv_aload_n hx hb dX11_element_0 rfl (lv_at hl 0 rfl) ?_
  refine gf_main_shelves hx hb hg hown hK hP rfl (hg _ q2_133) dX11_element_1 ?_
  refine lv_iload_n hx hb dX11_element_4 rfl (lv_at hl 1 rfl) ?_
  refine lv_iload_n hx hb dX11_element_5 rfl (lv_at hl 2 rfl) ?_
  refine cV_ro (As := [.int p1, .int p2]) (rest := []) ⟨hx, hb, hml, hown, hg⟩ (k_F_X10_faultOfPlace l D cs A ad fa fq rv v a w fv fp  p1 p2 hF) ca_X10_faultOfPlace q4_182 ⟨rfl, rfl⟩ ⟨Nat.le_of_ble_eq_true rfl, Nat.le_of_ble_eq_true rfl⟩ (rc_shelves hK hP) hK hP hD hS hZ rfl hl.1 rfl (Nat.le_of_ble_eq_true rfl) ⟨Nat.zero_le _, Nat.zero_le _⟩ dX11_element_6 (fun r_1 wr_1 => ?_)
  have wr_1 : ((0 ≤ p1.toInt ∧ p1.toInt < 6) ∧ r_1.toInt = -11) ∨ (¬ (0 ≤ p1.toInt ∧ p1.toInt < 6) ∧ r_1.toInt = -1) := wr_1
  refine lv_if_ge (tgt := 18) hx hb dX11_element_9 (by decide) (fun c_2 => ?_) (fun c_2 => ?_)
  ·
    have kc_2 : (0 : Int) ≤ r_1.toInt := i_le c_2
    exfalso; omega
  ·
    have kc_2 : r_1.toInt < (0 : Int) := i_nle c_2
    refine lv_ldc2 hx hb hown (v := (-9223372036854775808)) (hg _ q4_198) dX11_element_12 ?_
    refine lv_goto (tgt := 27) hx hb dX11_element_15 (by decide) ?_
    exact W.lret (v := (-9223372036854775808)) hx hb hr (fun tt ht hW => ⟨(-9223372036854775808), rfl, (by first | rfl | omega | trivial | assumption), ht⟩) (fun _ h => by cases h) dX11_element_27
set_option maxHeartbeats 4000000 in
set_option maxRecDepth 100000 in
theorem k_F_X11_shift (l : Launch) (D : va_G) (cs : Nat → ClassId) (A : Nat → Prop) (ad fa fq rv : Nat → Nat) (v : Nat → Int32) (a : Nat → Nat → Int32) (w : Nat → Nat → Int64) (fv fp : Nat → Nat → Int32)  (p1 : Int32) (p2 : Int32) (p3 : Int32) (p4 : Int32) (p5 : Int32) (hF : FrC v a fv) : Met l yX11_shift (Cond.code yX11_shift cX11_shift 6 (some .int) :: gw) ({ frames := 2, cells := 0, slots := 0, locals := 46 }) (va_Pc [.ref (ad 0), .int p1, .int p2, .int p3, .int p4, .int p5] (XPre D (TY cs) (CW cs ad fa fq rv v a w fv fp) A)) (vp_Si (fun (r : Int32) => ((0 ≤ p1.toInt ∧ p1.toInt < 6 ∧ 0 ≤ p3.toInt ∧ p3.toInt < 6) ∧ r.toInt = -11) ∨ (¬ (0 ≤ p1.toInt ∧ p1.toInt < 6 ∧ 0 ≤ p3.toInt ∧ p3.toInt < 6) ∧ r.toInt = -1))) 0 0 (fun _ => False) := by
  refine Met.ofW (cc := cX11_shift) (maxL := 6) (ret := (some .int)) (by decide) rfl ?_
  intro p e s m args below meth c s₁ B hml hv
  obtain ⟨rfl, hP, hK, hD, hZ⟩ := hv
  have hx := B.exec
  have hb := B.bytes
  have hr := B.returns
  have hts := atoms_spec (ws := (Cond.code yX11_shift cX11_shift 6 (some .int) :: gw)) B.pre
  have hg : ∀ w ∈ gw, w.before ([.ref (ad 0), .int p1, .int p2, .int p3, .int p4, .int p5] : List Value).toArray s = true := fun w h => hts w (List.mem_cons_of_mem _ h)
  have hown : s.vm.findClass RX11 = some m.cls := findClass_of_methodNamed B.named
  have hlocks := B.notSynchronized
  have hS : va_S A s.heap s.heap [] := va_S.rf
  have hv1 : (v 1).toInt = 0 := by rw [hF.2.1]; rfl
  have hv21 : (v 21).toInt = 0 := by rw [hF.2.2.2.2.2.2.2.2.1]; rfl
  have hl := lv_entry ([.ref (ad 0), .int p1, .int p2, .int p3, .int p4, .int p5]) (n := 6) (Nat.le_of_ble_eq_true rfl)
  rw [lg_entry_eq]
  generalize (lg_sl ([.ref (ad 0), .int p1, .int p2, .int p3, .int p4, .int p5]) ++ List.replicate (6 - (lg_sl ([.ref (ad 0), .int p1, .int p2, .int p3, .int p4, .int p5])).length) Slot.unset).toArray = ls at hl ⊢
  have hl : lv_has ls 6 [(0, .ref (ad 0)), (1, .int p1), (2, .int p2), (3, .int p3), (4, .int p4), (5, .int p5)] := hl
  refine lv_iload_n hx hb dX11_shift_0 rfl (lv_at hl 1 rfl) ?_
  refine cS_p (As := [.int p1]) (rest := []) ⟨hx, hb, hml, hown, hg⟩ (k_X10_isShelf l   p1 ) ca_X10_isShelf q2_205 ⟨rfl, rfl⟩ ⟨Nat.le_of_ble_eq_true rfl, Nat.le_of_ble_eq_true rfl⟩ rfl hl.1 rfl (Nat.le_of_ble_eq_true rfl) ⟨Nat.zero_le _, Nat.zero_le _⟩ dX11_shift_1 (fun r_1 wr_1 => ?_)
  have wr_1 : (r_1.toInt = 1 ∧ 0 ≤ p1.toInt ∧ p1.toInt < 6) ∨ (r_1.toInt = 0 ∧ ¬ (0 ≤ p1.toInt ∧ p1.toInt < 6)) := wr_1
  refine lv_if_eq (tgt := 14) hx hb dX11_shift_4 (by decide) (fun c_2 => ?_) (fun c_2 => ?_)
  ·
    have kc_2 : r_1.toInt = (0 : Int) := i_eq c_2
    refine lv_iconst (v := (-1)) hx hb dX11_shift_14 (by decide) ?_
    have q0_m1 : ((-1) : Int32).toInt = (-1) := rfl
    exact W.iret (v := (-1)) hx hb hr (fun tt ht hW => ⟨(-1), rfl, (by first | rfl | omega | trivial | assumption), ht⟩) (fun _ h => by cases h) dX11_shift_15
  ·
    have kc_2 : r_1.toInt ≠ (0 : Int) := i_ne c_2
    refine lv_iload_n hx hb dX11_shift_7 rfl (lv_at hl 3 rfl) ?_
    refine cS_p (As := [.int p3]) (rest := []) ⟨hx, hb, hml, hown, hg⟩ (k_X10_isShelf l   p3 ) ca_X10_isShelf q2_205 ⟨rfl, rfl⟩ ⟨Nat.le_of_ble_eq_true rfl, Nat.le_of_ble_eq_true rfl⟩ rfl hl.1 rfl (Nat.le_of_ble_eq_true rfl) ⟨Nat.zero_le _, Nat.zero_le _⟩ dX11_shift_8 (fun r_3 wr_3 => ?_)
    have wr_3 : (r_3.toInt = 1 ∧ 0 ≤ p3.toInt ∧ p3.toInt < 6) ∨ (r_3.toInt = 0 ∧ ¬ (0 ≤ p3.toInt ∧ p3.toInt < 6)) := wr_3
    refine lv_if_ne (tgt := 16) hx hb dX11_shift_11 (by decide) (fun c_4 => ?_) (fun c_4 => ?_)
    ·
      have kc_4 : r_3.toInt ≠ (0 : Int) := i_ne c_4
      refine lv_aload_n hx hb dX11_shift_16 rfl (lv_at hl 0 rfl) ?_
      refine gf_main_shelves hx hb hg hown hK hP rfl (hg _ q2_133) dX11_shift_17 ?_
      refine lv_iload_n hx hb dX11_shift_20 rfl (lv_at hl 1 rfl) ?_
      refine lv_iload_n hx hb dX11_shift_21 rfl (lv_at hl 2 rfl) ?_
      refine lv_iload_n hx hb dX11_shift_22 rfl (lv_at hl 3 rfl) ?_
      refine lv_iload hx hb dX11_shift_23 (lv_at hl 4 rfl) ?_
      refine lv_iload hx hb dX11_shift_25 (lv_at hl 5 rfl) ?_
      refine cV_ro (As := [.int p1, .int p2, .int p3, .int p4, .int p5]) (rest := []) ⟨hx, hb, hml, hown, hg⟩ (k_F_X10_copy l D cs A ad fa fq rv v a w fv fp  p1 p2 p3 p4 p5 hF (show 0 ≤ p1.toInt by first | omega | decide) (show p1.toInt < 6 by first | omega | decide)) ca_X10_copy q4_203 ⟨rfl, rfl⟩ ⟨Nat.le_of_ble_eq_true rfl, Nat.le_of_ble_eq_true rfl⟩ (rc_shelves hK hP) hK hP hD hS hZ rfl hl.1 rfl (Nat.le_of_ble_eq_true rfl) ⟨Nat.zero_le _, Nat.zero_le _⟩ dX11_shift_27 (fun r_5 wr_5 => ?_)
      have wr_5 : r_5.toInt = -11 := wr_5
      exact W.iret (v := r_5) hx hb hr (fun tt ht hW => ⟨r_5, rfl, (by first | rfl | omega | trivial | assumption), ht⟩) (fun _ h => by cases h) dX11_shift_30
    ·
      have kc_4 : r_3.toInt = (0 : Int) := i_eq c_4
      refine lv_iconst (v := (-1)) hx hb dX11_shift_14 (by decide) ?_
      have q0_m1 : ((-1) : Int32).toInt = (-1) := rfl
      exact W.iret (v := (-1)) hx hb hr (fun tt ht hW => ⟨(-1), rfl, (by first | rfl | omega | trivial | assumption), ht⟩) (fun _ h => by cases h) dX11_shift_15
set_option maxHeartbeats 4000000 in
set_option maxRecDepth 100000 in
theorem k_F_X11_taken (l : Launch) (D : va_G) (cs : Nat → ClassId) (A : Nat → Prop) (ad fa fq rv : Nat → Nat) (v : Nat → Int32) (a : Nat → Nat → Int32) (w : Nat → Nat → Int64) (fv fp : Nat → Nat → Int32)  (p1 : Int32) (p2 : Int32) (hF : FrC v a fv) : Met l yX11_taken (Cond.code yX11_taken cX11_taken 4 (some .int) :: gw) ({ frames := 1, cells := 0, slots := 0, locals := 21 }) (va_Pc [.ref (ad 0), .int p1, .int p2] (XPre D (TY cs) (CW cs ad fa fq rv v a w fv fp) A)) (vp_Si (fun (r : Int32) => ((0 ≤ p1.toInt ∧ p1.toInt < 6 ∧ 0 ≤ p2.toInt ∧ p2.toInt ≤ 7) ∧ r.toInt = -11) ∨ (¬ (0 ≤ p1.toInt ∧ p1.toInt < 6 ∧ 0 ≤ p2.toInt ∧ p2.toInt ≤ 7) ∧ r.toInt = -1))) 0 0 (fun _ => False) := by
  refine Met.ofW (cc := cX11_taken) (maxL := 4) (ret := (some .int)) (by decide) rfl ?_
  intro p e s m args below meth c s₁ B hml hv
  obtain ⟨rfl, hP, hK, hD, hZ⟩ := hv
  have hx := B.exec
  have hb := B.bytes
  have hr := B.returns
  have hts := atoms_spec (ws := (Cond.code yX11_taken cX11_taken 4 (some .int) :: gw)) B.pre
  have hg : ∀ w ∈ gw, w.before ([.ref (ad 0), .int p1, .int p2] : List Value).toArray s = true := fun w h => hts w (List.mem_cons_of_mem _ h)
  have hown : s.vm.findClass RX11 = some m.cls := findClass_of_methodNamed B.named
  have hlocks := B.notSynchronized
  have hS : va_S A s.heap s.heap [] := va_S.rf
  have hv1 : (v 1).toInt = 0 := by rw [hF.2.1]; rfl
  have hv21 : (v 21).toInt = 0 := by rw [hF.2.2.2.2.2.2.2.2.1]; rfl
  have hl := lv_entry ([.ref (ad 0), .int p1, .int p2]) (n := 4) (Nat.le_of_ble_eq_true rfl)
  rw [lg_entry_eq]
  generalize (lg_sl ([.ref (ad 0), .int p1, .int p2]) ++ List.replicate (4 - (lg_sl ([.ref (ad 0), .int p1, .int p2])).length) Slot.unset).toArray = ls at hl ⊢
  have hl : lv_has ls 4 [(0, .ref (ad 0)), (1, .int p1), (2, .int p2)] := hl
  refine lv_iload_n hx hb dX11_taken_0 rfl (lv_at hl 1 rfl) ?_
  refine cS_p (As := [.int p1]) (rest := []) ⟨hx, hb, hml, hown, hg⟩ (k_X10_isShelf l   p1 ) ca_X10_isShelf q2_205 ⟨rfl, rfl⟩ ⟨Nat.le_of_ble_eq_true rfl, Nat.le_of_ble_eq_true rfl⟩ rfl hl.1 rfl (Nat.le_of_ble_eq_true rfl) ⟨Nat.zero_le _, Nat.zero_le _⟩ dX11_taken_1 (fun r_1 wr_1 => ?_)
  have wr_1 : (r_1.toInt = 1 ∧ 0 ≤ p1.toInt ∧ p1.toInt < 6) ∨ (r_1.toInt = 0 ∧ ¬ (0 ≤ p1.toInt ∧ p1.toInt < 6)) := wr_1
  refine lv_if_eq (tgt := 14) hx hb dX11_taken_4 (by decide) (fun c_2 => ?_) (fun c_2 => ?_)
  ·
    have kc_2 : r_1.toInt = (0 : Int) := i_eq c_2
    refine lv_iconst (v := (-1)) hx hb dX11_taken_14 (by decide) ?_
    have q0_m1 : ((-1) : Int32).toInt = (-1) := rfl
    exact W.iret (v := (-1)) hx hb hr (fun tt ht hW => ⟨(-1), rfl, (by first | rfl | omega | trivial | assumption), ht⟩) (fun _ h => by cases h) dX11_taken_15
  ·
    have kc_2 : r_1.toInt ≠ (0 : Int) := i_ne c_2
    refine lv_iload_n hx hb dX11_taken_7 rfl (lv_at hl 2 rfl) ?_
    refine cS_p (As := [.int p2]) (rest := []) ⟨hx, hb, hml, hown, hg⟩ (k_X0_isKind l   p2 ) ca_X0_isKind q4_116 ⟨rfl, rfl⟩ ⟨Nat.le_of_ble_eq_true rfl, Nat.le_of_ble_eq_true rfl⟩ rfl hl.1 rfl (Nat.le_of_ble_eq_true rfl) ⟨Nat.zero_le _, Nat.zero_le _⟩ dX11_taken_8 (fun r_3 wr_3 => ?_)
    have wr_3 : (r_3.toInt = 1 ∧ 0 ≤ p2.toInt ∧ p2.toInt ≤ 7) ∨ (r_3.toInt = 0 ∧ ¬ (0 ≤ p2.toInt ∧ p2.toInt ≤ 7)) := wr_3
    refine lv_if_ne (tgt := 16) hx hb dX11_taken_11 (by decide) (fun c_4 => ?_) (fun c_4 => ?_)
    ·
      have kc_4 : r_3.toInt ≠ (0 : Int) := i_ne c_4
      refine lv_aload_n hx hb dX11_taken_16 rfl (lv_at hl 0 rfl) ?_
      refine gf_main_shelves hx hb hg hown hK hP rfl (hg _ q2_133) dX11_taken_17 ?_
      refine lv_iload_n hx hb dX11_taken_20 rfl (lv_at hl 1 rfl) ?_
      refine cV_ro (As := [.int p1]) (rest := []) ⟨hx, hb, hml, hown, hg⟩ (k_F_X10_isEmpty l D cs A ad fa fq rv v a w fv fp  p1 hF (show 0 ≤ p1.toInt by first | omega | decide) (show p1.toInt < 6 by first | omega | decide)) ca_X10_isEmpty q2_208 ⟨rfl, rfl⟩ ⟨Nat.le_of_ble_eq_true rfl, Nat.le_of_ble_eq_true rfl⟩ (rc_shelves hK hP) hK hP hD hS hZ rfl hl.1 rfl (Nat.le_of_ble_eq_true rfl) ⟨Nat.zero_le _, Nat.zero_le _⟩ dX11_taken_21 (fun r_5 wr_5 => ?_)
      have wr_5 : r_5.toInt = 1 := wr_5
      refine lv_if_eq (tgt := 30) hx hb dX11_taken_24 (by decide) (fun c_6 => ?_) (fun c_6 => ?_)
      ·
        have kc_6 : r_5.toInt = (0 : Int) := i_eq c_6
        exfalso; omega
      ·
        have kc_6 : r_5.toInt ≠ (0 : Int) := i_ne c_6
        refine lv_bipush (v := (-11)) hx hb dX11_taken_27 (by decide) ?_
        have q0_m11 : ((-11) : Int32).toInt = (-11) := rfl
        exact W.iret (v := (-11)) hx hb hr (fun tt ht hW => ⟨(-11), rfl, (by first | rfl | omega | trivial | assumption), ht⟩) (fun _ h => by cases h) dX11_taken_29
    ·
      have kc_4 : r_3.toInt = (0 : Int) := i_eq c_4
      refine lv_iconst (v := (-1)) hx hb dX11_taken_14 (by decide) ?_
      have q0_m1 : ((-1) : Int32).toInt = (-1) := rfl
      exact W.iret (v := (-1)) hx hb hr (fun tt ht hW => ⟨(-1), rfl, (by first | rfl | omega | trivial | assumption), ht⟩) (fun _ h => by cases h) dX11_taken_15
set_option maxHeartbeats 4000000 in
set_option maxRecDepth 100000 in
theorem k_F_X11_count (l : Launch) (D : va_G) (cs : Nat → ClassId) (A : Nat → Prop) (ad fa fq rv : Nat → Nat) (v : Nat → Int32) (a : Nat → Nat → Int32) (w : Nat → Nat → Int64) (fv fp : Nat → Nat → Int32)  (p1 : Int32) (hF : FrC v a fv) : Met l yX11_count (Cond.code yX11_count cX11_count 2 (some .int) :: gw) ({ frames := 0, cells := 0, slots := 0, locals := 0 }) (va_Pc [.ref (ad 0), .int p1] (XPre D (TY cs) (CW cs ad fa fq rv v a w fv fp) A)) (vp_Si (fun (r : Int32) => (0 ≤ p1.toInt ∧ p1.toInt ≤ 4 ∧ r.toInt = 0) ∨ (¬ (0 ≤ p1.toInt ∧ p1.toInt ≤ 4) ∧ r.toInt = -1))) 0 0 (fun _ => False) := by
  refine Met.ofW (cc := cX11_count) (maxL := 2) (ret := (some .int)) (by decide) rfl ?_
  intro p e s m args below meth c s₁ B hml hv
  obtain ⟨rfl, hP, hK, hD, hZ⟩ := hv
  have hx := B.exec
  have hb := B.bytes
  have hr := B.returns
  have hts := atoms_spec (ws := (Cond.code yX11_count cX11_count 2 (some .int) :: gw)) B.pre
  have hg : ∀ w ∈ gw, w.before ([.ref (ad 0), .int p1] : List Value).toArray s = true := fun w h => hts w (List.mem_cons_of_mem _ h)
  have hown : s.vm.findClass RX11 = some m.cls := findClass_of_methodNamed B.named
  have hlocks := B.notSynchronized
  have hS : va_S A s.heap s.heap [] := va_S.rf
  have hv1 : (v 1).toInt = 0 := by rw [hF.2.1]; rfl
  have hv21 : (v 21).toInt = 0 := by rw [hF.2.2.2.2.2.2.2.2.1]; rfl
  have hl := lv_entry ([.ref (ad 0), .int p1]) (n := 2) (Nat.le_of_ble_eq_true rfl)
  rw [lg_entry_eq]
  generalize (lg_sl ([.ref (ad 0), .int p1]) ++ List.replicate (2 - (lg_sl ([.ref (ad 0), .int p1])).length) Slot.unset).toArray = ls at hl ⊢
  have hl : lv_has ls 2 [(0, .ref (ad 0)), (1, .int p1)] := hl
  refine lv_iload_n hx hb dX11_count_0 rfl (lv_at hl 1 rfl) ?_
  rcases (show p1.toInt = 0 ∨ p1.toInt = 1 ∨ p1.toInt = 2 ∨ p1.toInt = 3 ∨ p1.toInt = 4 ∨ (p1.toInt < 0 ∨ 4 < p1.toInt) by omega) with kc_1 | kc_1 | kc_1 | kc_1 | kc_1 | kc_1
  ·
    refine lv_tableIn (tgt := 36) hx hb dX11_count_1 (by omega) (by omega) (off := 35) (by rw [kc_1]; rfl) (by decide) ?_
    refine lv_aload_n hx hb dX11_count_36 rfl (lv_at hl 0 rfl) ?_
    refine gf_main_parish hx hb hg hown hK hP rfl (hg _ q2_123) dX11_count_37 ?_
    refine gf_parish_people hx hb hg hown hK hP (x := 0) hF.2.1 (hg _ q1_109) dX11_count_40 ?_
    have q0_0 : (0 : Int32).toInt = 0 := rfl
    exact W.iret (v := 0) hx hb hr (fun tt ht hW => ⟨0, rfl, (by first | rfl | omega | trivial | assumption), ht⟩) (fun _ h => by cases h) dX11_count_43
  ·
    refine lv_tableIn (tgt := 44) hx hb dX11_count_1 (by omega) (by omega) (off := 43) (by rw [kc_1]; rfl) (by decide) ?_
    refine lv_aload_n hx hb dX11_count_44 rfl (lv_at hl 0 rfl) ?_
    refine gf_main_rules hx hb hg hown hK hP rfl (hg _ q2_124) dX11_count_45 ?_
    refine gf_rules_fed hx hb hg hown hK hP (x := 0) hF.2.2.2.2.1 (hg _ q1_174) dX11_count_48 ?_
    have q0_0 : (0 : Int32).toInt = 0 := rfl
    exact W.iret (v := 0) hx hb hr (fun tt ht hW => ⟨0, rfl, (by first | rfl | omega | trivial | assumption), ht⟩) (fun _ h => by cases h) dX11_count_51
  ·
    refine lv_tableIn (tgt := 52) hx hb dX11_count_1 (by omega) (by omega) (off := 51) (by rw [kc_1]; rfl) (by decide) ?_
    refine lv_aload_n hx hb dX11_count_52 rfl (lv_at hl 0 rfl) ?_
    refine gf_main_changes hx hb hg hown hK hP rfl (hg _ q2_132) dX11_count_53 ?_
    refine gf_changes_done hx hb hg hown hK hP (x := 0) hF.2.2.2.2.2.2.1 (hg _ q1_41) dX11_count_56 ?_
    have q0_0 : (0 : Int32).toInt = 0 := rfl
    exact W.iret (v := 0) hx hb hr (fun tt ht hW => ⟨0, rfl, (by first | rfl | omega | trivial | assumption), ht⟩) (fun _ h => by cases h) dX11_count_59
  ·
    refine lv_tableIn (tgt := 60) hx hb dX11_count_1 (by omega) (by omega) (off := 59) (by rw [kc_1]; rfl) (by decide) ?_
    refine lv_aload_n hx hb dX11_count_60 rfl (lv_at hl 0 rfl) ?_
    refine gf_main_acts hx hb hg hown hK hP rfl (hg _ q2_134) dX11_count_61 ?_
    refine gf_acts_made hx hb hg hown hK hP (x := 0) hF.2.2.2.2.2.2.2.2.1 (hg _ q1_85) dX11_count_64 ?_
    have q0_0 : (0 : Int32).toInt = 0 := rfl
    exact W.iret (v := 0) hx hb hr (fun tt ht hW => ⟨0, rfl, (by first | rfl | omega | trivial | assumption), ht⟩) (fun _ h => by cases h) dX11_count_67
  ·
    refine lv_tableIn (tgt := 68) hx hb dX11_count_1 (by omega) (by omega) (off := 67) (by rw [kc_1]; rfl) (by decide) ?_
    refine lv_aload_n hx hb dX11_count_68 rfl (lv_at hl 0 rfl) ?_
    refine gf_main_acts hx hb hg hown hK hP rfl (hg _ q2_134) dX11_count_69 ?_
    refine gf_acts_ran hx hb hg hown hK hP (x := 0) hF.2.2.2.2.2.2.2.2.2.1 (hg _ q1_89) dX11_count_72 ?_
    have q0_0 : (0 : Int32).toInt = 0 := rfl
    exact W.iret (v := 0) hx hb hr (fun tt ht hW => ⟨0, rfl, (by first | rfl | omega | trivial | assumption), ht⟩) (fun _ h => by cases h) dX11_count_75
  ·
    refine lv_tableOut (tgt := 76) hx hb dX11_count_1 kc_1 (by decide) ?_
    refine lv_iconst (v := (-1)) hx hb dX11_count_76 (by decide) ?_
    have q0_m1 : ((-1) : Int32).toInt = (-1) := rfl
    exact W.iret (v := (-1)) hx hb hr (fun tt ht hW => ⟨(-1), rfl, (by first | rfl | omega | trivial | assumption), ht⟩) (fun _ h => by cases h) dX11_count_77
