set_option maxHeartbeats 4000000 in
set_option maxRecDepth 100000 in
theorem k_J7_fill_d0a16 (l : Launch) (D : va_G) (cs : Nat → ClassId) (A : Nat → Prop) (ad fa fq rv : Nat → Nat) (v : Nat → Int32) (a : Nat → Nat → Int32) (w : Nat → Nat → Int64) (fv fp : Nat → Nat → Int32) (rr : Nat) (p2 : Int64) (hrr : rr < 6) : Met l yJ7_fill_d0a16 (Cond.code yJ7_fill_d0a16 cJ7_fill_d0a16 5 none :: gw) ({ frames := 0, cells := 0, slots := 0, locals := 0 }) (va_Pc [.ref (ad (31 + rr)), .long p2] (XPre D (TY cs) (CW cs ad fa fq rv v a w fv fp) A)) (va_Qv (fun (z : Nat → Int64) => (∀ j, j < 60 → z j = p2)) (XPo D (fun (z : Nat → Int64) => CW cs ad fa fq rv v a (va_up w rr z) fv fp) A) A) 0 0 A := by
  refine Met.ofW (cc := cJ7_fill_d0a16) (maxL := 5) (ret := none) (by decide) rfl ?_
  intro p e s m args below meth c s₁ B hml hv
  obtain ⟨rfl, hP, hK, hD, hZ⟩ := hv
  have hx := B.exec
  have hb := B.bytes
  have hr := B.returns
  have hts := atoms_spec (ws := (Cond.code yJ7_fill_d0a16 cJ7_fill_d0a16 5 none :: gw)) B.pre
  have hg : ∀ w ∈ gw, w.before ([.ref (ad (31 + rr)), .long p2] : List Value).toArray s = true := fun w h => hts w (List.mem_cons_of_mem _ h)
  have hown : s.vm.findClass RJ7 = some m.cls := findClass_of_methodNamed B.named
  have hlocks := B.notSynchronized
  have hS : va_S A s.heap s.heap [] := va_S.rf
  have hP : va_P D vwCl (CW cs ad fa fq rv v a w fv fp) s.heap := hP
  have hl := lv_entry ([.ref (ad (31 + rr)), .long p2]) (n := 5) (Nat.le_of_ble_eq_true rfl)
  rw [lg_entry_eq]
  generalize (lg_sl ([.ref (ad (31 + rr)), .long p2]) ++ List.replicate (5 - (lg_sl ([.ref (ad (31 + rr)), .long p2])).length) Slot.unset).toArray = ls at hl ⊢
  have hl : lv_has ls 5 [(0, .ref (ad (31 + rr))), (1, .long p2)] := hl
  have hcut : ∀ nk : Nat, (∀ (x3 : Int32) (g : Nat → Int64) (H : Heap) (locs : List Loc) (i3 : 0 ≤ x3.toInt) (i60 : x3.toInt ≤ 60) (hz : ∀ j, j < x3.toInt.toNat → g j = p2) (hmu : (60 - x3.toInt).toNat < nk) (hP : va_P D vwCl (CW cs ad fa fq rv v a (va_up w rr g) fv fp) H) (hD : va_D A (CW cs ad fa fq rv v a (va_up w rr g) fv fp)) (hS : va_S A s.heap H locs) (ls : Array Slot) (hl : lv_has ls 5 [(0, .ref (ad (31 + rr))), (1, .long p2), (3, .int x3), (4, .int 60)]), W p l e (headSpec (Cond.code yJ7_fill_d0a16 cJ7_fill_d0a16 5 none :: gw) ({ frames := 0, cells := 0, slots := 0, locals := 0 })).room s m ([.ref (ad (31 + rr)), .long p2] : List Value).toArray below meth c H locs 0 0 (MQ below (va_Qv (fun (z : Nat → Int64) => (∀ j, j < 60 → z j = p2)) (XPo D (fun (z : Nat → Int64) => CW cs ad fa fq rv v a (va_up w rr z) fv fp) A) A) ([.ref (ad (31 + rr)), .long p2] : List Value).toArray s 0 0 A) (F0 m 6 ls [])) := by
    intro nk
    induction nk with
    | zero => exact (fun x3 g H locs i3 i60 hz hmu hP hD hS ls hl => absurd hmu (Nat.not_lt_zero _))
    | succ nk ih =>
      intro x3 g H locs i3 i60 hz hmu hP hD hS ls hl
      refine lv_iload_n hx hb dJ7_fill_d0a16_6 rfl (lv_at hl 2 rfl) ?_
      refine lv_iload hx hb dJ7_fill_d0a16_7 (lv_at hl 3 rfl) ?_
      refine lv_icmp_ge (tgt := 22) hx hb dJ7_fill_d0a16_9 (by decide) (fun c_1 => ?_) (fun c_1 => ?_)
      ·
        have kc_1 : (60 : Int) ≤ x3.toInt := i_le c_1
        exact W.vret hx hb hr (fun tt ht hW => ⟨⟨g, rfl, (fun j hj => hz j (by omega)), by rw [ht]; exact hP, hD⟩, hS.F ht⟩) hS.2.2 dJ7_fill_d0a16_22
      ·
        have kc_1 : x3.toInt < (60 : Int) := i_nle c_1
        refine lv_aload_n hx hb dJ7_fill_d0a16_12 rfl (lv_at hl 0 rfl) ?_
        refine lv_iload_n hx hb dJ7_fill_d0a16_13 rfl (lv_at hl 2 rfl) ?_
        refine lv_lload_n hx hb dJ7_fill_d0a16_14 rfl (lv_at hl 1 rfl) ?_
        refine st2_row hrr hx hb hK hP hD hS (i_in (by omega) (by omega)) dJ7_fill_d0a16_15 (fun H locs hP hD hS => ?_)
        obtain ⟨x_2, ex_2⟩ : ∃ y : Int32, y = x3 + 1 := ⟨_, rfl⟩
        have fx_2 : x_2.toInt = x3.toInt + 1 := by rw [ex_2]; exact i_add (by first | omega | (show (_ : Int) ≤ x3.toInt + 1; omega)) (by first | omega | (show x3.toInt + 1 ≤ (_ : Int); omega))
        refine lv_iinc (v := x_2) (lv' := [(3, .int x_2), (0, .ref (ad (31 + rr))), (1, .long p2), (4, .int 60)]) hx hb dJ7_fill_d0a16_16 hl (k := 2) rfl (by rw [ex_2]; rfl) (by decide) rfl (fun ls hl => ?_)
        refine lv_goto (tgt := 6) hx hb dJ7_fill_d0a16_19 (by decide) ?_
        have q0_60 : (60 : Int32).toInt = 60 := rfl
        exact ih x_2 (vp_updL g x3.toNatClampNeg p2) _ _ (by omega) (by omega) (fun j hj => (Classical.em (j = x3.toNatClampNeg)).elim (fun q => by show (if _ then _ else _) = _; rw [if_pos q]) (fun q => by show (if _ then _ else _) = _; rw [if_neg q]; exact hz j (by have q2 : x3.toNatClampNeg = x3.toInt.toNat := rfl; omega))) (by omega) hP hD hS ls (lv_sub hl [1, 2, 0, 3] rfl)
  refine lv_iconst (v := 0) hx hb dJ7_fill_d0a16_0 (by decide) ?_
  refine lv_istore_n (lv' := [(3, .int 0), (0, .ref (ad (31 + rr))), (1, .long p2)]) hx hb dJ7_fill_d0a16_1 rfl hl (by decide) rfl (fun ls hl => ?_)
  refine lv_aload_n hx hb dJ7_fill_d0a16_2 rfl (lv_at hl 1 rfl) ?_
  refine al_row hrr hx hb hK hP dJ7_fill_d0a16_3 ?_
  refine lv_istore (lv' := [(4, .int 60), (3, .int 0), (0, .ref (ad (31 + rr))), (1, .long p2)]) hx hb dJ7_fill_d0a16_4 hl (by decide) rfl (fun ls hl => ?_)
  rw [show w = va_up w rr (w rr) from (va_up_id _ _).symm] at hP hD
  have q0_60 : (60 : Int32).toInt = 60 := rfl
  have q0_0 : (0 : Int32).toInt = 0 := rfl
  exact (hcut (((60 - (0 : Int32).toInt).toNat) + 1)) 0 (w rr) _ _ (by omega) (by omega) (fun j hj => by have q : (0 : Int32).toInt = 0 := rfl; omega) (Nat.lt_succ_self _) hP hD hS ls (lv_sub hl [2, 3, 1, 0] rfl)
set_option maxHeartbeats 4000000 in
set_option maxRecDepth 100000 in
theorem k_X10_lay (l : Launch) (D : va_G) (cs : Nat → ClassId) (A : Nat → Prop) (ad fa fq rv : Nat → Nat) (v : Nat → Int32) (a : Nat → Nat → Int32) (w : Nat → Nat → Int64) (fv fp : Nat → Nat → Int32)  (p1 : Int32) (p2 : Int32) (p3 : Int32) (h1 : 0 ≤ p1.toInt) (h2 : p1.toInt < 6) (h3 : -1 ≤ p2.toInt) (h4 : p2.toInt ≤ 5) (h5 : -1 ≤ p3.toInt) (h6 : p3.toInt ≤ 60) (ia28_0 : AB (-1) 5 (a 28)) (ia29_0 : AB (-1) 60 (a 29)) : Met l yX10_lay (Cond.code yX10_lay cX10_lay 4 none :: gw) ({ frames := 1, cells := 0, slots := 0, locals := 24 }) (va_Pc [.ref (ad 8), .int p1, .int p2, .int p3] (XPre D (TY cs) (CW cs ad fa fq rv v a w fv fp) A)) (va_Qv (fun (z : (Nat → Int32) × (Nat → Int32) × (Nat → Int64)) => (z.1 = upd (a 28) p1.toNatClampNeg p2) ∧ (z.2.1 = upd (a 29) p1.toNatClampNeg p3) ∧ (∀ j, j < 60 → z.2.2 j = 0) ∧ (AB (-1) 5 z.1) ∧ (AB (-1) 60 z.2.1)) (XPo D (fun (z : (Nat → Int32) × (Nat → Int32) × (Nat → Int64)) => CW cs ad fa fq rv v (va_up (va_up a 28 z.1) 29 z.2.1) (va_up w p1.toNatClampNeg z.2.2) fv fp) A) A) 0 0 A := by
  refine Met.ofW (cc := cX10_lay) (maxL := 4) (ret := none) (by decide) rfl ?_
  intro p e s m args below meth c s₁ B hml hv
  obtain ⟨rfl, hP, hK, hD, hZ⟩ := hv
  have hx := B.exec
  have hb := B.bytes
  have hr := B.returns
  have hts := atoms_spec (ws := (Cond.code yX10_lay cX10_lay 4 none :: gw)) B.pre
  have hg : ∀ w ∈ gw, w.before ([.ref (ad 8), .int p1, .int p2, .int p3] : List Value).toArray s = true := fun w h => hts w (List.mem_cons_of_mem _ h)
  have hown : s.vm.findClass RX10 = some m.cls := findClass_of_methodNamed B.named
  have hlocks := B.notSynchronized
  have hS : va_S A s.heap s.heap [] := va_S.rf
  have hP : va_P D vwCl (CW cs ad fa fq rv v a w fv fp) s.heap := hP
  have hl := lv_entry ([.ref (ad 8), .int p1, .int p2, .int p3]) (n := 4) (Nat.le_of_ble_eq_true rfl)
  rw [lg_entry_eq]
  generalize (lg_sl ([.ref (ad 8), .int p1, .int p2, .int p3]) ++ List.replicate (4 - (lg_sl ([.ref (ad 8), .int p1, .int p2, .int p3])).length) Slot.unset).toArray = ls at hl ⊢
  have hl : lv_has ls 4 [(0, .ref (ad 8)), (1, .int p1), (2, .int p2), (3, .int p3)] := hl
  refine lv_aload_n hx hb dX10_lay_0 rfl (lv_at hl 0 rfl) ?_
  refine gf_shelves_sort hx hb hg hown hK hP rfl (hg _ q1_66) dX10_lay_1 ?_
  refine lv_iload_n hx hb dX10_lay_4 rfl (lv_at hl 1 rfl) ?_
  refine lv_iload_n hx hb dX10_lay_5 rfl (lv_at hl 2 rfl) ?_
  refine st_Ssort hx hb hK hP hD hS (i_in (by omega) (by omega)) dX10_lay_6 (fun H locs hP hD hS => ?_)
  have hab_1 : AB (-1) 5 (upd (a 28) p1.toNatClampNeg p2) := AB_upd ia28_0 (by omega) (by omega)
  refine lv_aload_n hx hb dX10_lay_7 rfl (lv_at hl 0 rfl) ?_
  refine gf_shelves_size hx hb hg hown hK hP rfl (hg _ q1_67) dX10_lay_8 ?_
  refine lv_iload_n hx hb dX10_lay_11 rfl (lv_at hl 1 rfl) ?_
  refine lv_iload_n hx hb dX10_lay_12 rfl (lv_at hl 3 rfl) ?_
  refine st_Ssize hx hb hK hP hD hS (i_in (by omega) (by omega)) dX10_lay_13 (fun H locs hP hD hS => ?_)
  have hab_2 : AB (-1) 60 (upd (a 29) p1.toNatClampNeg p3) := AB_upd ia29_0 (by omega) (by omega)
  refine lv_aload_n hx hb dX10_lay_14 rfl (lv_at hl 0 rfl) ?_
  refine gf_shelves_rows hx hb hg hown hK hP rfl (hg _ q1_68) dX10_lay_15 ?_
  refine lv_iload_n hx hb dX10_lay_18 rfl (lv_at hl 1 rfl) ?_
  refine ld_rows hx hb hK hP rfl (i_in (by omega) (by omega)) dX10_lay_19 ?_
  refine lv_lconst (v := 0) hx hb dX10_lay_20 (by decide) ?_
  refine cS_v (As := [.ref (ad (31 + p1.toNatClampNeg)), .long 0]) (rest := []) ⟨hx, hb, hml, hown, hg⟩ (k_J7_fill_d0a16 l D cs A ad fa fq rv v (va_up (va_up a 28 (upd (a 28) p1.toNatClampNeg p2)) 29 (upd (a 29) p1.toNatClampNeg p3)) w fv fp p1.toNatClampNeg (0 : Int64) (by show p1.toInt.toNat < 6; omega)) ca_J7_fill_d0a16 q4_171 ⟨rfl, rfl⟩ ⟨Nat.le_of_ble_eq_true rfl, Nat.le_of_ble_eq_true rfl⟩  hK hP hD hS hZ rfl hl.1 rfl (Nat.le_of_ble_eq_true rfl) ⟨Nat.zero_le _, Nat.zero_le _⟩ dX10_lay_21 (fun grow_4 H locs wr_3 hP hD hS => ?_)
  have hP : va_P D vwCl (CW cs ad fa fq rv v (va_up (va_up a 28 (upd (a 28) p1.toNatClampNeg p2)) 29 (upd (a 29) p1.toNatClampNeg p3)) (va_up w p1.toNatClampNeg grow_4) fv fp) H := hP
  have hD : va_D A (CW cs ad fa fq rv v (va_up (va_up a 28 (upd (a 28) p1.toNatClampNeg p2)) 29 (upd (a 29) p1.toNatClampNeg p3)) (va_up w p1.toNatClampNeg grow_4) fv fp) := hD
  have wr_3_0 : ∀ j, j < 60 → grow_4 j = (0 : Int64) := wr_3
  exact W.vret hx hb hr (fun tt ht hW => ⟨⟨⟨(upd (a 28) p1.toNatClampNeg p2), (upd (a 29) p1.toNatClampNeg p3), grow_4⟩, rfl, ⟨(by first | rfl | omega | trivial | assumption | (dsimp only; first | omega | assumption)), (by first | rfl | omega | trivial | assumption | (dsimp only; first | omega | assumption)), (by assumption), hab_1, hab_2⟩, by rw [ht]; exact hP, hD⟩, hS.F ht⟩) hS.2.2 dX10_lay_24
set_option maxHeartbeats 4000000 in
set_option maxRecDepth 100000 in
theorem k_X10_copy (l : Launch) (D : va_G) (cs : Nat → ClassId) (A : Nat → Prop) (ad fa fq rv : Nat → Nat) (v : Nat → Int32) (a : Nat → Nat → Int32) (w : Nat → Nat → Int64) (fv fp : Nat → Nat → Int32)  (p1 : Int32) (p2 : Int32) (p3 : Int32) (p4 : Int32) (p5 : Int32) (h1 : 0 ≤ p1.toInt) (h2 : p1.toInt < 6) (h3 : 0 ≤ p3.toInt) (h4 : p3.toInt < 6) (ia28_0 : AB (-1) 5 (a 28)) (ia29_0 : AB (-1) 60 (a 29)) : Met l yX10_copy (Cond.code yX10_copy cX10_copy 6 (some .int) :: gw) ({ frames := 1, cells := 0, slots := 0, locals := 60 }) (va_Pc [.ref (ad 8), .int p1, .int p2, .int p3, .int p4, .int p5] (XPre D (TY cs) (CW cs ad fa fq rv v a w fv fp) A)) (va_Qi (fun (r : Int32) (z : Nat → Int64) => (((((a 28) p1.toNatClampNeg).toInt = -1 ∨ ((a 28) p3.toNatClampNeg).toInt = -1) ∧ r.toInt = -11) ∨ (¬ (((a 28) p1.toNatClampNeg).toInt = -1 ∨ ((a 28) p3.toNatClampNeg).toInt = -1) ∧ ¬ ((((a 28) p1.toNatClampNeg).toInt ≠ -1 ∧ ((a 28) p1.toNatClampNeg).toInt ≠ 5) ∧ ((a 28) p1.toNatClampNeg).toInt = ((a 28) p3.toNatClampNeg).toInt) ∧ r.toInt = -12) ∨ (¬ (((a 28) p1.toNatClampNeg).toInt = -1 ∨ ((a 28) p3.toNatClampNeg).toInt = -1) ∧ ((((a 28) p1.toNatClampNeg).toInt ≠ -1 ∧ ((a 28) p1.toNatClampNeg).toInt ≠ 5) ∧ ((a 28) p1.toNatClampNeg).toInt = ((a 28) p3.toNatClampNeg).toInt) ∧ ¬ (0 ≤ p2.toInt ∧ 0 ≤ p4.toInt ∧ 0 ≤ p5.toInt ∧ p2.toInt + p5.toInt ≤ ((a 29) p1.toNatClampNeg).toInt ∧ p4.toInt + p5.toInt ≤ ((a 29) p3.toNatClampNeg).toInt) ∧ r.toInt = -13) ∨ (¬ (((a 28) p1.toNatClampNeg).toInt = -1 ∨ ((a 28) p3.toNatClampNeg).toInt = -1) ∧ ((((a 28) p1.toNatClampNeg).toInt ≠ -1 ∧ ((a 28) p1.toNatClampNeg).toInt ≠ 5) ∧ ((a 28) p1.toNatClampNeg).toInt = ((a 28) p3.toNatClampNeg).toInt) ∧ (0 ≤ p2.toInt ∧ 0 ≤ p4.toInt ∧ 0 ≤ p5.toInt ∧ p2.toInt + p5.toInt ≤ ((a 29) p1.toNatClampNeg).toInt ∧ p4.toInt + p5.toInt ≤ ((a 29) p3.toNatClampNeg).toInt) ∧ r.toInt = p5.toInt)) ∧ (0 ≤ r.toInt → z = va_cpy (w p1.toNatClampNeg) (w p3.toNatClampNeg) p2.toNatClampNeg p4.toNatClampNeg p5.toNatClampNeg) ∧ (r.toInt < 0 → z = (w p3.toNatClampNeg))) (XPo D (fun (z : Nat → Int64) => CW cs ad fa fq rv v a (va_up w p3.toNatClampNeg z) fv fp) A) A) 0 0 A := by
  refine Met.ofW (cc := cX10_copy) (maxL := 6) (ret := (some .int)) (by decide) rfl ?_
  intro p e s m args below meth c s₁ B hml hv
  obtain ⟨rfl, hP, hK, hD, hZ⟩ := hv
  have hx := B.exec
  have hb := B.bytes
  have hr := B.returns
  have hts := atoms_spec (ws := (Cond.code yX10_copy cX10_copy 6 (some .int) :: gw)) B.pre
  have hg : ∀ w ∈ gw, w.before ([.ref (ad 8), .int p1, .int p2, .int p3, .int p4, .int p5] : List Value).toArray s = true := fun w h => hts w (List.mem_cons_of_mem _ h)
  have hown : s.vm.findClass RX10 = some m.cls := findClass_of_methodNamed B.named
  have hlocks := B.notSynchronized
  have hS : va_S A s.heap s.heap [] := va_S.rf
  have hP : va_P D vwCl (CW cs ad fa fq rv v a w fv fp) s.heap := hP
  have hl := lv_entry ([.ref (ad 8), .int p1, .int p2, .int p3, .int p4, .int p5]) (n := 6) (Nat.le_of_ble_eq_true rfl)
  rw [lg_entry_eq]
  generalize (lg_sl ([.ref (ad 8), .int p1, .int p2, .int p3, .int p4, .int p5]) ++ List.replicate (6 - (lg_sl ([.ref (ad 8), .int p1, .int p2, .int p3, .int p4, .int p5])).length) Slot.unset).toArray = ls at hl ⊢
  have hl : lv_has ls 6 [(0, .ref (ad 8)), (1, .int p1), (2, .int p2), (3, .int p3), (4, .int p4), (5, .int p5)] := hl
  refine lv_aload_n hx hb dX10_copy_0 rfl (lv_at hl 0 rfl) ?_
  refine lv_iload_n hx hb dX10_copy_1 rfl (lv_at hl 1 rfl) ?_
  refine cV_ro (As := [.int p1]) (rest := []) ⟨hx, hb, hml, hown, hg⟩ (k_X10_isEmpty l D cs A ad fa fq rv v a w fv fp  p1 (show 0 ≤ p1.toInt by first | omega | decide) (show p1.toInt < 6 by first | omega | decide) ia28_0) ca_X10_isEmpty q3_155 ⟨rfl, rfl⟩ ⟨Nat.le_of_ble_eq_true rfl, Nat.le_of_ble_eq_true rfl⟩ (rc_shelves hK hP) hK hP hD hS hZ rfl hl.1 rfl (Nat.le_of_ble_eq_true rfl) ⟨Nat.zero_le _, Nat.zero_le _⟩ dX10_copy_2 (fun r_1 wr_1 => ?_)
  have wr_1_0 : (r_1.toInt = 1 ∧ ((a 28) p1.toNatClampNeg).toInt = -1) ∨ (r_1.toInt = 0 ∧ ¬ (((a 28) p1.toNatClampNeg).toInt = -1)) := wr_1
  refine lv_if_ne (tgt := 16) hx hb dX10_copy_5 (by decide) (fun c_2 => ?_) (fun c_2 => ?_)
  ·
    have kc_2 : r_1.toInt ≠ (0 : Int) := i_ne c_2
    refine lv_bipush (v := (-11)) hx hb dX10_copy_16 (by decide) ?_
    have q0_m11 : ((-11) : Int32).toInt = (-11) := rfl
    have hP : va_P D vwCl (CW cs ad fa fq rv v a (va_up w p3.toNatClampNeg (w p3.toNatClampNeg)) fv fp) _ := (by rw [va_up_id w p3.toNatClampNeg]; exact hP)
    have hD : va_D A (CW cs ad fa fq rv v a (va_up w p3.toNatClampNeg (w p3.toNatClampNeg)) fv fp) := (by rw [va_up_id w p3.toNatClampNeg]; exact hD)
    exact W.iret (v := (-11)) hx hb hr (fun tt ht hW => ⟨⟨(-11), (w p3.toNatClampNeg), rfl, ⟨(Or.inl ⟨by omega, rfl⟩), (fun q => absurd q (by decide)), (fun _ => rfl)⟩, by rw [ht]; exact hP, hD⟩, hS.F ht⟩) hS.2.2 dX10_copy_18
  ·
    have kc_2 : r_1.toInt = (0 : Int) := i_eq c_2
    refine lv_aload_n hx hb dX10_copy_8 rfl (lv_at hl 0 rfl) ?_
    refine lv_iload_n hx hb dX10_copy_9 rfl (lv_at hl 3 rfl) ?_
    refine cV_ro (As := [.int p3]) (rest := []) ⟨hx, hb, hml, hown, hg⟩ (k_X10_isEmpty l D cs A ad fa fq rv v a w fv fp  p3 (show 0 ≤ p3.toInt by first | omega | decide) (show p3.toInt < 6 by first | omega | decide) ia28_0) ca_X10_isEmpty q3_155 ⟨rfl, rfl⟩ ⟨Nat.le_of_ble_eq_true rfl, Nat.le_of_ble_eq_true rfl⟩ (rc_shelves hK hP) hK hP hD hS hZ rfl hl.1 rfl (Nat.le_of_ble_eq_true rfl) ⟨Nat.zero_le _, Nat.zero_le _⟩ dX10_copy_10 (fun r_3 wr_3 => ?_)
    have wr_3_0 : (r_3.toInt = 1 ∧ ((a 28) p3.toNatClampNeg).toInt = -1) ∨ (r_3.toInt = 0 ∧ ¬ (((a 28) p3.toNatClampNeg).toInt = -1)) := wr_3
    refine lv_if_eq (tgt := 19) hx hb dX10_copy_13 (by decide) (fun c_4 => ?_) (fun c_4 => ?_)
    ·
      have kc_4 : r_3.toInt = (0 : Int) := i_eq c_4
      refine lv_aload_n hx hb dX10_copy_19 rfl (lv_at hl 0 rfl) ?_
      refine lv_iload_n hx hb dX10_copy_20 rfl (lv_at hl 1 rfl) ?_
      refine cV_ro (As := [.int p1]) (rest := []) ⟨hx, hb, hml, hown, hg⟩ (k_X10_isRow l D cs A ad fa fq rv v a w fv fp  p1 (show 0 ≤ p1.toInt by first | omega | decide) (show p1.toInt < 6 by first | omega | decide) ia28_0) ca_X10_isRow q2_226 ⟨rfl, rfl⟩ ⟨Nat.le_of_ble_eq_true rfl, Nat.le_of_ble_eq_true rfl⟩ (rc_shelves hK hP) hK hP hD hS hZ rfl hl.1 rfl (Nat.le_of_ble_eq_true rfl) ⟨Nat.zero_le _, Nat.zero_le _⟩ dX10_copy_21 (fun r_5 wr_5 => ?_)
      have wr_5_0 : (r_5.toInt = 1 ∧ (((a 28) p1.toNatClampNeg).toInt ≠ -1 ∧ ((a 28) p1.toNatClampNeg).toInt ≠ 5)) ∨ (r_5.toInt = 0 ∧ ¬ ((((a 28) p1.toNatClampNeg).toInt ≠ -1 ∧ ((a 28) p1.toNatClampNeg).toInt ≠ 5))) := wr_5
      refine lv_if_eq (tgt := 42) hx hb dX10_copy_24 (by decide) (fun c_6 => ?_) (fun c_6 => ?_)
      ·
        have kc_6 : r_5.toInt = (0 : Int) := i_eq c_6
        refine lv_bipush (v := (-12)) hx hb dX10_copy_42 (by decide) ?_
        have q0_m12 : ((-12) : Int32).toInt = (-12) := rfl
        have hP : va_P D vwCl (CW cs ad fa fq rv v a (va_up w p3.toNatClampNeg (w p3.toNatClampNeg)) fv fp) _ := (by rw [va_up_id w p3.toNatClampNeg]; exact hP)
        have hD : va_D A (CW cs ad fa fq rv v a (va_up w p3.toNatClampNeg (w p3.toNatClampNeg)) fv fp) := (by rw [va_up_id w p3.toNatClampNeg]; exact hD)
        exact W.iret (v := (-12)) hx hb hr (fun tt ht hW => ⟨⟨(-12), (w p3.toNatClampNeg), rfl, ⟨(Or.inr (Or.inl ⟨by omega, by omega, rfl⟩)), (fun q => absurd q (by decide)), (fun _ => rfl)⟩, by rw [ht]; exact hP, hD⟩, hS.F ht⟩) hS.2.2 dX10_copy_44
      ·
        have kc_6 : r_5.toInt ≠ (0 : Int) := i_ne c_6
        refine lv_aload_n hx hb dX10_copy_27 rfl (lv_at hl 0 rfl) ?_
        refine gf_shelves_sort hx hb hg hown hK hP rfl (hg _ q1_66) dX10_copy_28 ?_
        refine lv_iload_n hx hb dX10_copy_31 rfl (lv_at hl 1 rfl) ?_
        refine ld_Ssort hx hb hK hP (i_in (by omega) (by omega)) dX10_copy_32 ?_
        refine lv_topi (fun x_7 ex_7 => ?_)
        have ex_7 : x_7 = (a 28) p1.toNatClampNeg := ex_7
        have hx_7 : x_7.toInt = ((a 28) p1.toNatClampNeg).toInt := by rw [ex_7]
        have bx_7 := ia28_0 p1.toNatClampNeg
        rw [← ex_7] at bx_7
        refine lv_aload_n hx hb dX10_copy_33 rfl (lv_at hl 0 rfl) ?_
        refine gf_shelves_sort hx hb hg hown hK hP rfl (hg _ q1_66) dX10_copy_34 ?_
        refine lv_iload_n hx hb dX10_copy_37 rfl (lv_at hl 3 rfl) ?_
        refine ld_Ssort hx hb hK hP (i_in (by omega) (by omega)) dX10_copy_38 ?_
        refine lv_topi (fun x_8 ex_8 => ?_)
        have ex_8 : x_8 = (a 28) p3.toNatClampNeg := ex_8
        have hx_8 : x_8.toInt = ((a 28) p3.toNatClampNeg).toInt := by rw [ex_8]
        have bx_8 := ia28_0 p3.toNatClampNeg
        rw [← ex_8] at bx_8
        refine lv_icmp_eq (tgt := 45) hx hb dX10_copy_39 (by decide) (fun c_9 => ?_) (fun c_9 => ?_)
        ·
          have kc_9 : x_7.toInt = x_8.toInt := i_eq c_9
          refine lv_iload_n hx hb dX10_copy_45 rfl (lv_at hl 2 rfl) ?_
          refine lv_if_lt (tgt := 94) hx hb dX10_copy_46 (by decide) (fun c_10 => ?_) (fun c_10 => ?_)
          ·
            have kc_10 : p2.toInt < (0 : Int) := i_lt c_10
            refine lv_bipush (v := (-13)) hx hb dX10_copy_94 (by decide) ?_
            have q0_m13 : ((-13) : Int32).toInt = (-13) := rfl
            have hP : va_P D vwCl (CW cs ad fa fq rv v a (va_up w p3.toNatClampNeg (w p3.toNatClampNeg)) fv fp) _ := (by rw [va_up_id w p3.toNatClampNeg]; exact hP)
            have hD : va_D A (CW cs ad fa fq rv v a (va_up w p3.toNatClampNeg (w p3.toNatClampNeg)) fv fp) := (by rw [va_up_id w p3.toNatClampNeg]; exact hD)
            exact W.iret (v := (-13)) hx hb hr (fun tt ht hW => ⟨⟨(-13), (w p3.toNatClampNeg), rfl, ⟨(Or.inr (Or.inr (Or.inl ⟨by omega, by omega, by omega, rfl⟩))), (fun q => absurd q (by decide)), (fun _ => rfl)⟩, by rw [ht]; exact hP, hD⟩, hS.F ht⟩) hS.2.2 dX10_copy_96
          ·
            have kc_10 : (0 : Int) ≤ p2.toInt := i_nlt c_10
            refine lv_iload hx hb dX10_copy_49 (lv_at hl 4 rfl) ?_
            refine lv_if_lt (tgt := 94) hx hb dX10_copy_51 (by decide) (fun c_11 => ?_) (fun c_11 => ?_)
            ·
              have kc_11 : p4.toInt < (0 : Int) := i_lt c_11
              refine lv_bipush (v := (-13)) hx hb dX10_copy_94 (by decide) ?_
              have q0_m13 : ((-13) : Int32).toInt = (-13) := rfl
              have hP : va_P D vwCl (CW cs ad fa fq rv v a (va_up w p3.toNatClampNeg (w p3.toNatClampNeg)) fv fp) _ := (by rw [va_up_id w p3.toNatClampNeg]; exact hP)
              have hD : va_D A (CW cs ad fa fq rv v a (va_up w p3.toNatClampNeg (w p3.toNatClampNeg)) fv fp) := (by rw [va_up_id w p3.toNatClampNeg]; exact hD)
              exact W.iret (v := (-13)) hx hb hr (fun tt ht hW => ⟨⟨(-13), (w p3.toNatClampNeg), rfl, ⟨(Or.inr (Or.inr (Or.inl ⟨by omega, by omega, by omega, rfl⟩))), (fun q => absurd q (by decide)), (fun _ => rfl)⟩, by rw [ht]; exact hP, hD⟩, hS.F ht⟩) hS.2.2 dX10_copy_96
            ·
              have kc_11 : (0 : Int) ≤ p4.toInt := i_nlt c_11
              refine lv_iload hx hb dX10_copy_54 (lv_at hl 5 rfl) ?_
              refine lv_if_lt (tgt := 94) hx hb dX10_copy_56 (by decide) (fun c_12 => ?_) (fun c_12 => ?_)
              ·
                have kc_12 : p5.toInt < (0 : Int) := i_lt c_12
                refine lv_bipush (v := (-13)) hx hb dX10_copy_94 (by decide) ?_
                have q0_m13 : ((-13) : Int32).toInt = (-13) := rfl
                have hP : va_P D vwCl (CW cs ad fa fq rv v a (va_up w p3.toNatClampNeg (w p3.toNatClampNeg)) fv fp) _ := (by rw [va_up_id w p3.toNatClampNeg]; exact hP)
                have hD : va_D A (CW cs ad fa fq rv v a (va_up w p3.toNatClampNeg (w p3.toNatClampNeg)) fv fp) := (by rw [va_up_id w p3.toNatClampNeg]; exact hD)
                exact W.iret (v := (-13)) hx hb hr (fun tt ht hW => ⟨⟨(-13), (w p3.toNatClampNeg), rfl, ⟨(Or.inr (Or.inr (Or.inl ⟨by omega, by omega, by omega, rfl⟩))), (fun q => absurd q (by decide)), (fun _ => rfl)⟩, by rw [ht]; exact hP, hD⟩, hS.F ht⟩) hS.2.2 dX10_copy_96
              ·
                have kc_12 : (0 : Int) ≤ p5.toInt := i_nlt c_12
                refine lv_iload_n hx hb dX10_copy_59 rfl (lv_at hl 2 rfl) ?_
                refine lv_i2l hx hb dX10_copy_60 rfl ?_
                refine lv_topl (fun x_13 ex_13 => ?_)
                have fx_13 : x_13.toInt = p2.toInt := by rw [ex_13]; exact l_i2l p2
                have gx_13 := i_bd p2
                refine lv_iload hx hb dX10_copy_61 (lv_at hl 5 rfl) ?_
                refine lv_i2l hx hb dX10_copy_63 rfl ?_
                refine lv_topl (fun x_14 ex_14 => ?_)
                have fx_14 : x_14.toInt = p5.toInt := by rw [ex_14]; exact l_i2l p5
                have gx_14 := i_bd p5
                refine lv_ladd hx hb dX10_copy_64 ?_
                refine lv_topl (fun x_15 ex_15 => ?_)
                have fx_15 : x_15.toInt = x_13.toInt + x_14.toInt := by rw [ex_15]; exact l_add (by show (_ : Int) ≤ x_13.toInt + x_14.toInt; omega) (by show x_13.toInt + x_14.toInt ≤ (_ : Int); omega)
                refine lv_aload_n hx hb dX10_copy_65 rfl (lv_at hl 0 rfl) ?_
                refine gf_shelves_size hx hb hg hown hK hP rfl (hg _ q1_67) dX10_copy_66 ?_
                refine lv_iload_n hx hb dX10_copy_69 rfl (lv_at hl 1 rfl) ?_
                refine ld_Ssize hx hb hK hP (i_in (by omega) (by omega)) dX10_copy_70 ?_
                refine lv_topi (fun x_16 ex_16 => ?_)
                have ex_16 : x_16 = (a 29) p1.toNatClampNeg := ex_16
                have hx_16 : x_16.toInt = ((a 29) p1.toNatClampNeg).toInt := by rw [ex_16]
                have bx_16 := ia29_0 p1.toNatClampNeg
                rw [← ex_16] at bx_16
                refine lv_i2l hx hb dX10_copy_71 rfl ?_
                refine lv_topl (fun x_17 ex_17 => ?_)
                have fx_17 : x_17.toInt = x_16.toInt := by rw [ex_17]; exact l_i2l x_16
                refine W.lcmp hx hb dX10_copy_72 ?_
                refine lv_topi (fun x_18 ex_18 => ?_)
                have fx_18 : (x_18.toInt = 1 ∧ x_17.toInt < x_15.toInt) ∨ (x_18.toInt = 0 ∧ x_15.toInt = x_17.toInt) ∨ (x_18.toInt = -1 ∧ x_15.toInt < x_17.toInt) := by rw [ex_18]; exact l_cmp _ _
                refine lv_if_gt (tgt := 94) hx hb dX10_copy_73 (by decide) (fun c_19 => ?_) (fun c_19 => ?_)
                ·
                  have kc_19 : (0 : Int) < x_18.toInt := i_lt c_19
                  refine lv_bipush (v := (-13)) hx hb dX10_copy_94 (by decide) ?_
                  have q0_m13 : ((-13) : Int32).toInt = (-13) := rfl
                  have hP : va_P D vwCl (CW cs ad fa fq rv v a (va_up w p3.toNatClampNeg (w p3.toNatClampNeg)) fv fp) _ := (by rw [va_up_id w p3.toNatClampNeg]; exact hP)
                  have hD : va_D A (CW cs ad fa fq rv v a (va_up w p3.toNatClampNeg (w p3.toNatClampNeg)) fv fp) := (by rw [va_up_id w p3.toNatClampNeg]; exact hD)
                  exact W.iret (v := (-13)) hx hb hr (fun tt ht hW => ⟨⟨(-13), (w p3.toNatClampNeg), rfl, ⟨(Or.inr (Or.inr (Or.inl ⟨by omega, by omega, by omega, rfl⟩))), (fun q => absurd q (by decide)), (fun _ => rfl)⟩, by rw [ht]; exact hP, hD⟩, hS.F ht⟩) hS.2.2 dX10_copy_96
                ·
                  have kc_19 : x_18.toInt ≤ (0 : Int) := i_nlt c_19
                  refine lv_iload hx hb dX10_copy_76 (lv_at hl 4 rfl) ?_
                  refine lv_i2l hx hb dX10_copy_78 rfl ?_
                  refine lv_topl (fun x_20 ex_20 => ?_)
                  have fx_20 : x_20.toInt = p4.toInt := by rw [ex_20]; exact l_i2l p4
                  have gx_20 := i_bd p4
                  refine lv_iload hx hb dX10_copy_79 (lv_at hl 5 rfl) ?_
                  refine lv_i2l hx hb dX10_copy_81 rfl ?_
                  refine lv_topl (fun x_21 ex_21 => ?_)
                  have fx_21 : x_21.toInt = p5.toInt := by rw [ex_21]; exact l_i2l p5
                  have gx_21 := i_bd p5
                  refine lv_ladd hx hb dX10_copy_82 ?_
                  refine lv_topl (fun x_22 ex_22 => ?_)
                  have fx_22 : x_22.toInt = x_20.toInt + x_21.toInt := by rw [ex_22]; exact l_add (by show (_ : Int) ≤ x_20.toInt + x_21.toInt; omega) (by show x_20.toInt + x_21.toInt ≤ (_ : Int); omega)
                  refine lv_aload_n hx hb dX10_copy_83 rfl (lv_at hl 0 rfl) ?_
                  refine gf_shelves_size hx hb hg hown hK hP rfl (hg _ q1_67) dX10_copy_84 ?_
                  refine lv_iload_n hx hb dX10_copy_87 rfl (lv_at hl 3 rfl) ?_
                  refine ld_Ssize hx hb hK hP (i_in (by omega) (by omega)) dX10_copy_88 ?_
                  refine lv_topi (fun x_23 ex_23 => ?_)
                  have ex_23 : x_23 = (a 29) p3.toNatClampNeg := ex_23
                  have hx_23 : x_23.toInt = ((a 29) p3.toNatClampNeg).toInt := by rw [ex_23]
                  have bx_23 := ia29_0 p3.toNatClampNeg
                  rw [← ex_23] at bx_23
                  refine lv_i2l hx hb dX10_copy_89 rfl ?_
                  refine lv_topl (fun x_24 ex_24 => ?_)
                  have fx_24 : x_24.toInt = x_23.toInt := by rw [ex_24]; exact l_i2l x_23
                  refine W.lcmp hx hb dX10_copy_90 ?_
                  refine lv_topi (fun x_25 ex_25 => ?_)
                  have fx_25 : (x_25.toInt = 1 ∧ x_24.toInt < x_22.toInt) ∨ (x_25.toInt = 0 ∧ x_22.toInt = x_24.toInt) ∨ (x_25.toInt = -1 ∧ x_22.toInt < x_24.toInt) := by rw [ex_25]; exact l_cmp _ _
                  refine lv_if_le (tgt := 97) hx hb dX10_copy_91 (by decide) (fun c_26 => ?_) (fun c_26 => ?_)
                  ·
                    have kc_26 : x_25.toInt ≤ (0 : Int) := i_le c_26
                    refine lv_aload_n hx hb dX10_copy_97 rfl (lv_at hl 0 rfl) ?_
                    refine gf_shelves_rows hx hb hg hown hK hP rfl (hg _ q1_68) dX10_copy_98 ?_
                    refine lv_iload_n hx hb dX10_copy_101 rfl (lv_at hl 1 rfl) ?_
                    refine ld_rows hx hb hK hP rfl (i_in (by omega) (by omega)) dX10_copy_102 ?_
                    refine lv_iload_n hx hb dX10_copy_103 rfl (lv_at hl 2 rfl) ?_
                    refine lv_aload_n hx hb dX10_copy_104 rfl (lv_at hl 0 rfl) ?_
                    refine gf_shelves_rows hx hb hg hown hK hP rfl (hg _ q1_68) dX10_copy_105 ?_
                    refine lv_iload_n hx hb dX10_copy_108 rfl (lv_at hl 3 rfl) ?_
                    refine ld_rows hx hb hK hP rfl (i_in (by omega) (by omega)) dX10_copy_109 ?_
                    refine lv_iload hx hb dX10_copy_110 (lv_at hl 4 rfl) ?_
                    refine lv_iload hx hb dX10_copy_112 (lv_at hl 5 rfl) ?_
                    refine va_copyl hx hb (hml.trans hl.1.symm) hown (hg _ q4_207) (hg _ q3_23) (hg _ q3_22) (hg _ q1_15) hK hP hD hS (31 + p1.toNatClampNeg) (31 + p3.toNatClampNeg) 1 1 (lw_o (by show p1.toInt.toNat < 6; omega)) (lw_o (by show p3.toInt.toNat < 6; omega)) rfl rfl rfl (fun q => by have q0 : p2.toInt < 0 := i_lt q; omega) (fun q => by have q0 : p4.toInt < 0 := i_lt q; omega) (fun q => by have q0 : p5.toInt < 0 := i_lt q; omega) (by show p2.toInt.toNat + p5.toInt.toNat ≤ 60; omega) (by show p4.toInt.toNat + p5.toInt.toNat ≤ 60; omega) (fun _ _ => rfl) (Nat.le_of_ble_eq_true rfl) (Nat.le_of_ble_eq_true rfl) dX10_copy_114 (fun H locs hP hD hS => ?_)
                    rw [lw_s (by show p3.toInt.toNat < 6; omega)] at hP hD
                    have hP : va_P D vwCl (CW cs ad fa fq rv v a (va_up w p3.toNatClampNeg (va_cpy (w p1.toNatClampNeg) (w p3.toNatClampNeg) p2.toNatClampNeg p4.toNatClampNeg p5.toNatClampNeg)) fv fp) H := hP
                    have hD : va_D A (CW cs ad fa fq rv v a (va_up w p3.toNatClampNeg (va_cpy (w p1.toNatClampNeg) (w p3.toNatClampNeg) p2.toNatClampNeg p4.toNatClampNeg p5.toNatClampNeg)) fv fp) := hD
                    refine lv_iload hx hb dX10_copy_117 (lv_at hl 5 rfl) ?_
                    exact W.iret (v := p5) hx hb hr (fun tt ht hW => ⟨⟨p5, (va_cpy (w p1.toNatClampNeg) (w p3.toNatClampNeg) p2.toNatClampNeg p4.toNatClampNeg p5.toNatClampNeg), rfl, ⟨(Or.inr (Or.inr (Or.inr ⟨by omega, by omega, ⟨by omega, by omega, by omega, by omega, by omega⟩, rfl⟩))), (fun _ => rfl), (fun q => absurd q (by omega))⟩, by rw [ht]; exact hP, hD⟩, hS.F ht⟩) hS.2.2 dX10_copy_119
                  ·
                    have kc_26 : (0 : Int) < x_25.toInt := i_nle c_26
                    refine lv_bipush (v := (-13)) hx hb dX10_copy_94 (by decide) ?_
                    have q0_m13 : ((-13) : Int32).toInt = (-13) := rfl
                    have hP : va_P D vwCl (CW cs ad fa fq rv v a (va_up w p3.toNatClampNeg (w p3.toNatClampNeg)) fv fp) _ := (by rw [va_up_id w p3.toNatClampNeg]; exact hP)
                    have hD : va_D A (CW cs ad fa fq rv v a (va_up w p3.toNatClampNeg (w p3.toNatClampNeg)) fv fp) := (by rw [va_up_id w p3.toNatClampNeg]; exact hD)
                    exact W.iret (v := (-13)) hx hb hr (fun tt ht hW => ⟨⟨(-13), (w p3.toNatClampNeg), rfl, ⟨(Or.inr (Or.inr (Or.inl ⟨by omega, by omega, by omega, rfl⟩))), (fun q => absurd q (by decide)), (fun _ => rfl)⟩, by rw [ht]; exact hP, hD⟩, hS.F ht⟩) hS.2.2 dX10_copy_96
        ·
          have kc_9 : x_7.toInt ≠ x_8.toInt := i_ne c_9
          refine lv_bipush (v := (-12)) hx hb dX10_copy_42 (by decide) ?_
          have q0_m12 : ((-12) : Int32).toInt = (-12) := rfl
          have hP : va_P D vwCl (CW cs ad fa fq rv v a (va_up w p3.toNatClampNeg (w p3.toNatClampNeg)) fv fp) _ := (by rw [va_up_id w p3.toNatClampNeg]; exact hP)
          have hD : va_D A (CW cs ad fa fq rv v a (va_up w p3.toNatClampNeg (w p3.toNatClampNeg)) fv fp) := (by rw [va_up_id w p3.toNatClampNeg]; exact hD)
          exact W.iret (v := (-12)) hx hb hr (fun tt ht hW => ⟨⟨(-12), (w p3.toNatClampNeg), rfl, ⟨(Or.inr (Or.inl ⟨by omega, by omega, rfl⟩)), (fun q => absurd q (by decide)), (fun _ => rfl)⟩, by rw [ht]; exact hP, hD⟩, hS.F ht⟩) hS.2.2 dX10_copy_44
    ·
      have kc_4 : r_3.toInt ≠ (0 : Int) := i_ne c_4
      refine lv_bipush (v := (-11)) hx hb dX10_copy_16 (by decide) ?_
      have q0_m11 : ((-11) : Int32).toInt = (-11) := rfl
      have hP : va_P D vwCl (CW cs ad fa fq rv v a (va_up w p3.toNatClampNeg (w p3.toNatClampNeg)) fv fp) _ := (by rw [va_up_id w p3.toNatClampNeg]; exact hP)
      have hD : va_D A (CW cs ad fa fq rv v a (va_up w p3.toNatClampNeg (w p3.toNatClampNeg)) fv fp) := (by rw [va_up_id w p3.toNatClampNeg]; exact hD)
      exact W.iret (v := (-11)) hx hb hr (fun tt ht hW => ⟨⟨(-11), (w p3.toNatClampNeg), rfl, ⟨(Or.inl ⟨by omega, rfl⟩), (fun q => absurd q (by decide)), (fun _ => rfl)⟩, by rw [ht]; exact hP, hD⟩, hS.F ht⟩) hS.2.2 dX10_copy_18
set_option maxHeartbeats 4000000 in
set_option maxRecDepth 100000 in
theorem k_X11_keep (l : Launch) (D : va_G) (cs : Nat → ClassId) (A : Nat → Prop) (ad fa fq rv : Nat → Nat) (v : Nat → Int32) (a : Nat → Nat → Int32) (w : Nat → Nat → Int64) (fv fp : Nat → Nat → Int32)  (p1 : Int32) (p2 : Int32) (ia28_0 : AB (-1) 5 (a 28)) (ia29_0 : AB (-1) 60 (a 29)) (iv21_0 : 0 ≤ (v 21).toInt) (iv21_1 : (v 21).toInt ≤ 50) : Met l yX11_keep (Cond.code yX11_keep cX11_keep 3 (some .int) :: gw) ({ frames := 2, cells := 0, slots := 0, locals := 47 }) (va_Pc [.ref (ad 0), .int p1, .int p2] (XPre D (TY cs) (CW cs ad fa fq rv v a w fv fp) A)) (va_Qi (fun (r : Int32) (z : (Nat → Int32) × (Nat → Int32) × (Nat → Int64)) => ((((0 ≤ p1.toInt ∧ p1.toInt < 6) ∧ (p2.toInt = -1 ∨ (0 ≤ p2.toInt ∧ p2.toInt < (v 21).toInt))) ∧ r.toInt = 1) ∨ (¬ ((0 ≤ p1.toInt ∧ p1.toInt < 6) ∧ (p2.toInt = -1 ∨ (0 ≤ p2.toInt ∧ p2.toInt < (v 21).toInt))) ∧ r.toInt = -1)) ∧ (r.toInt = 1 → z.1 = upd (a 28) p1.toNatClampNeg (if p2.toInt = -1 then (-1 : Int32) else 5) ∧ z.2.1 = upd (a 29) p1.toNatClampNeg p2) ∧ (r.toInt ≠ 1 → z.1 = (a 28) ∧ z.2.1 = (a 29) ∧ z.2.2 = (w p1.toNatClampNeg)) ∧ (AB (-1) 5 z.1) ∧ (AB (-1) 60 z.2.1)) (XPo D (fun (z : (Nat → Int32) × (Nat → Int32) × (Nat → Int64)) => CW cs ad fa fq rv v (va_up (va_up a 28 z.1) 29 z.2.1) (va_up w p1.toNatClampNeg z.2.2) fv fp) A) A) 0 0 A := by
  refine Met.ofW (cc := cX11_keep) (maxL := 3) (ret := (some .int)) (by decide) rfl ?_
  intro p e s m args below meth c s₁ B hml hv
  obtain ⟨rfl, hP, hK, hD, hZ⟩ := hv
  have hx := B.exec
  have hb := B.bytes
  have hr := B.returns
  have hts := atoms_spec (ws := (Cond.code yX11_keep cX11_keep 3 (some .int) :: gw)) B.pre
  have hg : ∀ w ∈ gw, w.before ([.ref (ad 0), .int p1, .int p2] : List Value).toArray s = true := fun w h => hts w (List.mem_cons_of_mem _ h)
  have hown : s.vm.findClass RX11 = some m.cls := findClass_of_methodNamed B.named
  have hlocks := B.notSynchronized
  have hS : va_S A s.heap s.heap [] := va_S.rf
  have hP : va_P D vwCl (CW cs ad fa fq rv v a w fv fp) s.heap := hP
  have hl := lv_entry ([.ref (ad 0), .int p1, .int p2]) (n := 3) (Nat.le_of_ble_eq_true rfl)
  rw [lg_entry_eq]
  generalize (lg_sl ([.ref (ad 0), .int p1, .int p2]) ++ List.replicate (3 - (lg_sl ([.ref (ad 0), .int p1, .int p2])).length) Slot.unset).toArray = ls at hl ⊢
  have hl : lv_has ls 3 [(0, .ref (ad 0)), (1, .int p1), (2, .int p2)] := hl
  refine lv_iload_n hx hb dX11_keep_0 rfl (lv_at hl 1 rfl) ?_
  refine cS_p (As := [.int p1]) (rest := []) ⟨hx, hb, hml, hown, hg⟩ (k_X10_isShelf l   p1 ) ca_X10_isShelf q2_205 ⟨rfl, rfl⟩ ⟨Nat.le_of_ble_eq_true rfl, Nat.le_of_ble_eq_true rfl⟩ rfl hl.1 rfl (Nat.le_of_ble_eq_true rfl) ⟨Nat.zero_le _, Nat.zero_le _⟩ dX11_keep_1 (fun r_1 wr_1 => ?_)
  have wr_1 : (r_1.toInt = 1 ∧ 0 ≤ p1.toInt ∧ p1.toInt < 6) ∨ (r_1.toInt = 0 ∧ ¬ (0 ≤ p1.toInt ∧ p1.toInt < 6)) := wr_1
  refine lv_if_eq (tgt := 23) hx hb dX11_keep_4 (by decide) (fun c_2 => ?_) (fun c_2 => ?_)
  ·
    have kc_2 : r_1.toInt = (0 : Int) := i_eq c_2
    refine lv_iconst (v := (-1)) hx hb dX11_keep_23 (by decide) ?_
    have q0_m1 : ((-1) : Int32).toInt = (-1) := rfl
    have hP : va_P D vwCl (CW cs ad fa fq rv v (va_up (va_up a 28 (a 28)) 29 (a 29)) (va_up w p1.toNatClampNeg (w p1.toNatClampNeg)) fv fp) _ := (by rw [va_up_id w p1.toNatClampNeg]; exact hP)
    have hD : va_D A (CW cs ad fa fq rv v (va_up (va_up a 28 (a 28)) 29 (a 29)) (va_up w p1.toNatClampNeg (w p1.toNatClampNeg)) fv fp) := (by rw [va_up_id w p1.toNatClampNeg]; exact hD)
    exact W.iret (v := (-1)) hx hb hr (fun tt ht hW => ⟨⟨(-1), ⟨(a 28), (a 29), (w p1.toNatClampNeg)⟩, rfl, ⟨(by first | rfl | omega | trivial | assumption | (dsimp only; first | omega | assumption)), (fun q => absurd q (by decide)), (fun _ => ⟨rfl, rfl, rfl⟩), ia28_0, ia29_0⟩, by rw [ht]; exact hP, hD⟩, hS.F ht⟩) hS.2.2 dX11_keep_24
  ·
    have kc_2 : r_1.toInt ≠ (0 : Int) := i_ne c_2
    refine lv_iload_n hx hb dX11_keep_7 rfl (lv_at hl 2 rfl) ?_
    refine lv_iconst (v := (-1)) hx hb dX11_keep_8 (by decide) ?_
    refine lv_icmp_eq (tgt := 25) hx hb dX11_keep_9 (by decide) (fun c_3 => ?_) (fun c_3 => ?_)
    ·
      have kc_3 : p2.toInt = (-1 : Int) := i_eq c_3
      refine lv_aload_n hx hb dX11_keep_25 rfl (lv_at hl 0 rfl) ?_
      refine gf_main_shelves hx hb hg hown hK hP rfl (hg _ q2_133) dX11_keep_26 ?_
      refine lv_iload_n hx hb dX11_keep_29 rfl (lv_at hl 1 rfl) ?_
      refine lv_iload_n hx hb dX11_keep_30 rfl (lv_at hl 2 rfl) ?_
      refine lv_iconst (v := (-1)) hx hb dX11_keep_31 (by decide) ?_
      refine lv_icmp_ne (tgt := 39) hx hb dX11_keep_32 (by decide) (fun c_4 => ?_) (fun c_4 => ?_)
      ·
        have kc_4 : p2.toInt ≠ (-1 : Int) := i_ne c_4
        exfalso; omega
      ·
        have kc_4 : p2.toInt = (-1 : Int) := i_eq c_4
        refine lv_iconst (v := (-1)) hx hb dX11_keep_35 (by decide) ?_
        refine lv_goto (tgt := 40) hx hb dX11_keep_36 (by decide) ?_
        refine lv_iload_n hx hb dX11_keep_40 rfl (lv_at hl 2 rfl) ?_
        refine cV_v (As := [.int p1, .int (-1), .int p2]) (rest := []) ⟨hx, hb, hml, hown, hg⟩ (k_X10_lay l D cs A ad fa fq rv v a w fv fp  p1 (-1) p2 (show 0 ≤ p1.toInt by first | omega | decide) (show p1.toInt < 6 by first | omega | decide) (show -1 ≤ (-1 : Int) by first | omega | decide) (show (-1 : Int) ≤ 5 by first | omega | decide) (show -1 ≤ p2.toInt by first | omega | decide) (show p2.toInt ≤ 60 by first | omega | decide) ia28_0 ia29_0) ca_X10_lay q4_167 ⟨rfl, rfl⟩ ⟨Nat.le_of_ble_eq_true rfl, Nat.le_of_ble_eq_true rfl⟩ (rc_shelves hK hP) hK hP hD hS hZ rfl hl.1 rfl (Nat.le_of_ble_eq_true rfl) ⟨Nat.zero_le _, Nat.zero_le _⟩ dX11_keep_41 (fun z_9 H locs wr_5 hP hD hS => ?_)
        obtain ⟨gsort_6, gsize_7, grow_8⟩ := z_9
        have hP : va_P D vwCl (CW cs ad fa fq rv v (va_up (va_up a 28 gsort_6) 29 gsize_7) (va_up w p1.toNatClampNeg grow_8) fv fp) H := hP
        have hD : va_D A (CW cs ad fa fq rv v (va_up (va_up a 28 gsort_6) 29 gsize_7) (va_up w p1.toNatClampNeg grow_8) fv fp) := hD
        obtain ⟨wr_5_0, wr_5_1, wr_5_2, wr_5_3, wr_5_4⟩ : (gsort_6 = upd (a 28) p1.toNatClampNeg (-1 : Int32)) ∧ (gsize_7 = upd (a 29) p1.toNatClampNeg p2) ∧ (∀ j, j < 60 → grow_8 j = 0) ∧ (AB (-1) 5 gsort_6) ∧ (AB (-1) 60 gsize_7) := wr_5
        refine lv_iconst (v := 1) hx hb dX11_keep_44 (by decide) ?_
        have q0_1 : (1 : Int32).toInt = 1 := rfl
        exact W.iret (v := 1) hx hb hr (fun tt ht hW => ⟨⟨1, ⟨gsort_6, gsize_7, grow_8⟩, rfl, ⟨(by first | rfl | omega | trivial | assumption | (dsimp only; first | omega | assumption)), (fun _ => ⟨by first | (rw [if_pos (by omega)]; assumption) | (rw [if_neg (by omega)]; assumption), by assumption⟩), (fun q => absurd rfl q), wr_5_3, wr_5_4⟩, by rw [ht]; exact hP, hD⟩, hS.F ht⟩) hS.2.2 dX11_keep_45
    ·
      have kc_3 : p2.toInt ≠ (-1 : Int) := i_ne c_3
      refine lv_aload_n hx hb dX11_keep_12 rfl (lv_at hl 0 rfl) ?_
      refine gf_main_acts hx hb hg hown hK hP rfl (hg _ q2_134) dX11_keep_13 ?_
      refine lv_iload_n hx hb dX11_keep_16 rfl (lv_at hl 2 rfl) ?_
      refine cV_ro (As := [.int p2]) (rest := []) ⟨hx, hb, hml, hown, hg⟩ (k_X0_has l D cs A ad fa fq rv v a w fv fp  p2 (show 0 ≤ (v 21).toInt by first | omega | decide) (show (v 21).toInt ≤ 50 by first | omega | decide)) ca_X0_has q4_166 ⟨rfl, rfl⟩ ⟨Nat.le_of_ble_eq_true rfl, Nat.le_of_ble_eq_true rfl⟩ (rc_acts hK hP) hK hP hD hS hZ rfl hl.1 rfl (Nat.le_of_ble_eq_true rfl) ⟨Nat.zero_le _, Nat.zero_le _⟩ dX11_keep_17 (fun r_10 wr_10 => ?_)
      have wr_10_0 : (r_10.toInt = 1 ∧ 0 ≤ p2.toInt ∧ p2.toInt < (v 21).toInt) ∨ (r_10.toInt = 0 ∧ ¬ (0 ≤ p2.toInt ∧ p2.toInt < (v 21).toInt)) := wr_10
      refine lv_if_ne (tgt := 25) hx hb dX11_keep_20 (by decide) (fun c_11 => ?_) (fun c_11 => ?_)
      ·
        have kc_11 : r_10.toInt ≠ (0 : Int) := i_ne c_11
        refine lv_aload_n hx hb dX11_keep_25 rfl (lv_at hl 0 rfl) ?_
        refine gf_main_shelves hx hb hg hown hK hP rfl (hg _ q2_133) dX11_keep_26 ?_
        refine lv_iload_n hx hb dX11_keep_29 rfl (lv_at hl 1 rfl) ?_
        refine lv_iload_n hx hb dX11_keep_30 rfl (lv_at hl 2 rfl) ?_
        refine lv_iconst (v := (-1)) hx hb dX11_keep_31 (by decide) ?_
        refine lv_icmp_ne (tgt := 39) hx hb dX11_keep_32 (by decide) (fun c_12 => ?_) (fun c_12 => ?_)
        ·
          have kc_12 : p2.toInt ≠ (-1 : Int) := i_ne c_12
          refine lv_iconst (v := 5) hx hb dX11_keep_39 (by decide) ?_
          refine lv_iload_n hx hb dX11_keep_40 rfl (lv_at hl 2 rfl) ?_
          refine cV_v (As := [.int p1, .int 5, .int p2]) (rest := []) ⟨hx, hb, hml, hown, hg⟩ (k_X10_lay l D cs A ad fa fq rv v a w fv fp  p1 5 p2 (show 0 ≤ p1.toInt by first | omega | decide) (show p1.toInt < 6 by first | omega | decide) (show -1 ≤ (5 : Int) by first | omega | decide) (show (5 : Int) ≤ 5 by first | omega | decide) (show -1 ≤ p2.toInt by first | omega | decide) (show p2.toInt ≤ 60 by first | omega | decide) ia28_0 ia29_0) ca_X10_lay q4_167 ⟨rfl, rfl⟩ ⟨Nat.le_of_ble_eq_true rfl, Nat.le_of_ble_eq_true rfl⟩ (rc_shelves hK hP) hK hP hD hS hZ rfl hl.1 rfl (Nat.le_of_ble_eq_true rfl) ⟨Nat.zero_le _, Nat.zero_le _⟩ dX11_keep_41 (fun z_17 H locs wr_13 hP hD hS => ?_)
          obtain ⟨gsort_14, gsize_15, grow_16⟩ := z_17
          have hP : va_P D vwCl (CW cs ad fa fq rv v (va_up (va_up a 28 gsort_14) 29 gsize_15) (va_up w p1.toNatClampNeg grow_16) fv fp) H := hP
          have hD : va_D A (CW cs ad fa fq rv v (va_up (va_up a 28 gsort_14) 29 gsize_15) (va_up w p1.toNatClampNeg grow_16) fv fp) := hD
          obtain ⟨wr_13_0, wr_13_1, wr_13_2, wr_13_3, wr_13_4⟩ : (gsort_14 = upd (a 28) p1.toNatClampNeg (5 : Int32)) ∧ (gsize_15 = upd (a 29) p1.toNatClampNeg p2) ∧ (∀ j, j < 60 → grow_16 j = 0) ∧ (AB (-1) 5 gsort_14) ∧ (AB (-1) 60 gsize_15) := wr_13
          refine lv_iconst (v := 1) hx hb dX11_keep_44 (by decide) ?_
          have q0_1 : (1 : Int32).toInt = 1 := rfl
          exact W.iret (v := 1) hx hb hr (fun tt ht hW => ⟨⟨1, ⟨gsort_14, gsize_15, grow_16⟩, rfl, ⟨(by first | rfl | omega | trivial | assumption | (dsimp only; first | omega | assumption)), (fun _ => ⟨by first | (rw [if_pos (by omega)]; assumption) | (rw [if_neg (by omega)]; assumption), by assumption⟩), (fun q => absurd rfl q), wr_13_3, wr_13_4⟩, by rw [ht]; exact hP, hD⟩, hS.F ht⟩) hS.2.2 dX11_keep_45
        ·
          have kc_12 : p2.toInt = (-1 : Int) := i_eq c_12
          refine lv_iconst (v := (-1)) hx hb dX11_keep_35 (by decide) ?_
          refine lv_goto (tgt := 40) hx hb dX11_keep_36 (by decide) ?_
          refine lv_iload_n hx hb dX11_keep_40 rfl (lv_at hl 2 rfl) ?_
          refine cV_v (As := [.int p1, .int (-1), .int p2]) (rest := []) ⟨hx, hb, hml, hown, hg⟩ (k_X10_lay l D cs A ad fa fq rv v a w fv fp  p1 (-1) p2 (show 0 ≤ p1.toInt by first | omega | decide) (show p1.toInt < 6 by first | omega | decide) (show -1 ≤ (-1 : Int) by first | omega | decide) (show (-1 : Int) ≤ 5 by first | omega | decide) (show -1 ≤ p2.toInt by first | omega | decide) (show p2.toInt ≤ 60 by first | omega | decide) ia28_0 ia29_0) ca_X10_lay q4_167 ⟨rfl, rfl⟩ ⟨Nat.le_of_ble_eq_true rfl, Nat.le_of_ble_eq_true rfl⟩ (rc_shelves hK hP) hK hP hD hS hZ rfl hl.1 rfl (Nat.le_of_ble_eq_true rfl) ⟨Nat.zero_le _, Nat.zero_le _⟩ dX11_keep_41 (fun z_22 H locs wr_18 hP hD hS => ?_)
          obtain ⟨gsort_19, gsize_20, grow_21⟩ := z_22
          have hP : va_P D vwCl (CW cs ad fa fq rv v (va_up (va_up a 28 gsort_19) 29 gsize_20) (va_up w p1.toNatClampNeg grow_21) fv fp) H := hP
          have hD : va_D A (CW cs ad fa fq rv v (va_up (va_up a 28 gsort_19) 29 gsize_20) (va_up w p1.toNatClampNeg grow_21) fv fp) := hD
          obtain ⟨wr_18_0, wr_18_1, wr_18_2, wr_18_3, wr_18_4⟩ : (gsort_19 = upd (a 28) p1.toNatClampNeg (-1 : Int32)) ∧ (gsize_20 = upd (a 29) p1.toNatClampNeg p2) ∧ (∀ j, j < 60 → grow_21 j = 0) ∧ (AB (-1) 5 gsort_19) ∧ (AB (-1) 60 gsize_20) := wr_18
          refine lv_iconst (v := 1) hx hb dX11_keep_44 (by decide) ?_
          have q0_1 : (1 : Int32).toInt = 1 := rfl
          exact W.iret (v := 1) hx hb hr (fun tt ht hW => ⟨⟨1, ⟨gsort_19, gsize_20, grow_21⟩, rfl, ⟨(by first | rfl | omega | trivial | assumption | (dsimp only; first | omega | assumption)), (fun _ => ⟨by first | (rw [if_pos (by omega)]; assumption) | (rw [if_neg (by omega)]; assumption), by assumption⟩), (fun q => absurd rfl q), wr_18_3, wr_18_4⟩, by rw [ht]; exact hP, hD⟩, hS.F ht⟩) hS.2.2 dX11_keep_45
      ·
        have kc_11 : r_10.toInt = (0 : Int) := i_eq c_11
        refine lv_iconst (v := (-1)) hx hb dX11_keep_23 (by decide) ?_
        have q0_m1 : ((-1) : Int32).toInt = (-1) := rfl
        have hP : va_P D vwCl (CW cs ad fa fq rv v (va_up (va_up a 28 (a 28)) 29 (a 29)) (va_up w p1.toNatClampNeg (w p1.toNatClampNeg)) fv fp) _ := (by rw [va_up_id w p1.toNatClampNeg]; exact hP)
        have hD : va_D A (CW cs ad fa fq rv v (va_up (va_up a 28 (a 28)) 29 (a 29)) (va_up w p1.toNatClampNeg (w p1.toNatClampNeg)) fv fp) := (by rw [va_up_id w p1.toNatClampNeg]; exact hD)
        exact W.iret (v := (-1)) hx hb hr (fun tt ht hW => ⟨⟨(-1), ⟨(a 28), (a 29), (w p1.toNatClampNeg)⟩, rfl, ⟨(by first | rfl | omega | trivial | assumption | (dsimp only; first | omega | assumption)), (fun q => absurd q (by decide)), (fun _ => ⟨rfl, rfl, rfl⟩), ia28_0, ia29_0⟩, by rw [ht]; exact hP, hD⟩, hS.F ht⟩) hS.2.2 dX11_keep_24
set_option maxHeartbeats 4000000 in
set_option maxRecDepth 100000 in
theorem k_X11_row (l : Launch) (D : va_G) (cs : Nat → ClassId) (A : Nat → Prop) (ad fa fq rv : Nat → Nat) (v : Nat → Int32) (a : Nat → Nat → Int32) (w : Nat → Nat → Int64) (fv fp : Nat → Nat → Int32)  (p1 : Int32) (p2 : Int32) (p3 : Int32) (ia28_0 : AB (-1) 5 (a 28)) (ia29_0 : AB (-1) 60 (a 29)) : Met l yX11_row (Cond.code yX11_row cX11_row 4 (some .int) :: gw) ({ frames := 2, cells := 0, slots := 0, locals := 47 }) (va_Pc [.ref (ad 0), .int p1, .int p2, .int p3] (XPre D (TY cs) (CW cs ad fa fq rv v a w fv fp) A)) (va_Qi (fun (r : Int32) (z : (Nat → Int32) × (Nat → Int32) × (Nat → Int64)) => ((((0 ≤ p1.toInt ∧ p1.toInt < 6) ∧ 0 ≤ p2.toInt ∧ p2.toInt ≤ 4 ∧ p3.toInt ≤ 60) ∧ ((p3.toInt < 0 ∧ r.toInt = -14) ∨ (0 ≤ p3.toInt ∧ r.toInt = 1))) ∨ (¬ ((0 ≤ p1.toInt ∧ p1.toInt < 6) ∧ 0 ≤ p2.toInt ∧ p2.toInt ≤ 4 ∧ p3.toInt ≤ 60) ∧ r.toInt = -1)) ∧ (r.toInt = 1 → z.1 = upd (a 28) p1.toNatClampNeg p2 ∧ z.2.1 = upd (a 29) p1.toNatClampNeg p3 ∧ (∀ j, j < 60 → z.2.2 j = 0)) ∧ (r.toInt ≠ 1 → z.1 = (a 28) ∧ z.2.1 = (a 29) ∧ z.2.2 = (w p1.toNatClampNeg)) ∧ (AB (-1) 5 z.1) ∧ (AB (-1) 60 z.2.1)) (XPo D (fun (z : (Nat → Int32) × (Nat → Int32) × (Nat → Int64)) => CW cs ad fa fq rv v (va_up (va_up a 28 z.1) 29 z.2.1) (va_up w p1.toNatClampNeg z.2.2) fv fp) A) A) 0 0 A := by
  refine Met.ofW (cc := cX11_row) (maxL := 4) (ret := (some .int)) (by decide) rfl ?_
  intro p e s m args below meth c s₁ B hml hv
  obtain ⟨rfl, hP, hK, hD, hZ⟩ := hv
  have hx := B.exec
  have hb := B.bytes
  have hr := B.returns
  have hts := atoms_spec (ws := (Cond.code yX11_row cX11_row 4 (some .int) :: gw)) B.pre
  have hg : ∀ w ∈ gw, w.before ([.ref (ad 0), .int p1, .int p2, .int p3] : List Value).toArray s = true := fun w h => hts w (List.mem_cons_of_mem _ h)
  have hown : s.vm.findClass RX11 = some m.cls := findClass_of_methodNamed B.named
  have hlocks := B.notSynchronized
  have hS : va_S A s.heap s.heap [] := va_S.rf
  have hP : va_P D vwCl (CW cs ad fa fq rv v a w fv fp) s.heap := hP
  have hl := lv_entry ([.ref (ad 0), .int p1, .int p2, .int p3]) (n := 4) (Nat.le_of_ble_eq_true rfl)
  rw [lg_entry_eq]
  generalize (lg_sl ([.ref (ad 0), .int p1, .int p2, .int p3]) ++ List.replicate (4 - (lg_sl ([.ref (ad 0), .int p1, .int p2, .int p3])).length) Slot.unset).toArray = ls at hl ⊢
  have hl : lv_has ls 4 [(0, .ref (ad 0)), (1, .int p1), (2, .int p2), (3, .int p3)] := hl
  refine lv_iload_n hx hb dX11_row_0 rfl (lv_at hl 1 rfl) ?_
  refine cS_p (As := [.int p1]) (rest := []) ⟨hx, hb, hml, hown, hg⟩ (k_X10_isShelf l   p1 ) ca_X10_isShelf q2_205 ⟨rfl, rfl⟩ ⟨Nat.le_of_ble_eq_true rfl, Nat.le_of_ble_eq_true rfl⟩ rfl hl.1 rfl (Nat.le_of_ble_eq_true rfl) ⟨Nat.zero_le _, Nat.zero_le _⟩ dX11_row_1 (fun r_1 wr_1 => ?_)
  have wr_1 : (r_1.toInt = 1 ∧ 0 ≤ p1.toInt ∧ p1.toInt < 6) ∨ (r_1.toInt = 0 ∧ ¬ (0 ≤ p1.toInt ∧ p1.toInt < 6)) := wr_1
  refine lv_if_eq (tgt := 22) hx hb dX11_row_4 (by decide) (fun c_2 => ?_) (fun c_2 => ?_)
  ·
    have kc_2 : r_1.toInt = (0 : Int) := i_eq c_2
    refine lv_iconst (v := (-1)) hx hb dX11_row_22 (by decide) ?_
    have q0_m1 : ((-1) : Int32).toInt = (-1) := rfl
    have hP : va_P D vwCl (CW cs ad fa fq rv v (va_up (va_up a 28 (a 28)) 29 (a 29)) (va_up w p1.toNatClampNeg (w p1.toNatClampNeg)) fv fp) _ := (by rw [va_up_id w p1.toNatClampNeg]; exact hP)
    have hD : va_D A (CW cs ad fa fq rv v (va_up (va_up a 28 (a 28)) 29 (a 29)) (va_up w p1.toNatClampNeg (w p1.toNatClampNeg)) fv fp) := (by rw [va_up_id w p1.toNatClampNeg]; exact hD)
    exact W.iret (v := (-1)) hx hb hr (fun tt ht hW => ⟨⟨(-1), ⟨(a 28), (a 29), (w p1.toNatClampNeg)⟩, rfl, ⟨(by first | rfl | omega | trivial | assumption | (dsimp only; first | omega | assumption)), (fun q => absurd q (by decide)), (fun _ => ⟨rfl, rfl, rfl⟩), ia28_0, ia29_0⟩, by rw [ht]; exact hP, hD⟩, hS.F ht⟩) hS.2.2 dX11_row_23
  ·
    have kc_2 : r_1.toInt ≠ (0 : Int) := i_ne c_2
    refine lv_iload_n hx hb dX11_row_7 rfl (lv_at hl 2 rfl) ?_
    refine lv_if_lt (tgt := 22) hx hb dX11_row_8 (by decide) (fun c_3 => ?_) (fun c_3 => ?_)
    ·
      have kc_3 : p2.toInt < (0 : Int) := i_lt c_3
      refine lv_iconst (v := (-1)) hx hb dX11_row_22 (by decide) ?_
      have q0_m1 : ((-1) : Int32).toInt = (-1) := rfl
      have hP : va_P D vwCl (CW cs ad fa fq rv v (va_up (va_up a 28 (a 28)) 29 (a 29)) (va_up w p1.toNatClampNeg (w p1.toNatClampNeg)) fv fp) _ := (by rw [va_up_id w p1.toNatClampNeg]; exact hP)
      have hD : va_D A (CW cs ad fa fq rv v (va_up (va_up a 28 (a 28)) 29 (a 29)) (va_up w p1.toNatClampNeg (w p1.toNatClampNeg)) fv fp) := (by rw [va_up_id w p1.toNatClampNeg]; exact hD)
      exact W.iret (v := (-1)) hx hb hr (fun tt ht hW => ⟨⟨(-1), ⟨(a 28), (a 29), (w p1.toNatClampNeg)⟩, rfl, ⟨(by first | rfl | omega | trivial | assumption | (dsimp only; first | omega | assumption)), (fun q => absurd q (by decide)), (fun _ => ⟨rfl, rfl, rfl⟩), ia28_0, ia29_0⟩, by rw [ht]; exact hP, hD⟩, hS.F ht⟩) hS.2.2 dX11_row_23
    ·
      have kc_3 : (0 : Int) ≤ p2.toInt := i_nlt c_3
      refine lv_iload_n hx hb dX11_row_11 rfl (lv_at hl 2 rfl) ?_
      refine lv_iconst (v := 4) hx hb dX11_row_12 (by decide) ?_
      refine lv_icmp_gt (tgt := 22) hx hb dX11_row_13 (by decide) (fun c_4 => ?_) (fun c_4 => ?_)
      ·
        have kc_4 : (4 : Int) < p2.toInt := i_lt c_4
        refine lv_iconst (v := (-1)) hx hb dX11_row_22 (by decide) ?_
        have q0_m1 : ((-1) : Int32).toInt = (-1) := rfl
        have hP : va_P D vwCl (CW cs ad fa fq rv v (va_up (va_up a 28 (a 28)) 29 (a 29)) (va_up w p1.toNatClampNeg (w p1.toNatClampNeg)) fv fp) _ := (by rw [va_up_id w p1.toNatClampNeg]; exact hP)
        have hD : va_D A (CW cs ad fa fq rv v (va_up (va_up a 28 (a 28)) 29 (a 29)) (va_up w p1.toNatClampNeg (w p1.toNatClampNeg)) fv fp) := (by rw [va_up_id w p1.toNatClampNeg]; exact hD)
        exact W.iret (v := (-1)) hx hb hr (fun tt ht hW => ⟨⟨(-1), ⟨(a 28), (a 29), (w p1.toNatClampNeg)⟩, rfl, ⟨(by first | rfl | omega | trivial | assumption | (dsimp only; first | omega | assumption)), (fun q => absurd q (by decide)), (fun _ => ⟨rfl, rfl, rfl⟩), ia28_0, ia29_0⟩, by rw [ht]; exact hP, hD⟩, hS.F ht⟩) hS.2.2 dX11_row_23
      ·
        have kc_4 : p2.toInt ≤ (4 : Int) := i_nlt c_4
        refine lv_iload_n hx hb dX11_row_16 rfl (lv_at hl 3 rfl) ?_
        refine lv_bipush (v := 60) hx hb dX11_row_17 (by decide) ?_
        refine lv_icmp_le (tgt := 24) hx hb dX11_row_19 (by decide) (fun c_5 => ?_) (fun c_5 => ?_)
        ·
          have kc_5 : p3.toInt ≤ (60 : Int) := i_le c_5
          refine lv_iload_n hx hb dX11_row_24 rfl (lv_at hl 3 rfl) ?_
          refine lv_if_ge (tgt := 31) hx hb dX11_row_25 (by decide) (fun c_6 => ?_) (fun c_6 => ?_)
          ·
            have kc_6 : (0 : Int) ≤ p3.toInt := i_le c_6
            refine lv_aload_n hx hb dX11_row_31 rfl (lv_at hl 0 rfl) ?_
            refine gf_main_shelves hx hb hg hown hK hP rfl (hg _ q2_133) dX11_row_32 ?_
            refine lv_iload_n hx hb dX11_row_35 rfl (lv_at hl 1 rfl) ?_
            refine lv_iload_n hx hb dX11_row_36 rfl (lv_at hl 2 rfl) ?_
            refine lv_iload_n hx hb dX11_row_37 rfl (lv_at hl 3 rfl) ?_
            refine cV_v (As := [.int p1, .int p2, .int p3]) (rest := []) ⟨hx, hb, hml, hown, hg⟩ (k_X10_lay l D cs A ad fa fq rv v a w fv fp  p1 p2 p3 (show 0 ≤ p1.toInt by first | omega | decide) (show p1.toInt < 6 by first | omega | decide) (show -1 ≤ p2.toInt by first | omega | decide) (show p2.toInt ≤ 5 by first | omega | decide) (show -1 ≤ p3.toInt by first | omega | decide) (show p3.toInt ≤ 60 by first | omega | decide) ia28_0 ia29_0) ca_X10_lay q4_167 ⟨rfl, rfl⟩ ⟨Nat.le_of_ble_eq_true rfl, Nat.le_of_ble_eq_true rfl⟩ (rc_shelves hK hP) hK hP hD hS hZ rfl hl.1 rfl (Nat.le_of_ble_eq_true rfl) ⟨Nat.zero_le _, Nat.zero_le _⟩ dX11_row_38 (fun z_11 H locs wr_7 hP hD hS => ?_)
            obtain ⟨gsort_8, gsize_9, grow_10⟩ := z_11
            have hP : va_P D vwCl (CW cs ad fa fq rv v (va_up (va_up a 28 gsort_8) 29 gsize_9) (va_up w p1.toNatClampNeg grow_10) fv fp) H := hP
            have hD : va_D A (CW cs ad fa fq rv v (va_up (va_up a 28 gsort_8) 29 gsize_9) (va_up w p1.toNatClampNeg grow_10) fv fp) := hD
            obtain ⟨wr_7_0, wr_7_1, wr_7_2, wr_7_3, wr_7_4⟩ : (gsort_8 = upd (a 28) p1.toNatClampNeg p2) ∧ (gsize_9 = upd (a 29) p1.toNatClampNeg p3) ∧ (∀ j, j < 60 → grow_10 j = 0) ∧ (AB (-1) 5 gsort_8) ∧ (AB (-1) 60 gsize_9) := wr_7
            refine lv_iconst (v := 1) hx hb dX11_row_41 (by decide) ?_
            have q0_1 : (1 : Int32).toInt = 1 := rfl
            exact W.iret (v := 1) hx hb hr (fun tt ht hW => ⟨⟨1, ⟨gsort_8, gsize_9, grow_10⟩, rfl, ⟨(by first | rfl | omega | trivial | assumption | (dsimp only; first | omega | assumption)), (fun _ => ⟨by assumption, by assumption, by assumption⟩), (fun q => absurd rfl q), wr_7_3, wr_7_4⟩, by rw [ht]; exact hP, hD⟩, hS.F ht⟩) hS.2.2 dX11_row_42
          ·
            have kc_6 : p3.toInt < (0 : Int) := i_nle c_6
            refine lv_bipush (v := (-14)) hx hb dX11_row_28 (by decide) ?_
            have q0_m14 : ((-14) : Int32).toInt = (-14) := rfl
            have hP : va_P D vwCl (CW cs ad fa fq rv v (va_up (va_up a 28 (a 28)) 29 (a 29)) (va_up w p1.toNatClampNeg (w p1.toNatClampNeg)) fv fp) _ := (by rw [va_up_id w p1.toNatClampNeg]; exact hP)
            have hD : va_D A (CW cs ad fa fq rv v (va_up (va_up a 28 (a 28)) 29 (a 29)) (va_up w p1.toNatClampNeg (w p1.toNatClampNeg)) fv fp) := (by rw [va_up_id w p1.toNatClampNeg]; exact hD)
            exact W.iret (v := (-14)) hx hb hr (fun tt ht hW => ⟨⟨(-14), ⟨(a 28), (a 29), (w p1.toNatClampNeg)⟩, rfl, ⟨(by first | rfl | omega | trivial | assumption | (dsimp only; first | omega | assumption)), (fun q => absurd q (by decide)), (fun _ => ⟨rfl, rfl, rfl⟩), ia28_0, ia29_0⟩, by rw [ht]; exact hP, hD⟩, hS.F ht⟩) hS.2.2 dX11_row_30
        ·
          have kc_5 : (60 : Int) < p3.toInt := i_nle c_5
          refine lv_iconst (v := (-1)) hx hb dX11_row_22 (by decide) ?_
          have q0_m1 : ((-1) : Int32).toInt = (-1) := rfl
          have hP : va_P D vwCl (CW cs ad fa fq rv v (va_up (va_up a 28 (a 28)) 29 (a 29)) (va_up w p1.toNatClampNeg (w p1.toNatClampNeg)) fv fp) _ := (by rw [va_up_id w p1.toNatClampNeg]; exact hP)
          have hD : va_D A (CW cs ad fa fq rv v (va_up (va_up a 28 (a 28)) 29 (a 29)) (va_up w p1.toNatClampNeg (w p1.toNatClampNeg)) fv fp) := (by rw [va_up_id w p1.toNatClampNeg]; exact hD)
          exact W.iret (v := (-1)) hx hb hr (fun tt ht hW => ⟨⟨(-1), ⟨(a 28), (a 29), (w p1.toNatClampNeg)⟩, rfl, ⟨(by first | rfl | omega | trivial | assumption | (dsimp only; first | omega | assumption)), (fun q => absurd q (by decide)), (fun _ => ⟨rfl, rfl, rfl⟩), ia28_0, ia29_0⟩, by rw [ht]; exact hP, hD⟩, hS.F ht⟩) hS.2.2 dX11_row_23
set_option maxHeartbeats 4000000 in
set_option maxRecDepth 100000 in
theorem k_X11_put (l : Launch) (D : va_G) (cs : Nat → ClassId) (A : Nat → Prop) (ad fa fq rv : Nat → Nat) (v : Nat → Int32) (a : Nat → Nat → Int32) (w : Nat → Nat → Int64) (fv fp : Nat → Nat → Int32)  (p1 : Int32) (p2 : Int32) (p3 : Int64) (ia28_0 : AB (-1) 5 (a 28)) (ia29_0 : AB (-1) 60 (a 29)) : Met l yX11_put (Cond.code yX11_put cX11_put 6 (some .int) :: gw) ({ frames := 2, cells := 0, slots := 0, locals := 46 }) (va_Pc [.ref (ad 0), .int p1, .int p2, .long p3] (XPre D (TY cs) (CW cs ad fa fq rv v a w fv fp) A)) (va_Qi (fun (r : Int32) (z : Nat → Int64) => ((¬ (0 ≤ p1.toInt ∧ p1.toInt < 6) ∧ r.toInt = -1) ∨ ((0 ≤ p1.toInt ∧ p1.toInt < 6) ∧ ((((a 28) p1.toNatClampNeg).toInt = -1 ∧ r.toInt = -11) ∨ (((a 28) p1.toNatClampNeg).toInt = 5 ∧ r.toInt = -12) ∨ ((((a 28) p1.toNatClampNeg).toInt ≠ -1 ∧ ((a 28) p1.toNatClampNeg).toInt ≠ 5) ∧ (0 ≤ p2.toInt ∧ p2.toInt < ((a 29) p1.toNatClampNeg).toInt) ∧ r.toInt = 1) ∨ ((((a 28) p1.toNatClampNeg).toInt ≠ -1 ∧ ((a 28) p1.toNatClampNeg).toInt ≠ 5) ∧ ¬ (0 ≤ p2.toInt ∧ p2.toInt < ((a 29) p1.toNatClampNeg).toInt) ∧ r.toInt = -13)))) ∧ (r.toInt = 1 → z = vp_updL (w p1.toNatClampNeg) p2.toNatClampNeg (LOWV ((a 28) p1.toNatClampNeg).toInt p3)) ∧ (r.toInt ≠ 1 → z = (w p1.toNatClampNeg))) (XPo D (fun (z : Nat → Int64) => CW cs ad fa fq rv v a (va_up w p1.toNatClampNeg z) fv fp) A) A) 0 0 A := by
  refine Met.ofW (cc := cX11_put) (maxL := 6) (ret := (some .int)) (by decide) rfl ?_
  intro p e s m args below meth c s₁ B hml hv
  obtain ⟨rfl, hP, hK, hD, hZ⟩ := hv
  have hx := B.exec
  have hb := B.bytes
  have hr := B.returns
  have hts := atoms_spec (ws := (Cond.code yX11_put cX11_put 6 (some .int) :: gw)) B.pre
  have hg : ∀ w ∈ gw, w.before ([.ref (ad 0), .int p1, .int p2, .long p3] : List Value).toArray s = true := fun w h => hts w (List.mem_cons_of_mem _ h)
  have hown : s.vm.findClass RX11 = some m.cls := findClass_of_methodNamed B.named
  have hlocks := B.notSynchronized
  have hS : va_S A s.heap s.heap [] := va_S.rf
  have hP : va_P D vwCl (CW cs ad fa fq rv v a w fv fp) s.heap := hP
  have hl := lv_entry ([.ref (ad 0), .int p1, .int p2, .long p3]) (n := 6) (Nat.le_of_ble_eq_true rfl)
  rw [lg_entry_eq]
  generalize (lg_sl ([.ref (ad 0), .int p1, .int p2, .long p3]) ++ List.replicate (6 - (lg_sl ([.ref (ad 0), .int p1, .int p2, .long p3])).length) Slot.unset).toArray = ls at hl ⊢
  have hl : lv_has ls 6 [(0, .ref (ad 0)), (1, .int p1), (2, .int p2), (3, .long p3)] := hl
  refine lv_aload_n hx hb dX11_put_0 rfl (lv_at hl 0 rfl) ?_
  refine gf_main_shelves hx hb hg hown hK hP rfl (hg _ q2_133) dX11_put_1 ?_
  refine lv_iload_n hx hb dX11_put_4 rfl (lv_at hl 1 rfl) ?_
  refine lv_iload_n hx hb dX11_put_5 rfl (lv_at hl 2 rfl) ?_
  refine cV_ro (As := [.int p1, .int p2]) (rest := []) ⟨hx, hb, hml, hown, hg⟩ (k_X10_faultOfPlace l D cs A ad fa fq rv v a w fv fp  p1 p2 ia28_0 ia29_0) ca_X10_faultOfPlace q4_182 ⟨rfl, rfl⟩ ⟨Nat.le_of_ble_eq_true rfl, Nat.le_of_ble_eq_true rfl⟩ (rc_shelves hK hP) hK hP hD hS hZ rfl hl.1 rfl (Nat.le_of_ble_eq_true rfl) ⟨Nat.zero_le _, Nat.zero_le _⟩ dX11_put_6 (fun r_1 wr_1 => ?_)
  obtain ⟨wr_1_0, wr_1_1⟩ : ((¬ (0 ≤ p1.toInt ∧ p1.toInt < 6) ∧ r_1.toInt = -1) ∨ ((0 ≤ p1.toInt ∧ p1.toInt < 6) ∧ ((((a 28) p1.toNatClampNeg).toInt = -1 ∧ r_1.toInt = -11) ∨ (((a 28) p1.toNatClampNeg).toInt = 5 ∧ r_1.toInt = -12) ∨ ((((a 28) p1.toNatClampNeg).toInt ≠ -1 ∧ ((a 28) p1.toNatClampNeg).toInt ≠ 5) ∧ (0 ≤ p2.toInt ∧ p2.toInt < ((a 29) p1.toNatClampNeg).toInt) ∧ r_1.toInt = 0) ∨ ((((a 28) p1.toNatClampNeg).toInt ≠ -1 ∧ ((a 28) p1.toNatClampNeg).toInt ≠ 5) ∧ ¬ (0 ≤ p2.toInt ∧ p2.toInt < ((a 29) p1.toNatClampNeg).toInt) ∧ r_1.toInt = -13)))) ∧ (r_1.toInt = 0 → p2.toInt < 60) := wr_1
  refine lv_istore (lv' := [(5, .int r_1), (0, .ref (ad 0)), (1, .int p1), (2, .int p2), (3, .long p3)]) hx hb dX11_put_9 hl (by decide) rfl (fun ls hl => ?_)
  refine lv_iload hx hb dX11_put_11 (lv_at hl 0 rfl) ?_
  refine lv_if_ge (tgt := 19) hx hb dX11_put_13 (by decide) (fun c_2 => ?_) (fun c_2 => ?_)
  ·
    have kc_2 : (0 : Int) ≤ r_1.toInt := i_le c_2
    have bsp := ia28_0 p1.toNatClampNeg
    refine lv_aload_n hx hb dX11_put_19 rfl (lv_at hl 1 rfl) ?_
    refine gf_main_shelves hx hb hg hown hK hP rfl (hg _ q2_133) dX11_put_20 ?_
    refine lv_iload_n hx hb dX11_put_23 rfl (lv_at hl 2 rfl) ?_
    refine lv_iload_n hx hb dX11_put_24 rfl (lv_at hl 3 rfl) ?_
    refine lv_lload_n hx hb dX11_put_25 rfl (lv_at hl 4 rfl) ?_
    refine cV_v (As := [.int p1, .int p2, .long p3]) (rest := []) ⟨hx, hb, hml, hown, hg⟩ (k_X10_set l D cs A ad fa fq rv v a w fv fp  p1 p2 p3 (show 0 ≤ p1.toInt by first | omega | decide) (show p1.toInt < 6 by first | omega | decide) (show 0 ≤ p2.toInt by first | omega | decide) (show p2.toInt < 60 by first | omega | decide) (show 0 ≤ ((a 28) p1.toNatClampNeg).toInt by first | omega | decide) (show ((a 28) p1.toNatClampNeg).toInt ≤ 4 by first | omega | decide) ia28_0) ca_X10_set q4_187 ⟨rfl, rfl⟩ ⟨Nat.le_of_ble_eq_true rfl, Nat.le_of_ble_eq_true rfl⟩ (rc_shelves hK hP) hK hP hD hS hZ rfl hl.1 rfl (Nat.le_of_ble_eq_true rfl) ⟨Nat.zero_le _, Nat.zero_le _⟩ dX11_put_26 (fun grow_4 H locs wr_3 hP hD hS => ?_)
    have hP : va_P D vwCl (CW cs ad fa fq rv v a (va_up w p1.toNatClampNeg grow_4) fv fp) H := hP
    have hD : va_D A (CW cs ad fa fq rv v a (va_up w p1.toNatClampNeg grow_4) fv fp) := hD
    have wr_3_0 : grow_4 = vp_updL (w p1.toNatClampNeg) p2.toNatClampNeg (LOWV ((a 28) p1.toNatClampNeg).toInt p3) := wr_3
    refine lv_iconst (v := 1) hx hb dX11_put_29 (by decide) ?_
    have q0_1 : (1 : Int32).toInt = 1 := rfl
    exact W.iret (v := 1) hx hb hr (fun tt ht hW => ⟨⟨1, grow_4, rfl, ⟨(Or.inr ⟨⟨by omega, by omega⟩, Or.inr (Or.inr (Or.inl ⟨by omega, ⟨by omega, by omega⟩, rfl⟩))⟩), (fun _ => by assumption), (fun q => absurd rfl q)⟩, by rw [ht]; exact hP, hD⟩, hS.F ht⟩) hS.2.2 dX11_put_30
  ·
    have kc_2 : r_1.toInt < (0 : Int) := i_nle c_2
    refine lv_iload hx hb dX11_put_16 (lv_at hl 0 rfl) ?_
    have hP : va_P D vwCl (CW cs ad fa fq rv v a (va_up w p1.toNatClampNeg (w p1.toNatClampNeg)) fv fp) _ := (by rw [va_up_id w p1.toNatClampNeg]; exact hP)
    have hD : va_D A (CW cs ad fa fq rv v a (va_up w p1.toNatClampNeg (w p1.toNatClampNeg)) fv fp) := (by rw [va_up_id w p1.toNatClampNeg]; exact hD)
    exact W.iret (v := r_1) hx hb hr (fun tt ht hW => ⟨⟨r_1, (w p1.toNatClampNeg), rfl, ⟨(by rcases wr_1_0 with ⟨a1, b1⟩ | ⟨a1, ⟨b1, c1⟩ | ⟨b1, c1⟩ | ⟨b1, c1, d1⟩ | ⟨b1, c1, d1⟩⟩ <;> first | exact Or.inl ⟨a1, b1⟩ | exact Or.inr ⟨a1, Or.inl ⟨b1, c1⟩⟩ | exact Or.inr ⟨a1, Or.inr (Or.inl ⟨b1, c1⟩)⟩ | (exfalso; omega) | exact Or.inr ⟨a1, Or.inr (Or.inr (Or.inr ⟨b1, c1, d1⟩))⟩), (fun q => absurd q (by omega)), (fun _ => rfl)⟩, by rw [ht]; exact hP, hD⟩, hS.F ht⟩) hS.2.2 dX11_put_18
set_option maxHeartbeats 4000000 in
set_option maxRecDepth 100000 in
theorem k_X11_element (l : Launch) (D : va_G) (cs : Nat → ClassId) (A : Nat → Prop) (ad fa fq rv : Nat → Nat) (v : Nat → Int32) (a : Nat → Nat → Int32) (w : Nat → Nat → Int64) (fv fp : Nat → Nat → Int32)  (p1 : Int32) (p2 : Int32) (ia28_0 : AB (-1) 5 (a 28)) (ia29_0 : AB (-1) 60 (a 29)) : Met l yX11_element (Cond.code yX11_element cX11_element 3 (some .long) :: gw) ({ frames := 2, cells := 0, slots := 0, locals := 43 }) (va_Pc [.ref (ad 0), .int p1, .int p2] (XPre D (TY cs) (CW cs ad fa fq rv v a w fv fp) A)) (vp_Sl (fun (r : Int64) => ((((0 ≤ p1.toInt ∧ p1.toInt < 6) ∧ (((a 28) p1.toNatClampNeg).toInt ≠ -1 ∧ ((a 28) p1.toNatClampNeg).toInt ≠ 5) ∧ 0 ≤ p2.toInt ∧ p2.toInt < ((a 29) p1.toNatClampNeg).toInt) ∧ r = (w p1.toNatClampNeg) p2.toNatClampNeg) ∨ (¬ ((0 ≤ p1.toInt ∧ p1.toInt < 6) ∧ (((a 28) p1.toNatClampNeg).toInt ≠ -1 ∧ ((a 28) p1.toNatClampNeg).toInt ≠ 5) ∧ 0 ≤ p2.toInt ∧ p2.toInt < ((a 29) p1.toNatClampNeg).toInt) ∧ r = -9223372036854775808)))) 0 0 (fun _ => False) := by
  refine Met.ofW (cc := cX11_element) (maxL := 3) (ret := (some .long)) (by decide) rfl ?_
  intro p e s m args below meth c s₁ B hml hv
  obtain ⟨rfl, hP, hK, hD, hZ⟩ := hv
  have hx := B.exec
  have hb := B.bytes
  have hr := B.returns
  have hts := atoms_spec (ws := (Cond.code yX11_element cX11_element 3 (some .long) :: gw)) B.pre
  have hg : ∀ w ∈ gw, w.before ([.ref (ad 0), .int p1, .int p2] : List Value).toArray s = true := fun w h => hts w (List.mem_cons_of_mem _ h)
  have hown : s.vm.findClass RX11 = some m.cls := findClass_of_methodNamed B.named
  have hlocks := B.notSynchronized
  have hS : va_S A s.heap s.heap [] := va_S.rf
  have hl := lv_entry ([.ref (ad 0), .int p1, .int p2]) (n := 3) (Nat.le_of_ble_eq_true rfl)
  rw [lg_entry_eq]
  generalize (lg_sl ([.ref (ad 0), .int p1, .int p2]) ++ List.replicate (3 - (lg_sl ([.ref (ad 0), .int p1, .int p2])).length) Slot.unset).toArray = ls at hl ⊢
  have hl : lv_has ls 3 [(0, .ref (ad 0)), (1, .int p1), (2, .int p2)] := hl
  refine lv_aload_n hx hb dX11_element_0 rfl (lv_at hl 0 rfl) ?_
  refine gf_main_shelves hx hb hg hown hK hP rfl (hg _ q2_133) dX11_element_1 ?_
  refine lv_iload_n hx hb dX11_element_4 rfl (lv_at hl 1 rfl) ?_
  refine lv_iload_n hx hb dX11_element_5 rfl (lv_at hl 2 rfl) ?_
  refine cV_ro (As := [.int p1, .int p2]) (rest := []) ⟨hx, hb, hml, hown, hg⟩ (k_X10_faultOfPlace l D cs A ad fa fq rv v a w fv fp  p1 p2 ia28_0 ia29_0) ca_X10_faultOfPlace q4_182 ⟨rfl, rfl⟩ ⟨Nat.le_of_ble_eq_true rfl, Nat.le_of_ble_eq_true rfl⟩ (rc_shelves hK hP) hK hP hD hS hZ rfl hl.1 rfl (Nat.le_of_ble_eq_true rfl) ⟨Nat.zero_le _, Nat.zero_le _⟩ dX11_element_6 (fun r_1 wr_1 => ?_)
  obtain ⟨wr_1_0, wr_1_1⟩ : ((¬ (0 ≤ p1.toInt ∧ p1.toInt < 6) ∧ r_1.toInt = -1) ∨ ((0 ≤ p1.toInt ∧ p1.toInt < 6) ∧ ((((a 28) p1.toNatClampNeg).toInt = -1 ∧ r_1.toInt = -11) ∨ (((a 28) p1.toNatClampNeg).toInt = 5 ∧ r_1.toInt = -12) ∨ ((((a 28) p1.toNatClampNeg).toInt ≠ -1 ∧ ((a 28) p1.toNatClampNeg).toInt ≠ 5) ∧ (0 ≤ p2.toInt ∧ p2.toInt < ((a 29) p1.toNatClampNeg).toInt) ∧ r_1.toInt = 0) ∨ ((((a 28) p1.toNatClampNeg).toInt ≠ -1 ∧ ((a 28) p1.toNatClampNeg).toInt ≠ 5) ∧ ¬ (0 ≤ p2.toInt ∧ p2.toInt < ((a 29) p1.toNatClampNeg).toInt) ∧ r_1.toInt = -13)))) ∧ (r_1.toInt = 0 → p2.toInt < 60) := wr_1
  refine lv_if_ge (tgt := 18) hx hb dX11_element_9 (by decide) (fun c_2 => ?_) (fun c_2 => ?_)
  ·
    have kc_2 : (0 : Int) ≤ r_1.toInt := i_le c_2
    refine lv_aload_n hx hb dX11_element_18 rfl (lv_at hl 0 rfl) ?_
    refine gf_main_shelves hx hb hg hown hK hP rfl (hg _ q2_133) dX11_element_19 ?_
    refine lv_iload_n hx hb dX11_element_22 rfl (lv_at hl 1 rfl) ?_
    refine lv_iload_n hx hb dX11_element_23 rfl (lv_at hl 2 rfl) ?_
    refine cV_rol (As := [.int p1, .int p2]) (rest := []) ⟨hx, hb, hml, hown, hg⟩ (k_X10_get l D cs A ad fa fq rv v a w fv fp  p1 p2 (show 0 ≤ p1.toInt by first | omega | decide) (show p1.toInt < 6 by first | omega | decide) (show 0 ≤ p2.toInt by first | omega | decide) (show p2.toInt < 60 by first | omega | decide)) ca_X10_get q2_230 ⟨rfl, rfl⟩ ⟨Nat.le_of_ble_eq_true rfl, Nat.le_of_ble_eq_true rfl⟩ (rc_shelves hK hP) hK hP hD hS hZ rfl hl.1 rfl (Nat.le_of_ble_eq_true rfl) ⟨Nat.zero_le _, Nat.zero_le _⟩ dX11_element_24 (fun r_3 wr_3 => ?_)
    have wr_3_0 : r_3 = ((w p1.toNatClampNeg) p2.toNatClampNeg) := wr_3
    exact W.lret (v := r_3) hx hb hr (fun tt ht hW => ⟨r_3, rfl, (by first | exact Or.inl ⟨by omega, by assumption⟩ | exact Or.inr ⟨by omega, rfl⟩), ht⟩) (fun _ h => by cases h) dX11_element_27
  ·
    have kc_2 : r_1.toInt < (0 : Int) := i_nle c_2
    refine lv_ldc2 hx hb hown (v := (-9223372036854775808)) (hg _ q4_198) dX11_element_12 ?_
    refine lv_goto (tgt := 27) hx hb dX11_element_15 (by decide) ?_
    exact W.lret (v := (-9223372036854775808)) hx hb hr (fun tt ht hW => ⟨(-9223372036854775808), rfl, (by first | exact Or.inl ⟨by omega, by assumption⟩ | exact Or.inr ⟨by omega, rfl⟩), ht⟩) (fun _ h => by cases h) dX11_element_27
set_option maxHeartbeats 4000000 in
set_option maxRecDepth 100000 in
theorem k_X11_shift (l : Launch) (D : va_G) (cs : Nat → ClassId) (A : Nat → Prop) (ad fa fq rv : Nat → Nat) (v : Nat → Int32) (a : Nat → Nat → Int32) (w : Nat → Nat → Int64) (fv fp : Nat → Nat → Int32)  (p1 : Int32) (p2 : Int32) (p3 : Int32) (p4 : Int32) (p5 : Int32) (ia28_0 : AB (-1) 5 (a 28)) (ia29_0 : AB (-1) 60 (a 29)) : Met l yX11_shift (Cond.code yX11_shift cX11_shift 6 (some .int) :: gw) ({ frames := 2, cells := 0, slots := 0, locals := 85 }) (va_Pc [.ref (ad 0), .int p1, .int p2, .int p3, .int p4, .int p5] (XPre D (TY cs) (CW cs ad fa fq rv v a w fv fp) A)) (va_Qi (fun (r : Int32) (z : Nat → Int64) => ((¬ ((0 ≤ p1.toInt ∧ p1.toInt < 6) ∧ 0 ≤ p3.toInt ∧ p3.toInt < 6) ∧ r.toInt = -1) ∨ (((0 ≤ p1.toInt ∧ p1.toInt < 6) ∧ 0 ≤ p3.toInt ∧ p3.toInt < 6) ∧ (((((a 28) p1.toNatClampNeg).toInt = -1 ∨ ((a 28) p3.toNatClampNeg).toInt = -1) ∧ r.toInt = -11) ∨ (¬ (((a 28) p1.toNatClampNeg).toInt = -1 ∨ ((a 28) p3.toNatClampNeg).toInt = -1) ∧ ¬ ((((a 28) p1.toNatClampNeg).toInt ≠ -1 ∧ ((a 28) p1.toNatClampNeg).toInt ≠ 5) ∧ ((a 28) p1.toNatClampNeg).toInt = ((a 28) p3.toNatClampNeg).toInt) ∧ r.toInt = -12) ∨ (¬ (((a 28) p1.toNatClampNeg).toInt = -1 ∨ ((a 28) p3.toNatClampNeg).toInt = -1) ∧ ((((a 28) p1.toNatClampNeg).toInt ≠ -1 ∧ ((a 28) p1.toNatClampNeg).toInt ≠ 5) ∧ ((a 28) p1.toNatClampNeg).toInt = ((a 28) p3.toNatClampNeg).toInt) ∧ ¬ (0 ≤ p2.toInt ∧ 0 ≤ p4.toInt ∧ 0 ≤ p5.toInt ∧ p2.toInt + p5.toInt ≤ ((a 29) p1.toNatClampNeg).toInt ∧ p4.toInt + p5.toInt ≤ ((a 29) p3.toNatClampNeg).toInt) ∧ r.toInt = -13) ∨ (¬ (((a 28) p1.toNatClampNeg).toInt = -1 ∨ ((a 28) p3.toNatClampNeg).toInt = -1) ∧ ((((a 28) p1.toNatClampNeg).toInt ≠ -1 ∧ ((a 28) p1.toNatClampNeg).toInt ≠ 5) ∧ ((a 28) p1.toNatClampNeg).toInt = ((a 28) p3.toNatClampNeg).toInt) ∧ (0 ≤ p2.toInt ∧ 0 ≤ p4.toInt ∧ 0 ≤ p5.toInt ∧ p2.toInt + p5.toInt ≤ ((a 29) p1.toNatClampNeg).toInt ∧ p4.toInt + p5.toInt ≤ ((a 29) p3.toNatClampNeg).toInt) ∧ r.toInt = p5.toInt)))) ∧ (0 ≤ r.toInt → z = va_cpy (w p1.toNatClampNeg) (w p3.toNatClampNeg) p2.toNatClampNeg p4.toNatClampNeg p5.toNatClampNeg) ∧ (r.toInt < 0 → z = (w p3.toNatClampNeg))) (XPo D (fun (z : Nat → Int64) => CW cs ad fa fq rv v a (va_up w p3.toNatClampNeg z) fv fp) A) A) 0 0 A := by
  refine Met.ofW (cc := cX11_shift) (maxL := 6) (ret := (some .int)) (by decide) rfl ?_
  intro p e s m args below meth c s₁ B hml hv
  obtain ⟨rfl, hP, hK, hD, hZ⟩ := hv
  have hx := B.exec
  have hb := B.bytes
  have hr := B.returns
  have hts := atoms_spec (ws := (Cond.code yX11_shift cX11_shift 6 (some .int) :: gw)) B.pre
  have hg : ∀ w ∈ gw, w.before ([.ref (ad 0), .int p1, .int p2, .int p3, .int p4, .int p5] : List Value).toArray s = true := fun w h => hts w (List.mem_cons_of_mem _ h)
  have hown : s.vm.findClass RX11 = some m.cls := findClass_of_methodNamed B.named
  have hlocks := B.notSynchronized
  have hS : va_S A s.heap s.heap [] := va_S.rf
  have hP : va_P D vwCl (CW cs ad fa fq rv v a w fv fp) s.heap := hP
  have hl := lv_entry ([.ref (ad 0), .int p1, .int p2, .int p3, .int p4, .int p5]) (n := 6) (Nat.le_of_ble_eq_true rfl)
  rw [lg_entry_eq]
  generalize (lg_sl ([.ref (ad 0), .int p1, .int p2, .int p3, .int p4, .int p5]) ++ List.replicate (6 - (lg_sl ([.ref (ad 0), .int p1, .int p2, .int p3, .int p4, .int p5])).length) Slot.unset).toArray = ls at hl ⊢
  have hl : lv_has ls 6 [(0, .ref (ad 0)), (1, .int p1), (2, .int p2), (3, .int p3), (4, .int p4), (5, .int p5)] := hl
  refine lv_iload_n hx hb dX11_shift_0 rfl (lv_at hl 1 rfl) ?_
  refine cS_p (As := [.int p1]) (rest := []) ⟨hx, hb, hml, hown, hg⟩ (k_X10_isShelf l   p1 ) ca_X10_isShelf q2_205 ⟨rfl, rfl⟩ ⟨Nat.le_of_ble_eq_true rfl, Nat.le_of_ble_eq_true rfl⟩ rfl hl.1 rfl (Nat.le_of_ble_eq_true rfl) ⟨Nat.zero_le _, Nat.zero_le _⟩ dX11_shift_1 (fun r_1 wr_1 => ?_)
  have wr_1 : (r_1.toInt = 1 ∧ 0 ≤ p1.toInt ∧ p1.toInt < 6) ∨ (r_1.toInt = 0 ∧ ¬ (0 ≤ p1.toInt ∧ p1.toInt < 6)) := wr_1
  refine lv_if_eq (tgt := 14) hx hb dX11_shift_4 (by decide) (fun c_2 => ?_) (fun c_2 => ?_)
  ·
    have kc_2 : r_1.toInt = (0 : Int) := i_eq c_2
    refine lv_iconst (v := (-1)) hx hb dX11_shift_14 (by decide) ?_
    have q0_m1 : ((-1) : Int32).toInt = (-1) := rfl
    have hP : va_P D vwCl (CW cs ad fa fq rv v a (va_up w p3.toNatClampNeg (w p3.toNatClampNeg)) fv fp) _ := (by rw [va_up_id w p3.toNatClampNeg]; exact hP)
    have hD : va_D A (CW cs ad fa fq rv v a (va_up w p3.toNatClampNeg (w p3.toNatClampNeg)) fv fp) := (by rw [va_up_id w p3.toNatClampNeg]; exact hD)
    exact W.iret (v := (-1)) hx hb hr (fun tt ht hW => ⟨⟨(-1), (w p3.toNatClampNeg), rfl, ⟨(Or.inl ⟨by omega, rfl⟩), (fun q => absurd q (by decide)), (fun _ => rfl)⟩, by rw [ht]; exact hP, hD⟩, hS.F ht⟩) hS.2.2 dX11_shift_15
  ·
    have kc_2 : r_1.toInt ≠ (0 : Int) := i_ne c_2
    refine lv_iload_n hx hb dX11_shift_7 rfl (lv_at hl 3 rfl) ?_
    refine cS_p (As := [.int p3]) (rest := []) ⟨hx, hb, hml, hown, hg⟩ (k_X10_isShelf l   p3 ) ca_X10_isShelf q2_205 ⟨rfl, rfl⟩ ⟨Nat.le_of_ble_eq_true rfl, Nat.le_of_ble_eq_true rfl⟩ rfl hl.1 rfl (Nat.le_of_ble_eq_true rfl) ⟨Nat.zero_le _, Nat.zero_le _⟩ dX11_shift_8 (fun r_3 wr_3 => ?_)
    have wr_3 : (r_3.toInt = 1 ∧ 0 ≤ p3.toInt ∧ p3.toInt < 6) ∨ (r_3.toInt = 0 ∧ ¬ (0 ≤ p3.toInt ∧ p3.toInt < 6)) := wr_3
    refine lv_if_ne (tgt := 16) hx hb dX11_shift_11 (by decide) (fun c_4 => ?_) (fun c_4 => ?_)
    ·
      have kc_4 : r_3.toInt ≠ (0 : Int) := i_ne c_4
      refine lv_aload_n hx hb dX11_shift_16 rfl (lv_at hl 0 rfl) ?_
      refine gf_main_shelves hx hb hg hown hK hP rfl (hg _ q2_133) dX11_shift_17 ?_
      refine lv_iload_n hx hb dX11_shift_20 rfl (lv_at hl 1 rfl) ?_
      refine lv_iload_n hx hb dX11_shift_21 rfl (lv_at hl 2 rfl) ?_
      refine lv_iload_n hx hb dX11_shift_22 rfl (lv_at hl 3 rfl) ?_
      refine lv_iload hx hb dX11_shift_23 (lv_at hl 4 rfl) ?_
      refine lv_iload hx hb dX11_shift_25 (lv_at hl 5 rfl) ?_
      refine cV_i (As := [.int p1, .int p2, .int p3, .int p4, .int p5]) (rest := []) ⟨hx, hb, hml, hown, hg⟩ (k_X10_copy l D cs A ad fa fq rv v a w fv fp  p1 p2 p3 p4 p5 (show 0 ≤ p1.toInt by first | omega | decide) (show p1.toInt < 6 by first | omega | decide) (show 0 ≤ p3.toInt by first | omega | decide) (show p3.toInt < 6 by first | omega | decide) ia28_0 ia29_0) ca_X10_copy q4_203 ⟨rfl, rfl⟩ ⟨Nat.le_of_ble_eq_true rfl, Nat.le_of_ble_eq_true rfl⟩ (rc_shelves hK hP) hK hP hD hS hZ rfl hl.1 rfl (Nat.le_of_ble_eq_true rfl) ⟨Nat.zero_le _, Nat.zero_le _⟩ dX11_shift_27 (fun r_5 grow_6 H locs wr_5 hP hD hS => ?_)
      have hP : va_P D vwCl (CW cs ad fa fq rv v a (va_up w p3.toNatClampNeg grow_6) fv fp) H := hP
      have hD : va_D A (CW cs ad fa fq rv v a (va_up w p3.toNatClampNeg grow_6) fv fp) := hD
      obtain ⟨wr_5_0, wr_5_1, wr_5_2⟩ : (((((a 28) p1.toNatClampNeg).toInt = -1 ∨ ((a 28) p3.toNatClampNeg).toInt = -1) ∧ r_5.toInt = -11) ∨ (¬ (((a 28) p1.toNatClampNeg).toInt = -1 ∨ ((a 28) p3.toNatClampNeg).toInt = -1) ∧ ¬ ((((a 28) p1.toNatClampNeg).toInt ≠ -1 ∧ ((a 28) p1.toNatClampNeg).toInt ≠ 5) ∧ ((a 28) p1.toNatClampNeg).toInt = ((a 28) p3.toNatClampNeg).toInt) ∧ r_5.toInt = -12) ∨ (¬ (((a 28) p1.toNatClampNeg).toInt = -1 ∨ ((a 28) p3.toNatClampNeg).toInt = -1) ∧ ((((a 28) p1.toNatClampNeg).toInt ≠ -1 ∧ ((a 28) p1.toNatClampNeg).toInt ≠ 5) ∧ ((a 28) p1.toNatClampNeg).toInt = ((a 28) p3.toNatClampNeg).toInt) ∧ ¬ (0 ≤ p2.toInt ∧ 0 ≤ p4.toInt ∧ 0 ≤ p5.toInt ∧ p2.toInt + p5.toInt ≤ ((a 29) p1.toNatClampNeg).toInt ∧ p4.toInt + p5.toInt ≤ ((a 29) p3.toNatClampNeg).toInt) ∧ r_5.toInt = -13) ∨ (¬ (((a 28) p1.toNatClampNeg).toInt = -1 ∨ ((a 28) p3.toNatClampNeg).toInt = -1) ∧ ((((a 28) p1.toNatClampNeg).toInt ≠ -1 ∧ ((a 28) p1.toNatClampNeg).toInt ≠ 5) ∧ ((a 28) p1.toNatClampNeg).toInt = ((a 28) p3.toNatClampNeg).toInt) ∧ (0 ≤ p2.toInt ∧ 0 ≤ p4.toInt ∧ 0 ≤ p5.toInt ∧ p2.toInt + p5.toInt ≤ ((a 29) p1.toNatClampNeg).toInt ∧ p4.toInt + p5.toInt ≤ ((a 29) p3.toNatClampNeg).toInt) ∧ r_5.toInt = p5.toInt)) ∧ (0 ≤ r_5.toInt → grow_6 = va_cpy (w p1.toNatClampNeg) (w p3.toNatClampNeg) p2.toNatClampNeg p4.toNatClampNeg p5.toNatClampNeg) ∧ (r_5.toInt < 0 → grow_6 = (w p3.toNatClampNeg)) := wr_5
      exact W.iret (v := r_5) hx hb hr (fun tt ht hW => ⟨⟨r_5, grow_6, rfl, ⟨(Or.inr ⟨by omega, wr_5_0⟩), (by assumption), (by assumption)⟩, by rw [ht]; exact hP, hD⟩, hS.F ht⟩) hS.2.2 dX11_shift_30
    ·
      have kc_4 : r_3.toInt = (0 : Int) := i_eq c_4
      refine lv_iconst (v := (-1)) hx hb dX11_shift_14 (by decide) ?_
      have q0_m1 : ((-1) : Int32).toInt = (-1) := rfl
      have hP : va_P D vwCl (CW cs ad fa fq rv v a (va_up w p3.toNatClampNeg (w p3.toNatClampNeg)) fv fp) _ := (by rw [va_up_id w p3.toNatClampNeg]; exact hP)
      have hD : va_D A (CW cs ad fa fq rv v a (va_up w p3.toNatClampNeg (w p3.toNatClampNeg)) fv fp) := (by rw [va_up_id w p3.toNatClampNeg]; exact hD)
      exact W.iret (v := (-1)) hx hb hr (fun tt ht hW => ⟨⟨(-1), (w p3.toNatClampNeg), rfl, ⟨(Or.inl ⟨by omega, rfl⟩), (fun q => absurd q (by decide)), (fun _ => rfl)⟩, by rw [ht]; exact hP, hD⟩, hS.F ht⟩) hS.2.2 dX11_shift_15
set_option maxHeartbeats 4000000 in
set_option maxRecDepth 100000 in
theorem k_X11_count (l : Launch) (D : va_G) (cs : Nat → ClassId) (A : Nat → Prop) (ad fa fq rv : Nat → Nat) (v : Nat → Int32) (a : Nat → Nat → Int32) (w : Nat → Nat → Int64) (fv fp : Nat → Nat → Int32)  (p1 : Int32) (iv1_0 : 0 ≤ (v 1).toInt) (iv1_1 : (v 1).toInt ≤ 8) (iv4_0 : 0 ≤ (v 4).toInt) (iv4_1 : (v 4).toInt ≤ 120) (iv20_0 : 0 ≤ (v 20).toInt) (iv20_1 : (v 20).toInt ≤ 40) (iv19_0 : 0 ≤ (v 19).toInt) (iv19_1 : (v 19).toInt ≤ 40) (iv19_2 : (v 19).toInt ≤ (v 20).toInt) (iv21_0 : 0 ≤ (v 21).toInt) (iv21_1 : (v 21).toInt ≤ 50) (iv22_0 : 0 ≤ (v 22).toInt) (iv22_1 : (v 22).toInt ≤ 1000) : Met l yX11_count (Cond.code yX11_count cX11_count 2 (some .int) :: gw) ({ frames := 0, cells := 0, slots := 0, locals := 0 }) (va_Pc [.ref (ad 0), .int p1] (XPre D (TY cs) (CW cs ad fa fq rv v a w fv fp) A)) (vp_Si (fun (r : Int32) => True)) 0 0 (fun _ => False) := by
  refine Met.ofW (cc := cX11_count) (maxL := 2) (ret := (some .int)) (by decide) rfl ?_
  intro p e s m args below meth c s₁ B hml hv
  obtain ⟨rfl, hP, hK, hD, hZ⟩ := hv
  have hx := B.exec
  have hb := B.bytes
  have hr := B.returns
  have hts := atoms_spec (ws := (Cond.code yX11_count cX11_count 2 (some .int) :: gw)) B.pre
  have hg : ∀ w ∈ gw, w.before ([.ref (ad 0), .int p1] : List Value).toArray s = true := fun w h => hts w (List.mem_cons_of_mem _ h)
  have hown : s.vm.findClass RX11 = some m.cls := findClass_of_methodNamed B.named
  have hlocks := B.notSynchronized
  have hS : va_S A s.heap s.heap [] := va_S.rf
  have hl := lv_entry ([.ref (ad 0), .int p1]) (n := 2) (Nat.le_of_ble_eq_true rfl)
  rw [lg_entry_eq]
  generalize (lg_sl ([.ref (ad 0), .int p1]) ++ List.replicate (2 - (lg_sl ([.ref (ad 0), .int p1])).length) Slot.unset).toArray = ls at hl ⊢
  have hl : lv_has ls 2 [(0, .ref (ad 0)), (1, .int p1)] := hl
  refine lv_iload_n hx hb dX11_count_0 rfl (lv_at hl 1 rfl) ?_
  rcases (show p1.toInt = 0 ∨ p1.toInt = 1 ∨ p1.toInt = 2 ∨ p1.toInt = 3 ∨ p1.toInt = 4 ∨ (p1.toInt < 0 ∨ 4 < p1.toInt) by omega) with kc_1 | kc_1 | kc_1 | kc_1 | kc_1 | kc_1
  ·
    refine lv_tableIn (tgt := 36) hx hb dX11_count_1 (by omega) (by omega) (off := 35) (by rw [kc_1]; rfl) (by decide) ?_
    refine lv_aload_n hx hb dX11_count_36 rfl (lv_at hl 0 rfl) ?_
    refine gf_main_parish hx hb hg hown hK hP rfl (hg _ q2_123) dX11_count_37 ?_
    refine gf_parish_people hx hb hg hown hK hP (x := (v 1)) rfl (hg _ q1_109) dX11_count_40 ?_
    exact W.iret (v := (v 1)) hx hb hr (fun tt ht hW => ⟨(v 1), rfl, trivial, ht⟩) (fun _ h => by cases h) dX11_count_43
  ·
    refine lv_tableIn (tgt := 44) hx hb dX11_count_1 (by omega) (by omega) (off := 43) (by rw [kc_1]; rfl) (by decide) ?_
    refine lv_aload_n hx hb dX11_count_44 rfl (lv_at hl 0 rfl) ?_
    refine gf_main_rules hx hb hg hown hK hP rfl (hg _ q2_124) dX11_count_45 ?_
    refine gf_rules_fed hx hb hg hown hK hP (x := (v 4)) rfl (hg _ q1_174) dX11_count_48 ?_
    exact W.iret (v := (v 4)) hx hb hr (fun tt ht hW => ⟨(v 4), rfl, trivial, ht⟩) (fun _ h => by cases h) dX11_count_51
  ·
    refine lv_tableIn (tgt := 52) hx hb dX11_count_1 (by omega) (by omega) (off := 51) (by rw [kc_1]; rfl) (by decide) ?_
    refine lv_aload_n hx hb dX11_count_52 rfl (lv_at hl 0 rfl) ?_
    refine gf_main_changes hx hb hg hown hK hP rfl (hg _ q2_132) dX11_count_53 ?_
    refine gf_changes_done hx hb hg hown hK hP (x := (v 19)) rfl (hg _ q1_41) dX11_count_56 ?_
    exact W.iret (v := (v 19)) hx hb hr (fun tt ht hW => ⟨(v 19), rfl, trivial, ht⟩) (fun _ h => by cases h) dX11_count_59
  ·
    refine lv_tableIn (tgt := 60) hx hb dX11_count_1 (by omega) (by omega) (off := 59) (by rw [kc_1]; rfl) (by decide) ?_
    refine lv_aload_n hx hb dX11_count_60 rfl (lv_at hl 0 rfl) ?_
    refine gf_main_acts hx hb hg hown hK hP rfl (hg _ q2_134) dX11_count_61 ?_
    refine gf_acts_made hx hb hg hown hK hP (x := (v 21)) rfl (hg _ q1_85) dX11_count_64 ?_
    exact W.iret (v := (v 21)) hx hb hr (fun tt ht hW => ⟨(v 21), rfl, trivial, ht⟩) (fun _ h => by cases h) dX11_count_67
  ·
    refine lv_tableIn (tgt := 68) hx hb dX11_count_1 (by omega) (by omega) (off := 67) (by rw [kc_1]; rfl) (by decide) ?_
    refine lv_aload_n hx hb dX11_count_68 rfl (lv_at hl 0 rfl) ?_
    refine gf_main_acts hx hb hg hown hK hP rfl (hg _ q2_134) dX11_count_69 ?_
    refine gf_acts_ran hx hb hg hown hK hP (x := (v 22)) rfl (hg _ q1_89) dX11_count_72 ?_
    exact W.iret (v := (v 22)) hx hb hr (fun tt ht hW => ⟨(v 22), rfl, trivial, ht⟩) (fun _ h => by cases h) dX11_count_75
  ·
    refine lv_tableOut (tgt := 76) hx hb dX11_count_1 kc_1 (by decide) ?_
    refine lv_iconst (v := (-1)) hx hb dX11_count_76 (by decide) ?_
    have q0_m1 : ((-1) : Int32).toInt = (-1) := rfl
    exact W.iret (v := (-1)) hx hb hr (fun tt ht hW => ⟨(-1), rfl, trivial, ht⟩) (fun _ h => by cases h) dX11_count_77
set_option maxHeartbeats 4000000 in
set_option maxRecDepth 100000 in
theorem k_X11_trace (l : Launch) (D : va_G) (cs : Nat → ClassId) (A : Nat → Prop) (ad fa fq rv : Nat → Nat) (v : Nat → Int32) (a : Nat → Nat → Int32) (w : Nat → Nat → Int64) (fv fp : Nat → Nat → Int32)  (p1 : Int32) (iv22_0 : 0 ≤ (v 22).toInt) (iv22_1 : (v 22).toInt ≤ 1000) : Met l yX11_trace (Cond.code yX11_trace cX11_trace 2 (some .int) :: gw) ({ frames := 2, cells := 0, slots := 0, locals := 33 }) (va_Pc [.ref (ad 0), .int p1] (XPre D (TY cs) (CW cs ad fa fq rv v a w fv fp) A)) (vp_Si (fun (r : Int32) => (((0 ≤ p1.toInt ∧ p1.toInt < (v 22).toInt ∧ p1.toInt < 24) ∧ r = (a 38) p1.toNatClampNeg) ∨ (¬ (0 ≤ p1.toInt ∧ p1.toInt < (v 22).toInt ∧ p1.toInt < 24) ∧ r.toInt = -1)))) 0 0 (fun _ => False) := by
  refine Met.ofW (cc := cX11_trace) (maxL := 2) (ret := (some .int)) (by decide) rfl ?_
  intro p e s m args below meth c s₁ B hml hv
  obtain ⟨rfl, hP, hK, hD, hZ⟩ := hv
  have hx := B.exec
  have hb := B.bytes
  have hr := B.returns
  have hts := atoms_spec (ws := (Cond.code yX11_trace cX11_trace 2 (some .int) :: gw)) B.pre
  have hg : ∀ w ∈ gw, w.before ([.ref (ad 0), .int p1] : List Value).toArray s = true := fun w h => hts w (List.mem_cons_of_mem _ h)
  have hown : s.vm.findClass RX11 = some m.cls := findClass_of_methodNamed B.named
  have hlocks := B.notSynchronized
  have hS : va_S A s.heap s.heap [] := va_S.rf
  have hl := lv_entry ([.ref (ad 0), .int p1]) (n := 2) (Nat.le_of_ble_eq_true rfl)
  rw [lg_entry_eq]
  generalize (lg_sl ([.ref (ad 0), .int p1]) ++ List.replicate (2 - (lg_sl ([.ref (ad 0), .int p1])).length) Slot.unset).toArray = ls at hl ⊢
  have hl : lv_has ls 2 [(0, .ref (ad 0)), (1, .int p1)] := hl
  refine lv_iload_n hx hb dX11_trace_0 rfl (lv_at hl 1 rfl) ?_
  refine lv_if_lt (tgt := 27) hx hb dX11_trace_1 (by decide) (fun c_1 => ?_) (fun c_1 => ?_)
  ·
    have kc_1 : p1.toInt < (0 : Int) := i_lt c_1
    refine lv_iconst (v := (-1)) hx hb dX11_trace_27 (by decide) ?_
    have q0_m1 : ((-1) : Int32).toInt = (-1) := rfl
    exact W.iret (v := (-1)) hx hb hr (fun tt ht hW => ⟨(-1), rfl, (by first | exact Or.inl ⟨by omega, by simp only []⟩ | exact Or.inr ⟨by omega, by omega⟩), ht⟩) (fun _ h => by cases h) dX11_trace_28
  ·
    have kc_1 : (0 : Int) ≤ p1.toInt := i_nlt c_1
    refine lv_iload_n hx hb dX11_trace_4 rfl (lv_at hl 1 rfl) ?_
    refine lv_aload_n hx hb dX11_trace_5 rfl (lv_at hl 0 rfl) ?_
    refine gf_main_acts hx hb hg hown hK hP rfl (hg _ q2_134) dX11_trace_6 ?_
    refine cV_ro (As := []) (rest := [.int p1]) ⟨hx, hb, hml, hown, hg⟩ (k_X0_kept l D cs A ad fa fq rv v a w fv fp   (show 0 ≤ (v 22).toInt by first | omega | decide) (show (v 22).toInt ≤ 1000 by first | omega | decide)) ca_X0_kept q4_157 ⟨rfl, rfl⟩ ⟨Nat.le_of_ble_eq_true rfl, Nat.le_of_ble_eq_true rfl⟩ (rc_acts hK hP) hK hP hD hS hZ rfl hl.1 rfl (Nat.le_of_ble_eq_true rfl) ⟨Nat.zero_le _, Nat.zero_le _⟩ dX11_trace_9 (fun r_2 wr_2 => ?_)
    obtain ⟨wr_2_0, wr_2_1, wr_2_2⟩ : (0 ≤ r_2.toInt) ∧ (r_2.toInt ≤ 24) ∧ (((v 22).toInt ≤ 24 ∧ r_2.toInt = (v 22).toInt) ∨ (24 ≤ (v 22).toInt ∧ r_2.toInt = 24)) := wr_2
    refine lv_icmp_ge (tgt := 27) hx hb dX11_trace_12 (by decide) (fun c_3 => ?_) (fun c_3 => ?_)
    ·
      have kc_3 : r_2.toInt ≤ p1.toInt := i_le c_3
      refine lv_iconst (v := (-1)) hx hb dX11_trace_27 (by decide) ?_
      have q0_m1 : ((-1) : Int32).toInt = (-1) := rfl
      exact W.iret (v := (-1)) hx hb hr (fun tt ht hW => ⟨(-1), rfl, (by first | exact Or.inl ⟨by omega, by simp only []⟩ | exact Or.inr ⟨by omega, by omega⟩), ht⟩) (fun _ h => by cases h) dX11_trace_28
    ·
      have kc_3 : p1.toInt < r_2.toInt := i_nle c_3
      refine lv_aload_n hx hb dX11_trace_15 rfl (lv_at hl 0 rfl) ?_
      refine gf_main_acts hx hb hg hown hK hP rfl (hg _ q2_134) dX11_trace_16 ?_
      refine gf_acts_traced hx hb hg hown hK hP rfl (hg _ q1_87) dX11_trace_19 ?_
      refine lv_iload_n hx hb dX11_trace_22 rfl (lv_at hl 1 rfl) ?_
      refine ld_Atraced hx hb hK hP (i_in (by omega) (by omega)) dX11_trace_23 ?_
      refine lv_topi (fun x_4 ex_4 => ?_)
      have ex_4 : x_4 = (a 38) p1.toNatClampNeg := ex_4
      have hx_4 : x_4.toInt = ((a 38) p1.toNatClampNeg).toInt := by rw [ex_4]
      refine lv_goto (tgt := 28) hx hb dX11_trace_24 (by decide) ?_
      exact W.iret (v := x_4) hx hb hr (fun tt ht hW => ⟨x_4, rfl, (by first | exact Or.inl ⟨by omega, by simp only [ex_4]⟩ | exact Or.inr ⟨by omega, by omega⟩), ht⟩) (fun _ h => by cases h) dX11_trace_28
set_option maxHeartbeats 4000000 in
set_option maxRecDepth 100000 in
theorem k_X11_body (l : Launch) (D : va_G) (cs : Nat → ClassId) (A : Nat → Prop) (ad fa fq rv : Nat → Nat) (v : Nat → Int32) (a : Nat → Nat → Int32) (w : Nat → Nat → Int64) (fv fp : Nat → Nat → Int32)  (p1 : Int32) (iv21_0 : 0 ≤ (v 21).toInt) (iv21_1 : (v 21).toInt ≤ 50) (ia37_0 : AB 0 7 (a 37)) : Met l yX11_body (Cond.code yX11_body cX11_body 2 (some .int) :: gw) ({ frames := 1, cells := 0, slots := 0, locals := 21 }) (va_Pc [.ref (ad 0), .int p1] (XPre D (TY cs) (CW cs ad fa fq rv v a w fv fp) A)) (va_Qi (fun (r : Int32) (z : Int32 × (Nat → Int32)) => (((0 ≤ p1.toInt ∧ p1.toInt ≤ 7) ∧ (v 21).toInt < 50 ∧ r.toInt = (v 21).toInt ∧ z.1.toInt = (v 21).toInt + 1) ∨ ((0 ≤ p1.toInt ∧ p1.toInt ≤ 7) ∧ (v 21).toInt = 50 ∧ r.toInt = -3 ∧ z.1.toInt = (v 21).toInt) ∨ (¬ (0 ≤ p1.toInt ∧ p1.toInt ≤ 7) ∧ r.toInt = -1 ∧ z.1.toInt = (v 21).toInt)) ∧ ((((0 ≤ p1.toInt ∧ p1.toInt ≤ 7) ∧ (v 21).toInt < 50) ∧ z.2 = upd (a 37) (v 21).toNatClampNeg p1) ∨ (¬ ((0 ≤ p1.toInt ∧ p1.toInt ≤ 7) ∧ (v 21).toInt < 50) ∧ z.2 = (a 37))) ∧ (0 ≤ z.1.toInt) ∧ (z.1.toInt ≤ 50) ∧ (AB 0 7 z.2)) (XPo D (fun (z : Int32 × (Nat → Int32)) => CW cs ad fa fq rv (va_up v 21 z.1) (va_up a 37 z.2) w fv fp) A) A) 0 0 A := by
  refine Met.ofW (cc := cX11_body) (maxL := 2) (ret := (some .int)) (by decide) rfl ?_
  intro p e s m args below meth c s₁ B hml hv
  obtain ⟨rfl, hP, hK, hD, hZ⟩ := hv
  have hx := B.exec
  have hb := B.bytes
  have hr := B.returns
  have hts := atoms_spec (ws := (Cond.code yX11_body cX11_body 2 (some .int) :: gw)) B.pre
  have hg : ∀ w ∈ gw, w.before ([.ref (ad 0), .int p1] : List Value).toArray s = true := fun w h => hts w (List.mem_cons_of_mem _ h)
  have hown : s.vm.findClass RX11 = some m.cls := findClass_of_methodNamed B.named
  have hlocks := B.notSynchronized
  have hS : va_S A s.heap s.heap [] := va_S.rf
  have hP : va_P D vwCl (CW cs ad fa fq rv v a w fv fp) s.heap := hP
  have hl := lv_entry ([.ref (ad 0), .int p1]) (n := 2) (Nat.le_of_ble_eq_true rfl)
  rw [lg_entry_eq]
  generalize (lg_sl ([.ref (ad 0), .int p1]) ++ List.replicate (2 - (lg_sl ([.ref (ad 0), .int p1])).length) Slot.unset).toArray = ls at hl ⊢
  have hl : lv_has ls 2 [(0, .ref (ad 0)), (1, .int p1)] := hl
  refine lv_iload_n hx hb dX11_body_0 rfl (lv_at hl 1 rfl) ?_
  refine cS_p (As := [.int p1]) (rest := []) ⟨hx, hb, hml, hown, hg⟩ (k_X0_isKind l   p1 ) ca_X0_isKind q4_116 ⟨rfl, rfl⟩ ⟨Nat.le_of_ble_eq_true rfl, Nat.le_of_ble_eq_true rfl⟩ rfl hl.1 rfl (Nat.le_of_ble_eq_true rfl) ⟨Nat.zero_le _, Nat.zero_le _⟩ dX11_body_1 (fun r_1 wr_1 => ?_)
  have wr_1 : (r_1.toInt = 1 ∧ 0 ≤ p1.toInt ∧ p1.toInt ≤ 7) ∨ (r_1.toInt = 0 ∧ ¬ (0 ≤ p1.toInt ∧ p1.toInt ≤ 7)) := wr_1
  refine lv_if_eq (tgt := 18) hx hb dX11_body_4 (by decide) (fun c_2 => ?_) (fun c_2 => ?_)
  ·
    have kc_2 : r_1.toInt = (0 : Int) := i_eq c_2
    refine lv_iconst (v := (-1)) hx hb dX11_body_18 (by decide) ?_
    have q0_m1 : ((-1) : Int32).toInt = (-1) := rfl
    have hP : va_P D vwCl (CW cs ad fa fq rv (va_up v 21 (v 21)) (va_up a 37 (a 37)) w fv fp) _ := hP
    have hD : va_D A (CW cs ad fa fq rv (va_up v 21 (v 21)) (va_up a 37 (a 37)) w fv fp) := hD
    exact W.iret (v := (-1)) hx hb hr (fun tt ht hW => ⟨⟨(-1), ⟨(v 21), (a 37)⟩, rfl, ⟨(by first | rfl | omega | trivial | assumption | (dsimp only; first | omega | assumption)), (by (try dsimp only); first | exact Or.inl ⟨by omega, by first | rfl | assumption⟩ | exact Or.inr ⟨by omega, by first | rfl | assumption⟩ | (exfalso; omega) | (rcases wr_1_1 with ⟨q1, q2⟩ | ⟨q1, q2⟩ <;> first | exact Or.inl ⟨by omega, q2⟩ | exact Or.inr ⟨by omega, q2⟩)), (show 0 ≤ (v 21).toInt by first | omega | assumption), (show (v 21).toInt ≤ 50 by first | omega | assumption), ia37_0⟩, by rw [ht]; exact hP, hD⟩, hS.F ht⟩) hS.2.2 dX11_body_19
  ·
    have kc_2 : r_1.toInt ≠ (0 : Int) := i_ne c_2
    refine lv_aload_n hx hb dX11_body_7 rfl (lv_at hl 0 rfl) ?_
    refine gf_main_acts hx hb hg hown hK hP rfl (hg _ q2_134) dX11_body_8 ?_
    refine lv_iload_n hx hb dX11_body_11 rfl (lv_at hl 1 rfl) ?_
    refine cV_i (As := [.int p1]) (rest := []) ⟨hx, hb, hml, hown, hg⟩ (k_X0_make l D cs A ad fa fq rv v a w fv fp  p1 (show 0 ≤ p1.toInt by first | omega | decide) (show p1.toInt ≤ 7 by first | omega | decide) (show 0 ≤ (v 21).toInt by first | omega | decide) (show (v 21).toInt ≤ 50 by first | omega | decide) ia37_0) ca_X0_make q4_119 ⟨rfl, rfl⟩ ⟨Nat.le_of_ble_eq_true rfl, Nat.le_of_ble_eq_true rfl⟩ (rc_acts hK hP) hK hP hD hS hZ rfl hl.1 rfl (Nat.le_of_ble_eq_true rfl) ⟨Nat.zero_le _, Nat.zero_le _⟩ dX11_body_12 (fun r_3 z_6 H locs wr_3 hP hD hS => ?_)
    obtain ⟨o_v21_4, o_a37_5⟩ := z_6
    have hP : va_P D vwCl (CW cs ad fa fq rv (va_up v 21 o_v21_4) (va_up a 37 o_a37_5) w fv fp) H := hP
    have hD : va_D A (CW cs ad fa fq rv (va_up v 21 o_v21_4) (va_up a 37 o_a37_5) w fv fp) := hD
    obtain ⟨wr_3_0, wr_3_1, wr_3_2, wr_3_3, wr_3_4⟩ : (((v 21).toInt < 50 ∧ r_3.toInt = (v 21).toInt ∧ o_v21_4.toInt = (v 21).toInt + 1) ∨ ((v 21).toInt = 50 ∧ r_3.toInt = -3 ∧ o_v21_4.toInt = (v 21).toInt)) ∧ (((v 21).toInt < 50 ∧ o_a37_5 = upd (a 37) (v 21).toNatClampNeg p1) ∨ ((v 21).toInt = 50 ∧ o_a37_5 = (a 37))) ∧ (0 ≤ o_v21_4.toInt) ∧ (o_v21_4.toInt ≤ 50) ∧ (AB 0 7 o_a37_5) := wr_3
    refine lv_goto (tgt := 19) hx hb dX11_body_15 (by decide) ?_
    exact W.iret (v := r_3) hx hb hr (fun tt ht hW => ⟨⟨r_3, ⟨o_v21_4, o_a37_5⟩, rfl, ⟨(by first | rfl | omega | trivial | assumption | (dsimp only; first | omega | assumption)), (by (try dsimp only); first | exact Or.inl ⟨by omega, by first | rfl | assumption⟩ | exact Or.inr ⟨by omega, by first | rfl | assumption⟩ | (exfalso; omega) | (rcases wr_3_1 with ⟨q1, q2⟩ | ⟨q1, q2⟩ <;> first | exact Or.inl ⟨by omega, q2⟩ | exact Or.inr ⟨by omega, q2⟩)), (show 0 ≤ o_v21_4.toInt by first | omega | assumption), (show o_v21_4.toInt ≤ 50 by first | omega | assumption), wr_3_4⟩, by rw [ht]; exact hP, hD⟩, hS.F ht⟩) hS.2.2 dX11_body_19
