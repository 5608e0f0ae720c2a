set_option maxHeartbeats 4000000 in
set_option maxRecDepth 100000 in
theorem k_X12_row (l : Launch) (D : va_G) (cs : Nat → ClassId) (A : Nat → Prop) (bd : Nat → Nat) (u : Nat → Int32) (b : Nat → Nat → Int32) (bw : Nat → Nat → Int64)  (p1 : Int32) (p2 : Int32) (p3 : Int32) (ib66_0 : AB (-6) 49 (b 66)) (ib67_0 : AB 0 60 (b 67)) : Met l yX12_row (Cond.code yX12_row cX12_row 5 (some .int) :: gw) ({ frames := 2, cells := 0, slots := 0, locals := 42 }) (va_Pc [.ref (bd 0), .int p1, .int p2, .int p3] (XPre D (TY cs) (RW cs bd u b bw) A)) (va_Qi (fun (r : Int32) (z : (Nat → Int32) × (Nat → Int32) × (Nat → Int64)) => ((((0 ≤ p1.toInt ∧ p1.toInt < 6) ∧ 0 ≤ p2.toInt ∧ p2.toInt ≤ 4 ∧ p3.toInt ≤ 60) ∧ ((p3.toInt < 0 ∧ r.toInt = -14) ∨ (0 ≤ p3.toInt ∧ r.toInt = 1))) ∨ (¬ ((0 ≤ p1.toInt ∧ p1.toInt < 6) ∧ 0 ≤ p2.toInt ∧ p2.toInt ≤ 4 ∧ p3.toInt ≤ 60) ∧ r.toInt = -1)) ∧ (r.toInt = 1 → z.2.1 = upd (b 67) p1.toNatClampNeg p3 ∧ (∀ j, j ≠ p1.toNatClampNeg → z.1 j = (b 66) j) ∧ (z.1 p1.toNatClampNeg).toInt = -2 - p2.toInt ∧ (∀ j, 60 * p1.toNatClampNeg ≤ j → j < 60 * p1.toNatClampNeg + 60 → z.2.2 j = 0) ∧ (∀ j, (j < 60 * p1.toNatClampNeg ∨ 60 * p1.toNatClampNeg + 60 ≤ j) → z.2.2 j = (bw 68) j)) ∧ (r.toInt ≠ 1 → z.1 = (b 66) ∧ z.2.1 = (b 67) ∧ z.2.2 = (bw 68)) ∧ (AB (-6) 49 z.1) ∧ (AB 0 60 z.2.1)) (XPo D (fun (z : (Nat → Int32) × (Nat → Int32) × (Nat → Int64)) => RW cs bd u (va_up (va_up b 66 z.1) 67 z.2.1) (va_up bw 68 z.2.2)) A) A) 0 0 A := by
  refine Met.ofW (cc := cX12_row) (maxL := 5) (ret := (some .int)) (by decide) rfl ?_
  intro p e s m args below meth c s₁ B hml hv
  obtain ⟨rfl, hP, hK, hD, hZ⟩ := hv
  have hx := B.exec
  have hb := B.bytes
  have hr := B.returns
  have hts := atoms_spec (ws := (Cond.code yX12_row cX12_row 5 (some .int) :: gw)) B.pre
  have hg : ∀ w ∈ gw, w.before ([.ref (bd 0), .int p1, .int p2, .int p3] : List Value).toArray s = true := fun w h => hts w (List.mem_cons_of_mem _ h)
  have hown : s.vm.findClass RX12 = some m.cls := findClass_of_methodNamed B.named
  have hlocks := B.notSynchronized
  have hS : va_S A s.heap s.heap [] := va_S.rf
  have hP : va_P D vwCl (RW cs bd u b bw) s.heap := hP
  have zp1 : p1.toNatClampNeg = p1.toInt.toNat := rfl
  have hl := lv_entry ([.ref (bd 0), .int p1, .int p2, .int p3]) (n := 5) (Nat.le_of_ble_eq_true rfl)
  rw [lg_entry_eq]
  generalize (lg_sl ([.ref (bd 0), .int p1, .int p2, .int p3]) ++ List.replicate (5 - (lg_sl ([.ref (bd 0), .int p1, .int p2, .int p3])).length) Slot.unset).toArray = ls at hl ⊢
  have hl : lv_has ls 5 [(0, .ref (bd 0)), (1, .int p1), (2, .int p2), (3, .int p3)] := hl
  have hcut : ∀ nk : Nat, (∀ (x4 : Int32) (c54_bw68 : Nat → Int64) (c54_b66 : Nat → Int32) (c54_b67 : Nat → Int32) (H : Heap) (locs : List Loc) (j1 : 0 ≤ p1.toInt) (j2 : p1.toInt < 6) (j3 : 0 ≤ p2.toInt) (j4 : p2.toInt ≤ 4) (j5 : p3.toInt ≤ 60) (j6 : 0 ≤ p3.toInt) (i1 : 60 * p1.toInt ≤ x4.toInt) (i1b : x4.toInt ≤ 60 * p1.toInt + 60) (q67 : c54_b67 = upd (b 67) p1.toNatClampNeg p3) (q66 : (∀ j, j ≠ p1.toNatClampNeg → c54_b66 j = (b 66) j) ∧ (c54_b66 p1.toNatClampNeg).toInt = -2 - p2.toInt) (hz : ∀ j, 60 * p1.toNatClampNeg ≤ j → j < x4.toInt.toNat → c54_bw68 j = 0) (hk : ∀ j, (j < 60 * p1.toNatClampNeg ∨ x4.toInt.toNat ≤ j) → c54_bw68 j = (bw 68) j) (jb66_0 : AB (-6) 49 c54_b66) (jb67_0 : AB 0 60 c54_b67) (hmu : (360 - x4.toInt).toNat < nk) (hP : va_P D vwCl (RW cs bd u (va_up (va_up b 66 c54_b66) 67 c54_b67) (va_up bw 68 c54_bw68)) H) (hD : va_D A (RW cs bd u (va_up (va_up b 66 c54_b66) 67 c54_b67) (va_up bw 68 c54_bw68))) (hS : va_S A s.heap H locs) (ls : Array Slot) (hl : lv_has ls 5 [(0, .ref (bd 0)), (1, .int p1), (2, .int p2), (3, .int p3), (4, .int x4)]), W p l e (headSpec (Cond.code yX12_row cX12_row 5 (some .int) :: gw) ({ frames := 2, cells := 0, slots := 0, locals := 42 })).room s m ([.ref (bd 0), .int p1, .int p2, .int p3] : List Value).toArray below meth c H locs 0 0 (MQ below (va_Qi (fun (r : Int32) (z : (Nat → Int32) × (Nat → Int32) × (Nat → Int64)) => ((((0 ≤ p1.toInt ∧ p1.toInt < 6) ∧ 0 ≤ p2.toInt ∧ p2.toInt ≤ 4 ∧ p3.toInt ≤ 60) ∧ ((p3.toInt < 0 ∧ r.toInt = -14) ∨ (0 ≤ p3.toInt ∧ r.toInt = 1))) ∨ (¬ ((0 ≤ p1.toInt ∧ p1.toInt < 6) ∧ 0 ≤ p2.toInt ∧ p2.toInt ≤ 4 ∧ p3.toInt ≤ 60) ∧ r.toInt = -1)) ∧ (r.toInt = 1 → z.2.1 = upd (b 67) p1.toNatClampNeg p3 ∧ (∀ j, j ≠ p1.toNatClampNeg → z.1 j = (b 66) j) ∧ (z.1 p1.toNatClampNeg).toInt = -2 - p2.toInt ∧ (∀ j, 60 * p1.toNatClampNeg ≤ j → j < 60 * p1.toNatClampNeg + 60 → z.2.2 j = 0) ∧ (∀ j, (j < 60 * p1.toNatClampNeg ∨ 60 * p1.toNatClampNeg + 60 ≤ j) → z.2.2 j = (bw 68) j)) ∧ (r.toInt ≠ 1 → z.1 = (b 66) ∧ z.2.1 = (b 67) ∧ z.2.2 = (bw 68)) ∧ (AB (-6) 49 z.1) ∧ (AB 0 60 z.2.1)) (XPo D (fun (z : (Nat → Int32) × (Nat → Int32) × (Nat → Int64)) => RW cs bd u (va_up (va_up b 66 z.1) 67 z.2.1) (va_up bw 68 z.2.2)) A) A) ([.ref (bd 0), .int p1, .int p2, .int p3] : List Value).toArray s 0 0 A) (F0 m 54 ls [])) := by
    intro nk
    induction nk with
    | zero => exact (fun x4 c54_bw68 c54_b66 c54_b67 H locs j1 j2 j3 j4 j5 j6 i1 i1b q67 q66 hz hk jb66_0 jb67_0 hmu hP hD hS ls hl => absurd hmu (Nat.not_lt_zero _))
    | succ nk ih =>
      intro x4 c54_bw68 c54_b66 c54_b67 H locs j1 j2 j3 j4 j5 j6 i1 i1b q67 q66 hz hk jb66_0 jb67_0 hmu hP hD hS ls hl
      refine lv_iload hx hb dX12_row_54 (lv_at hl 4 rfl) ?_
      refine lv_bipush (v := 60) hx hb dX12_row_56 (by decide) ?_
      refine lv_iload_n hx hb dX12_row_58 rfl (lv_at hl 1 rfl) ?_
      refine lv_imul hx hb dX12_row_59 ?_
      refine lv_topi (fun x_1 ex_1 => ?_)
      have fx_1 : x_1.toInt = (60 : Int) * p1.toInt := by rw [ex_1]; exact i_mul (by first | omega | (show _ ≤ (60 : Int) * p1.toInt; omega)) (by first | omega | (show (60 : Int) * p1.toInt ≤ _; omega))
      refine lv_bipush (v := 60) hx hb dX12_row_60 (by decide) ?_
      refine lv_iadd hx hb dX12_row_62 ?_
      refine lv_topi (fun x_2 ex_2 => ?_)
      have fx_2 : x_2.toInt = x_1.toInt + (60 : Int) := by rw [ex_2]; exact i_add (by first | omega | (show (_ : Int) ≤ x_1.toInt + (60 : Int); omega)) (by first | omega | (show x_1.toInt + (60 : Int) ≤ (_ : Int); omega))
      refine lv_icmp_ge (tgt := 80) hx hb dX12_row_63 (by decide) (fun c_3 => ?_) (fun c_3 => ?_)
      ·
        have kc_3 : x_2.toInt ≤ x4.toInt := i_le c_3
        refine lv_iconst (v := 1) hx hb dX12_row_80 (by decide) ?_
        have q0_1 : (1 : Int32).toInt = 1 := rfl
        exact W.iret (v := 1) hx hb hr (fun tt ht hW => ⟨⟨1, ⟨c54_b66, c54_b67, c54_bw68⟩, rfl, ⟨(by first | rfl | omega | trivial | assumption | (dsimp only; first | omega | assumption)), (fun _ => ⟨q67, q66.1, q66.2, fun j h1 h2 => hz j (by omega) (by omega), fun j h1 => hk j (by omega)⟩), (fun q => absurd rfl q), jb66_0, jb67_0⟩, by rw [ht]; exact hP, hD⟩, hS.F ht⟩) hS.2.2 dX12_row_81
      ·
        have kc_3 : x4.toInt < x_2.toInt := i_nle c_3
        refine lv_aload_n hx hb dX12_row_66 rfl (lv_at hl 0 rfl) ?_
        refine gr_elements hx hb hg hown hK hP (hg _ q5_60) dX12_row_67 ?_
        refine lv_iload hx hb dX12_row_70 (lv_at hl 4 rfl) ?_
        refine lv_lconst (v := 0) hx hb dX12_row_72 (by decide) ?_
        refine sr_elements hx hb hK hP hD hS (i_in (by omega) (by omega)) dX12_row_73 (fun H locs hP hD hS => ?_)
        obtain ⟨x_4, ex_4⟩ : ∃ y : Int32, y = x4 + 1 := ⟨_, rfl⟩
        have fx_4 : x_4.toInt = x4.toInt + 1 := by rw [ex_4]; exact i_add (by first | omega | (show (_ : Int) ≤ x4.toInt + 1; omega)) (by first | omega | (show x4.toInt + 1 ≤ (_ : Int); omega))
        refine lv_iinc (v := x_4) (lv' := [(4, .int x_4), (0, .ref (bd 0)), (1, .int p1), (2, .int p2), (3, .int p3)]) hx hb dX12_row_74 hl (k := 4) rfl (by rw [ex_4]; rfl) (by decide) rfl (fun ls hl => ?_)
        refine lv_goto (tgt := 54) hx hb dX12_row_77 (by decide) ?_
        exact ih x_4 (vp_updL c54_bw68 x4.toNatClampNeg 0) c54_b66 c54_b67 _ _ (by omega) (by omega) (by omega) (by omega) (by omega) (by omega) (by omega) (by omega) (by first | rfl | assumption) (by first | assumption | exact ⟨fun j hj => upd_ne hj, by (rw [upd_at rfl]; omega)⟩) (fun j h1 h2 => (Classical.em (j = x4.toNatClampNeg)).elim (fun q => upl_at q) (fun q => (upl_ne q).trans (hz j h1 (by have z4 : x4.toNatClampNeg = x4.toInt.toNat := rfl; omega)))) (fun j h1 => (upl_ne (by have z4 : x4.toNatClampNeg = x4.toInt.toNat := rfl; omega)).trans (hk j (by omega))) jb66_0 jb67_0 (by omega) hP hD hS ls (lv_sub hl [1, 2, 3, 4, 0] rfl)
  refine lv_iload_n hx hb dX12_row_0 rfl (lv_at hl 1 rfl) ?_
  refine cS_p (As := [.int p1]) (rest := []) ⟨hx, hb, hml, hown, hg⟩ (k_X12_isShelf l   p1 ) ca_X12_isShelf q5_223 ⟨rfl, rfl⟩ ⟨Nat.le_of_ble_eq_true rfl, Nat.le_of_ble_eq_true rfl⟩ rfl hl.1 rfl (Nat.le_of_ble_eq_true rfl) ⟨Nat.zero_le _, Nat.zero_le _⟩ dX12_row_1 (fun r_5 wr_5 => ?_)
  have wr_5 : (r_5.toInt = 1 ∧ 0 ≤ p1.toInt ∧ p1.toInt < 6) ∨ (r_5.toInt = 0 ∧ ¬ (0 ≤ p1.toInt ∧ p1.toInt < 6)) := wr_5
  refine lv_if_eq (tgt := 22) hx hb dX12_row_4 (by decide) (fun c_6 => ?_) (fun c_6 => ?_)
  ·
    have kc_6 : r_5.toInt = (0 : Int) := i_eq c_6
    refine lv_iconst (v := (-1)) hx hb dX12_row_22 (by decide) ?_
    have q0_m1 : ((-1) : Int32).toInt = (-1) := rfl
    have hP : va_P D vwCl (RW cs bd u (va_up (va_up b 66 (b 66)) 67 (b 67)) (va_up bw 68 (bw 68))) _ := hP
    have hD : va_D A (RW cs bd u (va_up (va_up b 66 (b 66)) 67 (b 67)) (va_up bw 68 (bw 68))) := hD
    exact W.iret (v := (-1)) hx hb hr (fun tt ht hW => ⟨⟨(-1), ⟨(b 66), (b 67), (bw 68)⟩, rfl, ⟨(by first | rfl | omega | trivial | assumption | (dsimp only; first | omega | assumption)), (fun q => absurd q (by decide)), (fun _ => ⟨rfl, rfl, rfl⟩), ib66_0, ib67_0⟩, by rw [ht]; exact hP, hD⟩, hS.F ht⟩) hS.2.2 dX12_row_23
  ·
    have kc_6 : r_5.toInt ≠ (0 : Int) := i_ne c_6
    refine lv_iload_n hx hb dX12_row_7 rfl (lv_at hl 2 rfl) ?_
    refine lv_iconst (v := 0) hx hb dX12_row_8 (by decide) ?_
    refine lv_iconst (v := 4) hx hb dX12_row_9 (by decide) ?_
    refine cS_p (As := [.int p2, .int 0, .int 4]) (rest := []) ⟨hx, hb, hml, hown, hg⟩ (k_X12_in l   p2 0 4 ) ca_X12_in q5_212 ⟨rfl, rfl⟩ ⟨Nat.le_of_ble_eq_true rfl, Nat.le_of_ble_eq_true rfl⟩ rfl hl.1 rfl (Nat.le_of_ble_eq_true rfl) ⟨Nat.zero_le _, Nat.zero_le _⟩ dX12_row_10 (fun r_7 wr_7 => ?_)
    have wr_7 : (r_7.toInt = 1 ∧ (0 : Int) ≤ p2.toInt ∧ p2.toInt ≤ (4 : Int)) ∨ (r_7.toInt = 0 ∧ ¬ ((0 : Int) ≤ p2.toInt ∧ p2.toInt ≤ (4 : Int))) := wr_7
    refine lv_if_eq (tgt := 22) hx hb dX12_row_13 (by decide) (fun c_8 => ?_) (fun c_8 => ?_)
    ·
      have kc_8 : r_7.toInt = (0 : Int) := i_eq c_8
      refine lv_iconst (v := (-1)) hx hb dX12_row_22 (by decide) ?_
      have q0_m1 : ((-1) : Int32).toInt = (-1) := rfl
      have hP : va_P D vwCl (RW cs bd u (va_up (va_up b 66 (b 66)) 67 (b 67)) (va_up bw 68 (bw 68))) _ := hP
      have hD : va_D A (RW cs bd u (va_up (va_up b 66 (b 66)) 67 (b 67)) (va_up bw 68 (bw 68))) := hD
      exact W.iret (v := (-1)) hx hb hr (fun tt ht hW => ⟨⟨(-1), ⟨(b 66), (b 67), (bw 68)⟩, rfl, ⟨(by first | rfl | omega | trivial | assumption | (dsimp only; first | omega | assumption)), (fun q => absurd q (by decide)), (fun _ => ⟨rfl, rfl, rfl⟩), ib66_0, ib67_0⟩, by rw [ht]; exact hP, hD⟩, hS.F ht⟩) hS.2.2 dX12_row_23
    ·
      have kc_8 : r_7.toInt ≠ (0 : Int) := i_ne c_8
      refine lv_iload_n hx hb dX12_row_16 rfl (lv_at hl 3 rfl) ?_
      refine lv_bipush (v := 60) hx hb dX12_row_17 (by decide) ?_
      refine lv_icmp_le (tgt := 24) hx hb dX12_row_19 (by decide) (fun c_9 => ?_) (fun c_9 => ?_)
      ·
        have kc_9 : p3.toInt ≤ (60 : Int) := i_le c_9
        refine lv_iload_n hx hb dX12_row_24 rfl (lv_at hl 3 rfl) ?_
        refine lv_if_ge (tgt := 31) hx hb dX12_row_25 (by decide) (fun c_10 => ?_) (fun c_10 => ?_)
        ·
          have kc_10 : (0 : Int) ≤ p3.toInt := i_le c_10
          refine lv_aload_n hx hb dX12_row_31 rfl (lv_at hl 0 rfl) ?_
          refine gr_holds hx hb hg hown hK hP (hg _ q5_58) dX12_row_32 ?_
          refine lv_iload_n hx hb dX12_row_35 rfl (lv_at hl 1 rfl) ?_
          refine lv_bipush (v := (-2)) hx hb dX12_row_36 (by decide) ?_
          refine lv_iload_n hx hb dX12_row_38 rfl (lv_at hl 2 rfl) ?_
          refine lv_isub hx hb dX12_row_39 ?_
          refine lv_topi (fun x_11 ex_11 => ?_)
          have fx_11 : x_11.toInt = (-2 : Int) - p2.toInt := by rw [ex_11]; exact i_sub (by first | omega | (show (_ : Int) ≤ (-2 : Int) - p2.toInt; omega)) (by first | omega | (show (-2 : Int) - p2.toInt ≤ (_ : Int); omega))
          refine sr_holds hx hb hK hP hD hS (i_in (by omega) (by omega)) dX12_row_40 (fun H locs hP hD hS => ?_)
          have hab_12 : AB (-6) 49 (upd (b 66) p1.toNatClampNeg x_11) := AB_upd ib66_0 (by omega) (by omega)
          refine lv_aload_n hx hb dX12_row_41 rfl (lv_at hl 0 rfl) ?_
          refine gr_size hx hb hg hown hK hP (hg _ q5_59) dX12_row_42 ?_
          refine lv_iload_n hx hb dX12_row_45 rfl (lv_at hl 1 rfl) ?_
          refine lv_iload_n hx hb dX12_row_46 rfl (lv_at hl 3 rfl) ?_
          refine sr_size hx hb hK hP hD hS (i_in (by omega) (by omega)) dX12_row_47 (fun H locs hP hD hS => ?_)
          have hab_13 : AB 0 60 (upd (b 67) p1.toNatClampNeg p3) := AB_upd ib67_0 (by omega) (by omega)
          refine lv_bipush (v := 60) hx hb dX12_row_48 (by decide) ?_
          refine lv_iload_n hx hb dX12_row_50 rfl (lv_at hl 1 rfl) ?_
          refine lv_imul hx hb dX12_row_51 ?_
          refine lv_topi (fun x_14 ex_14 => ?_)
          have fx_14 : x_14.toInt = (60 : Int) * p1.toInt := by rw [ex_14]; exact i_mul (by first | omega | (show _ ≤ (60 : Int) * p1.toInt; omega)) (by first | omega | (show (60 : Int) * p1.toInt ≤ _; omega))
          refine lv_istore (lv' := [(4, .int x_14), (0, .ref (bd 0)), (1, .int p1), (2, .int p2), (3, .int p3)]) hx hb dX12_row_52 hl (by decide) rfl (fun ls hl => ?_)
          exact (hcut (((360 - x_14.toInt).toNat) + 1)) x_14 (bw 68) (upd (b 66) p1.toNatClampNeg x_11) (upd (b 67) p1.toNatClampNeg p3) _ _ (by omega) (by omega) (by omega) (by omega) (by omega) (by omega) (by omega) (by omega) (by first | rfl | assumption) (by first | assumption | exact ⟨fun j hj => upd_ne hj, by (rw [upd_at rfl]; omega)⟩) (fun j h1 h2 => absurd h2 (by omega)) (fun j h1 => rfl) hab_12 hab_13 (Nat.lt_succ_self _) hP hD hS ls (lv_sub hl [1, 2, 3, 4, 0] rfl)
        ·
          have kc_10 : p3.toInt < (0 : Int) := i_nle c_10
          refine lv_bipush (v := (-14)) hx hb dX12_row_28 (by decide) ?_
          have q0_m14 : ((-14) : Int32).toInt = (-14) := rfl
          have hP : va_P D vwCl (RW cs bd u (va_up (va_up b 66 (b 66)) 67 (b 67)) (va_up bw 68 (bw 68))) _ := hP
          have hD : va_D A (RW cs bd u (va_up (va_up b 66 (b 66)) 67 (b 67)) (va_up bw 68 (bw 68))) := hD
          exact W.iret (v := (-14)) hx hb hr (fun tt ht hW => ⟨⟨(-14), ⟨(b 66), (b 67), (bw 68)⟩, rfl, ⟨(by first | rfl | omega | trivial | assumption | (dsimp only; first | omega | assumption)), (fun q => absurd q (by decide)), (fun _ => ⟨rfl, rfl, rfl⟩), ib66_0, ib67_0⟩, by rw [ht]; exact hP, hD⟩, hS.F ht⟩) hS.2.2 dX12_row_30
      ·
        have kc_9 : (60 : Int) < p3.toInt := i_nle c_9
        refine lv_iconst (v := (-1)) hx hb dX12_row_22 (by decide) ?_
        have q0_m1 : ((-1) : Int32).toInt = (-1) := rfl
        have hP : va_P D vwCl (RW cs bd u (va_up (va_up b 66 (b 66)) 67 (b 67)) (va_up bw 68 (bw 68))) _ := hP
        have hD : va_D A (RW cs bd u (va_up (va_up b 66 (b 66)) 67 (b 67)) (va_up bw 68 (bw 68))) := hD
        exact W.iret (v := (-1)) hx hb hr (fun tt ht hW => ⟨⟨(-1), ⟨(b 66), (b 67), (bw 68)⟩, rfl, ⟨(by first | rfl | omega | trivial | assumption | (dsimp only; first | omega | assumption)), (fun q => absurd q (by decide)), (fun _ => ⟨rfl, rfl, rfl⟩), ib66_0, ib67_0⟩, by rw [ht]; exact hP, hD⟩, hS.F ht⟩) hS.2.2 dX12_row_23
