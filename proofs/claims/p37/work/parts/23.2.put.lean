set_option maxHeartbeats 4000000 in
set_option maxRecDepth 100000 in
theorem k_X12_whyNoPlace (l : Launch) (D : va_G) (cs : Nat → ClassId) (A : Nat → Prop) (bd : Nat → Nat) (u : Nat → Int32) (b : Nat → Nat → Int32) (bw : Nat → Nat → Int64)  (p1 : Int32) (p2 : Int32) (ib66_0 : AB (-6) 49 (b 66)) (ib67_0 : AB 0 60 (b 67)) : Met l yX12_whyNoPlace (Cond.code yX12_whyNoPlace cX12_whyNoPlace 3 (some .int) :: gw) ({ frames := 2, cells := 0, slots := 0, locals := 42 }) (va_Pc [.ref (bd 0), .int p1, .int p2] (XPre D (TY cs) (RW cs bd u b bw) A)) (vp_Si (fun (r : Int32) => (r.toInt < 0 ∨ (r.toInt = 0 ∧ 0 ≤ p1.toInt ∧ p1.toInt < 6 ∧ 0 ≤ p2.toInt ∧ p2.toInt < ((b 67) p1.toNatClampNeg).toInt ∧ p2.toInt < 60)) ∧ ((¬ (0 ≤ p1.toInt ∧ p1.toInt < 6) ∧ r.toInt = -1) ∨ ((0 ≤ p1.toInt ∧ p1.toInt < 6) ∧ ((((b 66) p1.toNatClampNeg).toInt = -1 ∧ r.toInt = -11) ∨ (0 ≤ ((b 66) p1.toNatClampNeg).toInt ∧ r.toInt = -12) ∨ (((b 66) p1.toNatClampNeg).toInt < -1 ∧ (0 ≤ p2.toInt ∧ p2.toInt < ((b 67) p1.toNatClampNeg).toInt) ∧ r.toInt = 0) ∨ (((b 66) p1.toNatClampNeg).toInt < -1 ∧ ¬ (0 ≤ p2.toInt ∧ p2.toInt < ((b 67) p1.toNatClampNeg).toInt) ∧ r.toInt = -13)))))) 0 0 (fun _ => False) := by
  refine Met.ofW (cc := cX12_whyNoPlace) (maxL := 3) (ret := (some .int)) (by decide) rfl ?_
  intro p e s m args below meth c s₁ B hml hv
  obtain ⟨rfl, hP, hK, hD, hZ⟩ := hv
  have hx := B.exec
  have hb := B.bytes
  have hr := B.returns
  have hts := atoms_spec (ws := (Cond.code yX12_whyNoPlace cX12_whyNoPlace 3 (some .int) :: gw)) B.pre
  have hg : ∀ w ∈ gw, w.before ([.ref (bd 0), .int p1, .int p2] : List Value).toArray s = true := fun w h => hts w (List.mem_cons_of_mem _ h)
  have hown : s.vm.findClass RX12 = some m.cls := findClass_of_methodNamed B.named
  have hlocks := B.notSynchronized
  have hS : va_S A s.heap s.heap [] := va_S.rf
  have hl := lv_entry ([.ref (bd 0), .int p1, .int p2]) (n := 3) (Nat.le_of_ble_eq_true rfl)
  rw [lg_entry_eq]
  generalize (lg_sl ([.ref (bd 0), .int p1, .int p2]) ++ List.replicate (3 - (lg_sl ([.ref (bd 0), .int p1, .int p2])).length) Slot.unset).toArray = ls at hl ⊢
  have hl : lv_has ls 3 [(0, .ref (bd 0)), (1, .int p1), (2, .int p2)] := hl
  refine lv_iload_n hx hb dX12_whyNoPlace_0 rfl (lv_at hl 1 rfl) ?_
  refine cS_p (As := [.int p1]) (rest := []) ⟨hx, hb, hml, hown, hg⟩ (k_X12_isShelf l   p1 ) ca_X12_isShelf q5_223 ⟨rfl, rfl⟩ ⟨Nat.le_of_ble_eq_true rfl, Nat.le_of_ble_eq_true rfl⟩ rfl hl.1 rfl (Nat.le_of_ble_eq_true rfl) ⟨Nat.zero_le _, Nat.zero_le _⟩ dX12_whyNoPlace_1 (fun r_1 wr_1 => ?_)
  have wr_1 : (r_1.toInt = 1 ∧ 0 ≤ p1.toInt ∧ p1.toInt < 6) ∨ (r_1.toInt = 0 ∧ ¬ (0 ≤ p1.toInt ∧ p1.toInt < 6)) := wr_1
  refine lv_if_ne (tgt := 9) hx hb dX12_whyNoPlace_4 (by decide) (fun c_2 => ?_) (fun c_2 => ?_)
  ·
    have kc_2 : r_1.toInt ≠ (0 : Int) := i_ne c_2
    refine lv_aload_n hx hb dX12_whyNoPlace_9 rfl (lv_at hl 0 rfl) ?_
    refine gr_holds hx hb hg hown hK hP (hg _ q5_58) dX12_whyNoPlace_10 ?_
    refine lv_iload_n hx hb dX12_whyNoPlace_13 rfl (lv_at hl 1 rfl) ?_
    refine lr_holds hx hb hK hP (i_in (by omega) (by omega)) dX12_whyNoPlace_14 ?_
    refine lv_topi (fun x_3 ex_3 => ?_)
    have ex_3 : x_3 = (b 66) p1.toNatClampNeg := ex_3
    have hx_3 : x_3.toInt = ((b 66) p1.toNatClampNeg).toInt := by rw [ex_3]
    have bx_3 := ib66_0 p1.toNatClampNeg
    rw [← ex_3] at bx_3
    refine lv_iconst (v := (-1)) hx hb dX12_whyNoPlace_15 (by decide) ?_
    refine lv_icmp_ne (tgt := 22) hx hb dX12_whyNoPlace_16 (by decide) (fun c_4 => ?_) (fun c_4 => ?_)
    ·
      have kc_4 : x_3.toInt ≠ (-1 : Int) := i_ne c_4
      refine lv_aload_n hx hb dX12_whyNoPlace_22 rfl (lv_at hl 0 rfl) ?_
      refine gr_holds hx hb hg hown hK hP (hg _ q5_58) dX12_whyNoPlace_23 ?_
      refine lv_iload_n hx hb dX12_whyNoPlace_26 rfl (lv_at hl 1 rfl) ?_
      refine lr_holds hx hb hK hP (i_in (by omega) (by omega)) dX12_whyNoPlace_27 ?_
      refine lv_topi (fun x_5 ex_5 => ?_)
      have ex_5 : x_5 = (b 66) p1.toNatClampNeg := ex_5
      have hx_5 : x_5.toInt = ((b 66) p1.toNatClampNeg).toInt := by rw [ex_5]
      have bx_5 := ib66_0 p1.toNatClampNeg
      rw [← ex_5] at bx_5
      refine lv_if_lt (tgt := 34) hx hb dX12_whyNoPlace_28 (by decide) (fun c_6 => ?_) (fun c_6 => ?_)
      ·
        have kc_6 : x_5.toInt < (0 : Int) := i_lt c_6
        refine lv_iload_n hx hb dX12_whyNoPlace_34 rfl (lv_at hl 2 rfl) ?_
        refine lv_iconst (v := 0) hx hb dX12_whyNoPlace_35 (by decide) ?_
        refine lv_aload_n hx hb dX12_whyNoPlace_36 rfl (lv_at hl 0 rfl) ?_
        refine gr_size hx hb hg hown hK hP (hg _ q5_59) dX12_whyNoPlace_37 ?_
        refine lv_iload_n hx hb dX12_whyNoPlace_40 rfl (lv_at hl 1 rfl) ?_
        refine lr_size hx hb hK hP (i_in (by omega) (by omega)) dX12_whyNoPlace_41 ?_
        refine lv_topi (fun x_7 ex_7 => ?_)
        have ex_7 : x_7 = (b 67) p1.toNatClampNeg := ex_7
        have hx_7 : x_7.toInt = ((b 67) p1.toNatClampNeg).toInt := by rw [ex_7]
        have bx_7 := ib67_0 p1.toNatClampNeg
        rw [← ex_7] at bx_7
        refine lv_iconst (v := 1) hx hb dX12_whyNoPlace_42 (by decide) ?_
        refine lv_isub hx hb dX12_whyNoPlace_43 ?_
        refine lv_topi (fun x_8 ex_8 => ?_)
        have fx_8 : x_8.toInt = x_7.toInt - (1 : Int) := by rw [ex_8]; exact i_sub (by first | omega | (show (_ : Int) ≤ x_7.toInt - (1 : Int); omega)) (by first | omega | (show x_7.toInt - (1 : Int) ≤ (_ : Int); omega))
        refine cS_p (As := [.int p2, .int 0, .int x_8]) (rest := []) ⟨hx, hb, hml, hown, hg⟩ (k_X12_in l   p2 0 x_8 ) ca_X12_in q5_212 ⟨rfl, rfl⟩ ⟨Nat.le_of_ble_eq_true rfl, Nat.le_of_ble_eq_true rfl⟩ rfl hl.1 rfl (Nat.le_of_ble_eq_true rfl) ⟨Nat.zero_le _, Nat.zero_le _⟩ dX12_whyNoPlace_44 (fun r_9 wr_9 => ?_)
        have wr_9 : (r_9.toInt = 1 ∧ (0 : Int) ≤ p2.toInt ∧ p2.toInt ≤ x_8.toInt) ∨ (r_9.toInt = 0 ∧ ¬ ((0 : Int) ≤ p2.toInt ∧ p2.toInt ≤ x_8.toInt)) := wr_9
        refine lv_if_eq (tgt := 54) hx hb dX12_whyNoPlace_47 (by decide) (fun c_10 => ?_) (fun c_10 => ?_)
        ·
          have kc_10 : r_9.toInt = (0 : Int) := i_eq c_10
          refine lv_bipush (v := (-13)) hx hb dX12_whyNoPlace_54 (by decide) ?_
          have q0_m13 : ((-13) : Int32).toInt = (-13) := rfl
          exact W.iret (v := (-13)) hx hb hr (fun tt ht hW => ⟨(-13), rfl, ⟨(by first | rfl | omega | trivial | assumption | (dsimp only; first | omega | assumption)), (by first | exact Or.inl ⟨by omega, by omega⟩ | exact Or.inr ⟨by omega, Or.inl ⟨by omega, by omega⟩⟩ | exact Or.inr ⟨by omega, Or.inr (Or.inl ⟨by omega, by omega⟩)⟩ | exact Or.inr ⟨by omega, Or.inr (Or.inr (Or.inl ⟨by omega, by omega, by omega⟩))⟩ | exact Or.inr ⟨by omega, Or.inr (Or.inr (Or.inr ⟨by omega, by omega, by omega⟩))⟩)⟩, ht⟩) (fun _ h => by cases h) dX12_whyNoPlace_56
        ·
          have kc_10 : r_9.toInt ≠ (0 : Int) := i_ne c_10
          refine lv_iconst (v := 0) hx hb dX12_whyNoPlace_50 (by decide) ?_
          refine lv_goto (tgt := 56) hx hb dX12_whyNoPlace_51 (by decide) ?_
          have q0_0 : (0 : Int32).toInt = 0 := rfl
          exact W.iret (v := 0) hx hb hr (fun tt ht hW => ⟨0, rfl, ⟨(by first | rfl | omega | trivial | assumption | (dsimp only; first | omega | assumption)), (by first | exact Or.inl ⟨by omega, by omega⟩ | exact Or.inr ⟨by omega, Or.inl ⟨by omega, by omega⟩⟩ | exact Or.inr ⟨by omega, Or.inr (Or.inl ⟨by omega, by omega⟩)⟩ | exact Or.inr ⟨by omega, Or.inr (Or.inr (Or.inl ⟨by omega, by omega, by omega⟩))⟩ | exact Or.inr ⟨by omega, Or.inr (Or.inr (Or.inr ⟨by omega, by omega, by omega⟩))⟩)⟩, ht⟩) (fun _ h => by cases h) dX12_whyNoPlace_56
      ·
        have kc_6 : (0 : Int) ≤ x_5.toInt := i_nlt c_6
        refine lv_bipush (v := (-12)) hx hb dX12_whyNoPlace_31 (by decide) ?_
        have q0_m12 : ((-12) : Int32).toInt = (-12) := rfl
        exact W.iret (v := (-12)) hx hb hr (fun tt ht hW => ⟨(-12), rfl, ⟨(by first | rfl | omega | trivial | assumption | (dsimp only; first | omega | assumption)), (by first | exact Or.inl ⟨by omega, by omega⟩ | exact Or.inr ⟨by omega, Or.inl ⟨by omega, by omega⟩⟩ | exact Or.inr ⟨by omega, Or.inr (Or.inl ⟨by omega, by omega⟩)⟩ | exact Or.inr ⟨by omega, Or.inr (Or.inr (Or.inl ⟨by omega, by omega, by omega⟩))⟩ | exact Or.inr ⟨by omega, Or.inr (Or.inr (Or.inr ⟨by omega, by omega, by omega⟩))⟩)⟩, ht⟩) (fun _ h => by cases h) dX12_whyNoPlace_33
    ·
      have kc_4 : x_3.toInt = (-1 : Int) := i_eq c_4
      refine lv_bipush (v := (-11)) hx hb dX12_whyNoPlace_19 (by decide) ?_
      have q0_m11 : ((-11) : Int32).toInt = (-11) := rfl
      exact W.iret (v := (-11)) hx hb hr (fun tt ht hW => ⟨(-11), rfl, ⟨(by first | rfl | omega | trivial | assumption | (dsimp only; first | omega | assumption)), (by first | exact Or.inl ⟨by omega, by omega⟩ | exact Or.inr ⟨by omega, Or.inl ⟨by omega, by omega⟩⟩ | exact Or.inr ⟨by omega, Or.inr (Or.inl ⟨by omega, by omega⟩)⟩ | exact Or.inr ⟨by omega, Or.inr (Or.inr (Or.inl ⟨by omega, by omega, by omega⟩))⟩ | exact Or.inr ⟨by omega, Or.inr (Or.inr (Or.inr ⟨by omega, by omega, by omega⟩))⟩)⟩, ht⟩) (fun _ h => by cases h) dX12_whyNoPlace_21
  ·
    have kc_2 : r_1.toInt = (0 : Int) := i_eq c_2
    refine lv_iconst (v := (-1)) hx hb dX12_whyNoPlace_7 (by decide) ?_
    have q0_m1 : ((-1) : Int32).toInt = (-1) := rfl
    exact W.iret (v := (-1)) hx hb hr (fun tt ht hW => ⟨(-1), rfl, ⟨(by first | rfl | omega | trivial | assumption | (dsimp only; first | omega | assumption)), (by first | exact Or.inl ⟨by omega, by omega⟩ | exact Or.inr ⟨by omega, Or.inl ⟨by omega, by omega⟩⟩ | exact Or.inr ⟨by omega, Or.inr (Or.inl ⟨by omega, by omega⟩)⟩ | exact Or.inr ⟨by omega, Or.inr (Or.inr (Or.inl ⟨by omega, by omega, by omega⟩))⟩ | exact Or.inr ⟨by omega, Or.inr (Or.inr (Or.inr ⟨by omega, by omega, by omega⟩))⟩)⟩, ht⟩) (fun _ h => by cases h) dX12_whyNoPlace_8
set_option maxHeartbeats 4000000 in
set_option maxRecDepth 100000 in
theorem k_X12_put (l : Launch) (D : va_G) (cs : Nat → ClassId) (A : Nat → Prop) (bd : Nat → Nat) (u : Nat → Int32) (b : Nat → Nat → Int32) (bw : Nat → Nat → Int64)  (p1 : Int32) (p2 : Int32) (p3 : Int64) (ib66_0 : AB (-6) 49 (b 66)) (ib67_0 : AB 0 60 (b 67)) : Met l yX12_put (Cond.code yX12_put cX12_put 7 (some .int) :: gw) ({ frames := 3, cells := 0, slots := 0, locals := 64 }) (va_Pc [.ref (bd 0), .int p1, .int p2, .long p3] (XPre D (TY cs) (RW cs bd u b bw) A)) (va_Qi (fun (r : Int32) (z : Nat → Int64) => ((¬ (0 ≤ p1.toInt ∧ p1.toInt < 6) ∧ r.toInt = -1) ∨ ((0 ≤ p1.toInt ∧ p1.toInt < 6) ∧ ((((b 66) p1.toNatClampNeg).toInt = -1 ∧ r.toInt = -11) ∨ (0 ≤ ((b 66) p1.toNatClampNeg).toInt ∧ r.toInt = -12) ∨ (((b 66) p1.toNatClampNeg).toInt < -1 ∧ (0 ≤ p2.toInt ∧ p2.toInt < ((b 67) p1.toNatClampNeg).toInt) ∧ r.toInt = 1) ∨ (((b 66) p1.toNatClampNeg).toInt < -1 ∧ ¬ (0 ≤ p2.toInt ∧ p2.toInt < ((b 67) p1.toNatClampNeg).toInt) ∧ r.toInt = -13)))) ∧ (r.toInt = 1 → z = vp_updL (bw 68) (60 * p1.toNatClampNeg + p2.toNatClampNeg) (LOWV (-2 - ((b 66) p1.toNatClampNeg).toInt) p3)) ∧ (r.toInt ≠ 1 → z = (bw 68))) (XPo D (fun (z : Nat → Int64) => RW cs bd u b (va_up bw 68 z)) A) A) 0 0 A := by
  refine Met.ofW (cc := cX12_put) (maxL := 7) (ret := (some .int)) (by decide) rfl ?_
  intro p e s m args below meth c s₁ B hml hv
  obtain ⟨rfl, hP, hK, hD, hZ⟩ := hv
  have hx := B.exec
  have hb := B.bytes
  have hr := B.returns
  have hts := atoms_spec (ws := (Cond.code yX12_put cX12_put 7 (some .int) :: gw)) B.pre
  have hg : ∀ w ∈ gw, w.before ([.ref (bd 0), .int p1, .int p2, .long p3] : List Value).toArray s = true := fun w h => hts w (List.mem_cons_of_mem _ h)
  have hown : s.vm.findClass RX12 = some m.cls := findClass_of_methodNamed B.named
  have hlocks := B.notSynchronized
  have hS : va_S A s.heap s.heap [] := va_S.rf
  have hP : va_P D vwCl (RW cs bd u b bw) s.heap := hP
  have zp1 : p1.toNatClampNeg = p1.toInt.toNat := rfl
  have zp2 : p2.toNatClampNeg = p2.toInt.toNat := rfl
  have hl := lv_entry ([.ref (bd 0), .int p1, .int p2, .long p3]) (n := 7) (Nat.le_of_ble_eq_true rfl)
  rw [lg_entry_eq]
  generalize (lg_sl ([.ref (bd 0), .int p1, .int p2, .long p3]) ++ List.replicate (7 - (lg_sl ([.ref (bd 0), .int p1, .int p2, .long p3])).length) Slot.unset).toArray = ls at hl ⊢
  have hl : lv_has ls 7 [(0, .ref (bd 0)), (1, .int p1), (2, .int p2), (3, .long p3)] := hl
  refine lv_aload_n hx hb dX12_put_0 rfl (lv_at hl 0 rfl) ?_
  refine lv_iload_n hx hb dX12_put_1 rfl (lv_at hl 1 rfl) ?_
  refine lv_iload_n hx hb dX12_put_2 rfl (lv_at hl 2 rfl) ?_
  refine cV_ro (As := [.int p1, .int p2]) (rest := []) ⟨hx, hb, hml, hown, hg⟩ (k_X12_whyNoPlace l D cs A bd u b bw  p1 p2 ib66_0 ib67_0) ca_X12_whyNoPlace q7_115 ⟨rfl, rfl⟩ ⟨Nat.le_of_ble_eq_true rfl, Nat.le_of_ble_eq_true rfl⟩ (rc_model hK hP) hK hP hD hS hZ rfl hl.1 rfl (Nat.le_of_ble_eq_true rfl) ⟨Nat.zero_le _, Nat.zero_le _⟩ dX12_put_3 (fun r_1 wr_1 => ?_)
  obtain ⟨wr_1_0, wr_1_1⟩ : (r_1.toInt < 0 ∨ (r_1.toInt = 0 ∧ 0 ≤ p1.toInt ∧ p1.toInt < 6 ∧ 0 ≤ p2.toInt ∧ p2.toInt < ((b 67) p1.toNatClampNeg).toInt ∧ p2.toInt < 60)) ∧ ((¬ (0 ≤ p1.toInt ∧ p1.toInt < 6) ∧ r_1.toInt = -1) ∨ ((0 ≤ p1.toInt ∧ p1.toInt < 6) ∧ ((((b 66) p1.toNatClampNeg).toInt = -1 ∧ r_1.toInt = -11) ∨ (0 ≤ ((b 66) p1.toNatClampNeg).toInt ∧ r_1.toInt = -12) ∨ (((b 66) p1.toNatClampNeg).toInt < -1 ∧ (0 ≤ p2.toInt ∧ p2.toInt < ((b 67) p1.toNatClampNeg).toInt) ∧ r_1.toInt = 0) ∨ (((b 66) p1.toNatClampNeg).toInt < -1 ∧ ¬ (0 ≤ p2.toInt ∧ p2.toInt < ((b 67) p1.toNatClampNeg).toInt) ∧ r_1.toInt = -13)))) := wr_1
  refine lv_istore (lv' := [(5, .int r_1), (0, .ref (bd 0)), (1, .int p1), (2, .int p2), (3, .long p3)]) hx hb dX12_put_6 hl (by decide) rfl (fun ls hl => ?_)
  refine lv_iload hx hb dX12_put_8 (lv_at hl 0 rfl) ?_
  refine lv_if_ge (tgt := 16) hx hb dX12_put_10 (by decide) (fun c_2 => ?_) (fun c_2 => ?_)
  ·
    have kc_2 : (0 : Int) ≤ r_1.toInt := i_le c_2
    refine lv_bipush (v := (-2)) hx hb dX12_put_16 (by decide) ?_
    refine lv_aload_n hx hb dX12_put_18 rfl (lv_at hl 1 rfl) ?_
    refine gr_holds hx hb hg hown hK hP (hg _ q5_58) dX12_put_19 ?_
    refine lv_iload_n hx hb dX12_put_22 rfl (lv_at hl 2 rfl) ?_
    refine lr_holds hx hb hK hP (i_in (by omega) (by omega)) dX12_put_23 ?_
    refine lv_topi (fun x_3 ex_3 => ?_)
    have ex_3 : x_3 = (b 66) p1.toNatClampNeg := ex_3
    have hx_3 : x_3.toInt = ((b 66) p1.toNatClampNeg).toInt := by rw [ex_3]
    have bx_3 := ib66_0 p1.toNatClampNeg
    rw [← ex_3] at bx_3
    refine lv_isub hx hb dX12_put_24 ?_
    refine lv_topi (fun x_4 ex_4 => ?_)
    have fx_4 : x_4.toInt = (-2 : Int) - x_3.toInt := by rw [ex_4]; exact i_sub (by first | omega | (show (_ : Int) ≤ (-2 : Int) - x_3.toInt; omega)) (by first | omega | (show (-2 : Int) - x_3.toInt ≤ (_ : Int); omega))
    refine lv_istore (lv' := [(6, .int x_4), (5, .int r_1), (0, .ref (bd 0)), (1, .int p1), (2, .int p2), (3, .long p3)]) hx hb dX12_put_25 hl (by decide) rfl (fun ls hl => ?_)
    refine lv_aload_n hx hb dX12_put_27 rfl (lv_at hl 2 rfl) ?_
    refine gr_elements hx hb hg hown hK hP (hg _ q5_60) dX12_put_28 ?_
    have bsp := ib66_0 p1.toNatClampNeg
    refine lv_bipush (v := 60) hx hb dX12_put_31 (by decide) ?_
    refine lv_iload_n hx hb dX12_put_33 rfl (lv_at hl 3 rfl) ?_
    refine lv_imul hx hb dX12_put_34 ?_
    refine lv_topi (fun x_5 ex_5 => ?_)
    have fx_5 : x_5.toInt = (60 : Int) * p1.toInt := by rw [ex_5]; exact i_mul (by first | omega | (show _ ≤ (60 : Int) * p1.toInt; omega)) (by first | omega | (show (60 : Int) * p1.toInt ≤ _; omega))
    refine lv_iload_n hx hb dX12_put_35 rfl (lv_at hl 4 rfl) ?_
    refine lv_iadd hx hb dX12_put_36 ?_
    refine lv_topi (fun x_6 ex_6 => ?_)
    have fx_6 : x_6.toInt = x_5.toInt + p2.toInt := by rw [ex_6]; exact i_add (by first | omega | (show (_ : Int) ≤ x_5.toInt + p2.toInt; omega)) (by first | omega | (show x_5.toInt + p2.toInt ≤ (_ : Int); omega))
    refine lv_iload hx hb dX12_put_37 (lv_at hl 0 rfl) ?_
    refine lv_if_ne (tgt := 49) hx hb dX12_put_39 (by decide) (fun c_7 => ?_) (fun c_7 => ?_)
    ·
      have kc_7 : x_4.toInt ≠ (0 : Int) := i_ne c_7
      refine lv_iload hx hb dX12_put_49 (lv_at hl 0 rfl) ?_
      refine lv_iconst (v := 1) hx hb dX12_put_51 (by decide) ?_
      refine lv_icmp_ne (tgt := 62) hx hb dX12_put_52 (by decide) (fun c_8 => ?_) (fun c_8 => ?_)
      ·
        have kc_8 : x_4.toInt ≠ (1 : Int) := i_ne c_8
        refine lv_iload hx hb dX12_put_62 (lv_at hl 0 rfl) ?_
        refine lv_iconst (v := 2) hx hb dX12_put_64 (by decide) ?_
        refine lv_icmp_ne (tgt := 74) hx hb dX12_put_65 (by decide) (fun c_9 => ?_) (fun c_9 => ?_)
        ·
          have kc_9 : x_4.toInt ≠ (2 : Int) := i_ne c_9
          refine lv_iload hx hb dX12_put_74 (lv_at hl 0 rfl) ?_
          refine lv_iconst (v := 3) hx hb dX12_put_76 (by decide) ?_
          refine lv_icmp_ne (tgt := 84) hx hb dX12_put_77 (by decide) (fun c_10 => ?_) (fun c_10 => ?_)
          ·
            have kc_10 : x_4.toInt ≠ (3 : Int) := i_ne c_10
            refine lv_lload_n hx hb dX12_put_84 rfl (lv_at hl 5 rfl) ?_
            refine lv_lconst (v := 0) hx hb dX12_put_85 (by decide) ?_
            refine W.lcmp hx hb dX12_put_86 ?_
            refine lv_topi (fun x_11 ex_11 => ?_)
            have ql_0 : (0 : Int64).toInt = 0 := rfl
            have fx_11 : (x_11.toInt = 1 ∧ (0 : Int64).toInt < p3.toInt) ∨ (x_11.toInt = 0 ∧ p3.toInt = (0 : Int64).toInt) ∨ (x_11.toInt = -1 ∧ p3.toInt < (0 : Int64).toInt) := by rw [ex_11]; exact l_cmp _ _
            refine lv_if_eq (tgt := 94) hx hb dX12_put_87 (by decide) (fun c_12 => ?_) (fun c_12 => ?_)
            ·
              have kc_12 : x_11.toInt = (0 : Int) := i_eq c_12
              refine lv_lconst (v := 0) hx hb dX12_put_94 (by decide) ?_
              have kix : x_6.toNatClampNeg = 60 * p1.toNatClampNeg + p2.toNatClampNeg := by show (x_6).toInt.toNat = _; omega
              have klv : (0 : Int64) = LOWV (-2 - ((b 66) p1.toNatClampNeg).toInt) p3 := by first | (rw [LOWV_0 (by omega)]; simp only [ex_11, ex_6, ex_5, ex_4, ex_3]; done) | (rw [LOWV_1 (by omega)]; simp only [ex_11, ex_6, ex_5, ex_4, ex_3]; done) | (rw [LOWV_2 (by omega)]; simp only [ex_11, ex_6, ex_5, ex_4, ex_3]; done) | exact (LOWV_3 (by omega)).symm | exact (LOWV_4n (by omega) (by omega)).symm | exact (LOWV_4z (by omega) (by omega)).symm
              refine sr_elements hx hb hK hP hD hS (i_in (by omega) (by omega)) dX12_put_95 (fun H locs hP hD hS => ?_)
              refine lv_iconst (v := 1) hx hb dX12_put_96 (by decide) ?_
              have q0_1 : (1 : Int32).toInt = 1 := rfl
              exact W.iret (v := 1) hx hb hr (fun tt ht hW => ⟨⟨1, (vp_updL (bw 68) x_6.toNatClampNeg 0), rfl, ⟨(Or.inr ⟨⟨by omega, by omega⟩, Or.inr (Or.inr (Or.inl ⟨by omega, ⟨by omega, by omega⟩, rfl⟩))⟩), (fun _ => by (try dsimp only); rw [kix, ← klv]), (fun q => absurd rfl q)⟩, by rw [ht]; exact hP, hD⟩, hS.F ht⟩) hS.2.2 dX12_put_97
            ·
              have kc_12 : x_11.toInt ≠ (0 : Int) := i_ne c_12
              refine lv_lconst (v := 1) hx hb dX12_put_90 (by decide) ?_
              refine lv_goto (tgt := 95) hx hb dX12_put_91 (by decide) ?_
              have kix : x_6.toNatClampNeg = 60 * p1.toNatClampNeg + p2.toNatClampNeg := by show (x_6).toInt.toNat = _; omega
              have klv : (1 : Int64) = LOWV (-2 - ((b 66) p1.toNatClampNeg).toInt) p3 := by first | (rw [LOWV_0 (by omega)]; simp only [ex_11, ex_6, ex_5, ex_4, ex_3]; done) | (rw [LOWV_1 (by omega)]; simp only [ex_11, ex_6, ex_5, ex_4, ex_3]; done) | (rw [LOWV_2 (by omega)]; simp only [ex_11, ex_6, ex_5, ex_4, ex_3]; done) | exact (LOWV_3 (by omega)).symm | exact (LOWV_4n (by omega) (by omega)).symm | exact (LOWV_4z (by omega) (by omega)).symm
              refine sr_elements hx hb hK hP hD hS (i_in (by omega) (by omega)) dX12_put_95 (fun H locs hP hD hS => ?_)
              refine lv_iconst (v := 1) hx hb dX12_put_96 (by decide) ?_
              have q0_1 : (1 : Int32).toInt = 1 := rfl
              exact W.iret (v := 1) hx hb hr (fun tt ht hW => ⟨⟨1, (vp_updL (bw 68) x_6.toNatClampNeg 1), rfl, ⟨(Or.inr ⟨⟨by omega, by omega⟩, Or.inr (Or.inr (Or.inl ⟨by omega, ⟨by omega, by omega⟩, rfl⟩))⟩), (fun _ => by (try dsimp only); rw [kix, ← klv]), (fun q => absurd rfl q)⟩, by rw [ht]; exact hP, hD⟩, hS.F ht⟩) hS.2.2 dX12_put_97
          ·
            have kc_10 : x_4.toInt = (3 : Int) := i_eq c_10
            refine lv_lload_n hx hb dX12_put_80 rfl (lv_at hl 5 rfl) ?_
            refine lv_goto (tgt := 95) hx hb dX12_put_81 (by decide) ?_
            have kix : x_6.toNatClampNeg = 60 * p1.toNatClampNeg + p2.toNatClampNeg := by show (x_6).toInt.toNat = _; omega
            have klv : p3 = LOWV (-2 - ((b 66) p1.toNatClampNeg).toInt) p3 := by first | (rw [LOWV_0 (by omega)]; simp only [ex_6, ex_5, ex_4, ex_3]; done) | (rw [LOWV_1 (by omega)]; simp only [ex_6, ex_5, ex_4, ex_3]; done) | (rw [LOWV_2 (by omega)]; simp only [ex_6, ex_5, ex_4, ex_3]; done) | exact (LOWV_3 (by omega)).symm | exact (LOWV_4n (by omega) (by omega)).symm | exact (LOWV_4z (by omega) (by omega)).symm
            refine sr_elements hx hb hK hP hD hS (i_in (by omega) (by omega)) dX12_put_95 (fun H locs hP hD hS => ?_)
            refine lv_iconst (v := 1) hx hb dX12_put_96 (by decide) ?_
            have q0_1 : (1 : Int32).toInt = 1 := rfl
            exact W.iret (v := 1) hx hb hr (fun tt ht hW => ⟨⟨1, (vp_updL (bw 68) x_6.toNatClampNeg p3), rfl, ⟨(Or.inr ⟨⟨by omega, by omega⟩, Or.inr (Or.inr (Or.inl ⟨by omega, ⟨by omega, by omega⟩, rfl⟩))⟩), (fun _ => by (try dsimp only); rw [kix, ← klv]), (fun q => absurd rfl q)⟩, by rw [ht]; exact hP, hD⟩, hS.F ht⟩) hS.2.2 dX12_put_97
        ·
          have kc_9 : x_4.toInt = (2 : Int) := i_eq c_9
          refine lv_lload_n hx hb dX12_put_68 rfl (lv_at hl 5 rfl) ?_
          refine lv_l2i hx hb dX12_put_69 rfl ?_
          refine lv_topi (fun x_13 ex_13 => ?_)
          refine lv_i2l hx hb dX12_put_70 rfl ?_
          refine lv_topl (fun x_14 ex_14 => ?_)
          have fx_14 : x_14.toInt = x_13.toInt := by rw [ex_14]; exact l_i2l x_13
          have gx_14 := i_bd x_13
          refine lv_goto (tgt := 95) hx hb dX12_put_71 (by decide) ?_
          have kix : x_6.toNatClampNeg = 60 * p1.toNatClampNeg + p2.toNatClampNeg := by show (x_6).toInt.toNat = _; omega
          have klv : x_14 = LOWV (-2 - ((b 66) p1.toNatClampNeg).toInt) p3 := by first | (rw [LOWV_0 (by omega)]; simp only [ex_14, ex_13, ex_6, ex_5, ex_4, ex_3]; done) | (rw [LOWV_1 (by omega)]; simp only [ex_14, ex_13, ex_6, ex_5, ex_4, ex_3]; done) | (rw [LOWV_2 (by omega)]; simp only [ex_14, ex_13, ex_6, ex_5, ex_4, ex_3]; done) | exact (LOWV_3 (by omega)).symm | exact (LOWV_4n (by omega) (by omega)).symm | exact (LOWV_4z (by omega) (by omega)).symm
          refine sr_elements hx hb hK hP hD hS (i_in (by omega) (by omega)) dX12_put_95 (fun H locs hP hD hS => ?_)
          refine lv_iconst (v := 1) hx hb dX12_put_96 (by decide) ?_
          have q0_1 : (1 : Int32).toInt = 1 := rfl
          exact W.iret (v := 1) hx hb hr (fun tt ht hW => ⟨⟨1, (vp_updL (bw 68) x_6.toNatClampNeg x_14), rfl, ⟨(Or.inr ⟨⟨by omega, by omega⟩, Or.inr (Or.inr (Or.inl ⟨by omega, ⟨by omega, by omega⟩, rfl⟩))⟩), (fun _ => by (try dsimp only); rw [kix, ← klv]), (fun q => absurd rfl q)⟩, by rw [ht]; exact hP, hD⟩, hS.F ht⟩) hS.2.2 dX12_put_97
      ·
        have kc_8 : x_4.toInt = (1 : Int) := i_eq c_8
        refine lv_lload_n hx hb dX12_put_55 rfl (lv_at hl 5 rfl) ?_
        refine lv_l2i hx hb dX12_put_56 rfl ?_
        refine lv_topi (fun x_15 ex_15 => ?_)
        refine lv_i2s hx hb dX12_put_57 rfl ?_
        refine lv_topi (fun x_16 ex_16 => ?_)
        refine lv_i2l hx hb dX12_put_58 rfl ?_
        refine lv_topl (fun x_17 ex_17 => ?_)
        have fx_17 : x_17.toInt = x_16.toInt := by rw [ex_17]; exact l_i2l x_16
        have gx_17 := i_bd x_16
        refine lv_goto (tgt := 95) hx hb dX12_put_59 (by decide) ?_
        have kix : x_6.toNatClampNeg = 60 * p1.toNatClampNeg + p2.toNatClampNeg := by show (x_6).toInt.toNat = _; omega
        have klv : x_17 = LOWV (-2 - ((b 66) p1.toNatClampNeg).toInt) p3 := by first | (rw [LOWV_0 (by omega)]; simp only [ex_17, ex_16, ex_15, ex_6, ex_5, ex_4, ex_3]; done) | (rw [LOWV_1 (by omega)]; simp only [ex_17, ex_16, ex_15, ex_6, ex_5, ex_4, ex_3]; done) | (rw [LOWV_2 (by omega)]; simp only [ex_17, ex_16, ex_15, ex_6, ex_5, ex_4, ex_3]; done) | exact (LOWV_3 (by omega)).symm | exact (LOWV_4n (by omega) (by omega)).symm | exact (LOWV_4z (by omega) (by omega)).symm
        refine sr_elements hx hb hK hP hD hS (i_in (by omega) (by omega)) dX12_put_95 (fun H locs hP hD hS => ?_)
        refine lv_iconst (v := 1) hx hb dX12_put_96 (by decide) ?_
        have q0_1 : (1 : Int32).toInt = 1 := rfl
        exact W.iret (v := 1) hx hb hr (fun tt ht hW => ⟨⟨1, (vp_updL (bw 68) x_6.toNatClampNeg x_17), rfl, ⟨(Or.inr ⟨⟨by omega, by omega⟩, Or.inr (Or.inr (Or.inl ⟨by omega, ⟨by omega, by omega⟩, rfl⟩))⟩), (fun _ => by (try dsimp only); rw [kix, ← klv]), (fun q => absurd rfl q)⟩, by rw [ht]; exact hP, hD⟩, hS.F ht⟩) hS.2.2 dX12_put_97
    ·
      have kc_7 : x_4.toInt = (0 : Int) := i_eq c_7
      refine lv_lload_n hx hb dX12_put_42 rfl (lv_at hl 5 rfl) ?_
      refine lv_l2i hx hb dX12_put_43 rfl ?_
      refine lv_topi (fun x_18 ex_18 => ?_)
      refine lv_i2b hx hb dX12_put_44 rfl ?_
      refine lv_topi (fun x_19 ex_19 => ?_)
      refine lv_i2l hx hb dX12_put_45 rfl ?_
      refine lv_topl (fun x_20 ex_20 => ?_)
      have fx_20 : x_20.toInt = x_19.toInt := by rw [ex_20]; exact l_i2l x_19
      have gx_20 := i_bd x_19
      refine lv_goto (tgt := 95) hx hb dX12_put_46 (by decide) ?_
      have kix : x_6.toNatClampNeg = 60 * p1.toNatClampNeg + p2.toNatClampNeg := by show (x_6).toInt.toNat = _; omega
      have klv : x_20 = LOWV (-2 - ((b 66) p1.toNatClampNeg).toInt) p3 := by first | (rw [LOWV_0 (by omega)]; simp only [ex_20, ex_19, ex_18, ex_6, ex_5, ex_4, ex_3]; done) | (rw [LOWV_1 (by omega)]; simp only [ex_20, ex_19, ex_18, ex_6, ex_5, ex_4, ex_3]; done) | (rw [LOWV_2 (by omega)]; simp only [ex_20, ex_19, ex_18, ex_6, ex_5, ex_4, ex_3]; done) | exact (LOWV_3 (by omega)).symm | exact (LOWV_4n (by omega) (by omega)).symm | exact (LOWV_4z (by omega) (by omega)).symm
      refine sr_elements hx hb hK hP hD hS (i_in (by omega) (by omega)) dX12_put_95 (fun H locs hP hD hS => ?_)
      refine lv_iconst (v := 1) hx hb dX12_put_96 (by decide) ?_
      have q0_1 : (1 : Int32).toInt = 1 := rfl
      exact W.iret (v := 1) hx hb hr (fun tt ht hW => ⟨⟨1, (vp_updL (bw 68) x_6.toNatClampNeg x_20), rfl, ⟨(Or.inr ⟨⟨by omega, by omega⟩, Or.inr (Or.inr (Or.inl ⟨by omega, ⟨by omega, by omega⟩, rfl⟩))⟩), (fun _ => by (try dsimp only); rw [kix, ← klv]), (fun q => absurd rfl q)⟩, by rw [ht]; exact hP, hD⟩, hS.F ht⟩) hS.2.2 dX12_put_97
  ·
    have kc_2 : r_1.toInt < (0 : Int) := i_nle c_2
    refine lv_iload hx hb dX12_put_13 (lv_at hl 0 rfl) ?_
    have hP : va_P D vwCl (RW cs bd u b (va_up bw 68 (bw 68))) _ := hP
    have hD : va_D A (RW cs bd u b (va_up bw 68 (bw 68))) := hD
    exact W.iret (v := r_1) hx hb hr (fun tt ht hW => ⟨⟨r_1, (bw 68), rfl, ⟨(by rcases wr_1_1 with ⟨a1, b1⟩ | ⟨a1, ⟨b1, c1⟩ | ⟨b1, c1⟩ | ⟨b1, c1, d1⟩ | ⟨b1, c1, d1⟩⟩ <;> first | exact Or.inl ⟨a1, b1⟩ | exact Or.inr ⟨a1, Or.inl ⟨b1, c1⟩⟩ | exact Or.inr ⟨a1, Or.inr (Or.inl ⟨b1, c1⟩)⟩ | (exfalso; omega) | exact Or.inr ⟨a1, Or.inr (Or.inr (Or.inr ⟨b1, c1, d1⟩))⟩), (fun q => absurd q (by omega)), (fun _ => rfl)⟩, by rw [ht]; exact hP, hD⟩, hS.F ht⟩) hS.2.2 dX12_put_15
