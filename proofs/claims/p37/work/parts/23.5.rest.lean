set_option maxHeartbeats 4000000 in
set_option maxRecDepth 100000 in
theorem k_X12_taken (l : Launch) (D : va_G) (cs : Nat → ClassId) (A : Nat → Prop) (bd : Nat → Nat) (u : Nat → Int32) (b : Nat → Nat → Int32) (bw : Nat → Nat → Int64)  (p1 : Int32) (p2 : Int32) (ib66_0 : AB (-6) 49 (b 66)) (ib63_0 : AB 0 7 (b 63)) : Met l yX12_taken (Cond.code yX12_taken cX12_taken 3 (some .int) :: gw) ({ frames := 2, cells := 0, slots := 0, locals := 42 }) (va_Pc [.ref (bd 0), .int p1, .int p2] (XPre D (TY cs) (RW cs bd u b bw) A)) (vp_Si (fun (r : Int32) => ((¬ ((0 ≤ p1.toInt ∧ p1.toInt < 6) ∧ 0 ≤ p2.toInt ∧ p2.toInt ≤ 7) ∧ r.toInt = -1) ∨ (((0 ≤ p1.toInt ∧ p1.toInt < 6) ∧ 0 ≤ p2.toInt ∧ p2.toInt ≤ 7) ∧ ((((b 66) p1.toNatClampNeg).toInt = -1 ∧ r.toInt = -11) ∨ (0 ≤ ((b 66) p1.toNatClampNeg).toInt ∧ (UNDR ((b 63) ((b 66) p1.toNatClampNeg).toNatClampNeg).toInt p2.toInt) ∧ r.toInt = ((b 63) ((b 66) p1.toNatClampNeg).toNatClampNeg).toInt) ∨ (0 ≤ ((b 66) p1.toNatClampNeg).toInt ∧ ¬ (UNDR ((b 63) ((b 66) p1.toNatClampNeg).toNatClampNeg).toInt p2.toInt) ∧ r.toInt = -12) ∨ (((b 66) p1.toNatClampNeg).toInt < -1 ∧ r.toInt = -12)))))) 0 0 (fun _ => False) := by
  refine Met.ofW (cc := cX12_taken) (maxL := 3) (ret := (some .int)) (by decide) rfl ?_
  intro p e s m args below meth c s₁ B hml hv
  obtain ⟨rfl, hP, hK, hD, hZ⟩ := hv
  have hx := B.exec
  have hb := B.bytes
  have hr := B.returns
  have hts := atoms_spec (ws := (Cond.code yX12_taken cX12_taken 3 (some .int) :: gw)) B.pre
  have hg : ∀ w ∈ gw, w.before ([.ref (bd 0), .int p1, .int p2] : List Value).toArray s = true := fun w h => hts w (List.mem_cons_of_mem _ h)
  have hown : s.vm.findClass RX12 = some m.cls := findClass_of_methodNamed B.named
  have hlocks := B.notSynchronized
  have hS : va_S A s.heap s.heap [] := va_S.rf
  have hl := lv_entry ([.ref (bd 0), .int p1, .int p2]) (n := 3) (Nat.le_of_ble_eq_true rfl)
  rw [lg_entry_eq]
  generalize (lg_sl ([.ref (bd 0), .int p1, .int p2]) ++ List.replicate (3 - (lg_sl ([.ref (bd 0), .int p1, .int p2])).length) Slot.unset).toArray = ls at hl ⊢
  have hl : lv_has ls 3 [(0, .ref (bd 0)), (1, .int p1), (2, .int p2)] := hl
  refine lv_iload_n hx hb dX12_taken_0 rfl (lv_at hl 1 rfl) ?_
  refine cS_p (As := [.int p1]) (rest := []) ⟨hx, hb, hml, hown, hg⟩ (k_X12_isShelf l   p1 ) ca_X12_isShelf q5_223 ⟨rfl, rfl⟩ ⟨Nat.le_of_ble_eq_true rfl, Nat.le_of_ble_eq_true rfl⟩ rfl hl.1 rfl (Nat.le_of_ble_eq_true rfl) ⟨Nat.zero_le _, Nat.zero_le _⟩ dX12_taken_1 (fun r_1 wr_1 => ?_)
  have wr_1 : (r_1.toInt = 1 ∧ 0 ≤ p1.toInt ∧ p1.toInt < 6) ∨ (r_1.toInt = 0 ∧ ¬ (0 ≤ p1.toInt ∧ p1.toInt < 6)) := wr_1
  refine lv_if_eq (tgt := 17) hx hb dX12_taken_4 (by decide) (fun c_2 => ?_) (fun c_2 => ?_)
  ·
    have kc_2 : r_1.toInt = (0 : Int) := i_eq c_2
    refine lv_iconst (v := (-1)) hx hb dX12_taken_17 (by decide) ?_
    have q0_m1 : ((-1) : Int32).toInt = (-1) := rfl
    exact W.iret (v := (-1)) hx hb hr (fun tt ht hW => ⟨(-1), rfl, (Or.inl ⟨by omega, rfl⟩), ht⟩) (fun _ h => by cases h) dX12_taken_18
  ·
    have kc_2 : r_1.toInt ≠ (0 : Int) := i_ne c_2
    refine lv_iload_n hx hb dX12_taken_7 rfl (lv_at hl 2 rfl) ?_
    refine lv_iconst (v := 0) hx hb dX12_taken_8 (by decide) ?_
    refine lv_bipush (v := 7) hx hb dX12_taken_9 (by decide) ?_
    refine cS_p (As := [.int p2, .int 0, .int 7]) (rest := []) ⟨hx, hb, hml, hown, hg⟩ (k_X12_in l   p2 0 7 ) ca_X12_in q5_212 ⟨rfl, rfl⟩ ⟨Nat.le_of_ble_eq_true rfl, Nat.le_of_ble_eq_true rfl⟩ rfl hl.1 rfl (Nat.le_of_ble_eq_true rfl) ⟨Nat.zero_le _, Nat.zero_le _⟩ dX12_taken_11 (fun r_3 wr_3 => ?_)
    have wr_3 : (r_3.toInt = 1 ∧ (0 : Int) ≤ p2.toInt ∧ p2.toInt ≤ (7 : Int)) ∨ (r_3.toInt = 0 ∧ ¬ ((0 : Int) ≤ p2.toInt ∧ p2.toInt ≤ (7 : Int))) := wr_3
    refine lv_if_ne (tgt := 19) hx hb dX12_taken_14 (by decide) (fun c_4 => ?_) (fun c_4 => ?_)
    ·
      have kc_4 : r_3.toInt ≠ (0 : Int) := i_ne c_4
      have hT : ((0 ≤ p1.toInt ∧ p1.toInt < 6) ∧ 0 ≤ p2.toInt ∧ p2.toInt ≤ 7) := by omega
      refine lv_aload_n hx hb dX12_taken_19 rfl (lv_at hl 0 rfl) ?_
      refine gr_holds hx hb hg hown hK hP (hg _ q5_58) dX12_taken_20 ?_
      refine lv_iload_n hx hb dX12_taken_23 rfl (lv_at hl 1 rfl) ?_
      refine lr_holds hx hb hK hP (i_in (by omega) (by omega)) dX12_taken_24 ?_
      refine lv_topi (fun x_5 ex_5 => ?_)
      have ex_5 : x_5 = (b 66) p1.toNatClampNeg := ex_5
      have hx_5 : x_5.toInt = ((b 66) p1.toNatClampNeg).toInt := by rw [ex_5]
      have bx_5 := ib66_0 p1.toNatClampNeg
      rw [← ex_5] at bx_5
      refine lv_iconst (v := (-1)) hx hb dX12_taken_25 (by decide) ?_
      refine lv_icmp_ne (tgt := 32) hx hb dX12_taken_26 (by decide) (fun c_6 => ?_) (fun c_6 => ?_)
      ·
        have kc_6 : x_5.toInt ≠ (-1 : Int) := i_ne c_6
        refine lv_aload_n hx hb dX12_taken_32 rfl (lv_at hl 0 rfl) ?_
        refine gr_holds hx hb hg hown hK hP (hg _ q5_58) dX12_taken_33 ?_
        refine lv_iload_n hx hb dX12_taken_36 rfl (lv_at hl 1 rfl) ?_
        refine lr_holds hx hb hK hP (i_in (by omega) (by omega)) dX12_taken_37 ?_
        refine lv_topi (fun x_7 ex_7 => ?_)
        have ex_7 : x_7 = (b 66) p1.toNatClampNeg := ex_7
        have hx_7 : x_7.toInt = ((b 66) p1.toNatClampNeg).toInt := by rw [ex_7]
        have bx_7 := ib66_0 p1.toNatClampNeg
        rw [← ex_7] at bx_7
        refine lv_if_lt (tgt := 73) hx hb dX12_taken_38 (by decide) (fun c_8 => ?_) (fun c_8 => ?_)
        ·
          have kc_8 : x_7.toInt < (0 : Int) := i_lt c_8
          have hH1 : ((b 66) p1.toNatClampNeg).toInt < -1 := by omega
          refine lv_bipush (v := (-12)) hx hb dX12_taken_73 (by decide) ?_
          have q0_m12 : ((-12) : Int32).toInt = (-12) := rfl
          exact W.iret (v := (-12)) hx hb hr (fun tt ht hW => ⟨(-12), rfl, (Or.inr ⟨hT, Or.inr (Or.inr (Or.inr ⟨hH1, rfl⟩))⟩), ht⟩) (fun _ h => by cases h) dX12_taken_75
        ·
          have kc_8 : (0 : Int) ≤ x_7.toInt := i_nlt c_8
          have hH0 : 0 ≤ ((b 66) p1.toNatClampNeg).toInt := by omega
          refine lv_aload_n hx hb dX12_taken_41 rfl (lv_at hl 0 rfl) ?_
          refine gr_kind hx hb hg hown hK hP (hg _ q5_55) dX12_taken_42 ?_
          refine lv_aload_n hx hb dX12_taken_45 rfl (lv_at hl 0 rfl) ?_
          refine gr_holds hx hb hg hown hK hP (hg _ q5_58) dX12_taken_46 ?_
          refine lv_iload_n hx hb dX12_taken_49 rfl (lv_at hl 1 rfl) ?_
          refine lr_holds hx hb hK hP (i_in (by omega) (by omega)) dX12_taken_50 ?_
          refine lv_topi (fun x_9 ex_9 => ?_)
          have ex_9 : x_9 = (b 66) p1.toNatClampNeg := ex_9
          have hx_9 : x_9.toInt = ((b 66) p1.toNatClampNeg).toInt := by rw [ex_9]
          have bx_9 := ib66_0 p1.toNatClampNeg
          rw [← ex_9] at bx_9
          have kxx_9 : ((b 63) x_9.toNatClampNeg).toInt = ((b 63) ((b 66) p1.toNatClampNeg).toNatClampNeg).toInt := by rw [ex_9]
          refine lr_kind hx hb hK hP (i_in (by omega) (by omega)) dX12_taken_51 ?_
          refine lv_topi (fun x_10 ex_10 => ?_)
          have ex_10 : x_10 = (b 63) x_9.toNatClampNeg := ex_10
          have hx_10 : x_10.toInt = ((b 63) x_9.toNatClampNeg).toInt := by rw [ex_10]
          have bx_10 := ib63_0 x_9.toNatClampNeg
          rw [← ex_10] at bx_10
          refine lv_iload_n hx hb dX12_taken_52 rfl (lv_at hl 2 rfl) ?_
          refine cS_p (As := [.int x_10, .int p2]) (rest := []) ⟨hx, hb, hml, hown, hg⟩ (k_X12_isUnder l   x_10 p2 ) ca_X12_isUnder q7_52 ⟨rfl, rfl⟩ ⟨Nat.le_of_ble_eq_true rfl, Nat.le_of_ble_eq_true rfl⟩ rfl hl.1 rfl (Nat.le_of_ble_eq_true rfl) ⟨Nat.zero_le _, Nat.zero_le _⟩ dX12_taken_53 (fun r_11 wr_11 => ?_)
          have wr_11 : (r_11.toInt = 1 ∧ (UNDR x_10.toInt p2.toInt)) ∨ (r_11.toInt = 0 ∧ ¬ ((UNDR x_10.toInt p2.toInt))) := wr_11
          have hxk : x_10.toInt = ((b 63) ((b 66) p1.toNatClampNeg).toNatClampNeg).toInt := hx_10.trans kxx_9
          rw [hxk] at wr_11
          refine lv_if_eq (tgt := 73) hx hb dX12_taken_56 (by decide) (fun c_12 => ?_) (fun c_12 => ?_)
          ·
            have kc_12 : r_11.toInt = (0 : Int) := i_eq c_12
            have hU : ¬ (UNDR ((b 63) ((b 66) p1.toNatClampNeg).toNatClampNeg).toInt p2.toInt) := wr_11.elim (fun z => absurd z.1 (by omega)) (fun z => z.2)
            clear wr_11
            refine lv_bipush (v := (-12)) hx hb dX12_taken_73 (by decide) ?_
            have q0_m12 : ((-12) : Int32).toInt = (-12) := rfl
            exact W.iret (v := (-12)) hx hb hr (fun tt ht hW => ⟨(-12), rfl, (Or.inr ⟨hT, Or.inr (Or.inr (Or.inl ⟨hH0, hU, rfl⟩))⟩), ht⟩) (fun _ h => by cases h) dX12_taken_75
          ·
            have kc_12 : r_11.toInt ≠ (0 : Int) := i_ne c_12
            have hU : (UNDR ((b 63) ((b 66) p1.toNatClampNeg).toNatClampNeg).toInt p2.toInt) := wr_11.elim (fun z => z.2) (fun z => absurd z.1 (by omega))
            clear wr_11
            refine lv_aload_n hx hb dX12_taken_59 rfl (lv_at hl 0 rfl) ?_
            refine gr_kind hx hb hg hown hK hP (hg _ q5_55) dX12_taken_60 ?_
            refine lv_aload_n hx hb dX12_taken_63 rfl (lv_at hl 0 rfl) ?_
            refine gr_holds hx hb hg hown hK hP (hg _ q5_58) dX12_taken_64 ?_
            refine lv_iload_n hx hb dX12_taken_67 rfl (lv_at hl 1 rfl) ?_
            refine lr_holds hx hb hK hP (i_in (by omega) (by omega)) dX12_taken_68 ?_
            refine lv_topi (fun x_13 ex_13 => ?_)
            have ex_13 : x_13 = (b 66) p1.toNatClampNeg := ex_13
            have hx_13 : x_13.toInt = ((b 66) p1.toNatClampNeg).toInt := by rw [ex_13]
            have bx_13 := ib66_0 p1.toNatClampNeg
            rw [← ex_13] at bx_13
            have kxx_13 : ((b 63) x_13.toNatClampNeg).toInt = ((b 63) ((b 66) p1.toNatClampNeg).toNatClampNeg).toInt := by rw [ex_13]
            refine lr_kind hx hb hK hP (i_in (by omega) (by omega)) dX12_taken_69 ?_
            refine lv_topi (fun x_14 ex_14 => ?_)
            have ex_14 : x_14 = (b 63) x_13.toNatClampNeg := ex_14
            have hx_14 : x_14.toInt = ((b 63) x_13.toNatClampNeg).toInt := by rw [ex_14]
            have bx_14 := ib63_0 x_13.toNatClampNeg
            rw [← ex_14] at bx_14
            refine lv_goto (tgt := 75) hx hb dX12_taken_70 (by decide) ?_
            exact W.iret (v := x_14) hx hb hr (fun tt ht hW => ⟨x_14, rfl, (Or.inr ⟨hT, Or.inr (Or.inl ⟨hH0, hU, hx_14.trans kxx_13⟩)⟩), ht⟩) (fun _ h => by cases h) dX12_taken_75
      ·
        have kc_6 : x_5.toInt = (-1 : Int) := i_eq c_6
        refine lv_bipush (v := (-11)) hx hb dX12_taken_29 (by decide) ?_
        have q0_m11 : ((-11) : Int32).toInt = (-11) := rfl
        exact W.iret (v := (-11)) hx hb hr (fun tt ht hW => ⟨(-11), rfl, (Or.inr ⟨hT, Or.inl ⟨by omega, rfl⟩⟩), ht⟩) (fun _ h => by cases h) dX12_taken_31
    ·
      have kc_4 : r_3.toInt = (0 : Int) := i_eq c_4
      refine lv_iconst (v := (-1)) hx hb dX12_taken_17 (by decide) ?_
      have q0_m1 : ((-1) : Int32).toInt = (-1) := rfl
      exact W.iret (v := (-1)) hx hb hr (fun tt ht hW => ⟨(-1), rfl, (Or.inl ⟨by omega, rfl⟩), ht⟩) (fun _ h => by cases h) dX12_taken_18
