set_option maxHeartbeats 4000000 in
set_option maxRecDepth 100000 in
theorem k_X12_line (l : Launch) (D : va_G) (cs : Nat → ClassId) (A : Nat → Prop) (bd : Nat → Nat) (u : Nat → Int32) (b : Nat → Nat → Int32) (bw : Nat → Nat → Int64)   (hT : (u 17).toInt = -1) (hh0 : 0 ≤ (u 16).toInt) (hh1 : (u 16).toInt ≤ (u 15).toInt) (hL0 : 0 ≤ (u 19).toInt) (hL1 : (u 19).toInt ≤ (u 16).toInt) (ho0 : 0 ≤ (u 18).toInt) (ho6 : (u 18).toInt ≤ 6) (hm0 : 0 ≤ ((b 22) 1).toInt) (hm1 : 2 * ((b 22) 1).toInt ≤ (u 16).toInt) (ib23_0 : AB (-32768) 32767 (b 23)) (iu15_0 : 0 ≤ (u 15).toInt) (iu15_1 : (u 15).toInt ≤ 120) (ib20_0 : AB (-128) 127 (b 20)) (ib24_0 : AB (-32768) 32767 (b 24)) : Met l yX12_line (Cond.code yX12_line cX12_line 2 none :: gw) ({ frames := 72, cells := 0, slots := 0, locals := 2220 }) (va_Pc [.ref (bd 0)] (XPre D (TY cs) (RW cs bd u b bw) A)) (va_Qv (fun (z : Int32 × Int32 × Int32 × Int32 × (Nat → Int32) × (Nat → Int32) × (Nat → Int32) × (Nat → Int32) × (Nat → Int32)) => ((z.2.1.toInt = -1 ∧ z.2.2.1.toInt = (u 18).toInt ∧ (u 16).toInt < z.1.toInt ∧ z.2.2.2.1.toInt ≤ z.1.toInt) ∨ (0 ≤ z.2.1.toInt ∧ z.2.2.2.1.toInt ≤ z.1.toInt + 1)) ∧ ((u 16).toInt ≤ z.1.toInt) ∧ (z.1.toInt ≤ (u 15).toInt) ∧ ((u 18).toInt ≤ z.2.2.1.toInt) ∧ (z.2.2.1.toInt ≤ 6) ∧ ((u 19).toInt ≤ z.2.2.2.1.toInt) ∧ (FRM (130 + (u 19).toInt.toNat) (b 20) z.2.2.2.2.2.1) ∧ (FRM (130 + (u 19).toInt.toNat) (b 21) z.2.2.2.2.2.2.1) ∧ ((z.2.2.2.2.2.2.2.2 1).toInt = ((b 22) 1).toInt + 1) ∧ (z.2.2.2.2.2.2.2.2 0 = (b 22) 0) ∧ (FRM (61 + ((b 22) 1).toInt.toNat) (b 23) z.2.2.2.2.1) ∧ (FRM (61 + ((b 22) 1).toInt.toNat) (b 24) z.2.2.2.2.2.2.2.1) ∧ (z.2.1.toInt = -1 → LN z.2.2.2.2.2.1 z.2.2.2.2.2.2.1 z.2.2.2.2.1 z.2.2.2.2.2.2.2.1 ((b 22) 1).toInt.toNat (u 19).toInt.toNat z.2.2.2.1.toInt.toNat) ∧ (AB (-32768) 32767 z.2.2.2.2.1) ∧ (AB (-128) 127 z.2.2.2.2.2.1) ∧ (AB (-32768) 32767 z.2.2.2.2.2.2.2.1)) (XPo D (fun (z : Int32 × Int32 × Int32 × Int32 × (Nat → Int32) × (Nat → Int32) × (Nat → Int32) × (Nat → Int32) × (Nat → Int32)) => RW cs bd (va_up (va_up (va_up (va_up u 16 z.1) 17 z.2.1) 18 z.2.2.1) 19 z.2.2.2.1) (va_up (va_up (va_up (va_up (va_up b 23 z.2.2.2.2.1) 20 z.2.2.2.2.2.1) 21 z.2.2.2.2.2.2.1) 24 z.2.2.2.2.2.2.2.1) 22 z.2.2.2.2.2.2.2.2) bw) A) A) 0 0 A := by
  refine Met.ofW (cc := cX12_line) (maxL := 2) (ret := none) (by decide) rfl ?_
  intro p e s m args below meth c s₁ B hml hv
  obtain ⟨rfl, hP, hK, hD, hZ⟩ := hv
  have hx := B.exec
  have hb := B.bytes
  have hr := B.returns
  have hts := atoms_spec (ws := (Cond.code yX12_line cX12_line 2 none :: gw)) B.pre
  have hg : ∀ w ∈ gw, w.before ([.ref (bd 0)] : List Value).toArray s = true := fun w h => hts w (List.mem_cons_of_mem _ h)
  have hown : s.vm.findClass RX12 = some m.cls := findClass_of_methodNamed B.named
  have hlocks := B.notSynchronized
  have hS : va_S A s.heap s.heap [] := va_S.rf
  have hP : va_P D vwCl (RW cs bd u b bw) s.heap := hP
  have hl := lv_entry ([.ref (bd 0)]) (n := 2) (Nat.le_of_ble_eq_true rfl)
  rw [lg_entry_eq]
  generalize (lg_sl ([.ref (bd 0)]) ++ List.replicate (2 - (lg_sl ([.ref (bd 0)])).length) Slot.unset).toArray = ls at hl ⊢
  have hl : lv_has ls 2 [(0, .ref (bd 0))] := hl
  refine lv_bipush (v := 61) hx hb dX12_line_0 (by decide) ?_
  refine lv_aload_n hx hb dX12_line_2 rfl (lv_at hl 0 rfl) ?_
  refine gr_lineMany hx hb hg hown hK hP (hg _ q5_14) dX12_line_3 ?_
  refine lv_iconst (v := 1) hx hb dX12_line_6 (by decide) ?_
  refine lr_lineMany hx hb hK hP (i_in (by decide) (by decide)) dX12_line_7 ?_
  refine lv_topi (fun x_1 ex_1 => ?_)
  have ex_1 : x_1 = (b 22) (1 : Int32).toNatClampNeg := ex_1
  have hx_1 : x_1.toInt = ((b 22) (1 : Int32).toNatClampNeg).toInt := by rw [ex_1]
  have nx_1 : x_1.toInt = ((b 22) 1).toInt := hx_1
  refine lv_iadd hx hb dX12_line_8 ?_
  refine lv_topi (fun x_2 ex_2 => ?_)
  have fx_2 : x_2.toInt = (61 : Int) + x_1.toInt := by rw [ex_2]; exact i_add (by first | omega | (show (_ : Int) ≤ (61 : Int) + x_1.toInt; omega)) (by first | omega | (show (61 : Int) + x_1.toInt ≤ (_ : Int); omega))
  refine lv_istore_n (lv' := [(1, .int x_2), (0, .ref (bd 0))]) hx hb dX12_line_9 rfl hl (by decide) rfl (fun ls hl => ?_)
  refine lv_aload_n hx hb dX12_line_10 rfl (lv_at hl 1 rfl) ?_
  refine gr_testEnd hx hb hg hown hK hP (hg _ q5_15) dX12_line_11 ?_
  refine lv_iload_n hx hb dX12_line_14 rfl (lv_at hl 0 rfl) ?_
  refine lv_aload_n hx hb dX12_line_15 rfl (lv_at hl 1 rfl) ?_
  refine gr_laid hx hb hg hown hK hP (x := (u 19)) rfl (hg _ q5_11) dX12_line_16 ?_
  refine lv_i2s hx hb dX12_line_19 rfl ?_
  refine lv_topi (fun x_3 ex_3 => ?_)
  have kt_4 : (vp_nar .short x_3).toInt = (u 19).toInt := nar_s ex_3 (by omega) (by omega)
  refine sr_testEnd hx hb hK hP hD hS (i_in (by omega) (by omega)) dX12_line_20 (fun H locs hP hD hS => ?_)
  have hab_5 : AB (-32768) 32767 (upd (b 23) x_2.toNatClampNeg (vp_nar .short x_3)) := AB_upd ib23_0 (nar_s_rg _).1 (nar_s_rg _).2
  refine lv_aload_n hx hb dX12_line_21 rfl (lv_at hl 1 rfl) ?_
  refine cV_v (As := []) (rest := []) ⟨hx, hb, hml, hown, hg⟩ (((rr_all 6).2) l D cs A bd u (va_up b 23 (upd (b 23) x_2.toNatClampNeg (vp_nar .short x_3))) bw   (show (u 17).toInt = -1 by first | omega | decide) (show 0 ≤ (u 16).toInt by first | omega | decide) (show (u 16).toInt ≤ (u 15).toInt by first | omega | decide) (show 0 ≤ (u 19).toInt by first | omega | decide) (show (u 19).toInt ≤ (u 16).toInt by first | omega | decide) (show 0 ≤ (u 18).toInt by first | omega | decide) (show (u 18).toInt ≤ 6 by first | omega | decide) (show 6 ≤ (u 18).toInt + ((6 : Nat) : Int) by first | omega | decide) (show 0 ≤ (u 15).toInt by first | omega | decide) (show (u 15).toInt ≤ 120 by first | omega | decide) ib20_0) ca_X12_either q6_42 ⟨rfl, rfl⟩ ⟨Nat.le_of_ble_eq_true rfl, Nat.le_of_ble_eq_true rfl⟩ (rc_model hK hP) hK hP hD hS hZ rfl hl.1 rfl (Nat.le_of_ble_eq_true rfl) ⟨Nat.zero_le _, Nat.zero_le _⟩ dX12_line_22 (fun z_13 H locs wr_6 hP hD hS => ?_)
  obtain ⟨o_u16_7, o_u17_8, o_u18_9, o_u19_10, o_b20_11, o_b21_12⟩ := z_13
  have hP : va_P D vwCl (RW cs bd (va_up (va_up (va_up (va_up u 16 o_u16_7) 17 o_u17_8) 18 o_u18_9) 19 o_u19_10) (va_up (va_up (va_up b 23 (upd (b 23) x_2.toNatClampNeg (vp_nar .short x_3))) 20 o_b20_11) 21 o_b21_12) bw) H := hP
  have hD : va_D A (RW cs bd (va_up (va_up (va_up (va_up u 16 o_u16_7) 17 o_u17_8) 18 o_u18_9) 19 o_u19_10) (va_up (va_up (va_up b 23 (upd (b 23) x_2.toNatClampNeg (vp_nar .short x_3))) 20 o_b20_11) 21 o_b21_12) bw) := hD
  obtain ⟨wr_6_0, wr_6_1, wr_6_2, wr_6_3, wr_6_4, wr_6_5, wr_6_6, wr_6_7, wr_6_8, wr_6_9⟩ : ((o_u17_8.toInt = -1 ∧ o_u18_9.toInt = (u 18).toInt ∧ (u 16).toInt < o_u16_7.toInt ∧ o_u19_10.toInt - (u 19).toInt ≤ o_u16_7.toInt - (u 16).toInt) ∨ (0 ≤ o_u17_8.toInt ∧ o_u19_10.toInt - (u 19).toInt ≤ o_u16_7.toInt - (u 16).toInt + 1)) ∧ ((u 16).toInt ≤ o_u16_7.toInt) ∧ (o_u16_7.toInt ≤ (u 15).toInt) ∧ ((u 18).toInt ≤ o_u18_9.toInt) ∧ (o_u18_9.toInt ≤ 6) ∧ ((u 19).toInt ≤ o_u19_10.toInt) ∧ (FRM (130 + (u 19).toInt.toNat) (b 20) o_b20_11) ∧ (FRM (130 + (u 19).toInt.toNat) (b 21) o_b21_12) ∧ (o_u17_8.toInt = -1 → SEGI o_b20_11 o_b21_12 (130 + (u 19).toInt.toNat) (130 + o_u19_10.toInt.toNat)) ∧ (AB (-128) 127 o_b20_11) := wr_6
  have hA_14 : FRM (130 + (u 19).toInt.toNat) (b 20) o_b20_11 := FRM_trans FRM_refl wr_6_6 (by omega)
  have hA_15 : FRM (130 + (u 19).toInt.toNat) (b 21) o_b21_12 := FRM_trans FRM_refl wr_6_7 (by omega)
  refine lv_aload_n hx hb dX12_line_25 rfl (lv_at hl 1 rfl) ?_
  refine gr_fault hx hb hg hown hK hP (x := o_u17_8) rfl (hg _ q5_9) dX12_line_26 ?_
  refine lv_if_ge (tgt := 66) hx hb dX12_line_29 (by decide) (fun c_16 => ?_) (fun c_16 => ?_)
  ·
    have kc_16 : (0 : Int) ≤ o_u17_8.toInt := i_le c_16
    refine lv_aload_n hx hb dX12_line_66 rfl (lv_at hl 1 rfl) ?_
    refine gr_lineEnd hx hb hg hown hK hP (hg _ q5_16) dX12_line_67 ?_
    refine lv_iload_n hx hb dX12_line_70 rfl (lv_at hl 0 rfl) ?_
    refine lv_aload_n hx hb dX12_line_71 rfl (lv_at hl 1 rfl) ?_
    refine gr_laid hx hb hg hown hK hP (x := o_u19_10) rfl (hg _ q5_11) dX12_line_72 ?_
    refine lv_i2s hx hb dX12_line_75 rfl ?_
    refine lv_topi (fun x_17 ex_17 => ?_)
    have ke_18 : (vp_nar .short x_17).toInt = o_u19_10.toInt := nar_s ex_17 (by omega) (by omega)
    refine sr_lineEnd hx hb hK hP hD hS (i_in (by omega) (by omega)) dX12_line_76 (fun H locs hP hD hS => ?_)
    have hab_19 : AB (-32768) 32767 (upd (b 24) x_2.toNatClampNeg (vp_nar .short x_17)) := AB_upd ib24_0 (nar_s_rg _).1 (nar_s_rg _).2
    refine lv_aload_n hx hb dX12_line_77 rfl (lv_at hl 1 rfl) ?_
    refine gr_lineMany hx hb hg hown hK hP (hg _ q5_14) dX12_line_78 ?_
    refine lv_iconst (v := 1) hx hb dX12_line_81 (by decide) ?_
    refine lv_dup2_11 hx hb dX12_line_82 rfl rfl ?_
    refine lr_lineMany hx hb hK hP (i_in (by decide) (by decide)) dX12_line_83 ?_
    refine lv_topi (fun x_20 ex_20 => ?_)
    have ex_20 : x_20 = (b 22) (1 : Int32).toNatClampNeg := ex_20
    have hx_20 : x_20.toInt = ((b 22) (1 : Int32).toNatClampNeg).toInt := by rw [ex_20]
    have nx_20 : x_20.toInt = ((b 22) 1).toInt := hx_20
    refine lv_iconst (v := 1) hx hb dX12_line_84 (by decide) ?_
    refine lv_iadd hx hb dX12_line_85 ?_
    refine lv_topi (fun x_21 ex_21 => ?_)
    have fx_21 : x_21.toInt = x_20.toInt + (1 : Int) := by rw [ex_21]; exact i_add (by first | omega | (show (_ : Int) ≤ x_20.toInt + (1 : Int); omega)) (by first | omega | (show x_20.toInt + (1 : Int) ≤ (_ : Int); omega))
    refine sr_lineMany hx hb hK hP hD hS (i_in (by decide) (by decide)) dX12_line_86 (fun H locs hP hD hS => ?_)
    have ht23 : ((upd (b 23) x_2.toNatClampNeg (vp_nar .short x_3)) (61 + ((b 22) 1).toInt.toNat)).toInt = (u 19).toInt := by rw [upd_at (show (61 + ((b 22) 1).toInt.toNat) = x_2.toNatClampNeg from (by show _ = x_2.toInt.toNat; omega))]; exact kt_4
    have ht24 : ((upd (b 24) x_2.toNatClampNeg (vp_nar .short x_17)) (61 + ((b 22) 1).toInt.toNat)).toInt = o_u19_10.toInt := by rw [upd_at (show (61 + ((b 22) 1).toInt.toNat) = x_2.toNatClampNeg from (by show _ = x_2.toInt.toNat; omega))]; exact ke_18
    have hln : o_u17_8.toInt = -1 → LN o_b20_11 o_b21_12 (upd (b 23) x_2.toNatClampNeg (vp_nar .short x_3)) (upd (b 24) x_2.toNatClampNeg (vp_nar .short x_17)) ((b 22) 1).toInt.toNat (u 19).toInt.toNat o_u19_10.toInt.toNat := fun hq => ⟨(u 19).toInt.toNat, by omega, by omega, by omega, by omega, fun q => absurd rfl q, wr_6_8 (by omega)⟩
    exact W.vret hx hb hr (fun tt ht hW => ⟨⟨⟨o_u16_7, o_u17_8, o_u18_9, o_u19_10, (upd (b 23) x_2.toNatClampNeg (vp_nar .short x_3)), o_b20_11, o_b21_12, (upd (b 24) x_2.toNatClampNeg (vp_nar .short x_17)), (upd (b 22) (1 : Int32).toNatClampNeg x_21)⟩, rfl, ⟨(by first | rfl | omega | trivial | assumption | (dsimp only; first | omega | assumption)), (by first | rfl | omega | trivial | assumption | (dsimp only; first | omega | assumption)), (by first | rfl | omega | trivial | assumption | (dsimp only; first | omega | assumption)), (by first | rfl | omega | trivial | assumption | (dsimp only; first | omega | assumption)), (by first | rfl | omega | trivial | assumption | (dsimp only; first | omega | assumption)), (by first | rfl | omega | trivial | assumption | (dsimp only; first | omega | assumption)), hA_14, hA_15, (by dsimp only; rw [upd_at (show 1 = (1 : Int32).toNatClampNeg from rfl)]; omega), (by dsimp only; exact upd_ne (by decide)), (by first | exact FRM_upd FRM_refl (by show _ ≤ x_2.toInt.toNat; omega) | exact FRM_upd (FRM_upd FRM_refl (by show _ ≤ x_2.toInt.toNat; omega)) (by show _ ≤ x_2.toInt.toNat; omega)), (by first | exact FRM_upd FRM_refl (by show _ ≤ x_2.toInt.toNat; omega) | exact FRM_upd (FRM_upd FRM_refl (by show _ ≤ x_2.toInt.toNat; omega)) (by show _ ≤ x_2.toInt.toNat; omega)), hln, hab_5, wr_6_9, hab_19⟩, by rw [ht]; exact hP, hD⟩, hS.F ht⟩) hS.2.2 dX12_line_87
  ·
    have kc_16 : o_u17_8.toInt < (0 : Int) := i_nle c_16
    refine lv_aload_n hx hb dX12_line_32 rfl (lv_at hl 1 rfl) ?_
    refine cV_ro (As := []) (rest := []) ⟨hx, hb, hml, hown, hg⟩ (k_X12_look l D cs A bd (va_up (va_up (va_up (va_up u 16 o_u16_7) 17 o_u17_8) 18 o_u18_9) 19 o_u19_10) (va_up (va_up (va_up b 23 (upd (b 23) x_2.toNatClampNeg (vp_nar .short x_3))) 20 o_b20_11) 21 o_b21_12) bw   (show 0 ≤ o_u16_7.toInt by first | omega | decide) (show 0 ≤ (u 15).toInt by first | omega | decide) (show (u 15).toInt ≤ 120 by first | omega | decide)) ca_X12_look q6_66 ⟨rfl, rfl⟩ ⟨Nat.le_of_ble_eq_true rfl, Nat.le_of_ble_eq_true rfl⟩ (rc_model hK hP) hK hP hD hS hZ rfl hl.1 rfl (Nat.le_of_ble_eq_true rfl) ⟨Nat.zero_le _, Nat.zero_le _⟩ dX12_line_33 (fun r_22 wr_22 => ?_)
    have wr_22_0 : (o_u16_7.toInt < (u 15).toInt ∧ r_22.toInt = ((b 14) o_u16_7.toNatClampNeg).toInt) ∨ ((u 15).toInt ≤ o_u16_7.toInt ∧ r_22.toInt = -1) := wr_22
    refine lv_bipush (v := 63) hx hb dX12_line_36 (by decide) ?_
    refine lv_icmp_ne (tgt := 66) hx hb dX12_line_38 (by decide) (fun c_23 => ?_) (fun c_23 => ?_)
    ·
      have kc_23 : r_22.toInt ≠ (63 : Int) := i_ne c_23
      refine lv_aload_n hx hb dX12_line_66 rfl (lv_at hl 1 rfl) ?_
      refine gr_lineEnd hx hb hg hown hK hP (hg _ q5_16) dX12_line_67 ?_
      refine lv_iload_n hx hb dX12_line_70 rfl (lv_at hl 0 rfl) ?_
      refine lv_aload_n hx hb dX12_line_71 rfl (lv_at hl 1 rfl) ?_
      refine gr_laid hx hb hg hown hK hP (x := o_u19_10) rfl (hg _ q5_11) dX12_line_72 ?_
      refine lv_i2s hx hb dX12_line_75 rfl ?_
      refine lv_topi (fun x_24 ex_24 => ?_)
      have ke_25 : (vp_nar .short x_24).toInt = o_u19_10.toInt := nar_s ex_24 (by omega) (by omega)
      refine sr_lineEnd hx hb hK hP hD hS (i_in (by omega) (by omega)) dX12_line_76 (fun H locs hP hD hS => ?_)
      have hab_26 : AB (-32768) 32767 (upd (b 24) x_2.toNatClampNeg (vp_nar .short x_24)) := AB_upd ib24_0 (nar_s_rg _).1 (nar_s_rg _).2
      refine lv_aload_n hx hb dX12_line_77 rfl (lv_at hl 1 rfl) ?_
      refine gr_lineMany hx hb hg hown hK hP (hg _ q5_14) dX12_line_78 ?_
      refine lv_iconst (v := 1) hx hb dX12_line_81 (by decide) ?_
      refine lv_dup2_11 hx hb dX12_line_82 rfl rfl ?_
      refine lr_lineMany hx hb hK hP (i_in (by decide) (by decide)) dX12_line_83 ?_
      refine lv_topi (fun x_27 ex_27 => ?_)
      have ex_27 : x_27 = (b 22) (1 : Int32).toNatClampNeg := ex_27
      have hx_27 : x_27.toInt = ((b 22) (1 : Int32).toNatClampNeg).toInt := by rw [ex_27]
      have nx_27 : x_27.toInt = ((b 22) 1).toInt := hx_27
      refine lv_iconst (v := 1) hx hb dX12_line_84 (by decide) ?_
      refine lv_iadd hx hb dX12_line_85 ?_
      refine lv_topi (fun x_28 ex_28 => ?_)
      have fx_28 : x_28.toInt = x_27.toInt + (1 : Int) := by rw [ex_28]; exact i_add (by first | omega | (show (_ : Int) ≤ x_27.toInt + (1 : Int); omega)) (by first | omega | (show x_27.toInt + (1 : Int) ≤ (_ : Int); omega))
      refine sr_lineMany hx hb hK hP hD hS (i_in (by decide) (by decide)) dX12_line_86 (fun H locs hP hD hS => ?_)
      have ht23 : ((upd (b 23) x_2.toNatClampNeg (vp_nar .short x_3)) (61 + ((b 22) 1).toInt.toNat)).toInt = (u 19).toInt := by rw [upd_at (show (61 + ((b 22) 1).toInt.toNat) = x_2.toNatClampNeg from (by show _ = x_2.toInt.toNat; omega))]; exact kt_4
      have ht24 : ((upd (b 24) x_2.toNatClampNeg (vp_nar .short x_24)) (61 + ((b 22) 1).toInt.toNat)).toInt = o_u19_10.toInt := by rw [upd_at (show (61 + ((b 22) 1).toInt.toNat) = x_2.toNatClampNeg from (by show _ = x_2.toInt.toNat; omega))]; exact ke_25
      have hln : o_u17_8.toInt = -1 → LN o_b20_11 o_b21_12 (upd (b 23) x_2.toNatClampNeg (vp_nar .short x_3)) (upd (b 24) x_2.toNatClampNeg (vp_nar .short x_24)) ((b 22) 1).toInt.toNat (u 19).toInt.toNat o_u19_10.toInt.toNat := fun hq => ⟨(u 19).toInt.toNat, by omega, by omega, by omega, by omega, fun q => absurd rfl q, wr_6_8 (by omega)⟩
      exact W.vret hx hb hr (fun tt ht hW => ⟨⟨⟨o_u16_7, o_u17_8, o_u18_9, o_u19_10, (upd (b 23) x_2.toNatClampNeg (vp_nar .short x_3)), o_b20_11, o_b21_12, (upd (b 24) x_2.toNatClampNeg (vp_nar .short x_24)), (upd (b 22) (1 : Int32).toNatClampNeg x_28)⟩, rfl, ⟨(by first | rfl | omega | trivial | assumption | (dsimp only; first | omega | assumption)), (by first | rfl | omega | trivial | assumption | (dsimp only; first | omega | assumption)), (by first | rfl | omega | trivial | assumption | (dsimp only; first | omega | assumption)), (by first | rfl | omega | trivial | assumption | (dsimp only; first | omega | assumption)), (by first | rfl | omega | trivial | assumption | (dsimp only; first | omega | assumption)), (by first | rfl | omega | trivial | assumption | (dsimp only; first | omega | assumption)), hA_14, hA_15, (by dsimp only; rw [upd_at (show 1 = (1 : Int32).toNatClampNeg from rfl)]; omega), (by dsimp only; exact upd_ne (by decide)), (by first | exact FRM_upd FRM_refl (by show _ ≤ x_2.toInt.toNat; omega) | exact FRM_upd (FRM_upd FRM_refl (by show _ ≤ x_2.toInt.toNat; omega)) (by show _ ≤ x_2.toInt.toNat; omega)), (by first | exact FRM_upd FRM_refl (by show _ ≤ x_2.toInt.toNat; omega) | exact FRM_upd (FRM_upd FRM_refl (by show _ ≤ x_2.toInt.toNat; omega)) (by show _ ≤ x_2.toInt.toNat; omega)), hln, hab_5, wr_6_9, hab_26⟩, by rw [ht]; exact hP, hD⟩, hS.F ht⟩) hS.2.2 dX12_line_87
    ·
      have kc_23 : r_22.toInt = (63 : Int) := i_eq c_23
      refine lv_aload_n hx hb dX12_line_41 rfl (lv_at hl 1 rfl) ?_
      refine lv_dup hx hb dX12_line_42 rfl ?_
      refine gr_here hx hb hg hown hK hP (x := o_u16_7) rfl (hg _ q5_8) dX12_line_43 ?_
      refine lv_iconst (v := 1) hx hb dX12_line_46 (by decide) ?_
      refine lv_iadd hx hb dX12_line_47 ?_
      refine lv_topi (fun x_29 ex_29 => ?_)
      have fx_29 : x_29.toInt = o_u16_7.toInt + (1 : Int) := by rw [ex_29]; exact i_add (by first | omega | (show (_ : Int) ≤ o_u16_7.toInt + (1 : Int); omega)) (by first | omega | (show o_u16_7.toInt + (1 : Int) ≤ (_ : Int); omega))
      refine pr_here hx hb hg hown hK hP hD hS (hg _ q5_8) dX12_line_48 (fun H locs hP hD hS => ?_)
      refine lv_aload_n hx hb dX12_line_51 rfl (lv_at hl 1 rfl) ?_
      refine gr_testEnd hx hb hg hown hK hP (hg _ q5_15) dX12_line_52 ?_
      refine lv_iload_n hx hb dX12_line_55 rfl (lv_at hl 0 rfl) ?_
      refine lv_aload_n hx hb dX12_line_56 rfl (lv_at hl 1 rfl) ?_
      refine gr_laid hx hb hg hown hK hP (x := o_u19_10) rfl (hg _ q5_11) dX12_line_57 ?_
      refine lv_i2s hx hb dX12_line_60 rfl ?_
      refine lv_topi (fun x_30 ex_30 => ?_)
      have kt_31 : (vp_nar .short x_30).toInt = o_u19_10.toInt := nar_s ex_30 (by omega) (by omega)
      refine sr_testEnd hx hb hK hP hD hS (i_in (by omega) (by omega)) dX12_line_61 (fun H locs hP hD hS => ?_)
      have hab_32 : AB (-32768) 32767 (upd (upd (b 23) x_2.toNatClampNeg (vp_nar .short x_3)) x_2.toNatClampNeg (vp_nar .short x_30)) := AB_upd hab_5 (nar_s_rg _).1 (nar_s_rg _).2
      refine lv_aload_n hx hb dX12_line_62 rfl (lv_at hl 1 rfl) ?_
      refine cV_v (As := []) (rest := []) ⟨hx, hb, hml, hown, hg⟩ (((rr_all 6).2) l D cs A bd (va_up (va_up (va_up (va_up u 17 o_u17_8) 18 o_u18_9) 19 o_u19_10) 16 x_29) (va_up (va_up (va_up b 20 o_b20_11) 21 o_b21_12) 23 (upd (upd (b 23) x_2.toNatClampNeg (vp_nar .short x_3)) x_2.toNatClampNeg (vp_nar .short x_30))) bw   (show o_u17_8.toInt = -1 by first | omega | decide) (show 0 ≤ x_29.toInt by first | omega | decide) (show x_29.toInt ≤ (u 15).toInt by first | omega | decide) (show 0 ≤ o_u19_10.toInt by first | omega | decide) (show o_u19_10.toInt ≤ x_29.toInt by first | omega | decide) (show 0 ≤ o_u18_9.toInt by first | omega | decide) (show o_u18_9.toInt ≤ 6 by first | omega | decide) (show 6 ≤ o_u18_9.toInt + ((6 : Nat) : Int) by first | omega | decide) (show 0 ≤ (u 15).toInt by first | omega | decide) (show (u 15).toInt ≤ 120 by first | omega | decide) wr_6_9) ca_X12_either q6_42 ⟨rfl, rfl⟩ ⟨Nat.le_of_ble_eq_true rfl, Nat.le_of_ble_eq_true rfl⟩ (rc_model hK hP) hK hP hD hS hZ rfl hl.1 rfl (Nat.le_of_ble_eq_true rfl) ⟨Nat.zero_le _, Nat.zero_le _⟩ dX12_line_63 (fun z_40 H locs wr_33 hP hD hS => ?_)
      obtain ⟨o_u16_34, o_u17_35, o_u18_36, o_u19_37, o_b20_38, o_b21_39⟩ := z_40
      have hP : va_P D vwCl (RW cs bd (va_up (va_up (va_up (va_up u 16 o_u16_34) 17 o_u17_35) 18 o_u18_36) 19 o_u19_37) (va_up (va_up (va_up b 23 (upd (upd (b 23) x_2.toNatClampNeg (vp_nar .short x_3)) x_2.toNatClampNeg (vp_nar .short x_30))) 20 o_b20_38) 21 o_b21_39) bw) H := hP
      have hD : va_D A (RW cs bd (va_up (va_up (va_up (va_up u 16 o_u16_34) 17 o_u17_35) 18 o_u18_36) 19 o_u19_37) (va_up (va_up (va_up b 23 (upd (upd (b 23) x_2.toNatClampNeg (vp_nar .short x_3)) x_2.toNatClampNeg (vp_nar .short x_30))) 20 o_b20_38) 21 o_b21_39) bw) := hD
      obtain ⟨wr_33_0, wr_33_1, wr_33_2, wr_33_3, wr_33_4, wr_33_5, wr_33_6, wr_33_7, wr_33_8, wr_33_9⟩ : ((o_u17_35.toInt = -1 ∧ o_u18_36.toInt = o_u18_9.toInt ∧ x_29.toInt < o_u16_34.toInt ∧ o_u19_37.toInt - o_u19_10.toInt ≤ o_u16_34.toInt - x_29.toInt) ∨ (0 ≤ o_u17_35.toInt ∧ o_u19_37.toInt - o_u19_10.toInt ≤ o_u16_34.toInt - x_29.toInt + 1)) ∧ (x_29.toInt ≤ o_u16_34.toInt) ∧ (o_u16_34.toInt ≤ (u 15).toInt) ∧ (o_u18_9.toInt ≤ o_u18_36.toInt) ∧ (o_u18_36.toInt ≤ 6) ∧ (o_u19_10.toInt ≤ o_u19_37.toInt) ∧ (FRM (130 + o_u19_10.toInt.toNat) o_b20_11 o_b20_38) ∧ (FRM (130 + o_u19_10.toInt.toNat) o_b21_12 o_b21_39) ∧ (o_u17_35.toInt = -1 → SEGI o_b20_38 o_b21_39 (130 + o_u19_10.toInt.toNat) (130 + o_u19_37.toInt.toNat)) ∧ (AB (-128) 127 o_b20_38) := wr_33
      have hA_41 : FRM (130 + (u 19).toInt.toNat) (b 20) o_b20_38 := FRM_trans hA_14 wr_33_6 (by omega)
      have hA_42 : FRM (130 + (u 19).toInt.toNat) (b 21) o_b21_39 := FRM_trans hA_15 wr_33_7 (by omega)
      have hs_43 := SEG_frm (wr_6_8 (by omega)) wr_33_6 wr_33_7 (by omega)
      refine lv_aload_n hx hb dX12_line_66 rfl (lv_at hl 1 rfl) ?_
      refine gr_lineEnd hx hb hg hown hK hP (hg _ q5_16) dX12_line_67 ?_
      refine lv_iload_n hx hb dX12_line_70 rfl (lv_at hl 0 rfl) ?_
      refine lv_aload_n hx hb dX12_line_71 rfl (lv_at hl 1 rfl) ?_
      refine gr_laid hx hb hg hown hK hP (x := o_u19_37) rfl (hg _ q5_11) dX12_line_72 ?_
      refine lv_i2s hx hb dX12_line_75 rfl ?_
      refine lv_topi (fun x_44 ex_44 => ?_)
      have ke_45 : (vp_nar .short x_44).toInt = o_u19_37.toInt := nar_s ex_44 (by omega) (by omega)
      refine sr_lineEnd hx hb hK hP hD hS (i_in (by omega) (by omega)) dX12_line_76 (fun H locs hP hD hS => ?_)
      have hab_46 : AB (-32768) 32767 (upd (b 24) x_2.toNatClampNeg (vp_nar .short x_44)) := AB_upd ib24_0 (nar_s_rg _).1 (nar_s_rg _).2
      refine lv_aload_n hx hb dX12_line_77 rfl (lv_at hl 1 rfl) ?_
      refine gr_lineMany hx hb hg hown hK hP (hg _ q5_14) dX12_line_78 ?_
      refine lv_iconst (v := 1) hx hb dX12_line_81 (by decide) ?_
      refine lv_dup2_11 hx hb dX12_line_82 rfl rfl ?_
      refine lr_lineMany hx hb hK hP (i_in (by decide) (by decide)) dX12_line_83 ?_
      refine lv_topi (fun x_47 ex_47 => ?_)
      have ex_47 : x_47 = (b 22) (1 : Int32).toNatClampNeg := ex_47
      have hx_47 : x_47.toInt = ((b 22) (1 : Int32).toNatClampNeg).toInt := by rw [ex_47]
      have nx_47 : x_47.toInt = ((b 22) 1).toInt := hx_47
      refine lv_iconst (v := 1) hx hb dX12_line_84 (by decide) ?_
      refine lv_iadd hx hb dX12_line_85 ?_
      refine lv_topi (fun x_48 ex_48 => ?_)
      have fx_48 : x_48.toInt = x_47.toInt + (1 : Int) := by rw [ex_48]; exact i_add (by first | omega | (show (_ : Int) ≤ x_47.toInt + (1 : Int); omega)) (by first | omega | (show x_47.toInt + (1 : Int) ≤ (_ : Int); omega))
      refine sr_lineMany hx hb hK hP hD hS (i_in (by decide) (by decide)) dX12_line_86 (fun H locs hP hD hS => ?_)
      have ht23 : ((upd (upd (b 23) x_2.toNatClampNeg (vp_nar .short x_3)) x_2.toNatClampNeg (vp_nar .short x_30)) (61 + ((b 22) 1).toInt.toNat)).toInt = o_u19_10.toInt := by rw [upd_at (show (61 + ((b 22) 1).toInt.toNat) = x_2.toNatClampNeg from (by show _ = x_2.toInt.toNat; omega))]; exact kt_31
      have ht24 : ((upd (b 24) x_2.toNatClampNeg (vp_nar .short x_44)) (61 + ((b 22) 1).toInt.toNat)).toInt = o_u19_37.toInt := by rw [upd_at (show (61 + ((b 22) 1).toInt.toNat) = x_2.toNatClampNeg from (by show _ = x_2.toInt.toNat; omega))]; exact ke_45
      have hln : o_u17_35.toInt = -1 → LN o_b20_38 o_b21_39 (upd (upd (b 23) x_2.toNatClampNeg (vp_nar .short x_3)) x_2.toNatClampNeg (vp_nar .short x_30)) (upd (b 24) x_2.toNatClampNeg (vp_nar .short x_44)) ((b 22) 1).toInt.toNat (u 19).toInt.toNat o_u19_37.toInt.toNat := fun hq => ⟨o_u19_10.toInt.toNat, by omega, by omega, by omega, by omega, fun _ => hs_43, wr_33_8 (by omega)⟩
      exact W.vret hx hb hr (fun tt ht hW => ⟨⟨⟨o_u16_34, o_u17_35, o_u18_36, o_u19_37, (upd (upd (b 23) x_2.toNatClampNeg (vp_nar .short x_3)) x_2.toNatClampNeg (vp_nar .short x_30)), o_b20_38, o_b21_39, (upd (b 24) x_2.toNatClampNeg (vp_nar .short x_44)), (upd (b 22) (1 : Int32).toNatClampNeg x_48)⟩, rfl, ⟨(by first | rfl | omega | trivial | assumption | (dsimp only; first | omega | assumption)), (by first | rfl | omega | trivial | assumption | (dsimp only; first | omega | assumption)), (by first | rfl | omega | trivial | assumption | (dsimp only; first | omega | assumption)), (by first | rfl | omega | trivial | assumption | (dsimp only; first | omega | assumption)), (by first | rfl | omega | trivial | assumption | (dsimp only; first | omega | assumption)), (by first | rfl | omega | trivial | assumption | (dsimp only; first | omega | assumption)), hA_41, hA_42, (by dsimp only; rw [upd_at (show 1 = (1 : Int32).toNatClampNeg from rfl)]; omega), (by dsimp only; exact upd_ne (by decide)), (by first | exact FRM_upd FRM_refl (by show _ ≤ x_2.toInt.toNat; omega) | exact FRM_upd (FRM_upd FRM_refl (by show _ ≤ x_2.toInt.toNat; omega)) (by show _ ≤ x_2.toInt.toNat; omega)), (by first | exact FRM_upd FRM_refl (by show _ ≤ x_2.toInt.toNat; omega) | exact FRM_upd (FRM_upd FRM_refl (by show _ ≤ x_2.toInt.toNat; omega)) (by show _ ≤ x_2.toInt.toNat; omega)), hln, hab_32, wr_33_9, hab_46⟩, by rw [ht]; exact hP, hD⟩, hS.F ht⟩) hS.2.2 dX12_line_87
set_option maxHeartbeats 4000000 in
set_option maxRecDepth 100000 in
theorem k_X12_readText (l : Launch) (D : va_G) (cs : Nat → ClassId) (A : Nat → Prop) (bd : Nat → Nat) (u : Nat → Int32) (b : Nat → Nat → Int32) (bw : Nat → Nat → Int64)   (hlaw : LAWOK (b 20) (b 21) (b 22) (b 23) (b 24)) (iu15_0 : 0 ≤ (u 15).toInt) (iu15_1 : (u 15).toInt ≤ 120) (ib23_0 : AB (-32768) 32767 (b 23)) (ib20_0 : AB (-128) 127 (b 20)) (ib24_0 : AB (-32768) 32767 (b 24)) : Met l yX12_readText (Cond.code yX12_readText cX12_readText 3 (some .int) :: gw) ({ frames := 73, cells := 0, slots := 0, locals := 2241 }) (va_Pc [.ref (bd 0), .int 0] (XPre D (TY cs) (RW cs bd u b bw) A)) (va_Qi (fun (r : Int32) (z : Int32 × Int32 × Int32 × Int32 × Int32 × (Nat → Int32) × (Nat → Int32) × (Nat → Int32) × (Nat → Int32) × (Nat → Int32)) => (LAWOK z.2.2.2.2.2.1 z.2.2.2.2.2.2.1 z.2.2.2.2.2.2.2.1 z.2.2.2.2.2.2.2.2.1 z.2.2.2.2.2.2.2.2.2) ∧ (r.toInt = -1 ∨ 0 ≤ r.toInt) ∧ (z.1.toInt = 0) ∧ (0 ≤ z.1.toInt) ∧ (z.1.toInt ≤ 120) ∧ (AB (-128) 127 z.2.2.2.2.2.1) ∧ (AB (-32768) 32767 z.2.2.2.2.2.2.2.2.1) ∧ (AB (-32768) 32767 z.2.2.2.2.2.2.2.2.2)) (XPo D (fun (z : Int32 × Int32 × Int32 × Int32 × Int32 × (Nat → Int32) × (Nat → Int32) × (Nat → Int32) × (Nat → Int32) × (Nat → Int32)) => RW cs bd (va_up (va_up (va_up (va_up (va_up u 15 z.1) 16 z.2.1) 17 z.2.2.1) 18 z.2.2.2.1) 19 z.2.2.2.2.1) (va_up (va_up (va_up (va_up (va_up b 20 z.2.2.2.2.2.1) 21 z.2.2.2.2.2.2.1) 22 z.2.2.2.2.2.2.2.1) 23 z.2.2.2.2.2.2.2.2.1) 24 z.2.2.2.2.2.2.2.2.2) bw) A) A) 0 0 A := by
  refine Met.ofW (cc := cX12_readText) (maxL := 3) (ret := (some .int)) (by decide) rfl ?_
  intro p e s m args below meth c s₁ B hml hv
  obtain ⟨rfl, hP, hK, hD, hZ⟩ := hv
  have hx := B.exec
  have hb := B.bytes
  have hr := B.returns
  have hts := atoms_spec (ws := (Cond.code yX12_readText cX12_readText 3 (some .int) :: gw)) B.pre
  have hg : ∀ w ∈ gw, w.before ([.ref (bd 0), .int 0] : List Value).toArray s = true := fun w h => hts w (List.mem_cons_of_mem _ h)
  have hown : s.vm.findClass RX12 = some m.cls := findClass_of_methodNamed B.named
  have hlocks := B.notSynchronized
  have hS : va_S A s.heap s.heap [] := va_S.rf
  have hP : va_P D vwCl (RW cs bd u b bw) s.heap := hP
  have hl := lv_entry ([.ref (bd 0), .int 0]) (n := 3) (Nat.le_of_ble_eq_true rfl)
  rw [lg_entry_eq]
  generalize (lg_sl ([.ref (bd 0), .int 0]) ++ List.replicate (3 - (lg_sl ([.ref (bd 0), .int 0])).length) Slot.unset).toArray = ls at hl ⊢
  have hl : lv_has ls 3 [(0, .ref (bd 0)), (1, .int 0)] := hl
  have hcut : ∀ nk : Nat, (∀ (c31_u16 : Int32) (c31_u17 : Int32) (c31_u18 : Int32) (c31_u19 : Int32) (c31_b20 : Nat → Int32) (c31_b21 : Nat → Int32) (c31_b22 : Nat → Int32) (c31_b23 : Nat → Int32) (c31_b24 : Nat → Int32) (H : Heap) (locs : List Loc) (r0 : (c31_u17.toInt = -1 ∧ c31_u18.toInt = 0 ∧ 2 * (c31_b22 1).toInt ≤ c31_u16.toInt + 1 ∧ c31_u19.toInt ≤ c31_u16.toInt) ∨ (0 ≤ c31_u17.toInt ∧ c31_u19.toInt ≤ c31_u16.toInt + 1)) (r1 : 0 ≤ c31_u16.toInt) (r2 : c31_u16.toInt ≤ (u 15).toInt) (r3 : 0 ≤ c31_u18.toInt) (r4 : c31_u18.toInt ≤ 6) (r5 : 0 ≤ c31_u19.toInt) (r6 : 1 ≤ (c31_b22 1).toInt) (r7 : (c31_b22 1).toInt ≤ 61) (jf20 : FRM 130 (b 20) c31_b20) (jf21 : FRM 130 (b 21) c31_b21) (jf23 : FRM 61 (b 23) c31_b23) (jf24 : FRM 61 (b 24) c31_b24) (j22 : c31_b22 0 = (b 22) 0) (jlt : c31_u17.toInt = -1 → LT c31_b20 c31_b21 c31_b23 c31_b24 (c31_b22 1).toInt.toNat c31_u19.toInt.toNat) (jb20_0 : AB (-128) 127 c31_b20) (jb23_0 : AB (-32768) 32767 c31_b23) (jb24_0 : AB (-32768) 32767 c31_b24) (hmu : 1000 + ((u 15).toInt - c31_u16.toInt).toNat < nk) (hP : va_P D vwCl (RW cs bd (va_up (va_up (va_up (va_up u 16 c31_u16) 17 c31_u17) 18 c31_u18) 19 c31_u19) (va_up (va_up (va_up (va_up (va_up b 20 c31_b20) 21 c31_b21) 22 c31_b22) 23 c31_b23) 24 c31_b24) bw) H) (hD : va_D A (RW cs bd (va_up (va_up (va_up (va_up u 16 c31_u16) 17 c31_u17) 18 c31_u18) 19 c31_u19) (va_up (va_up (va_up (va_up (va_up b 20 c31_b20) 21 c31_b21) 22 c31_b22) 23 c31_b23) 24 c31_b24) bw)) (hS : va_S A s.heap H locs) (ls : Array Slot) (hl : lv_has ls 3 [(0, .ref (bd 0)), (1, .int 0)]), W p l e (headSpec (Cond.code yX12_readText cX12_readText 3 (some .int) :: gw) ({ frames := 73, cells := 0, slots := 0, locals := 2241 })).room s m ([.ref (bd 0), .int 0] : List Value).toArray below meth c H locs 0 0 (MQ below (va_Qi (fun (r : Int32) (z : Int32 × Int32 × Int32 × Int32 × Int32 × (Nat → Int32) × (Nat → Int32) × (Nat → Int32) × (Nat → Int32) × (Nat → Int32)) => (LAWOK z.2.2.2.2.2.1 z.2.2.2.2.2.2.1 z.2.2.2.2.2.2.2.1 z.2.2.2.2.2.2.2.2.1 z.2.2.2.2.2.2.2.2.2) ∧ (r.toInt = -1 ∨ 0 ≤ r.toInt) ∧ (z.1.toInt = 0) ∧ (0 ≤ z.1.toInt) ∧ (z.1.toInt ≤ 120) ∧ (AB (-128) 127 z.2.2.2.2.2.1) ∧ (AB (-32768) 32767 z.2.2.2.2.2.2.2.2.1) ∧ (AB (-32768) 32767 z.2.2.2.2.2.2.2.2.2)) (XPo D (fun (z : Int32 × Int32 × Int32 × Int32 × Int32 × (Nat → Int32) × (Nat → Int32) × (Nat → Int32) × (Nat → Int32) × (Nat → Int32)) => RW cs bd (va_up (va_up (va_up (va_up (va_up u 15 z.1) 16 z.2.1) 17 z.2.2.1) 18 z.2.2.2.1) 19 z.2.2.2.2.1) (va_up (va_up (va_up (va_up (va_up b 20 z.2.2.2.2.2.1) 21 z.2.2.2.2.2.2.1) 22 z.2.2.2.2.2.2.2.1) 23 z.2.2.2.2.2.2.2.2.1) 24 z.2.2.2.2.2.2.2.2.2) bw) A) A) ([.ref (bd 0), .int 0] : List Value).toArray s 0 0 A) (F0 m 31 ls [])) ∧ (∀ (x2 : Int32) (c105_u15 : Int32) (c105_u16 : Int32) (c105_u17 : Int32) (c105_u18 : Int32) (c105_u19 : Int32) (c105_b20 : Nat → Int32) (c105_b21 : Nat → Int32) (c105_b22 : Nat → Int32) (c105_b23 : Nat → Int32) (c105_b24 : Nat → Int32) (H : Heap) (locs : List Loc) (s1 : 0 ≤ c105_u19.toInt) (s2 : c105_u19.toInt ≤ 121) (s3 : 1 ≤ (c105_b22 1).toInt) (s4 : (c105_b22 1).toInt ≤ 61) (s15 : c105_u15.toInt = 0) (jlt : LT c105_b20 c105_b21 c105_b23 c105_b24 (c105_b22 1).toInt.toNat c105_u19.toInt.toNat) (i2 : 0 ≤ x2.toInt) (hcp20 : ∀ j : Nat, j < x2.toInt.toNat → c105_b20 j = c105_b20 (130 + j)) (hcp21 : ∀ j : Nat, j < x2.toInt.toNat → c105_b21 j = c105_b21 (130 + j)) (ju15_0 : 0 ≤ c105_u15.toInt) (ju15_1 : c105_u15.toInt ≤ 120) (jb20_0 : AB (-128) 127 c105_b20) (jb23_0 : AB (-32768) 32767 c105_b23) (jb24_0 : AB (-32768) 32767 c105_b24) (hmu : 500 + (c105_u19.toInt - x2.toInt).toNat < nk) (hP : va_P D vwCl (RW cs bd (va_up (va_up (va_up (va_up (va_up u 15 c105_u15) 16 c105_u16) 17 c105_u17) 18 c105_u18) 19 c105_u19) (va_up (va_up (va_up (va_up (va_up b 20 c105_b20) 21 c105_b21) 22 c105_b22) 23 c105_b23) 24 c105_b24) bw) H) (hD : va_D A (RW cs bd (va_up (va_up (va_up (va_up (va_up u 15 c105_u15) 16 c105_u16) 17 c105_u17) 18 c105_u18) 19 c105_u19) (va_up (va_up (va_up (va_up (va_up b 20 c105_b20) 21 c105_b21) 22 c105_b22) 23 c105_b23) 24 c105_b24) bw)) (hS : va_S A s.heap H locs) (ls : Array Slot) (hl : lv_has ls 3 [(0, .ref (bd 0)), (1, .int 0), (2, .int x2)]), W p l e (headSpec (Cond.code yX12_readText cX12_readText 3 (some .int) :: gw) ({ frames := 73, cells := 0, slots := 0, locals := 2241 })).room s m ([.ref (bd 0), .int 0] : List Value).toArray below meth c H locs 0 0 (MQ below (va_Qi (fun (r : Int32) (z : Int32 × Int32 × Int32 × Int32 × Int32 × (Nat → Int32) × (Nat → Int32) × (Nat → Int32) × (Nat → Int32) × (Nat → Int32)) => (LAWOK z.2.2.2.2.2.1 z.2.2.2.2.2.2.1 z.2.2.2.2.2.2.2.1 z.2.2.2.2.2.2.2.2.1 z.2.2.2.2.2.2.2.2.2) ∧ (r.toInt = -1 ∨ 0 ≤ r.toInt) ∧ (z.1.toInt = 0) ∧ (0 ≤ z.1.toInt) ∧ (z.1.toInt ≤ 120) ∧ (AB (-128) 127 z.2.2.2.2.2.1) ∧ (AB (-32768) 32767 z.2.2.2.2.2.2.2.2.1) ∧ (AB (-32768) 32767 z.2.2.2.2.2.2.2.2.2)) (XPo D (fun (z : Int32 × Int32 × Int32 × Int32 × Int32 × (Nat → Int32) × (Nat → Int32) × (Nat → Int32) × (Nat → Int32) × (Nat → Int32)) => RW cs bd (va_up (va_up (va_up (va_up (va_up u 15 z.1) 16 z.2.1) 17 z.2.2.1) 18 z.2.2.2.1) 19 z.2.2.2.2.1) (va_up (va_up (va_up (va_up (va_up b 20 z.2.2.2.2.2.1) 21 z.2.2.2.2.2.2.1) 22 z.2.2.2.2.2.2.2.1) 23 z.2.2.2.2.2.2.2.2.1) 24 z.2.2.2.2.2.2.2.2.2) bw) A) A) ([.ref (bd 0), .int 0] : List Value).toArray s 0 0 A) (F0 m 105 ls [])) ∧ (∀ (x2 : Int32) (c177_u15 : Int32) (c177_u16 : Int32) (c177_u17 : Int32) (c177_u18 : Int32) (c177_u19 : Int32) (c177_b20 : Nat → Int32) (c177_b21 : Nat → Int32) (c177_b22 : Nat → Int32) (c177_b23 : Nat → Int32) (c177_b24 : Nat → Int32) (H : Heap) (locs : List Loc) (s1 : 0 ≤ c177_u19.toInt) (s2 : c177_u19.toInt ≤ 121) (s3 : 1 ≤ (c177_b22 1).toInt) (s4 : (c177_b22 1).toInt ≤ 61) (s15 : c177_u15.toInt = 0) (jlt : LT c177_b20 c177_b21 c177_b23 c177_b24 (c177_b22 1).toInt.toNat c177_u19.toInt.toNat) (i2 : 0 ≤ x2.toInt) (s0 : c177_b22 0 = c177_b22 1) (s0i : (c177_b22 0).toInt = (c177_b22 1).toInt) (hcp20 : ∀ j : Nat, j < c177_u19.toInt.toNat → c177_b20 j = c177_b20 (130 + j)) (hcp21 : ∀ j : Nat, j < c177_u19.toInt.toNat → c177_b21 j = c177_b21 (130 + j)) (hte : ∀ j : Nat, j < x2.toInt.toNat → c177_b23 j = c177_b23 (61 + j)) (hle : ∀ j : Nat, j < x2.toInt.toNat → c177_b24 j = c177_b24 (61 + j)) (ju15_0 : 0 ≤ c177_u15.toInt) (ju15_1 : c177_u15.toInt ≤ 120) (jb20_0 : AB (-128) 127 c177_b20) (jb23_0 : AB (-32768) 32767 c177_b23) (jb24_0 : AB (-32768) 32767 c177_b24) (hmu : ((c177_b22 1).toInt - x2.toInt).toNat < nk) (hP : va_P D vwCl (RW cs bd (va_up (va_up (va_up (va_up (va_up u 15 c177_u15) 16 c177_u16) 17 c177_u17) 18 c177_u18) 19 c177_u19) (va_up (va_up (va_up (va_up (va_up b 20 c177_b20) 21 c177_b21) 22 c177_b22) 23 c177_b23) 24 c177_b24) bw) H) (hD : va_D A (RW cs bd (va_up (va_up (va_up (va_up (va_up u 15 c177_u15) 16 c177_u16) 17 c177_u17) 18 c177_u18) 19 c177_u19) (va_up (va_up (va_up (va_up (va_up b 20 c177_b20) 21 c177_b21) 22 c177_b22) 23 c177_b23) 24 c177_b24) bw)) (hS : va_S A s.heap H locs) (ls : Array Slot) (hl : lv_has ls 3 [(0, .ref (bd 0)), (1, .int 0), (2, .int x2)]), W p l e (headSpec (Cond.code yX12_readText cX12_readText 3 (some .int) :: gw) ({ frames := 73, cells := 0, slots := 0, locals := 2241 })).room s m ([.ref (bd 0), .int 0] : List Value).toArray below meth c H locs 0 0 (MQ below (va_Qi (fun (r : Int32) (z : Int32 × Int32 × Int32 × Int32 × Int32 × (Nat → Int32) × (Nat → Int32) × (Nat → Int32) × (Nat → Int32) × (Nat → Int32)) => (LAWOK z.2.2.2.2.2.1 z.2.2.2.2.2.2.1 z.2.2.2.2.2.2.2.1 z.2.2.2.2.2.2.2.2.1 z.2.2.2.2.2.2.2.2.2) ∧ (r.toInt = -1 ∨ 0 ≤ r.toInt) ∧ (z.1.toInt = 0) ∧ (0 ≤ z.1.toInt) ∧ (z.1.toInt ≤ 120) ∧ (AB (-128) 127 z.2.2.2.2.2.1) ∧ (AB (-32768) 32767 z.2.2.2.2.2.2.2.2.1) ∧ (AB (-32768) 32767 z.2.2.2.2.2.2.2.2.2)) (XPo D (fun (z : Int32 × Int32 × Int32 × Int32 × Int32 × (Nat → Int32) × (Nat → Int32) × (Nat → Int32) × (Nat → Int32) × (Nat → Int32)) => RW cs bd (va_up (va_up (va_up (va_up (va_up u 15 z.1) 16 z.2.1) 17 z.2.2.1) 18 z.2.2.2.1) 19 z.2.2.2.2.1) (va_up (va_up (va_up (va_up (va_up b 20 z.2.2.2.2.2.1) 21 z.2.2.2.2.2.2.1) 22 z.2.2.2.2.2.2.2.1) 23 z.2.2.2.2.2.2.2.2.1) 24 z.2.2.2.2.2.2.2.2.2) bw) A) A) ([.ref (bd 0), .int 0] : List Value).toArray s 0 0 A) (F0 m 177 ls [])) := by
    intro nk
    induction nk with
    | zero => exact ⟨(fun c31_u16 c31_u17 c31_u18 c31_u19 c31_b20 c31_b21 c31_b22 c31_b23 c31_b24 H locs r0 r1 r2 r3 r4 r5 r6 r7 jf20 jf21 jf23 jf24 j22 jlt jb20_0 jb23_0 jb24_0 hmu hP hD hS ls hl => absurd hmu (Nat.not_lt_zero _)), (fun x2 c105_u15 c105_u16 c105_u17 c105_u18 c105_u19 c105_b20 c105_b21 c105_b22 c105_b23 c105_b24 H locs s1 s2 s3 s4 s15 jlt i2 hcp20 hcp21 ju15_0 ju15_1 jb20_0 jb23_0 jb24_0 hmu hP hD hS ls hl => absurd hmu (Nat.not_lt_zero _)), (fun x2 c177_u15 c177_u16 c177_u17 c177_u18 c177_u19 c177_b20 c177_b21 c177_b22 c177_b23 c177_b24 H locs s1 s2 s3 s4 s15 jlt i2 s0 s0i hcp20 hcp21 hte hle ju15_0 ju15_1 jb20_0 jb23_0 jb24_0 hmu hP hD hS ls hl => absurd hmu (Nat.not_lt_zero _))⟩
    | succ nk ih =>
      refine ⟨?_, ?_, ?_⟩
      ·
        intro c31_u16 c31_u17 c31_u18 c31_u19 c31_b20 c31_b21 c31_b22 c31_b23 c31_b24 H locs r0 r1 r2 r3 r4 r5 r6 r7 jf20 jf21 jf23 jf24 j22 jlt jb20_0 jb23_0 jb24_0 hmu hP hD hS ls hl
        refine lv_aload_n hx hb dX12_readText_31 rfl (lv_at hl 0 rfl) ?_
        refine gr_fault hx hb hg hown hK hP (x := c31_u17) rfl (hg _ q5_9) dX12_readText_32 ?_
        refine lv_if_ge (tgt := 64) hx hb dX12_readText_35 (by decide) (fun c_1 => ?_) (fun c_1 => ?_)
        ·
          have kc_1 : (0 : Int) ≤ c31_u17.toInt := i_le c_1
          refine lv_aload_n hx hb dX12_readText_64 rfl (lv_at hl 0 rfl) ?_
          refine gr_fault hx hb hg hown hK hP (x := c31_u17) rfl (hg _ q5_9) dX12_readText_65 ?_
          refine lv_if_ge (tgt := 86) hx hb dX12_readText_68 (by decide) (fun c_2 => ?_) (fun c_2 => ?_)
          ·
            have kc_2 : (0 : Int) ≤ c31_u17.toInt := i_le c_2
            refine lv_aload_n hx hb dX12_readText_86 rfl (lv_at hl 0 rfl) ?_
            refine lv_iconst (v := 0) hx hb dX12_readText_87 (by decide) ?_
            refine pr_taped hx hb hg hown hK hP hD hS (hg _ q5_7) dX12_readText_88 (fun H locs hP hD hS => ?_)
            refine lv_aload_n hx hb dX12_readText_91 rfl (lv_at hl 0 rfl) ?_
            refine gr_fault hx hb hg hown hK hP (x := c31_u17) rfl (hg _ q5_9) dX12_readText_92 ?_
            refine lv_if_lt (tgt := 103) hx hb dX12_readText_95 (by decide) (fun c_3 => ?_) (fun c_3 => ?_)
            ·
              have kc_3 : c31_u17.toInt < (0 : Int) := i_lt c_3
              exfalso; omega
            ·
              have kc_3 : (0 : Int) ≤ c31_u17.toInt := i_nlt c_3
              refine lv_aload_n hx hb dX12_readText_98 rfl (lv_at hl 0 rfl) ?_
              refine gr_fault hx hb hg hown hK hP (x := c31_u17) rfl (hg _ q5_9) dX12_readText_99 ?_
              have q0_0 : (0 : Int32).toInt = 0 := rfl
              have hP : va_P D vwCl (RW cs bd (va_up (va_up (va_up (va_up (va_up u 15 0) 16 c31_u16) 17 c31_u17) 18 c31_u18) 19 c31_u19) (va_up (va_up (va_up (va_up (va_up b 20 c31_b20) 21 c31_b21) 22 c31_b22) 23 c31_b23) 24 c31_b24) bw) _ := hP
              have hD : va_D A (RW cs bd (va_up (va_up (va_up (va_up (va_up u 15 0) 16 c31_u16) 17 c31_u17) 18 c31_u18) 19 c31_u19) (va_up (va_up (va_up (va_up (va_up b 20 c31_b20) 21 c31_b21) 22 c31_b22) 23 c31_b23) 24 c31_b24) bw) := hD
              exact W.iret (v := c31_u17) hx hb hr (fun tt ht hW => ⟨⟨c31_u17, ⟨0, c31_u16, c31_u17, c31_u18, c31_u19, c31_b20, c31_b21, c31_b22, c31_b23, c31_b24⟩, rfl, ⟨(LAWOK_frm hlaw jf20 jf21 jf23 jf24 j22), (by first | rfl | omega | trivial | assumption | (dsimp only; first | omega | assumption)), (by first | rfl | omega | trivial | assumption | (dsimp only; first | omega | assumption)), (show 0 ≤ (0 : Int) by first | omega | assumption), (show (0 : Int) ≤ 120 by first | omega | assumption), jb20_0, jb23_0, jb24_0⟩, by rw [ht]; exact hP, hD⟩, hS.F ht⟩) hS.2.2 dX12_readText_102
          ·
            have kc_2 : c31_u17.toInt < (0 : Int) := i_nle c_2
            exfalso; omega
        ·
          have kc_1 : c31_u17.toInt < (0 : Int) := i_nle c_1
          refine lv_aload_n hx hb dX12_readText_38 rfl (lv_at hl 0 rfl) ?_
          refine cV_ro (As := []) (rest := []) ⟨hx, hb, hml, hown, hg⟩ (k_X12_look l D cs A bd (va_up (va_up (va_up (va_up u 16 c31_u16) 17 c31_u17) 18 c31_u18) 19 c31_u19) (va_up (va_up (va_up (va_up (va_up b 20 c31_b20) 21 c31_b21) 22 c31_b22) 23 c31_b23) 24 c31_b24) bw   (show 0 ≤ c31_u16.toInt by first | omega | decide) (show 0 ≤ (u 15).toInt by first | omega | decide) (show (u 15).toInt ≤ 120 by first | omega | decide)) ca_X12_look q6_66 ⟨rfl, rfl⟩ ⟨Nat.le_of_ble_eq_true rfl, Nat.le_of_ble_eq_true rfl⟩ (rc_model hK hP) hK hP hD hS hZ rfl hl.1 rfl (Nat.le_of_ble_eq_true rfl) ⟨Nat.zero_le _, Nat.zero_le _⟩ dX12_readText_39 (fun r_4 wr_4 => ?_)
          have wr_4_0 : (c31_u16.toInt < (u 15).toInt ∧ r_4.toInt = ((b 14) c31_u16.toNatClampNeg).toInt) ∨ ((u 15).toInt ≤ c31_u16.toInt ∧ r_4.toInt = -1) := wr_4
          refine lv_bipush (v := 59) hx hb dX12_readText_42 (by decide) ?_
          refine lv_icmp_ne (tgt := 64) hx hb dX12_readText_44 (by decide) (fun c_5 => ?_) (fun c_5 => ?_)
          ·
            have kc_5 : r_4.toInt ≠ (59 : Int) := i_ne c_5
            refine lv_aload_n hx hb dX12_readText_64 rfl (lv_at hl 0 rfl) ?_
            refine gr_fault hx hb hg hown hK hP (x := c31_u17) rfl (hg _ q5_9) dX12_readText_65 ?_
            refine lv_if_ge (tgt := 86) hx hb dX12_readText_68 (by decide) (fun c_6 => ?_) (fun c_6 => ?_)
            ·
              have kc_6 : (0 : Int) ≤ c31_u17.toInt := i_le c_6
              exfalso; omega
            ·
              have kc_6 : c31_u17.toInt < (0 : Int) := i_nle c_6
              refine lv_aload_n hx hb dX12_readText_71 rfl (lv_at hl 0 rfl) ?_
              refine gr_here hx hb hg hown hK hP (x := c31_u16) rfl (hg _ q5_8) dX12_readText_72 ?_
              refine lv_aload_n hx hb dX12_readText_75 rfl (lv_at hl 0 rfl) ?_
              refine gr_taped hx hb hg hown hK hP (x := (u 15)) rfl (hg _ q5_7) dX12_readText_76 ?_
              refine lv_icmp_ge (tgt := 86) hx hb dX12_readText_79 (by decide) (fun c_7 => ?_) (fun c_7 => ?_)
              ·
                have kc_7 : (u 15).toInt ≤ c31_u16.toInt := i_le c_7
                refine lv_aload_n hx hb dX12_readText_86 rfl (lv_at hl 0 rfl) ?_
                refine lv_iconst (v := 0) hx hb dX12_readText_87 (by decide) ?_
                refine pr_taped hx hb hg hown hK hP hD hS (hg _ q5_7) dX12_readText_88 (fun H locs hP hD hS => ?_)
                refine lv_aload_n hx hb dX12_readText_91 rfl (lv_at hl 0 rfl) ?_
                refine gr_fault hx hb hg hown hK hP (x := c31_u17) rfl (hg _ q5_9) dX12_readText_92 ?_
                refine lv_if_lt (tgt := 103) hx hb dX12_readText_95 (by decide) (fun c_8 => ?_) (fun c_8 => ?_)
                ·
                  have kc_8 : c31_u17.toInt < (0 : Int) := i_lt c_8
                  refine lv_iconst (v := 0) hx hb dX12_readText_103 (by decide) ?_
                  refine lv_istore_n (lv' := [(2, .int 0), (0, .ref (bd 0)), (1, .int 0)]) hx hb dX12_readText_104 rfl hl (by decide) rfl (fun ls hl => ?_)
                  have q0_0 : (0 : Int32).toInt = 0 := rfl
                  exact ih.2.1 0 0 c31_u16 c31_u17 c31_u18 c31_u19 c31_b20 c31_b21 c31_b22 c31_b23 c31_b24 _ _ (by omega) (by omega) (by omega) (by omega) (by omega) (jlt (by omega)) (by omega) (fun j hj => absurd hj (by have q0 : (0 : Int32).toInt = 0 := rfl; omega)) (fun j hj => absurd hj (by have q0 : (0 : Int32).toInt = 0 := rfl; omega)) (show 0 ≤ (0 : Int) by first | omega | assumption) (show (0 : Int) ≤ 120 by first | omega | assumption) jb20_0 jb23_0 jb24_0 (by omega) hP hD hS ls (lv_sub hl [1, 2, 0] rfl)
                ·
                  have kc_8 : (0 : Int) ≤ c31_u17.toInt := i_nlt c_8
                  exfalso; omega
              ·
                have kc_7 : c31_u16.toInt < (u 15).toInt := i_nle c_7
                refine lv_aload_n hx hb dX12_readText_82 rfl (lv_at hl 0 rfl) ?_
                refine cV_v (As := []) (rest := []) ⟨hx, hb, hml, hown, hg⟩ (k_X12_wrong l D cs A bd (va_up (va_up (va_up (va_up u 16 c31_u16) 17 c31_u17) 18 c31_u18) 19 c31_u19) (va_up (va_up (va_up (va_up (va_up b 20 c31_b20) 21 c31_b21) 22 c31_b22) 23 c31_b23) 24 c31_b24) bw   ) ca_X12_wrong q6_81 ⟨rfl, rfl⟩ ⟨Nat.le_of_ble_eq_true rfl, Nat.le_of_ble_eq_true rfl⟩ (rc_model hK hP) hK hP hD hS hZ rfl hl.1 rfl (Nat.le_of_ble_eq_true rfl) ⟨Nat.zero_le _, Nat.zero_le _⟩ dX12_readText_83 (fun o_u17_10 H locs wr_9 hP hD hS => ?_)
                have hP : va_P D vwCl (RW cs bd (va_up (va_up (va_up (va_up u 16 c31_u16) 18 c31_u18) 19 c31_u19) 17 o_u17_10) (va_up (va_up (va_up (va_up (va_up b 20 c31_b20) 21 c31_b21) 22 c31_b22) 23 c31_b23) 24 c31_b24) bw) H := hP
                have hD : va_D A (RW cs bd (va_up (va_up (va_up (va_up u 16 c31_u16) 18 c31_u18) 19 c31_u19) 17 o_u17_10) (va_up (va_up (va_up (va_up (va_up b 20 c31_b20) 21 c31_b21) 22 c31_b22) 23 c31_b23) 24 c31_b24) bw) := hD
                have wr_9_0 : (c31_u17.toInt < 0 ∧ o_u17_10.toInt = c31_u16.toInt) ∨ (0 ≤ c31_u17.toInt ∧ o_u17_10.toInt = c31_u17.toInt) := wr_9
                refine lv_aload_n hx hb dX12_readText_86 rfl (lv_at hl 0 rfl) ?_
                refine lv_iconst (v := 0) hx hb dX12_readText_87 (by decide) ?_
                refine pr_taped hx hb hg hown hK hP hD hS (hg _ q5_7) dX12_readText_88 (fun H locs hP hD hS => ?_)
                refine lv_aload_n hx hb dX12_readText_91 rfl (lv_at hl 0 rfl) ?_
                refine gr_fault hx hb hg hown hK hP (x := o_u17_10) rfl (hg _ q5_9) dX12_readText_92 ?_
                refine lv_if_lt (tgt := 103) hx hb dX12_readText_95 (by decide) (fun c_11 => ?_) (fun c_11 => ?_)
                ·
                  have kc_11 : o_u17_10.toInt < (0 : Int) := i_lt c_11
                  refine lv_iconst (v := 0) hx hb dX12_readText_103 (by decide) ?_
                  refine lv_istore_n (lv' := [(2, .int 0), (0, .ref (bd 0)), (1, .int 0)]) hx hb dX12_readText_104 rfl hl (by decide) rfl (fun ls hl => ?_)
                  have q0_0 : (0 : Int32).toInt = 0 := rfl
                  exact ih.2.1 0 0 c31_u16 o_u17_10 c31_u18 c31_u19 c31_b20 c31_b21 c31_b22 c31_b23 c31_b24 _ _ (by omega) (by omega) (by omega) (by omega) (by omega) (jlt (by omega)) (by omega) (fun j hj => absurd hj (by have q0 : (0 : Int32).toInt = 0 := rfl; omega)) (fun j hj => absurd hj (by have q0 : (0 : Int32).toInt = 0 := rfl; omega)) (show 0 ≤ (0 : Int) by first | omega | assumption) (show (0 : Int) ≤ 120 by first | omega | assumption) jb20_0 jb23_0 jb24_0 (by omega) hP hD hS ls (lv_sub hl [1, 2, 0] rfl)
                ·
                  have kc_11 : (0 : Int) ≤ o_u17_10.toInt := i_nlt c_11
                  refine lv_aload_n hx hb dX12_readText_98 rfl (lv_at hl 0 rfl) ?_
                  refine gr_fault hx hb hg hown hK hP (x := o_u17_10) rfl (hg _ q5_9) dX12_readText_99 ?_
                  have q0_0 : (0 : Int32).toInt = 0 := rfl
                  have hP : va_P D vwCl (RW cs bd (va_up (va_up (va_up (va_up (va_up u 15 0) 16 c31_u16) 17 o_u17_10) 18 c31_u18) 19 c31_u19) (va_up (va_up (va_up (va_up (va_up b 20 c31_b20) 21 c31_b21) 22 c31_b22) 23 c31_b23) 24 c31_b24) bw) _ := hP
                  have hD : va_D A (RW cs bd (va_up (va_up (va_up (va_up (va_up u 15 0) 16 c31_u16) 17 o_u17_10) 18 c31_u18) 19 c31_u19) (va_up (va_up (va_up (va_up (va_up b 20 c31_b20) 21 c31_b21) 22 c31_b22) 23 c31_b23) 24 c31_b24) bw) := hD
                  exact W.iret (v := o_u17_10) hx hb hr (fun tt ht hW => ⟨⟨o_u17_10, ⟨0, c31_u16, o_u17_10, c31_u18, c31_u19, c31_b20, c31_b21, c31_b22, c31_b23, c31_b24⟩, rfl, ⟨(LAWOK_frm hlaw jf20 jf21 jf23 jf24 j22), (by first | rfl | omega | trivial | assumption | (dsimp only; first | omega | assumption)), (by first | rfl | omega | trivial | assumption | (dsimp only; first | omega | assumption)), (show 0 ≤ (0 : Int) by first | omega | assumption), (show (0 : Int) ≤ 120 by first | omega | assumption), jb20_0, jb23_0, jb24_0⟩, by rw [ht]; exact hP, hD⟩, hS.F ht⟩) hS.2.2 dX12_readText_102
          ·
            have kc_5 : r_4.toInt = (59 : Int) := i_eq c_5
            refine lv_aload_n hx hb dX12_readText_47 rfl (lv_at hl 0 rfl) ?_
            refine lv_dup hx hb dX12_readText_48 rfl ?_
            refine gr_here hx hb hg hown hK hP (x := c31_u16) rfl (hg _ q5_8) dX12_readText_49 ?_
            refine lv_iconst (v := 1) hx hb dX12_readText_52 (by decide) ?_
            refine lv_iadd hx hb dX12_readText_53 ?_
            refine lv_topi (fun x_12 ex_12 => ?_)
            have fx_12 : x_12.toInt = c31_u16.toInt + (1 : Int) := by rw [ex_12]; exact i_add (by first | omega | (show (_ : Int) ≤ c31_u16.toInt + (1 : Int); omega)) (by first | omega | (show c31_u16.toInt + (1 : Int) ≤ (_ : Int); omega))
            refine pr_here hx hb hg hown hK hP hD hS (hg _ q5_8) dX12_readText_54 (fun H locs hP hD hS => ?_)
            refine lv_aload_n hx hb dX12_readText_57 rfl (lv_at hl 0 rfl) ?_
            refine cV_v (As := []) (rest := []) ⟨hx, hb, hml, hown, hg⟩ (k_X12_line l D cs A bd (va_up (va_up (va_up (va_up u 17 c31_u17) 18 c31_u18) 19 c31_u19) 16 x_12) (va_up (va_up (va_up (va_up (va_up b 20 c31_b20) 21 c31_b21) 22 c31_b22) 23 c31_b23) 24 c31_b24) bw   (show c31_u17.toInt = -1 by first | omega | decide) (show 0 ≤ x_12.toInt by first | omega | decide) (show x_12.toInt ≤ (u 15).toInt by first | omega | decide) (show 0 ≤ c31_u19.toInt by first | omega | decide) (show c31_u19.toInt ≤ x_12.toInt by first | omega | decide) (show 0 ≤ c31_u18.toInt by first | omega | decide) (show c31_u18.toInt ≤ 6 by first | omega | decide) (show 0 ≤ (c31_b22 1).toInt by first | omega | decide) (show 2 * (c31_b22 1).toInt ≤ x_12.toInt by first | omega | decide) jb23_0 (show 0 ≤ (u 15).toInt by first | omega | decide) (show (u 15).toInt ≤ 120 by first | omega | decide) jb20_0 jb24_0) ca_X12_line q6_38 ⟨rfl, rfl⟩ ⟨Nat.le_of_ble_eq_true rfl, Nat.le_of_ble_eq_true rfl⟩ (rc_model hK hP) hK hP hD hS hZ rfl hl.1 rfl (Nat.le_of_ble_eq_true rfl) ⟨Nat.zero_le _, Nat.zero_le _⟩ dX12_readText_58 (fun z_23 H locs wr_13 hP hD hS => ?_)
            obtain ⟨o_u16_14, o_u17_15, o_u18_16, o_u19_17, o_b23_18, o_b20_19, o_b21_20, o_b24_21, o_b22_22⟩ := z_23
            have hP : va_P D vwCl (RW cs bd (va_up (va_up (va_up (va_up u 16 o_u16_14) 17 o_u17_15) 18 o_u18_16) 19 o_u19_17) (va_up (va_up (va_up (va_up (va_up b 23 o_b23_18) 20 o_b20_19) 21 o_b21_20) 24 o_b24_21) 22 o_b22_22) bw) H := hP
            have hD : va_D A (RW cs bd (va_up (va_up (va_up (va_up u 16 o_u16_14) 17 o_u17_15) 18 o_u18_16) 19 o_u19_17) (va_up (va_up (va_up (va_up (va_up b 23 o_b23_18) 20 o_b20_19) 21 o_b21_20) 24 o_b24_21) 22 o_b22_22) bw) := hD
            obtain ⟨wr_13_0, wr_13_1, wr_13_2, wr_13_3, wr_13_4, wr_13_5, wr_13_6, wr_13_7, wr_13_8, wr_13_9, wr_13_10, wr_13_11, wr_13_12, wr_13_13, wr_13_14, wr_13_15⟩ : ((o_u17_15.toInt = -1 ∧ o_u18_16.toInt = c31_u18.toInt ∧ x_12.toInt < o_u16_14.toInt ∧ o_u19_17.toInt ≤ o_u16_14.toInt) ∨ (0 ≤ o_u17_15.toInt ∧ o_u19_17.toInt ≤ o_u16_14.toInt + 1)) ∧ (x_12.toInt ≤ o_u16_14.toInt) ∧ (o_u16_14.toInt ≤ (u 15).toInt) ∧ (c31_u18.toInt ≤ o_u18_16.toInt) ∧ (o_u18_16.toInt ≤ 6) ∧ (c31_u19.toInt ≤ o_u19_17.toInt) ∧ (FRM (130 + c31_u19.toInt.toNat) c31_b20 o_b20_19) ∧ (FRM (130 + c31_u19.toInt.toNat) c31_b21 o_b21_20) ∧ ((o_b22_22 1).toInt = (c31_b22 1).toInt + 1) ∧ (o_b22_22 0 = c31_b22 0) ∧ (FRM (61 + (c31_b22 1).toInt.toNat) c31_b23 o_b23_18) ∧ (FRM (61 + (c31_b22 1).toInt.toNat) c31_b24 o_b24_21) ∧ (o_u17_15.toInt = -1 → LN o_b20_19 o_b21_20 o_b23_18 o_b24_21 (c31_b22 1).toInt.toNat c31_u19.toInt.toNat o_u19_17.toInt.toNat) ∧ (AB (-32768) 32767 o_b23_18) ∧ (AB (-128) 127 o_b20_19) ∧ (AB (-32768) 32767 o_b24_21) := wr_13
            have hA_24 : FRM 130 (b 20) o_b20_19 := FRM_trans jf20 wr_13_6 (by omega)
            have hA_25 : FRM 130 (b 21) o_b21_20 := FRM_trans jf21 wr_13_7 (by omega)
            have hA_26 : FRM 61 (b 23) o_b23_18 := FRM_trans jf23 wr_13_10 (by omega)
            have hA_27 : FRM 61 (b 24) o_b24_21 := FRM_trans jf24 wr_13_11 (by omega)
            have hA_28 : o_b22_22 0 = (b 22) 0 := wr_13_9.trans j22
            have hlt_29 : o_u17_15.toInt = -1 → LT o_b20_19 o_b21_20 o_b23_18 o_b24_21 (o_b22_22 1).toInt.toNat o_u19_17.toInt.toNat := fun hq => LT_cast (LT_step (jlt (by omega)) (fun q => absurd q (by omega)) wr_13_6 wr_13_7 wr_13_10 wr_13_11 (wr_13_12 (by omega))) (by omega) rfl
            refine lv_goto (tgt := 31) hx hb dX12_readText_61 (by decide) ?_
            have q0_0 : (0 : Int32).toInt = 0 := rfl
            exact ih.1 o_u16_14 o_u17_15 o_u18_16 o_u19_17 o_b20_19 o_b21_20 o_b22_22 o_b23_18 o_b24_21 _ _ (by omega) (by omega) (by omega) (by omega) (by omega) (by omega) (by omega) (by omega) hA_24 hA_25 hA_26 hA_27 hA_28 hlt_29 wr_13_14 wr_13_13 wr_13_15 (by omega) hP hD hS ls (lv_sub hl [0, 1] rfl)
      ·
        intro x2 c105_u15 c105_u16 c105_u17 c105_u18 c105_u19 c105_b20 c105_b21 c105_b22 c105_b23 c105_b24 H locs s1 s2 s3 s4 s15 jlt i2 hcp20 hcp21 ju15_0 ju15_1 jb20_0 jb23_0 jb24_0 hmu hP hD hS ls hl
        refine lv_iload_n hx hb dX12_readText_105 rfl (lv_at hl 2 rfl) ?_
        refine lv_aload_n hx hb dX12_readText_106 rfl (lv_at hl 0 rfl) ?_
        refine gr_laid hx hb hg hown hK hP (x := c105_u19) rfl (hg _ q5_11) dX12_readText_107 ?_
        refine lv_icmp_ge (tgt := 163) hx hb dX12_readText_110 (by decide) (fun c_30 => ?_) (fun c_30 => ?_)
        ·
          have kc_30 : c105_u19.toInt ≤ x2.toInt := i_le c_30
          refine lv_aload_n hx hb dX12_readText_163 rfl (lv_at hl 0 rfl) ?_
          refine gr_lineMany hx hb hg hown hK hP (hg _ q5_14) dX12_readText_164 ?_
          refine lv_iload_n hx hb dX12_readText_167 rfl (lv_at hl 1 rfl) ?_
          refine lv_aload_n hx hb dX12_readText_168 rfl (lv_at hl 0 rfl) ?_
          refine gr_lineMany hx hb hg hown hK hP (hg _ q5_14) dX12_readText_169 ?_
          refine lv_iconst (v := 1) hx hb dX12_readText_172 (by decide) ?_
          refine lr_lineMany hx hb hK hP (i_in (by decide) (by decide)) dX12_readText_173 ?_
          refine lv_topi (fun x_31 ex_31 => ?_)
          have ex_31 : x_31 = c105_b22 (1 : Int32).toNatClampNeg := ex_31
          have hx_31 : x_31.toInt = (c105_b22 (1 : Int32).toNatClampNeg).toInt := by rw [ex_31]
          have nx_31 : x_31.toInt = (c105_b22 1).toInt := hx_31
          refine sr_lineMany hx hb hK hP hD hS (i_in (by decide) (by decide)) dX12_readText_174 (fun H locs hP hD hS => ?_)
          have ks0 : (upd c105_b22 (0 : Int32).toNatClampNeg x_31) 0 = (upd c105_b22 (0 : Int32).toNatClampNeg x_31) 1 := ex_31
          have ks0i : ((upd c105_b22 (0 : Int32).toNatClampNeg x_31) 0).toInt = ((upd c105_b22 (0 : Int32).toNatClampNeg x_31) 1).toInt := by rw [ks0]
          have ks1i : ((upd c105_b22 (0 : Int32).toNatClampNeg x_31) 1).toInt = (c105_b22 1).toInt := rfl
          refine lv_iconst (v := 0) hx hb dX12_readText_175 (by decide) ?_
          refine lv_istore_n (lv' := [(2, .int 0), (0, .ref (bd 0)), (1, .int 0)]) hx hb dX12_readText_176 rfl hl (by decide) rfl (fun ls hl => ?_)
          have q0_0 : (0 : Int32).toInt = 0 := rfl
          exact ih.2.2 0 c105_u15 c105_u16 c105_u17 c105_u18 c105_u19 c105_b20 c105_b21 (upd c105_b22 (0 : Int32).toNatClampNeg x_31) c105_b23 c105_b24 _ _ (by omega) (by omega) (by omega) (by omega) (by omega) jlt (by omega) ks0 (by omega) (fun j hj => hcp20 j (by omega)) (fun j hj => hcp21 j (by omega)) (fun j hj => absurd hj (by have q0 : (0 : Int32).toInt = 0 := rfl; omega)) (fun j hj => absurd hj (by have q0 : (0 : Int32).toInt = 0 := rfl; omega)) (show 0 ≤ c105_u15.toInt by first | omega | assumption) (show c105_u15.toInt ≤ 120 by first | omega | assumption) jb20_0 jb23_0 jb24_0 (by omega) hP hD hS ls (lv_sub hl [1, 2, 0] rfl)
        ·
          have kc_30 : x2.toInt < c105_u19.toInt := i_nle c_30
          refine lv_aload_n hx hb dX12_readText_113 rfl (lv_at hl 0 rfl) ?_
          refine gr_act hx hb hg hown hK hP (hg _ q5_12) dX12_readText_114 ?_
          refine lv_sipush (v := 130) hx hb dX12_readText_117 (by decide) ?_
          refine lv_iload_n hx hb dX12_readText_120 rfl (lv_at hl 1 rfl) ?_
          refine lv_imul hx hb dX12_readText_121 ?_
          refine lv_topi (fun x_32 ex_32 => ?_)
          have fx_32 : x_32 = 0 := by rw [ex_32]; rfl
          subst fx_32
          refine lv_iload_n hx hb dX12_readText_122 rfl (lv_at hl 2 rfl) ?_
          refine lv_iadd hx hb dX12_readText_123 ?_
          refine lv_topi (fun x_33 ex_33 => ?_)
          have fx_33 : x_33.toInt = (0 : Int) + x2.toInt := by rw [ex_33]; exact i_add (by first | omega | (show (_ : Int) ≤ (0 : Int) + x2.toInt; omega)) (by first | omega | (show (0 : Int) + x2.toInt ≤ (_ : Int); omega))
          refine lv_aload_n hx hb dX12_readText_124 rfl (lv_at hl 0 rfl) ?_
          refine gr_act hx hb hg hown hK hP (hg _ q5_12) dX12_readText_125 ?_
          refine lv_sipush (v := 130) hx hb dX12_readText_128 (by decide) ?_
          refine lv_iload_n hx hb dX12_readText_131 rfl (lv_at hl 2 rfl) ?_
          refine lv_iadd hx hb dX12_readText_132 ?_
          refine lv_topi (fun x_34 ex_34 => ?_)
          have fx_34 : x_34.toInt = (130 : Int) + x2.toInt := by rw [ex_34]; exact i_add (by first | omega | (show (_ : Int) ≤ (130 : Int) + x2.toInt; omega)) (by first | omega | (show (130 : Int) + x2.toInt ≤ (_ : Int); omega))
          refine lr_act hx hb hK hP (i_in (by omega) (by omega)) dX12_readText_133 ?_
          refine lv_topi (fun x_35 ex_35 => ?_)
          have ex_35 : x_35 = c105_b20 x_34.toNatClampNeg := ex_35
          have hx_35 : x_35.toInt = (c105_b20 x_34.toNatClampNeg).toInt := by rw [ex_35]
          have bx_35 := jb20_0 x_34.toNatClampNeg
          rw [← ex_35] at bx_35
          refine sr_act hx hb hK hP hD hS (i_in (by omega) (by omega)) dX12_readText_134 (fun H locs hP hD hS => ?_)
          have hab_36 : AB (-128) 127 (upd c105_b20 x_33.toNatClampNeg (vp_nar .byte x_35)) := AB_upd jb20_0 (nar_b_rg _).1 (nar_b_rg _).2
          refine lv_aload_n hx hb dX12_readText_135 rfl (lv_at hl 0 rfl) ?_
          refine gr_with hx hb hg hown hK hP (hg _ q5_13) dX12_readText_136 ?_
          refine lv_sipush (v := 130) hx hb dX12_readText_139 (by decide) ?_
          refine lv_iload_n hx hb dX12_readText_142 rfl (lv_at hl 1 rfl) ?_
          refine lv_imul hx hb dX12_readText_143 ?_
          refine lv_topi (fun x_37 ex_37 => ?_)
          have fx_37 : x_37 = 0 := by rw [ex_37]; rfl
          subst fx_37
          refine lv_iload_n hx hb dX12_readText_144 rfl (lv_at hl 2 rfl) ?_
          refine lv_iadd hx hb dX12_readText_145 ?_
          refine lv_topi (fun x_38 ex_38 => ?_)
          have fx_38 : x_38.toInt = (0 : Int) + x2.toInt := by rw [ex_38]; exact i_add (by first | omega | (show (_ : Int) ≤ (0 : Int) + x2.toInt; omega)) (by first | omega | (show (0 : Int) + x2.toInt ≤ (_ : Int); omega))
          refine lv_aload_n hx hb dX12_readText_146 rfl (lv_at hl 0 rfl) ?_
          refine gr_with hx hb hg hown hK hP (hg _ q5_13) dX12_readText_147 ?_
          refine lv_sipush (v := 130) hx hb dX12_readText_150 (by decide) ?_
          refine lv_iload_n hx hb dX12_readText_153 rfl (lv_at hl 2 rfl) ?_
          refine lv_iadd hx hb dX12_readText_154 ?_
          refine lv_topi (fun x_39 ex_39 => ?_)
          have fx_39 : x_39.toInt = (130 : Int) + x2.toInt := by rw [ex_39]; exact i_add (by first | omega | (show (_ : Int) ≤ (130 : Int) + x2.toInt; omega)) (by first | omega | (show (130 : Int) + x2.toInt ≤ (_ : Int); omega))
          refine lr_with hx hb hK hP (i_in (by omega) (by omega)) dX12_readText_155 ?_
          refine lv_topi (fun x_40 ex_40 => ?_)
          have ex_40 : x_40 = c105_b21 x_39.toNatClampNeg := ex_40
          have hx_40 : x_40.toInt = (c105_b21 x_39.toNatClampNeg).toInt := by rw [ex_40]
          refine sr_with hx hb hK hP hD hS (i_in (by omega) (by omega)) dX12_readText_156 (fun H locs hP hD hS => ?_)
          have zx : x_33.toNatClampNeg = x2.toInt.toNat := (by show x_33.toInt.toNat = _; omega)
          have zy : x_38.toNatClampNeg = x2.toInt.toNat := (by show x_38.toInt.toNat = _; omega)
          have kv : vp_nar .byte x_35 = c105_b20 (130 + x2.toInt.toNat) := by rw [nar_b_id (by omega) (by omega), ex_35]; congr 1; show (_ : Int32).toInt.toNat = _; omega
          have kw : x_40 = c105_b21 (130 + x2.toInt.toNat) := by rw [ex_40]; congr 1; show (_ : Int32).toInt.toNat = _; omega
          have hlt2 : LT (upd c105_b20 x_33.toNatClampNeg (vp_nar .byte x_35)) (upd c105_b21 x_38.toNatClampNeg x_40) c105_b23 c105_b24 (c105_b22 1).toInt.toNat c105_u19.toInt.toNat := LT_low jlt (upd_hi (by rw [zx]; omega)) (upd_hi (by rw [zy]; omega)) (fun _ _ => rfl) (fun _ _ => rfl)
          obtain ⟨x_41, ex_41⟩ : ∃ y : Int32, y = x2 + 1 := ⟨_, rfl⟩
          have fx_41 : x_41.toInt = x2.toInt + 1 := by rw [ex_41]; exact i_add (by first | omega | (show (_ : Int) ≤ x2.toInt + 1; omega)) (by first | omega | (show x2.toInt + 1 ≤ (_ : Int); omega))
          refine lv_iinc (v := x_41) (lv' := [(2, .int x_41), (0, .ref (bd 0)), (1, .int 0)]) hx hb dX12_readText_157 hl (k := 2) rfl (by rw [ex_41]; rfl) (by decide) rfl (fun ls hl => ?_)
          refine lv_goto (tgt := 105) hx hb dX12_readText_160 (by decide) ?_
          have q0_0 : (0 : Int32).toInt = 0 := rfl
          exact ih.2.1 x_41 c105_u15 c105_u16 c105_u17 c105_u18 c105_u19 (upd c105_b20 x_33.toNatClampNeg (vp_nar .byte x_35)) (upd c105_b21 x_38.toNatClampNeg x_40) c105_b22 c105_b23 c105_b24 _ _ (by omega) (by omega) (by omega) (by omega) (by omega) hlt2 (by omega) (CP_step hcp20 kv (by omega) zx (by omega)) (CP_step hcp21 kw (by omega) zy (by omega)) (show 0 ≤ c105_u15.toInt by first | omega | assumption) (show c105_u15.toInt ≤ 120 by first | omega | assumption) hab_36 jb23_0 jb24_0 (by omega) hP hD hS ls (lv_sub hl [1, 2, 0] rfl)
      ·
        intro x2 c177_u15 c177_u16 c177_u17 c177_u18 c177_u19 c177_b20 c177_b21 c177_b22 c177_b23 c177_b24 H locs s1 s2 s3 s4 s15 jlt i2 s0 s0i hcp20 hcp21 hte hle ju15_0 ju15_1 jb20_0 jb23_0 jb24_0 hmu hP hD hS ls hl
        refine lv_iload_n hx hb dX12_readText_177 rfl (lv_at hl 2 rfl) ?_
        refine lv_aload_n hx hb dX12_readText_178 rfl (lv_at hl 0 rfl) ?_
        refine gr_lineMany hx hb hg hown hK hP (hg _ q5_14) dX12_readText_179 ?_
        refine lv_iload_n hx hb dX12_readText_182 rfl (lv_at hl 1 rfl) ?_
        refine lr_lineMany hx hb hK hP (i_in (by decide) (by decide)) dX12_readText_183 ?_
        refine lv_topi (fun x_42 ex_42 => ?_)
        have ex_42 : x_42 = c177_b22 (0 : Int32).toNatClampNeg := ex_42
        have hx_42 : x_42.toInt = (c177_b22 (0 : Int32).toNatClampNeg).toInt := by rw [ex_42]
        have nx_42 : x_42.toInt = (c177_b22 0).toInt := hx_42
        refine lv_icmp_ge (tgt := 233) hx hb dX12_readText_184 (by decide) (fun c_43 => ?_) (fun c_43 => ?_)
        ·
          have kc_43 : x_42.toInt ≤ x2.toInt := i_le c_43
          refine lv_iconst (v := (-1)) hx hb dX12_readText_233 (by decide) ?_
          have s0i : (c177_b22 0).toInt = (c177_b22 1).toInt := by rw [s0]
          have q0_m1 : ((-1) : Int32).toInt = (-1) := rfl
          exact W.iret (v := (-1)) hx hb hr (fun tt ht hW => ⟨⟨(-1), ⟨c177_u15, c177_u16, c177_u17, c177_u18, c177_u19, c177_b20, c177_b21, c177_b22, c177_b23, c177_b24⟩, rfl, ⟨(LT_law jlt (by omega) (fun j hj => ⟨hcp20 j hj, hcp21 j hj⟩) (fun j hj => ⟨hte j (by omega), hle j (by omega)⟩) (show (c177_b22 0).toInt = (((c177_b22 1).toInt.toNat : Nat) : Int) by omega) (by omega)), (by first | rfl | omega | trivial | assumption | (dsimp only; first | omega | assumption)), (by first | rfl | omega | trivial | assumption | (dsimp only; first | omega | assumption)), (show 0 ≤ c177_u15.toInt by first | omega | assumption), (show c177_u15.toInt ≤ 120 by first | omega | assumption), jb20_0, jb23_0, jb24_0⟩, by rw [ht]; exact hP, hD⟩, hS.F ht⟩) hS.2.2 dX12_readText_234
        ·
          have kc_43 : x2.toInt < x_42.toInt := i_nle c_43
          refine lv_aload_n hx hb dX12_readText_187 rfl (lv_at hl 0 rfl) ?_
          refine gr_testEnd hx hb hg hown hK hP (hg _ q5_15) dX12_readText_188 ?_
          refine lv_bipush (v := 61) hx hb dX12_readText_191 (by decide) ?_
          refine lv_iload_n hx hb dX12_readText_193 rfl (lv_at hl 1 rfl) ?_
          refine lv_imul hx hb dX12_readText_194 ?_
          refine lv_topi (fun x_44 ex_44 => ?_)
          have fx_44 : x_44 = 0 := by rw [ex_44]; rfl
          subst fx_44
          refine lv_iload_n hx hb dX12_readText_195 rfl (lv_at hl 2 rfl) ?_
          refine lv_iadd hx hb dX12_readText_196 ?_
          refine lv_topi (fun x_45 ex_45 => ?_)
          have fx_45 : x_45.toInt = (0 : Int) + x2.toInt := by rw [ex_45]; exact i_add (by first | omega | (show (_ : Int) ≤ (0 : Int) + x2.toInt; omega)) (by first | omega | (show (0 : Int) + x2.toInt ≤ (_ : Int); omega))
          refine lv_aload_n hx hb dX12_readText_197 rfl (lv_at hl 0 rfl) ?_
          refine gr_testEnd hx hb hg hown hK hP (hg _ q5_15) dX12_readText_198 ?_
          refine lv_bipush (v := 61) hx hb dX12_readText_201 (by decide) ?_
          refine lv_iload_n hx hb dX12_readText_203 rfl (lv_at hl 2 rfl) ?_
          refine lv_iadd hx hb dX12_readText_204 ?_
          refine lv_topi (fun x_46 ex_46 => ?_)
          have fx_46 : x_46.toInt = (61 : Int) + x2.toInt := by rw [ex_46]; exact i_add (by first | omega | (show (_ : Int) ≤ (61 : Int) + x2.toInt; omega)) (by first | omega | (show (61 : Int) + x2.toInt ≤ (_ : Int); omega))
          refine lr_testEnd hx hb hK hP (i_in (by omega) (by omega)) dX12_readText_205 ?_
          refine lv_topi (fun x_47 ex_47 => ?_)
          have ex_47 : x_47 = c177_b23 x_46.toNatClampNeg := ex_47
          have hx_47 : x_47.toInt = (c177_b23 x_46.toNatClampNeg).toInt := by rw [ex_47]
          have bx_47 := jb23_0 x_46.toNatClampNeg
          rw [← ex_47] at bx_47
          refine sr_testEnd hx hb hK hP hD hS (i_in (by omega) (by omega)) dX12_readText_206 (fun H locs hP hD hS => ?_)
          have hab_48 : AB (-32768) 32767 (upd c177_b23 x_45.toNatClampNeg (vp_nar .short x_47)) := AB_upd jb23_0 (nar_s_rg _).1 (nar_s_rg _).2
          refine lv_aload_n hx hb dX12_readText_207 rfl (lv_at hl 0 rfl) ?_
          refine gr_lineEnd hx hb hg hown hK hP (hg _ q5_16) dX12_readText_208 ?_
          refine lv_bipush (v := 61) hx hb dX12_readText_211 (by decide) ?_
          refine lv_iload_n hx hb dX12_readText_213 rfl (lv_at hl 1 rfl) ?_
          refine lv_imul hx hb dX12_readText_214 ?_
          refine lv_topi (fun x_49 ex_49 => ?_)
          have fx_49 : x_49 = 0 := by rw [ex_49]; rfl
          subst fx_49
          refine lv_iload_n hx hb dX12_readText_215 rfl (lv_at hl 2 rfl) ?_
          refine lv_iadd hx hb dX12_readText_216 ?_
          refine lv_topi (fun x_50 ex_50 => ?_)
          have fx_50 : x_50.toInt = (0 : Int) + x2.toInt := by rw [ex_50]; exact i_add (by first | omega | (show (_ : Int) ≤ (0 : Int) + x2.toInt; omega)) (by first | omega | (show (0 : Int) + x2.toInt ≤ (_ : Int); omega))
          refine lv_aload_n hx hb dX12_readText_217 rfl (lv_at hl 0 rfl) ?_
          refine gr_lineEnd hx hb hg hown hK hP (hg _ q5_16) dX12_readText_218 ?_
          refine lv_bipush (v := 61) hx hb dX12_readText_221 (by decide) ?_
          refine lv_iload_n hx hb dX12_readText_223 rfl (lv_at hl 2 rfl) ?_
          refine lv_iadd hx hb dX12_readText_224 ?_
          refine lv_topi (fun x_51 ex_51 => ?_)
          have fx_51 : x_51.toInt = (61 : Int) + x2.toInt := by rw [ex_51]; exact i_add (by first | omega | (show (_ : Int) ≤ (61 : Int) + x2.toInt; omega)) (by first | omega | (show (61 : Int) + x2.toInt ≤ (_ : Int); omega))
          refine lr_lineEnd hx hb hK hP (i_in (by omega) (by omega)) dX12_readText_225 ?_
          refine lv_topi (fun x_52 ex_52 => ?_)
          have ex_52 : x_52 = c177_b24 x_51.toNatClampNeg := ex_52
          have hx_52 : x_52.toInt = (c177_b24 x_51.toNatClampNeg).toInt := by rw [ex_52]
          have bx_52 := jb24_0 x_51.toNatClampNeg
          rw [← ex_52] at bx_52
          refine sr_lineEnd hx hb hK hP hD hS (i_in (by omega) (by omega)) dX12_readText_226 (fun H locs hP hD hS => ?_)
          have hab_53 : AB (-32768) 32767 (upd c177_b24 x_50.toNatClampNeg (vp_nar .short x_52)) := AB_upd jb24_0 (nar_s_rg _).1 (nar_s_rg _).2
          have zx : x_45.toNatClampNeg = x2.toInt.toNat := (by show x_45.toInt.toNat = _; omega)
          have zy : x_50.toNatClampNeg = x2.toInt.toNat := (by show x_50.toInt.toNat = _; omega)
          have kv : vp_nar .short x_47 = c177_b23 (61 + x2.toInt.toNat) := by rw [nar_s_id (by omega) (by omega), ex_47]; congr 1; show (_ : Int32).toInt.toNat = _; omega
          have kw : vp_nar .short x_52 = c177_b24 (61 + x2.toInt.toNat) := by rw [nar_s_id (by omega) (by omega), ex_52]; congr 1; show (_ : Int32).toInt.toNat = _; omega
          have hlt2 : LT c177_b20 c177_b21 (upd c177_b23 x_45.toNatClampNeg (vp_nar .short x_47)) (upd c177_b24 x_50.toNatClampNeg (vp_nar .short x_52)) (c177_b22 1).toInt.toNat c177_u19.toInt.toNat := LT_low jlt (fun _ _ => rfl) (fun _ _ => rfl) (upd_hi (by rw [zx]; omega)) (upd_hi (by rw [zy]; omega))
          obtain ⟨x_54, ex_54⟩ : ∃ y : Int32, y = x2 + 1 := ⟨_, rfl⟩
          have fx_54 : x_54.toInt = x2.toInt + 1 := by rw [ex_54]; exact i_add (by first | omega | (show (_ : Int) ≤ x2.toInt + 1; omega)) (by first | omega | (show x2.toInt + 1 ≤ (_ : Int); omega))
          refine lv_iinc (v := x_54) (lv' := [(2, .int x_54), (0, .ref (bd 0)), (1, .int 0)]) hx hb dX12_readText_227 hl (k := 2) rfl (by rw [ex_54]; rfl) (by decide) rfl (fun ls hl => ?_)
          refine lv_goto (tgt := 177) hx hb dX12_readText_230 (by decide) ?_
          have q0_0 : (0 : Int32).toInt = 0 := rfl
          exact ih.2.2 x_54 c177_u15 c177_u16 c177_u17 c177_u18 c177_u19 c177_b20 c177_b21 c177_b22 (upd c177_b23 x_45.toNatClampNeg (vp_nar .short x_47)) (upd c177_b24 x_50.toNatClampNeg (vp_nar .short x_52)) _ _ (by omega) (by omega) (by omega) (by omega) (by omega) hlt2 (by omega) s0 (by omega) hcp20 hcp21 (CP_step hte kv (by omega) zx (by omega)) (CP_step hle kw (by omega) zy (by omega)) (show 0 ≤ c177_u15.toInt by first | omega | assumption) (show c177_u15.toInt ≤ 120 by first | omega | assumption) jb20_0 hab_48 hab_53 (by omega) hP hD hS ls (lv_sub hl [1, 2, 0] rfl)
  refine lv_aload_n hx hb dX12_readText_0 rfl (lv_at hl 0 rfl) ?_
  refine lv_iconst (v := 0) hx hb dX12_readText_1 (by decide) ?_
  refine pr_here hx hb hg hown hK hP hD hS (hg _ q5_8) dX12_readText_2 (fun H locs hP hD hS => ?_)
  refine lv_aload_n hx hb dX12_readText_5 rfl (lv_at hl 0 rfl) ?_
  refine lv_iconst (v := (-1)) hx hb dX12_readText_6 (by decide) ?_
  refine pr_fault hx hb hg hown hK hP hD hS (hg _ q5_9) dX12_readText_7 (fun H locs hP hD hS => ?_)
  refine lv_aload_n hx hb dX12_readText_10 rfl (lv_at hl 0 rfl) ?_
  refine lv_iconst (v := 0) hx hb dX12_readText_11 (by decide) ?_
  refine pr_open hx hb hg hown hK hP hD hS (hg _ q5_10) dX12_readText_12 (fun H locs hP hD hS => ?_)
  refine lv_aload_n hx hb dX12_readText_15 rfl (lv_at hl 0 rfl) ?_
  refine lv_iconst (v := 0) hx hb dX12_readText_16 (by decide) ?_
  refine pr_laid hx hb hg hown hK hP hD hS (hg _ q5_11) dX12_readText_17 (fun H locs hP hD hS => ?_)
  refine lv_aload_n hx hb dX12_readText_20 rfl (lv_at hl 0 rfl) ?_
  refine gr_lineMany hx hb hg hown hK hP (hg _ q5_14) dX12_readText_21 ?_
  refine lv_iconst (v := 1) hx hb dX12_readText_24 (by decide) ?_
  refine lv_iconst (v := 0) hx hb dX12_readText_25 (by decide) ?_
  refine sr_lineMany hx hb hK hP hD hS (i_in (by decide) (by decide)) dX12_readText_26 (fun H locs hP hD hS => ?_)
  refine lv_aload_n hx hb dX12_readText_27 rfl (lv_at hl 0 rfl) ?_
  have hz22 : (upd (b 22) (1 : Int32).toNatClampNeg 0) 1 = 0 := rfl
  have hz22i : ((upd (b 22) (1 : Int32).toNatClampNeg 0) 1).toInt = 0 := by rw [hz22]; rfl
  have hz0 : (0 : Int32).toInt = 0 := rfl
  refine cV_v (As := []) (rest := []) ⟨hx, hb, hml, hown, hg⟩ (k_X12_line l D cs A bd (va_up (va_up (va_up (va_up u 16 0) 17 (-1)) 18 0) 19 0) (va_up b 22 (upd (b 22) (1 : Int32).toNatClampNeg 0)) bw   (show (-1 : Int) = -1 by first | omega | decide) (show 0 ≤ (0 : Int) by first | omega | decide) (show (0 : Int) ≤ (u 15).toInt by first | omega | decide) (show 0 ≤ (0 : Int) by first | omega | decide) (show (0 : Int) ≤ (0 : Int) by first | omega | decide) (show 0 ≤ (0 : Int) by first | omega | decide) (show (0 : Int) ≤ 6 by first | omega | decide) (show 0 ≤ ((upd (b 22) (1 : Int32).toNatClampNeg 0) 1).toInt by first | omega | decide) (show 2 * ((upd (b 22) (1 : Int32).toNatClampNeg 0) 1).toInt ≤ (0 : Int) by first | omega | decide) ib23_0 (show 0 ≤ (u 15).toInt by first | omega | decide) (show (u 15).toInt ≤ 120 by first | omega | decide) ib20_0 ib24_0) ca_X12_line q6_38 ⟨rfl, rfl⟩ ⟨Nat.le_of_ble_eq_true rfl, Nat.le_of_ble_eq_true rfl⟩ (rc_model hK hP) hK hP hD hS hZ rfl hl.1 rfl (Nat.le_of_ble_eq_true rfl) ⟨Nat.zero_le _, Nat.zero_le _⟩ dX12_readText_28 (fun z_65 H locs wr_55 hP hD hS => ?_)
  obtain ⟨o_u16_56, o_u17_57, o_u18_58, o_u19_59, o_b23_60, o_b20_61, o_b21_62, o_b24_63, o_b22_64⟩ := z_65
  have hP : va_P D vwCl (RW cs bd (va_up (va_up (va_up (va_up u 16 o_u16_56) 17 o_u17_57) 18 o_u18_58) 19 o_u19_59) (va_up (va_up (va_up (va_up (va_up b 23 o_b23_60) 20 o_b20_61) 21 o_b21_62) 24 o_b24_63) 22 o_b22_64) bw) H := hP
  have hD : va_D A (RW cs bd (va_up (va_up (va_up (va_up u 16 o_u16_56) 17 o_u17_57) 18 o_u18_58) 19 o_u19_59) (va_up (va_up (va_up (va_up (va_up b 23 o_b23_60) 20 o_b20_61) 21 o_b21_62) 24 o_b24_63) 22 o_b22_64) bw) := hD
  obtain ⟨wr_55_0, wr_55_1, wr_55_2, wr_55_3, wr_55_4, wr_55_5, wr_55_6, wr_55_7, wr_55_8, wr_55_9, wr_55_10, wr_55_11, wr_55_12, wr_55_13, wr_55_14, wr_55_15⟩ : ((o_u17_57.toInt = -1 ∧ o_u18_58.toInt = (0 : Int) ∧ (0 : Int) < o_u16_56.toInt ∧ o_u19_59.toInt ≤ o_u16_56.toInt) ∨ (0 ≤ o_u17_57.toInt ∧ o_u19_59.toInt ≤ o_u16_56.toInt + 1)) ∧ ((0 : Int) ≤ o_u16_56.toInt) ∧ (o_u16_56.toInt ≤ (u 15).toInt) ∧ ((0 : Int) ≤ o_u18_58.toInt) ∧ (o_u18_58.toInt ≤ 6) ∧ ((0 : Int) ≤ o_u19_59.toInt) ∧ (FRM (130 + (0 : Int).toNat) (b 20) o_b20_61) ∧ (FRM (130 + (0 : Int).toNat) (b 21) o_b21_62) ∧ ((o_b22_64 1).toInt = ((upd (b 22) (1 : Int32).toNatClampNeg 0) 1).toInt + 1) ∧ (o_b22_64 0 = (upd (b 22) (1 : Int32).toNatClampNeg 0) 0) ∧ (FRM (61 + ((upd (b 22) (1 : Int32).toNatClampNeg 0) 1).toInt.toNat) (b 23) o_b23_60) ∧ (FRM (61 + ((upd (b 22) (1 : Int32).toNatClampNeg 0) 1).toInt.toNat) (b 24) o_b24_63) ∧ (o_u17_57.toInt = -1 → LN o_b20_61 o_b21_62 o_b23_60 o_b24_63 ((upd (b 22) (1 : Int32).toNatClampNeg 0) 1).toInt.toNat (0 : Int).toNat o_u19_59.toInt.toNat) ∧ (AB (-32768) 32767 o_b23_60) ∧ (AB (-128) 127 o_b20_61) ∧ (AB (-32768) 32767 o_b24_63) := wr_55
  have hA_66 : FRM 130 (b 20) o_b20_61 := FRM_trans FRM_refl wr_55_6 (by omega)
  have hA_67 : FRM 130 (b 21) o_b21_62 := FRM_trans FRM_refl wr_55_7 (by omega)
  have hA_68 : FRM 61 (b 23) o_b23_60 := FRM_trans FRM_refl wr_55_10 (by omega)
  have hA_69 : FRM 61 (b 24) o_b24_63 := FRM_trans FRM_refl wr_55_11 (by omega)
  have hA_70 : o_b22_64 0 = (b 22) 0 := wr_55_9.trans rfl
  have hlt_71 : o_u17_57.toInt = -1 → LT o_b20_61 o_b21_62 o_b23_60 o_b24_63 (o_b22_64 1).toInt.toNat o_u19_59.toInt.toNat := fun hq => LT_cast (LT_step (m := 0) (L := 0) LT_0 (fun _ => rfl) (FRM_le wr_55_6 (by omega)) (FRM_le wr_55_7 (by omega)) (FRM_le wr_55_10 (by omega)) (FRM_le wr_55_11 (by omega)) (LN_cast (wr_55_12 (by omega)) (by omega) (by omega))) (by omega) rfl
  have q0_0 : (0 : Int32).toInt = 0 := rfl
  exact (hcut ((1000 + ((u 15).toInt - o_u16_56.toInt).toNat) + 1)).1 o_u16_56 o_u17_57 o_u18_58 o_u19_59 o_b20_61 o_b21_62 o_b22_64 o_b23_60 o_b24_63 _ _ (by omega) (by omega) (by omega) (by omega) (by omega) (by omega) (by omega) (by omega) hA_66 hA_67 hA_68 hA_69 hA_70 hlt_71 wr_55_14 wr_55_13 wr_55_15 (Nat.lt_succ_self _) hP hD hS ls (lv_sub hl [0, 1] rfl)
set_option maxHeartbeats 4000000 in
set_option maxRecDepth 100000 in
theorem k_X12_law (l : Launch) (D : va_G) (cs : Nat → ClassId) (A : Nat → Prop) (bd : Nat → Nat) (u : Nat → Int32) (b : Nat → Nat → Int32) (bw : Nat → Nat → Int64)   (hlaw : LAWOK (b 20) (b 21) (b 22) (b 23) (b 24)) (iu15_0 : 0 ≤ (u 15).toInt) (iu15_1 : (u 15).toInt ≤ 120) (ib23_0 : AB (-32768) 32767 (b 23)) (ib20_0 : AB (-128) 127 (b 20)) (ib24_0 : AB (-32768) 32767 (b 24)) : Met l yX12_law (Cond.code yX12_law cX12_law 2 (some .int) :: gw) ({ frames := 74, cells := 0, slots := 0, locals := 2263 }) (va_Pc [.ref (bd 0)] (XPre D (TY cs) (RW cs bd u b bw) A)) (va_Qi (fun (r : Int32) (z : Int32 × Int32 × Int32 × Int32 × Int32 × Int32 × (Nat → Int32) × (Nat → Int32) × (Nat → Int32) × (Nat → Int32) × (Nat → Int32)) => (LAWOK z.2.2.2.2.2.2.1 z.2.2.2.2.2.2.2.1 z.2.2.2.2.2.2.2.2.1 z.2.2.2.2.2.2.2.2.2.1 z.2.2.2.2.2.2.2.2.2.2) ∧ (z.1.toInt = 0) ∧ (0 ≤ z.1.toInt) ∧ (z.1.toInt ≤ 120) ∧ (AB (-128) 127 z.2.2.2.2.2.2.1) ∧ (AB (-32768) 32767 z.2.2.2.2.2.2.2.2.2.1) ∧ (AB (-32768) 32767 z.2.2.2.2.2.2.2.2.2.2)) (XPo D (fun (z : Int32 × Int32 × Int32 × Int32 × Int32 × Int32 × (Nat → Int32) × (Nat → Int32) × (Nat → Int32) × (Nat → Int32) × (Nat → Int32)) => RW cs bd (va_up (va_up (va_up (va_up (va_up (va_up u 15 z.1) 16 z.2.1) 17 z.2.2.1) 18 z.2.2.2.1) 19 z.2.2.2.2.1) 27 z.2.2.2.2.2.1) (va_up (va_up (va_up (va_up (va_up b 20 z.2.2.2.2.2.2.1) 21 z.2.2.2.2.2.2.2.1) 22 z.2.2.2.2.2.2.2.2.1) 23 z.2.2.2.2.2.2.2.2.2.1) 24 z.2.2.2.2.2.2.2.2.2.2) bw) A) A) 0 0 A := by
  refine Met.ofW (cc := cX12_law) (maxL := 2) (ret := (some .int)) (by decide) rfl ?_
  intro p e s m args below meth c s₁ B hml hv
  obtain ⟨rfl, hP, hK, hD, hZ⟩ := hv
  have hx := B.exec
  have hb := B.bytes
  have hr := B.returns
  have hts := atoms_spec (ws := (Cond.code yX12_law cX12_law 2 (some .int) :: gw)) B.pre
  have hg : ∀ w ∈ gw, w.before ([.ref (bd 0)] : List Value).toArray s = true := fun w h => hts w (List.mem_cons_of_mem _ h)
  have hown : s.vm.findClass RX12 = some m.cls := findClass_of_methodNamed B.named
  have hlocks := B.notSynchronized
  have hS : va_S A s.heap s.heap [] := va_S.rf
  have hP : va_P D vwCl (RW cs bd u b bw) s.heap := hP
  have hl := lv_entry ([.ref (bd 0)]) (n := 2) (Nat.le_of_ble_eq_true rfl)
  rw [lg_entry_eq]
  generalize (lg_sl ([.ref (bd 0)]) ++ List.replicate (2 - (lg_sl ([.ref (bd 0)])).length) Slot.unset).toArray = ls at hl ⊢
  have hl : lv_has ls 2 [(0, .ref (bd 0))] := hl
  refine lv_aload_n hx hb dX12_law_0 rfl (lv_at hl 0 rfl) ?_
  refine lv_iconst (v := 0) hx hb dX12_law_1 (by decide) ?_
  refine cV_i (As := [.int 0]) (rest := []) ⟨hx, hb, hml, hown, hg⟩ (k_X12_readText l D cs A bd u b bw   hlaw (show 0 ≤ (u 15).toInt by first | omega | decide) (show (u 15).toInt ≤ 120 by first | omega | decide) ib23_0 ib20_0 ib24_0) ca_X12_readText q6_34 ⟨rfl, rfl⟩ ⟨Nat.le_of_ble_eq_true rfl, Nat.le_of_ble_eq_true rfl⟩ (rc_model hK hP) hK hP hD hS hZ rfl hl.1 rfl (Nat.le_of_ble_eq_true rfl) ⟨Nat.zero_le _, Nat.zero_le _⟩ dX12_law_2 (fun r_1 z_12 H locs wr_1 hP hD hS => ?_)
  obtain ⟨o_u15_2, o_u16_3, o_u17_4, o_u18_5, o_u19_6, o_b20_7, o_b21_8, o_b22_9, o_b23_10, o_b24_11⟩ := z_12
  have hP : va_P D vwCl (RW cs bd (va_up (va_up (va_up (va_up (va_up u 15 o_u15_2) 16 o_u16_3) 17 o_u17_4) 18 o_u18_5) 19 o_u19_6) (va_up (va_up (va_up (va_up (va_up b 20 o_b20_7) 21 o_b21_8) 22 o_b22_9) 23 o_b23_10) 24 o_b24_11) bw) H := hP
  have hD : va_D A (RW cs bd (va_up (va_up (va_up (va_up (va_up u 15 o_u15_2) 16 o_u16_3) 17 o_u17_4) 18 o_u18_5) 19 o_u19_6) (va_up (va_up (va_up (va_up (va_up b 20 o_b20_7) 21 o_b21_8) 22 o_b22_9) 23 o_b23_10) 24 o_b24_11) bw) := hD
  obtain ⟨wr_1_0, wr_1_1, wr_1_2, wr_1_3, wr_1_4, wr_1_5, wr_1_6, wr_1_7⟩ : (LAWOK o_b20_7 o_b21_8 o_b22_9 o_b23_10 o_b24_11) ∧ (r_1.toInt = -1 ∨ 0 ≤ r_1.toInt) ∧ (o_u15_2.toInt = 0) ∧ (0 ≤ o_u15_2.toInt) ∧ (o_u15_2.toInt ≤ 120) ∧ (AB (-128) 127 o_b20_7) ∧ (AB (-32768) 32767 o_b23_10) ∧ (AB (-32768) 32767 o_b24_11) := wr_1
  refine lv_istore_n (lv' := [(1, .int r_1), (0, .ref (bd 0))]) hx hb dX12_law_5 rfl hl (by decide) rfl (fun ls hl => ?_)
  refine lv_iload_n hx hb dX12_law_6 rfl (lv_at hl 0 rfl) ?_
  refine lv_if_lt (tgt := 15) hx hb dX12_law_7 (by decide) (fun c_13 => ?_) (fun c_13 => ?_)
  ·
    have kc_13 : r_1.toInt < (0 : Int) := i_lt c_13
    refine lv_aload_n hx hb dX12_law_15 rfl (lv_at hl 1 rfl) ?_
    refine lv_iconst (v := 1) hx hb dX12_law_16 (by decide) ?_
    refine pr_hasLaw hx hb hg hown hK hP hD hS rfl rfl (hg _ q5_19) dX12_law_17 (fun H locs hP hD hS => ?_)
    refine lv_iconst (v := 1) hx hb dX12_law_20 (by decide) ?_
    have q0_1 : (1 : Int32).toInt = 1 := rfl
    have q0_1 : (1 : Int32).toInt = 1 := rfl
    exact W.iret (v := 1) hx hb hr (fun tt ht hW => ⟨⟨1, ⟨o_u15_2, o_u16_3, o_u17_4, o_u18_5, o_u19_6, 1, o_b20_7, o_b21_8, o_b22_9, o_b23_10, o_b24_11⟩, rfl, ⟨(by assumption), (by first | rfl | omega | trivial | assumption | (dsimp only; first | omega | assumption)), (show 0 ≤ o_u15_2.toInt by first | omega | assumption), (show o_u15_2.toInt ≤ 120 by first | omega | assumption), wr_1_5, wr_1_6, wr_1_7⟩, by rw [ht]; exact hP, hD⟩, hS.F ht⟩) hS.2.2 dX12_law_21
  ·
    have kc_13 : (0 : Int) ≤ r_1.toInt := i_nlt c_13
    refine lv_bipush (v := (-100)) hx hb dX12_law_10 (by decide) ?_
    refine lv_iload_n hx hb dX12_law_12 rfl (lv_at hl 0 rfl) ?_
    refine lv_isub hx hb dX12_law_13 ?_
    refine lv_topi (fun x_14 ex_14 => ?_)
    have hP : va_P D vwCl (RW cs bd (va_up (va_up (va_up (va_up (va_up (va_up u 15 o_u15_2) 16 o_u16_3) 17 o_u17_4) 18 o_u18_5) 19 o_u19_6) 27 (u 27)) (va_up (va_up (va_up (va_up (va_up b 20 o_b20_7) 21 o_b21_8) 22 o_b22_9) 23 o_b23_10) 24 o_b24_11) bw) _ := hP
    have hD : va_D A (RW cs bd (va_up (va_up (va_up (va_up (va_up (va_up u 15 o_u15_2) 16 o_u16_3) 17 o_u17_4) 18 o_u18_5) 19 o_u19_6) 27 (u 27)) (va_up (va_up (va_up (va_up (va_up b 20 o_b20_7) 21 o_b21_8) 22 o_b22_9) 23 o_b23_10) 24 o_b24_11) bw) := hD
    exact W.iret (v := x_14) hx hb hr (fun tt ht hW => ⟨⟨x_14, ⟨o_u15_2, o_u16_3, o_u17_4, o_u18_5, o_u19_6, (u 27), o_b20_7, o_b21_8, o_b22_9, o_b23_10, o_b24_11⟩, rfl, ⟨(by assumption), (by first | rfl | omega | trivial | assumption | (dsimp only; first | omega | assumption)), (show 0 ≤ o_u15_2.toInt by first | omega | assumption), (show o_u15_2.toInt ≤ 120 by first | omega | assumption), wr_1_5, wr_1_6, wr_1_7⟩, by rw [ht]; exact hP, hD⟩, hS.F ht⟩) hS.2.2 dX12_law_14
