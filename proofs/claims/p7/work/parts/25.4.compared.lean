set_option maxHeartbeats 4000000 in
set_option maxRecDepth 100000 in
theorem s_X12_compared (n : Nat) (h1n : C_X12_sum n) : C_X12_compared n := by
  intro l D cs A bd u b bw hT hh0 hh1 hL0 hL1 ho0 ho6 hon iu15_0 iu15_1 ib14_0 ib20_0
  refine Met.ofW (cc := cX12_compared) (maxL := 2) (ret := none) (by decide) rfl ?_
  intro p e s m args below meth c s₁ B hml hv
  obtain ⟨rfl, hP, hK, hD, hZ⟩ := hv
  have hx := B.exec
  have hb := B.bytes
  have hr := B.returns
  have hts := atoms_spec (ws := (Cond.code yX12_compared cX12_compared 2 none :: gw)) B.pre
  have hg : ∀ w ∈ gw, w.before ([.ref (bd 0)] : List Value).toArray s = true := fun w h => hts w (List.mem_cons_of_mem _ h)
  have hown : s.vm.findClass RX12 = some m.cls := findClass_of_methodNamed B.named
  have hlocks := B.notSynchronized
  have hS : va_S A s.heap s.heap [] := va_S.rf
  have hP : va_P D vwCl (RW cs bd u b bw) s.heap := hP
  have hl := lv_entry ([.ref (bd 0)]) (n := 2) (Nat.le_of_ble_eq_true rfl)
  rw [lg_entry_eq]
  generalize (lg_sl ([.ref (bd 0)]) ++ List.replicate (2 - (lg_sl ([.ref (bd 0)])).length) Slot.unset).toArray = ls at hl ⊢
  have hl : lv_has ls 2 [(0, .ref (bd 0))] := hl
  refine lv_aload_n hx hb dX12_compared_0 rfl (lv_at hl 0 rfl) ?_
  refine cV_v (As := []) (rest := []) ⟨hx, hb, hml, hown, hg⟩ (h1n l D cs A bd u b bw   (show (u 17).toInt = -1 by first | omega | decide) (show 0 ≤ (u 16).toInt by first | omega | decide) (show (u 16).toInt ≤ (u 15).toInt by first | omega | decide) (show 0 ≤ (u 19).toInt by first | omega | decide) (show (u 19).toInt ≤ (u 16).toInt by first | omega | decide) (show 0 ≤ (u 18).toInt by first | omega | decide) (show (u 18).toInt ≤ 6 by first | omega | decide) (show 6 ≤ (u 18).toInt + (n : Int) by first | omega | decide) (show 0 ≤ (u 15).toInt by first | omega | decide) (show (u 15).toInt ≤ 120 by first | omega | decide) ib14_0 ib20_0) ca_X12_sum q6_54 ⟨rfl, rfl⟩ ⟨(show 10 * n + 8 + 1 ≤ 10 * n + 9 by omega), (show 8 + (2 + 11) + (300 * n + 310) ≤ 300 * n + 340 by omega)⟩ (rc_model hK hP) hK hP hD hS hZ rfl hl.1 rfl (Nat.le_of_ble_eq_true rfl) ⟨Nat.zero_le _, Nat.zero_le _⟩ dX12_compared_1 (fun z_8 H locs wr_1 hP hD hS => ?_)
  obtain ⟨o_u16_2, o_u17_3, o_u18_4, o_u19_5, o_b20_6, o_b21_7⟩ := z_8
  have hP : va_P D vwCl (RW cs bd (va_up (va_up (va_up (va_up u 16 o_u16_2) 17 o_u17_3) 18 o_u18_4) 19 o_u19_5) (va_up (va_up b 20 o_b20_6) 21 o_b21_7) bw) H := hP
  have hD : va_D A (RW cs bd (va_up (va_up (va_up (va_up u 16 o_u16_2) 17 o_u17_3) 18 o_u18_4) 19 o_u19_5) (va_up (va_up b 20 o_b20_6) 21 o_b21_7) bw) := hD
  obtain ⟨wr_1_0, wr_1_1, wr_1_2, wr_1_3, wr_1_4, wr_1_5, wr_1_6, wr_1_7, wr_1_8, wr_1_9, wr_1_10⟩ : ((o_u17_3.toInt = -1 ∧ o_u18_4.toInt = (u 18).toInt ∧ (u 16).toInt < o_u16_2.toInt ∧ o_u19_5.toInt - (u 19).toInt ≤ o_u16_2.toInt - (u 16).toInt) ∨ (0 ≤ o_u17_3.toInt ∧ o_u19_5.toInt - (u 19).toInt ≤ o_u16_2.toInt - (u 16).toInt + 1)) ∧ ((u 16).toInt ≤ o_u16_2.toInt) ∧ (o_u16_2.toInt ≤ (u 15).toInt) ∧ ((u 18).toInt ≤ o_u18_4.toInt) ∧ (o_u18_4.toInt ≤ 6) ∧ ((u 19).toInt ≤ o_u19_5.toInt) ∧ (FRM (130 + (u 19).toInt.toNat) (b 20) o_b20_6) ∧ (FRM (130 + (u 19).toInt.toNat) (b 21) o_b21_7) ∧ (o_u17_3.toInt = -1 → SEGI o_b20_6 o_b21_7 (130 + (u 19).toInt.toNat) (130 + o_u19_5.toInt.toNat)) ∧ (RESR (SUMF (TKR (b 14) (u 15).toInt) (u 15).toInt.toNat (ONEF (TKR (b 14) (u 15).toInt) (u 15).toInt.toNat (6 - (u 18).toInt).toNat) (u 16).toInt.toNat) o_u17_3.toInt o_u16_2.toInt.toNat) ∧ (AB (-128) 127 o_b20_6) := wr_1
  have hA_9 : FRM (130 + (u 19).toInt.toNat) (b 20) o_b20_6 := FRM_trans FRM_refl wr_1_6 (by omega)
  have hA_10 : FRM (130 + (u 19).toInt.toNat) (b 21) o_b21_7 := FRM_trans FRM_refl wr_1_7 (by omega)
  refine lv_aload_n hx hb dX12_compared_4 rfl (lv_at hl 0 rfl) ?_
  refine cV_ro (As := []) (rest := []) ⟨hx, hb, hml, hown, hg⟩ (k_X12_look l D cs A bd (va_up (va_up (va_up (va_up u 16 o_u16_2) 17 o_u17_3) 18 o_u18_4) 19 o_u19_5) (va_up (va_up b 20 o_b20_6) 21 o_b21_7) bw   (show 0 ≤ o_u16_2.toInt by first | omega | decide) (show 0 ≤ (u 15).toInt by first | omega | decide) (show (u 15).toInt ≤ 120 by first | omega | decide) ib14_0) ca_X12_look q6_66 ⟨rfl, rfl⟩ ⟨(show 0 + 1 ≤ 10 * n + 9 by omega), (show 8 + (1 + 11) + (0) ≤ 300 * n + 340 by omega)⟩ (rc_model hK hP) hK hP hD hS hZ rfl hl.1 rfl (Nat.le_of_ble_eq_true rfl) ⟨Nat.zero_le _, Nat.zero_le _⟩ dX12_compared_5 (fun r_11 wr_11 => ?_)
  obtain ⟨wr_11_0, wr_11_1⟩ : ((o_u16_2.toInt < (u 15).toInt ∧ r_11.toInt = ((b 14) o_u16_2.toNatClampNeg).toInt) ∨ ((u 15).toInt ≤ o_u16_2.toInt ∧ r_11.toInt = -1)) ∧ ((r_11.toInt = (TKR (b 14) (u 15).toInt) o_u16_2.toInt.toNat ∧ -1 ≤ r_11.toInt ∧ r_11.toInt ≤ 127) ∨ (r_11.toInt = (TKR (b 14) (u 15).toInt) o_u16_2.toInt.toNat - 256 ∧ 128 ≤ (TKR (b 14) (u 15).toInt) o_u16_2.toInt.toNat ∧ (TKR (b 14) (u 15).toInt) o_u16_2.toInt.toNat ≤ 255 ∧ r_11.toInt < 0)) := wr_11
  refine lv_istore_n (lv' := [(1, .int r_11), (0, .ref (bd 0))]) hx hb dX12_compared_8 rfl hl (by decide) rfl (fun ls hl => ?_)
  refine lv_aload_n hx hb dX12_compared_9 rfl (lv_at hl 1 rfl) ?_
  refine gr_fault hx hb hg hown hK hP (x := o_u17_3) rfl (hg _ q5_9) dX12_compared_10 ?_
  refine lv_if_ge (tgt := 34) hx hb dX12_compared_13 (by decide) (fun c_12 => ?_) (fun c_12 => ?_)
  ·
    have kc_12 : (0 : Int) ≤ o_u17_3.toInt := i_le c_12
    have hns : 0 ≤ o_u17_3.toInt ∨ ¬ ((TKR (b 14) (u 15).toInt) o_u16_2.toInt.toNat = 60 ∨ (TKR (b 14) (u 15).toInt) o_u16_2.toInt.toNat = 61 ∨ (TKR (b 14) (u 15).toInt) o_u16_2.toInt.toNat = 62) := by omega
    clear wr_11_0 wr_11_1
    exact W.vret hx hb hr (fun tt ht hW => ⟨⟨⟨o_u16_2, o_u17_3, o_u18_4, o_u19_5, o_b20_6, o_b21_7⟩, rfl, ⟨(by first | rfl | omega | trivial | assumption | (dsimp only; first | omega | assumption)), (by first | rfl | omega | trivial | assumption | (dsimp only; first | omega | assumption)), (by first | rfl | omega | trivial | assumption | (dsimp only; first | omega | assumption)), (by first | rfl | omega | trivial | assumption | (dsimp only; first | omega | assumption)), (by first | rfl | omega | trivial | assumption | (dsimp only; first | omega | assumption)), (by first | rfl | omega | trivial | assumption | (dsimp only; first | omega | assumption)), hA_9, hA_10, (fun hq => wr_1_8 (by first | omega | (dsimp only at hq; omega))), (by (try dsimp only); exact (RR_opt0 wr_1_9 hns)), wr_1_10⟩, by rw [ht]; exact hP, hD⟩, hS.F ht⟩) hS.2.2 dX12_compared_34
  ·
    have kc_12 : o_u17_3.toInt < (0 : Int) := i_nle c_12
    refine lv_iload_n hx hb dX12_compared_16 rfl (lv_at hl 0 rfl) ?_
    refine lv_bipush (v := 60) hx hb dX12_compared_17 (by decide) ?_
    refine lv_icmp_eq (tgt := 35) hx hb dX12_compared_19 (by decide) (fun c_13 => ?_) (fun c_13 => ?_)
    ·
      have kc_13 : r_11.toInt = (60 : Int) := i_eq c_13
      have hs : (TKR (b 14) (u 15).toInt) o_u16_2.toInt.toNat = 60 ∨ (TKR (b 14) (u 15).toInt) o_u16_2.toInt.toNat = 61 ∨ (TKR (b 14) (u 15).toInt) o_u16_2.toInt.toNat = 62 := by omega
      have hlt0 : o_u16_2.toInt < (u 15).toInt := by omega
      have hsv : r_11.toInt = 60 ∨ r_11.toInt = 61 ∨ r_11.toInt = 62 := by omega
      clear wr_11_0 wr_11_1
      have hs_14 := wr_1_8 (by omega)
      refine lv_aload_n hx hb dX12_compared_35 rfl (lv_at hl 1 rfl) ?_
      refine lv_dup hx hb dX12_compared_36 rfl ?_
      refine gr_here hx hb hg hown hK hP (x := o_u16_2) rfl (hg _ q5_8) dX12_compared_37 ?_
      refine lv_iconst (v := 1) hx hb dX12_compared_40 (by decide) ?_
      refine lv_iadd hx hb dX12_compared_41 ?_
      refine lv_topi (fun x_15 ex_15 => ?_)
      have fx_15 : x_15.toInt = o_u16_2.toInt + (1 : Int) := by rw [ex_15]; exact i_add (by first | omega | (show (_ : Int) ≤ o_u16_2.toInt + (1 : Int); omega)) (by first | omega | (show o_u16_2.toInt + (1 : Int) ≤ (_ : Int); omega))
      refine pr_here hx hb hg hown hK hP hD hS (hg _ q5_8) dX12_compared_42 (fun H locs hP hD hS => ?_)
      refine lv_aload_n hx hb dX12_compared_45 rfl (lv_at hl 1 rfl) ?_
      refine cV_v (As := []) (rest := []) ⟨hx, hb, hml, hown, hg⟩ (h1n l D cs A bd (va_up (va_up (va_up (va_up u 17 o_u17_3) 18 o_u18_4) 19 o_u19_5) 16 x_15) (va_up (va_up b 20 o_b20_6) 21 o_b21_7) bw   (show o_u17_3.toInt = -1 by first | omega | decide) (show 0 ≤ x_15.toInt by first | omega | decide) (show x_15.toInt ≤ (u 15).toInt by first | omega | decide) (show 0 ≤ o_u19_5.toInt by first | omega | decide) (show o_u19_5.toInt ≤ x_15.toInt by first | omega | decide) (show 0 ≤ o_u18_4.toInt by first | omega | decide) (show o_u18_4.toInt ≤ 6 by first | omega | decide) (show 6 ≤ o_u18_4.toInt + (n : Int) by first | omega | decide) (show 0 ≤ (u 15).toInt by first | omega | decide) (show (u 15).toInt ≤ 120 by first | omega | decide) ib14_0 wr_1_10) ca_X12_sum q6_54 ⟨rfl, rfl⟩ ⟨(show 10 * n + 8 + 1 ≤ 10 * n + 9 by omega), (show 8 + (2 + 11) + (300 * n + 310) ≤ 300 * n + 340 by omega)⟩ (rc_model hK hP) hK hP hD hS hZ rfl hl.1 rfl (Nat.le_of_ble_eq_true rfl) ⟨Nat.zero_le _, Nat.zero_le _⟩ dX12_compared_46 (fun z_23 H locs wr_16 hP hD hS => ?_)
      obtain ⟨o_u16_17, o_u17_18, o_u18_19, o_u19_20, o_b20_21, o_b21_22⟩ := z_23
      have hP : va_P D vwCl (RW cs bd (va_up (va_up (va_up (va_up u 16 o_u16_17) 17 o_u17_18) 18 o_u18_19) 19 o_u19_20) (va_up (va_up b 20 o_b20_21) 21 o_b21_22) bw) H := hP
      have hD : va_D A (RW cs bd (va_up (va_up (va_up (va_up u 16 o_u16_17) 17 o_u17_18) 18 o_u18_19) 19 o_u19_20) (va_up (va_up b 20 o_b20_21) 21 o_b21_22) bw) := hD
      obtain ⟨wr_16_0, wr_16_1, wr_16_2, wr_16_3, wr_16_4, wr_16_5, wr_16_6, wr_16_7, wr_16_8, wr_16_9, wr_16_10⟩ : ((o_u17_18.toInt = -1 ∧ o_u18_19.toInt = o_u18_4.toInt ∧ x_15.toInt < o_u16_17.toInt ∧ o_u19_20.toInt - o_u19_5.toInt ≤ o_u16_17.toInt - x_15.toInt) ∨ (0 ≤ o_u17_18.toInt ∧ o_u19_20.toInt - o_u19_5.toInt ≤ o_u16_17.toInt - x_15.toInt + 1)) ∧ (x_15.toInt ≤ o_u16_17.toInt) ∧ (o_u16_17.toInt ≤ (u 15).toInt) ∧ (o_u18_4.toInt ≤ o_u18_19.toInt) ∧ (o_u18_19.toInt ≤ 6) ∧ (o_u19_5.toInt ≤ o_u19_20.toInt) ∧ (FRM (130 + o_u19_5.toInt.toNat) o_b20_6 o_b20_21) ∧ (FRM (130 + o_u19_5.toInt.toNat) o_b21_7 o_b21_22) ∧ (o_u17_18.toInt = -1 → SEGI o_b20_21 o_b21_22 (130 + o_u19_5.toInt.toNat) (130 + o_u19_20.toInt.toNat)) ∧ (RESR (SUMF (TKR (b 14) (u 15).toInt) (u 15).toInt.toNat (ONEF (TKR (b 14) (u 15).toInt) (u 15).toInt.toNat (6 - o_u18_4.toInt).toNat) x_15.toInt.toNat) o_u17_18.toInt o_u16_17.toInt.toNat) ∧ (AB (-128) 127 o_b20_21) := wr_16
      have hA_24 : FRM (130 + (u 19).toInt.toNat) (b 20) o_b20_21 := FRM_trans hA_9 wr_16_6 (by omega)
      have hA_25 : FRM (130 + (u 19).toInt.toNat) (b 21) o_b21_22 := FRM_trans hA_10 wr_16_7 (by omega)
      have hs_26 := SEG_frm hs_14 wr_16_6 wr_16_7 (by omega)
      have hz1 : x_15.toInt.toNat = o_u16_2.toInt.toNat + 1 := by omega
      have hn1 : (6 - o_u18_4.toInt).toNat = (6 - (u 18).toInt).toNat := by omega
      rw [hz1] at wr_16_9
      rw [hn1] at wr_16_9
      refine lv_aload_n hx hb dX12_compared_49 rfl (lv_at hl 1 rfl) ?_
      refine lv_iload_n hx hb dX12_compared_50 rfl (lv_at hl 0 rfl) ?_
      refine lv_iconst (v := 0) hx hb dX12_compared_51 (by decide) ?_
      refine cV_v (As := [.int r_11, .int 0]) (rest := []) ⟨hx, hb, hml, hown, hg⟩ (k_X12_addStep l D cs A bd (va_up (va_up (va_up (va_up u 16 o_u16_17) 17 o_u17_18) 18 o_u18_19) 19 o_u19_20) (va_up (va_up b 20 o_b20_21) 21 o_b21_22) bw  r_11 0 (show 0 ≤ o_u19_20.toInt by first | omega | decide) (show o_u19_20.toInt ≤ 129 by first | omega | decide) (show -128 ≤ r_11.toInt by first | omega | decide) (show r_11.toInt ≤ 127 by first | omega | decide) wr_16_10) ca_X12_addStep q6_73 ⟨rfl, rfl⟩ ⟨(show 0 + 1 ≤ 10 * n + 9 by omega), (show 8 + (3 + 11) + (0) ≤ 300 * n + 340 by omega)⟩ (rc_model hK hP) hK hP hD hS hZ rfl hl.1 rfl (Nat.le_of_ble_eq_true rfl) ⟨Nat.zero_le _, Nat.zero_le _⟩ dX12_compared_52 (fun z_31 H locs wr_27 hP hD hS => ?_)
      obtain ⟨o_u19_28, o_b20_29, o_b21_30⟩ := z_31
      have hP : va_P D vwCl (RW cs bd (va_up (va_up (va_up (va_up u 16 o_u16_17) 17 o_u17_18) 18 o_u18_19) 19 o_u19_28) (va_up (va_up b 20 o_b20_29) 21 o_b21_30) bw) H := hP
      have hD : va_D A (RW cs bd (va_up (va_up (va_up (va_up u 16 o_u16_17) 17 o_u17_18) 18 o_u18_19) 19 o_u19_28) (va_up (va_up b 20 o_b20_29) 21 o_b21_30) bw) := hD
      obtain ⟨wr_27_0, wr_27_1, wr_27_2, wr_27_3, wr_27_4, wr_27_5⟩ : (o_u19_28.toInt = o_u19_20.toInt + 1) ∧ (FRM (130 + o_u19_20.toInt.toNat) o_b20_21 o_b20_29) ∧ (FRM (130 + o_u19_20.toInt.toNat) o_b21_22 o_b21_30) ∧ ((o_b20_29 (130 + o_u19_20.toInt.toNat)).toInt = r_11.toInt) ∧ ((o_b21_30 (130 + o_u19_20.toInt.toNat)).toInt = (0 : Int)) ∧ (AB (-128) 127 o_b20_29) := wr_27
      have hA_32 : FRM (130 + (u 19).toInt.toNat) (b 20) o_b20_29 := FRM_trans hA_24 wr_27_1 (by omega)
      have hA_33 : FRM (130 + (u 19).toInt.toNat) (b 21) o_b21_30 := FRM_trans hA_25 wr_27_2 (by omega)
      have hsg_34 : o_u17_18.toInt = -1 → SEGI o_b20_29 o_b21_30 (130 + (u 19).toInt.toNat) (130 + o_u19_28.toInt.toNat) := fun hq => SEG_bin (SEG_frm hs_26 wr_27_1 wr_27_2 (by omega)) (SEG_frm (wr_16_8 (by omega)) wr_27_1 wr_27_2 (by omega)) (by omega) (by omega)
      exact W.vret hx hb hr (fun tt ht hW => ⟨⟨⟨o_u16_17, o_u17_18, o_u18_19, o_u19_28, o_b20_29, o_b21_30⟩, rfl, ⟨(by first | rfl | omega | trivial | assumption | (dsimp only; first | omega | assumption)), (by first | rfl | omega | trivial | assumption | (dsimp only; first | omega | assumption)), (by first | rfl | omega | trivial | assumption | (dsimp only; first | omega | assumption)), (by first | rfl | omega | trivial | assumption | (dsimp only; first | omega | assumption)), (by first | rfl | omega | trivial | assumption | (dsimp only; first | omega | assumption)), (by first | rfl | omega | trivial | assumption | (dsimp only; first | omega | assumption)), hA_32, hA_33, hsg_34, (by (try dsimp only); exact (RR_opt1 wr_1_9 (by omega) hs wr_16_9)), wr_27_5⟩, by rw [ht]; exact hP, hD⟩, hS.F ht⟩) hS.2.2 dX12_compared_55
    ·
      have kc_13 : r_11.toInt ≠ (60 : Int) := i_ne c_13
      refine lv_iload_n hx hb dX12_compared_22 rfl (lv_at hl 0 rfl) ?_
      refine lv_bipush (v := 61) hx hb dX12_compared_23 (by decide) ?_
      refine lv_icmp_eq (tgt := 35) hx hb dX12_compared_25 (by decide) (fun c_35 => ?_) (fun c_35 => ?_)
      ·
        have kc_35 : r_11.toInt = (61 : Int) := i_eq c_35
        have hs : (TKR (b 14) (u 15).toInt) o_u16_2.toInt.toNat = 60 ∨ (TKR (b 14) (u 15).toInt) o_u16_2.toInt.toNat = 61 ∨ (TKR (b 14) (u 15).toInt) o_u16_2.toInt.toNat = 62 := by omega
        have hlt0 : o_u16_2.toInt < (u 15).toInt := by omega
        have hsv : r_11.toInt = 60 ∨ r_11.toInt = 61 ∨ r_11.toInt = 62 := by omega
        clear wr_11_0 wr_11_1
        have hs_36 := wr_1_8 (by omega)
        refine lv_aload_n hx hb dX12_compared_35 rfl (lv_at hl 1 rfl) ?_
        refine lv_dup hx hb dX12_compared_36 rfl ?_
        refine gr_here hx hb hg hown hK hP (x := o_u16_2) rfl (hg _ q5_8) dX12_compared_37 ?_
        refine lv_iconst (v := 1) hx hb dX12_compared_40 (by decide) ?_
        refine lv_iadd hx hb dX12_compared_41 ?_
        refine lv_topi (fun x_37 ex_37 => ?_)
        have fx_37 : x_37.toInt = o_u16_2.toInt + (1 : Int) := by rw [ex_37]; exact i_add (by first | omega | (show (_ : Int) ≤ o_u16_2.toInt + (1 : Int); omega)) (by first | omega | (show o_u16_2.toInt + (1 : Int) ≤ (_ : Int); omega))
        refine pr_here hx hb hg hown hK hP hD hS (hg _ q5_8) dX12_compared_42 (fun H locs hP hD hS => ?_)
        refine lv_aload_n hx hb dX12_compared_45 rfl (lv_at hl 1 rfl) ?_
        refine cV_v (As := []) (rest := []) ⟨hx, hb, hml, hown, hg⟩ (h1n l D cs A bd (va_up (va_up (va_up (va_up u 17 o_u17_3) 18 o_u18_4) 19 o_u19_5) 16 x_37) (va_up (va_up b 20 o_b20_6) 21 o_b21_7) bw   (show o_u17_3.toInt = -1 by first | omega | decide) (show 0 ≤ x_37.toInt by first | omega | decide) (show x_37.toInt ≤ (u 15).toInt by first | omega | decide) (show 0 ≤ o_u19_5.toInt by first | omega | decide) (show o_u19_5.toInt ≤ x_37.toInt by first | omega | decide) (show 0 ≤ o_u18_4.toInt by first | omega | decide) (show o_u18_4.toInt ≤ 6 by first | omega | decide) (show 6 ≤ o_u18_4.toInt + (n : Int) by first | omega | decide) (show 0 ≤ (u 15).toInt by first | omega | decide) (show (u 15).toInt ≤ 120 by first | omega | decide) ib14_0 wr_1_10) ca_X12_sum q6_54 ⟨rfl, rfl⟩ ⟨(show 10 * n + 8 + 1 ≤ 10 * n + 9 by omega), (show 8 + (2 + 11) + (300 * n + 310) ≤ 300 * n + 340 by omega)⟩ (rc_model hK hP) hK hP hD hS hZ rfl hl.1 rfl (Nat.le_of_ble_eq_true rfl) ⟨Nat.zero_le _, Nat.zero_le _⟩ dX12_compared_46 (fun z_45 H locs wr_38 hP hD hS => ?_)
        obtain ⟨o_u16_39, o_u17_40, o_u18_41, o_u19_42, o_b20_43, o_b21_44⟩ := z_45
        have hP : va_P D vwCl (RW cs bd (va_up (va_up (va_up (va_up u 16 o_u16_39) 17 o_u17_40) 18 o_u18_41) 19 o_u19_42) (va_up (va_up b 20 o_b20_43) 21 o_b21_44) bw) H := hP
        have hD : va_D A (RW cs bd (va_up (va_up (va_up (va_up u 16 o_u16_39) 17 o_u17_40) 18 o_u18_41) 19 o_u19_42) (va_up (va_up b 20 o_b20_43) 21 o_b21_44) bw) := hD
        obtain ⟨wr_38_0, wr_38_1, wr_38_2, wr_38_3, wr_38_4, wr_38_5, wr_38_6, wr_38_7, wr_38_8, wr_38_9, wr_38_10⟩ : ((o_u17_40.toInt = -1 ∧ o_u18_41.toInt = o_u18_4.toInt ∧ x_37.toInt < o_u16_39.toInt ∧ o_u19_42.toInt - o_u19_5.toInt ≤ o_u16_39.toInt - x_37.toInt) ∨ (0 ≤ o_u17_40.toInt ∧ o_u19_42.toInt - o_u19_5.toInt ≤ o_u16_39.toInt - x_37.toInt + 1)) ∧ (x_37.toInt ≤ o_u16_39.toInt) ∧ (o_u16_39.toInt ≤ (u 15).toInt) ∧ (o_u18_4.toInt ≤ o_u18_41.toInt) ∧ (o_u18_41.toInt ≤ 6) ∧ (o_u19_5.toInt ≤ o_u19_42.toInt) ∧ (FRM (130 + o_u19_5.toInt.toNat) o_b20_6 o_b20_43) ∧ (FRM (130 + o_u19_5.toInt.toNat) o_b21_7 o_b21_44) ∧ (o_u17_40.toInt = -1 → SEGI o_b20_43 o_b21_44 (130 + o_u19_5.toInt.toNat) (130 + o_u19_42.toInt.toNat)) ∧ (RESR (SUMF (TKR (b 14) (u 15).toInt) (u 15).toInt.toNat (ONEF (TKR (b 14) (u 15).toInt) (u 15).toInt.toNat (6 - o_u18_4.toInt).toNat) x_37.toInt.toNat) o_u17_40.toInt o_u16_39.toInt.toNat) ∧ (AB (-128) 127 o_b20_43) := wr_38
        have hA_46 : FRM (130 + (u 19).toInt.toNat) (b 20) o_b20_43 := FRM_trans hA_9 wr_38_6 (by omega)
        have hA_47 : FRM (130 + (u 19).toInt.toNat) (b 21) o_b21_44 := FRM_trans hA_10 wr_38_7 (by omega)
        have hs_48 := SEG_frm hs_36 wr_38_6 wr_38_7 (by omega)
        have hz1 : x_37.toInt.toNat = o_u16_2.toInt.toNat + 1 := by omega
        have hn1 : (6 - o_u18_4.toInt).toNat = (6 - (u 18).toInt).toNat := by omega
        rw [hz1] at wr_38_9
        rw [hn1] at wr_38_9
        refine lv_aload_n hx hb dX12_compared_49 rfl (lv_at hl 1 rfl) ?_
        refine lv_iload_n hx hb dX12_compared_50 rfl (lv_at hl 0 rfl) ?_
        refine lv_iconst (v := 0) hx hb dX12_compared_51 (by decide) ?_
        refine cV_v (As := [.int r_11, .int 0]) (rest := []) ⟨hx, hb, hml, hown, hg⟩ (k_X12_addStep l D cs A bd (va_up (va_up (va_up (va_up u 16 o_u16_39) 17 o_u17_40) 18 o_u18_41) 19 o_u19_42) (va_up (va_up b 20 o_b20_43) 21 o_b21_44) bw  r_11 0 (show 0 ≤ o_u19_42.toInt by first | omega | decide) (show o_u19_42.toInt ≤ 129 by first | omega | decide) (show -128 ≤ r_11.toInt by first | omega | decide) (show r_11.toInt ≤ 127 by first | omega | decide) wr_38_10) ca_X12_addStep q6_73 ⟨rfl, rfl⟩ ⟨(show 0 + 1 ≤ 10 * n + 9 by omega), (show 8 + (3 + 11) + (0) ≤ 300 * n + 340 by omega)⟩ (rc_model hK hP) hK hP hD hS hZ rfl hl.1 rfl (Nat.le_of_ble_eq_true rfl) ⟨Nat.zero_le _, Nat.zero_le _⟩ dX12_compared_52 (fun z_53 H locs wr_49 hP hD hS => ?_)
        obtain ⟨o_u19_50, o_b20_51, o_b21_52⟩ := z_53
        have hP : va_P D vwCl (RW cs bd (va_up (va_up (va_up (va_up u 16 o_u16_39) 17 o_u17_40) 18 o_u18_41) 19 o_u19_50) (va_up (va_up b 20 o_b20_51) 21 o_b21_52) bw) H := hP
        have hD : va_D A (RW cs bd (va_up (va_up (va_up (va_up u 16 o_u16_39) 17 o_u17_40) 18 o_u18_41) 19 o_u19_50) (va_up (va_up b 20 o_b20_51) 21 o_b21_52) bw) := hD
        obtain ⟨wr_49_0, wr_49_1, wr_49_2, wr_49_3, wr_49_4, wr_49_5⟩ : (o_u19_50.toInt = o_u19_42.toInt + 1) ∧ (FRM (130 + o_u19_42.toInt.toNat) o_b20_43 o_b20_51) ∧ (FRM (130 + o_u19_42.toInt.toNat) o_b21_44 o_b21_52) ∧ ((o_b20_51 (130 + o_u19_42.toInt.toNat)).toInt = r_11.toInt) ∧ ((o_b21_52 (130 + o_u19_42.toInt.toNat)).toInt = (0 : Int)) ∧ (AB (-128) 127 o_b20_51) := wr_49
        have hA_54 : FRM (130 + (u 19).toInt.toNat) (b 20) o_b20_51 := FRM_trans hA_46 wr_49_1 (by omega)
        have hA_55 : FRM (130 + (u 19).toInt.toNat) (b 21) o_b21_52 := FRM_trans hA_47 wr_49_2 (by omega)
        have hsg_56 : o_u17_40.toInt = -1 → SEGI o_b20_51 o_b21_52 (130 + (u 19).toInt.toNat) (130 + o_u19_50.toInt.toNat) := fun hq => SEG_bin (SEG_frm hs_48 wr_49_1 wr_49_2 (by omega)) (SEG_frm (wr_38_8 (by omega)) wr_49_1 wr_49_2 (by omega)) (by omega) (by omega)
        exact W.vret hx hb hr (fun tt ht hW => ⟨⟨⟨o_u16_39, o_u17_40, o_u18_41, o_u19_50, o_b20_51, o_b21_52⟩, rfl, ⟨(by first | rfl | omega | trivial | assumption | (dsimp only; first | omega | assumption)), (by first | rfl | omega | trivial | assumption | (dsimp only; first | omega | assumption)), (by first | rfl | omega | trivial | assumption | (dsimp only; first | omega | assumption)), (by first | rfl | omega | trivial | assumption | (dsimp only; first | omega | assumption)), (by first | rfl | omega | trivial | assumption | (dsimp only; first | omega | assumption)), (by first | rfl | omega | trivial | assumption | (dsimp only; first | omega | assumption)), hA_54, hA_55, hsg_56, (by (try dsimp only); exact (RR_opt1 wr_1_9 (by omega) hs wr_38_9)), wr_49_5⟩, by rw [ht]; exact hP, hD⟩, hS.F ht⟩) hS.2.2 dX12_compared_55
      ·
        have kc_35 : r_11.toInt ≠ (61 : Int) := i_ne c_35
        refine lv_iload_n hx hb dX12_compared_28 rfl (lv_at hl 0 rfl) ?_
        refine lv_bipush (v := 62) hx hb dX12_compared_29 (by decide) ?_
        refine lv_icmp_eq (tgt := 35) hx hb dX12_compared_31 (by decide) (fun c_57 => ?_) (fun c_57 => ?_)
        ·
          have kc_57 : r_11.toInt = (62 : Int) := i_eq c_57
          have hs : (TKR (b 14) (u 15).toInt) o_u16_2.toInt.toNat = 60 ∨ (TKR (b 14) (u 15).toInt) o_u16_2.toInt.toNat = 61 ∨ (TKR (b 14) (u 15).toInt) o_u16_2.toInt.toNat = 62 := by omega
          have hlt0 : o_u16_2.toInt < (u 15).toInt := by omega
          have hsv : r_11.toInt = 60 ∨ r_11.toInt = 61 ∨ r_11.toInt = 62 := by omega
          clear wr_11_0 wr_11_1
          have hs_58 := wr_1_8 (by omega)
          refine lv_aload_n hx hb dX12_compared_35 rfl (lv_at hl 1 rfl) ?_
          refine lv_dup hx hb dX12_compared_36 rfl ?_
          refine gr_here hx hb hg hown hK hP (x := o_u16_2) rfl (hg _ q5_8) dX12_compared_37 ?_
          refine lv_iconst (v := 1) hx hb dX12_compared_40 (by decide) ?_
          refine lv_iadd hx hb dX12_compared_41 ?_
          refine lv_topi (fun x_59 ex_59 => ?_)
          have fx_59 : x_59.toInt = o_u16_2.toInt + (1 : Int) := by rw [ex_59]; exact i_add (by first | omega | (show (_ : Int) ≤ o_u16_2.toInt + (1 : Int); omega)) (by first | omega | (show o_u16_2.toInt + (1 : Int) ≤ (_ : Int); omega))
          refine pr_here hx hb hg hown hK hP hD hS (hg _ q5_8) dX12_compared_42 (fun H locs hP hD hS => ?_)
          refine lv_aload_n hx hb dX12_compared_45 rfl (lv_at hl 1 rfl) ?_
          refine cV_v (As := []) (rest := []) ⟨hx, hb, hml, hown, hg⟩ (h1n l D cs A bd (va_up (va_up (va_up (va_up u 17 o_u17_3) 18 o_u18_4) 19 o_u19_5) 16 x_59) (va_up (va_up b 20 o_b20_6) 21 o_b21_7) bw   (show o_u17_3.toInt = -1 by first | omega | decide) (show 0 ≤ x_59.toInt by first | omega | decide) (show x_59.toInt ≤ (u 15).toInt by first | omega | decide) (show 0 ≤ o_u19_5.toInt by first | omega | decide) (show o_u19_5.toInt ≤ x_59.toInt by first | omega | decide) (show 0 ≤ o_u18_4.toInt by first | omega | decide) (show o_u18_4.toInt ≤ 6 by first | omega | decide) (show 6 ≤ o_u18_4.toInt + (n : Int) by first | omega | decide) (show 0 ≤ (u 15).toInt by first | omega | decide) (show (u 15).toInt ≤ 120 by first | omega | decide) ib14_0 wr_1_10) ca_X12_sum q6_54 ⟨rfl, rfl⟩ ⟨(show 10 * n + 8 + 1 ≤ 10 * n + 9 by omega), (show 8 + (2 + 11) + (300 * n + 310) ≤ 300 * n + 340 by omega)⟩ (rc_model hK hP) hK hP hD hS hZ rfl hl.1 rfl (Nat.le_of_ble_eq_true rfl) ⟨Nat.zero_le _, Nat.zero_le _⟩ dX12_compared_46 (fun z_67 H locs wr_60 hP hD hS => ?_)
          obtain ⟨o_u16_61, o_u17_62, o_u18_63, o_u19_64, o_b20_65, o_b21_66⟩ := z_67
          have hP : va_P D vwCl (RW cs bd (va_up (va_up (va_up (va_up u 16 o_u16_61) 17 o_u17_62) 18 o_u18_63) 19 o_u19_64) (va_up (va_up b 20 o_b20_65) 21 o_b21_66) bw) H := hP
          have hD : va_D A (RW cs bd (va_up (va_up (va_up (va_up u 16 o_u16_61) 17 o_u17_62) 18 o_u18_63) 19 o_u19_64) (va_up (va_up b 20 o_b20_65) 21 o_b21_66) bw) := hD
          obtain ⟨wr_60_0, wr_60_1, wr_60_2, wr_60_3, wr_60_4, wr_60_5, wr_60_6, wr_60_7, wr_60_8, wr_60_9, wr_60_10⟩ : ((o_u17_62.toInt = -1 ∧ o_u18_63.toInt = o_u18_4.toInt ∧ x_59.toInt < o_u16_61.toInt ∧ o_u19_64.toInt - o_u19_5.toInt ≤ o_u16_61.toInt - x_59.toInt) ∨ (0 ≤ o_u17_62.toInt ∧ o_u19_64.toInt - o_u19_5.toInt ≤ o_u16_61.toInt - x_59.toInt + 1)) ∧ (x_59.toInt ≤ o_u16_61.toInt) ∧ (o_u16_61.toInt ≤ (u 15).toInt) ∧ (o_u18_4.toInt ≤ o_u18_63.toInt) ∧ (o_u18_63.toInt ≤ 6) ∧ (o_u19_5.toInt ≤ o_u19_64.toInt) ∧ (FRM (130 + o_u19_5.toInt.toNat) o_b20_6 o_b20_65) ∧ (FRM (130 + o_u19_5.toInt.toNat) o_b21_7 o_b21_66) ∧ (o_u17_62.toInt = -1 → SEGI o_b20_65 o_b21_66 (130 + o_u19_5.toInt.toNat) (130 + o_u19_64.toInt.toNat)) ∧ (RESR (SUMF (TKR (b 14) (u 15).toInt) (u 15).toInt.toNat (ONEF (TKR (b 14) (u 15).toInt) (u 15).toInt.toNat (6 - o_u18_4.toInt).toNat) x_59.toInt.toNat) o_u17_62.toInt o_u16_61.toInt.toNat) ∧ (AB (-128) 127 o_b20_65) := wr_60
          have hA_68 : FRM (130 + (u 19).toInt.toNat) (b 20) o_b20_65 := FRM_trans hA_9 wr_60_6 (by omega)
          have hA_69 : FRM (130 + (u 19).toInt.toNat) (b 21) o_b21_66 := FRM_trans hA_10 wr_60_7 (by omega)
          have hs_70 := SEG_frm hs_58 wr_60_6 wr_60_7 (by omega)
          have hz1 : x_59.toInt.toNat = o_u16_2.toInt.toNat + 1 := by omega
          have hn1 : (6 - o_u18_4.toInt).toNat = (6 - (u 18).toInt).toNat := by omega
          rw [hz1] at wr_60_9
          rw [hn1] at wr_60_9
          refine lv_aload_n hx hb dX12_compared_49 rfl (lv_at hl 1 rfl) ?_
          refine lv_iload_n hx hb dX12_compared_50 rfl (lv_at hl 0 rfl) ?_
          refine lv_iconst (v := 0) hx hb dX12_compared_51 (by decide) ?_
          refine cV_v (As := [.int r_11, .int 0]) (rest := []) ⟨hx, hb, hml, hown, hg⟩ (k_X12_addStep l D cs A bd (va_up (va_up (va_up (va_up u 16 o_u16_61) 17 o_u17_62) 18 o_u18_63) 19 o_u19_64) (va_up (va_up b 20 o_b20_65) 21 o_b21_66) bw  r_11 0 (show 0 ≤ o_u19_64.toInt by first | omega | decide) (show o_u19_64.toInt ≤ 129 by first | omega | decide) (show -128 ≤ r_11.toInt by first | omega | decide) (show r_11.toInt ≤ 127 by first | omega | decide) wr_60_10) ca_X12_addStep q6_73 ⟨rfl, rfl⟩ ⟨(show 0 + 1 ≤ 10 * n + 9 by omega), (show 8 + (3 + 11) + (0) ≤ 300 * n + 340 by omega)⟩ (rc_model hK hP) hK hP hD hS hZ rfl hl.1 rfl (Nat.le_of_ble_eq_true rfl) ⟨Nat.zero_le _, Nat.zero_le _⟩ dX12_compared_52 (fun z_75 H locs wr_71 hP hD hS => ?_)
          obtain ⟨o_u19_72, o_b20_73, o_b21_74⟩ := z_75
          have hP : va_P D vwCl (RW cs bd (va_up (va_up (va_up (va_up u 16 o_u16_61) 17 o_u17_62) 18 o_u18_63) 19 o_u19_72) (va_up (va_up b 20 o_b20_73) 21 o_b21_74) bw) H := hP
          have hD : va_D A (RW cs bd (va_up (va_up (va_up (va_up u 16 o_u16_61) 17 o_u17_62) 18 o_u18_63) 19 o_u19_72) (va_up (va_up b 20 o_b20_73) 21 o_b21_74) bw) := hD
          obtain ⟨wr_71_0, wr_71_1, wr_71_2, wr_71_3, wr_71_4, wr_71_5⟩ : (o_u19_72.toInt = o_u19_64.toInt + 1) ∧ (FRM (130 + o_u19_64.toInt.toNat) o_b20_65 o_b20_73) ∧ (FRM (130 + o_u19_64.toInt.toNat) o_b21_66 o_b21_74) ∧ ((o_b20_73 (130 + o_u19_64.toInt.toNat)).toInt = r_11.toInt) ∧ ((o_b21_74 (130 + o_u19_64.toInt.toNat)).toInt = (0 : Int)) ∧ (AB (-128) 127 o_b20_73) := wr_71
          have hA_76 : FRM (130 + (u 19).toInt.toNat) (b 20) o_b20_73 := FRM_trans hA_68 wr_71_1 (by omega)
          have hA_77 : FRM (130 + (u 19).toInt.toNat) (b 21) o_b21_74 := FRM_trans hA_69 wr_71_2 (by omega)
          have hsg_78 : o_u17_62.toInt = -1 → SEGI o_b20_73 o_b21_74 (130 + (u 19).toInt.toNat) (130 + o_u19_72.toInt.toNat) := fun hq => SEG_bin (SEG_frm hs_70 wr_71_1 wr_71_2 (by omega)) (SEG_frm (wr_60_8 (by omega)) wr_71_1 wr_71_2 (by omega)) (by omega) (by omega)
          exact W.vret hx hb hr (fun tt ht hW => ⟨⟨⟨o_u16_61, o_u17_62, o_u18_63, o_u19_72, o_b20_73, o_b21_74⟩, rfl, ⟨(by first | rfl | omega | trivial | assumption | (dsimp only; first | omega | assumption)), (by first | rfl | omega | trivial | assumption | (dsimp only; first | omega | assumption)), (by first | rfl | omega | trivial | assumption | (dsimp only; first | omega | assumption)), (by first | rfl | omega | trivial | assumption | (dsimp only; first | omega | assumption)), (by first | rfl | omega | trivial | assumption | (dsimp only; first | omega | assumption)), (by first | rfl | omega | trivial | assumption | (dsimp only; first | omega | assumption)), hA_76, hA_77, hsg_78, (by (try dsimp only); exact (RR_opt1 wr_1_9 (by omega) hs wr_60_9)), wr_71_5⟩, by rw [ht]; exact hP, hD⟩, hS.F ht⟩) hS.2.2 dX12_compared_55
        ·
          have kc_57 : r_11.toInt ≠ (62 : Int) := i_ne c_57
          have hns : 0 ≤ o_u17_3.toInt ∨ ¬ ((TKR (b 14) (u 15).toInt) o_u16_2.toInt.toNat = 60 ∨ (TKR (b 14) (u 15).toInt) o_u16_2.toInt.toNat = 61 ∨ (TKR (b 14) (u 15).toInt) o_u16_2.toInt.toNat = 62) := by omega
          clear wr_11_0 wr_11_1
          exact W.vret hx hb hr (fun tt ht hW => ⟨⟨⟨o_u16_2, o_u17_3, o_u18_4, o_u19_5, o_b20_6, o_b21_7⟩, rfl, ⟨(by first | rfl | omega | trivial | assumption | (dsimp only; first | omega | assumption)), (by first | rfl | omega | trivial | assumption | (dsimp only; first | omega | assumption)), (by first | rfl | omega | trivial | assumption | (dsimp only; first | omega | assumption)), (by first | rfl | omega | trivial | assumption | (dsimp only; first | omega | assumption)), (by first | rfl | omega | trivial | assumption | (dsimp only; first | omega | assumption)), (by first | rfl | omega | trivial | assumption | (dsimp only; first | omega | assumption)), hA_9, hA_10, (fun hq => wr_1_8 (by first | omega | (dsimp only at hq; omega))), (by (try dsimp only); exact (RR_opt0 wr_1_9 hns)), wr_1_10⟩, by rw [ht]; exact hP, hD⟩, hS.F ht⟩) hS.2.2 dX12_compared_34
