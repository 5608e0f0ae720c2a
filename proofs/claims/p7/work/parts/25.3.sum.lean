set_option maxHeartbeats 4000000 in
set_option maxRecDepth 100000 in
theorem s_X12_sum (n : Nat) (h1n : C_X12_product n) : C_X12_sum n := by
  intro l D cs A bd u b bw hT hh0 hh1 hL0 hL1 ho0 ho6 hon iu15_0 iu15_1 ib14_0 ib20_0
  refine Met.ofW (cc := cX12_sum) (maxL := 2) (ret := none) (by decide) rfl ?_
  intro p e s m args below meth c s₁ B hml hv
  obtain ⟨rfl, hP, hK, hD, hZ⟩ := hv
  have hx := B.exec
  have hb := B.bytes
  have hr := B.returns
  have hts := atoms_spec (ws := (Cond.code yX12_sum cX12_sum 2 none :: gw)) B.pre
  have hg : ∀ w ∈ gw, w.before ([.ref (bd 0)] : List Value).toArray s = true := fun w h => hts w (List.mem_cons_of_mem _ h)
  have hown : s.vm.findClass RX12 = some m.cls := findClass_of_methodNamed B.named
  have hlocks := B.notSynchronized
  have hS : va_S A s.heap s.heap [] := va_S.rf
  have hP : va_P D vwCl (RW cs bd u b bw) s.heap := hP
  have hl := lv_entry ([.ref (bd 0)]) (n := 2) (Nat.le_of_ble_eq_true rfl)
  rw [lg_entry_eq]
  generalize (lg_sl ([.ref (bd 0)]) ++ List.replicate (2 - (lg_sl ([.ref (bd 0)])).length) Slot.unset).toArray = ls at hl ⊢
  have hl : lv_has ls 2 [(0, .ref (bd 0))] := hl
  have hcut : ∀ nk : Nat, (∀ (c4_u16 : Int32) (c4_u17 : Int32) (c4_u18 : Int32) (c4_u19 : Int32) (c4_b20 : Nat → Int32) (c4_b21 : Nat → Int32) (H : Heap) (locs : List Loc) (jq0 : (c4_u17.toInt = -1 ∧ c4_u18.toInt = (u 18).toInt ∧ (u 16).toInt < c4_u16.toInt ∧ c4_u19.toInt - (u 19).toInt ≤ c4_u16.toInt - (u 16).toInt) ∨ (0 ≤ c4_u17.toInt ∧ c4_u19.toInt - (u 19).toInt ≤ c4_u16.toInt - (u 16).toInt + 1)) (jq1 : (u 16).toInt ≤ c4_u16.toInt) (jq2 : c4_u16.toInt ≤ (u 15).toInt) (jq3 : (u 18).toInt ≤ c4_u18.toInt) (jq4 : c4_u18.toInt ≤ 6) (jq5 : (u 19).toInt ≤ c4_u19.toInt) (jq6 : FRM (130 + (u 19).toInt.toNat) (b 20) c4_b20) (jq7 : FRM (130 + (u 19).toInt.toNat) (b 21) c4_b21) (jq8 : c4_u17.toInt = -1 → SEGI c4_b20 c4_b21 (130 + (u 19).toInt.toNat) (130 + c4_u19.toInt.toNat)) (hL : LINR (TKR (b 14) (u 15).toInt) (u 15).toInt.toNat 43 45 45 (PRODF (TKR (b 14) (u 15).toInt) (u 15).toInt.toNat (ONEF (TKR (b 14) (u 15).toInt) (u 15).toInt.toNat (6 - (u 18).toInt).toNat)) (SUMF (TKR (b 14) (u 15).toInt) (u 15).toInt.toNat (ONEF (TKR (b 14) (u 15).toInt) (u 15).toInt.toNat (6 - (u 18).toInt).toNat) (u 16).toInt.toNat) c4_u17.toInt c4_u16.toInt.toNat) (jb20_0 : AB (-128) 127 c4_b20) (hmu : ((u 15).toInt - c4_u16.toInt).toNat < nk) (hP : va_P D vwCl (RW cs bd (va_up (va_up (va_up (va_up u 16 c4_u16) 17 c4_u17) 18 c4_u18) 19 c4_u19) (va_up (va_up b 20 c4_b20) 21 c4_b21) bw) H) (hD : va_D A (RW cs bd (va_up (va_up (va_up (va_up u 16 c4_u16) 17 c4_u17) 18 c4_u18) 19 c4_u19) (va_up (va_up b 20 c4_b20) 21 c4_b21) bw)) (hS : va_S A s.heap H locs) (ls : Array Slot) (hl : lv_has ls 2 [(0, .ref (bd 0))]), W p l e (headSpec (Cond.code yX12_sum cX12_sum 2 none :: gw) ({ frames := 10 * n + 8, cells := 0, slots := 0, locals := 300 * n + 310 })).room s m ([.ref (bd 0)] : List Value).toArray below meth c H locs 0 0 (MQ below (va_Qv (fun (z : Int32 × Int32 × Int32 × Int32 × (Nat → Int32) × (Nat → Int32)) => ((z.2.1.toInt = -1 ∧ z.2.2.1.toInt = (u 18).toInt ∧ (u 16).toInt < z.1.toInt ∧ z.2.2.2.1.toInt - (u 19).toInt ≤ z.1.toInt - (u 16).toInt) ∨ (0 ≤ z.2.1.toInt ∧ z.2.2.2.1.toInt - (u 19).toInt ≤ z.1.toInt - (u 16).toInt + 1)) ∧ ((u 16).toInt ≤ z.1.toInt) ∧ (z.1.toInt ≤ (u 15).toInt) ∧ ((u 18).toInt ≤ z.2.2.1.toInt) ∧ (z.2.2.1.toInt ≤ 6) ∧ ((u 19).toInt ≤ z.2.2.2.1.toInt) ∧ (FRM (130 + (u 19).toInt.toNat) (b 20) z.2.2.2.2.1) ∧ (FRM (130 + (u 19).toInt.toNat) (b 21) z.2.2.2.2.2) ∧ (z.2.1.toInt = -1 → SEGI z.2.2.2.2.1 z.2.2.2.2.2 (130 + (u 19).toInt.toNat) (130 + z.2.2.2.1.toInt.toNat)) ∧ (RESR (SUMF (TKR (b 14) (u 15).toInt) (u 15).toInt.toNat (ONEF (TKR (b 14) (u 15).toInt) (u 15).toInt.toNat (6 - (u 18).toInt).toNat) (u 16).toInt.toNat) z.2.1.toInt z.1.toInt.toNat) ∧ (AB (-128) 127 z.2.2.2.2.1)) (XPo D (fun (z : Int32 × Int32 × Int32 × Int32 × (Nat → Int32) × (Nat → Int32)) => RW cs bd (va_up (va_up (va_up (va_up u 16 z.1) 17 z.2.1) 18 z.2.2.1) 19 z.2.2.2.1) (va_up (va_up b 20 z.2.2.2.2.1) 21 z.2.2.2.2.2) bw) A) A) ([.ref (bd 0)] : List Value).toArray s 0 0 A) (F0 m 4 ls [])) := by
    intro nk
    induction nk with
    | zero => exact (fun c4_u16 c4_u17 c4_u18 c4_u19 c4_b20 c4_b21 H locs jq0 jq1 jq2 jq3 jq4 jq5 jq6 jq7 jq8 hL jb20_0 hmu hP hD hS ls hl => absurd hmu (Nat.not_lt_zero _))
    | succ nk ih =>
      intro c4_u16 c4_u17 c4_u18 c4_u19 c4_b20 c4_b21 H locs jq0 jq1 jq2 jq3 jq4 jq5 jq6 jq7 jq8 hL jb20_0 hmu hP hD hS ls hl
      refine lv_aload_n hx hb dX12_sum_4 rfl (lv_at hl 0 rfl) ?_
      refine gr_fault hx hb hg hown hK hP (x := c4_u17) rfl (hg _ q5_9) dX12_sum_5 ?_
      refine lv_if_ge (tgt := 57) hx hb dX12_sum_8 (by decide) (fun c_1 => ?_) (fun c_1 => ?_)
      ·
        have kc_1 : (0 : Int) ≤ c4_u17.toInt := i_le c_1
        exact W.vret hx hb hr (fun tt ht hW => ⟨⟨⟨c4_u16, c4_u17, c4_u18, c4_u19, c4_b20, c4_b21⟩, rfl, ⟨(by first | rfl | omega | trivial | assumption | (dsimp only; first | omega | assumption)), (by first | rfl | omega | trivial | assumption | (dsimp only; first | omega | assumption)), (by first | rfl | omega | trivial | assumption | (dsimp only; first | omega | assumption)), (by first | rfl | omega | trivial | assumption | (dsimp only; first | omega | assumption)), (by first | rfl | omega | trivial | assumption | (dsimp only; first | omega | assumption)), (by first | rfl | omega | trivial | assumption | (dsimp only; first | omega | assumption)), jq6, jq7, jq8, (LR_exit hL (Or.inl (by omega))), jb20_0⟩, by rw [ht]; exact hP, hD⟩, hS.F ht⟩) hS.2.2 dX12_sum_57
      ·
        have kc_1 : c4_u17.toInt < (0 : Int) := i_nle c_1
        refine lv_aload_n hx hb dX12_sum_11 rfl (lv_at hl 0 rfl) ?_
        refine cV_ro (As := []) (rest := []) ⟨hx, hb, hml, hown, hg⟩ (k_X12_look l D cs A bd (va_up (va_up (va_up (va_up u 16 c4_u16) 17 c4_u17) 18 c4_u18) 19 c4_u19) (va_up (va_up b 20 c4_b20) 21 c4_b21) bw   (show 0 ≤ c4_u16.toInt by first | omega | decide) (show 0 ≤ (u 15).toInt by first | omega | decide) (show (u 15).toInt ≤ 120 by first | omega | decide) ib14_0) ca_X12_look q6_66 ⟨rfl, rfl⟩ ⟨(show 0 + 1 ≤ 10 * n + 8 by omega), (show 8 + (1 + 11) + (0) ≤ 300 * n + 310 by omega)⟩ (rc_model hK hP) hK hP hD hS hZ rfl hl.1 rfl (Nat.le_of_ble_eq_true rfl) ⟨Nat.zero_le _, Nat.zero_le _⟩ dX12_sum_12 (fun r_2 wr_2 => ?_)
        obtain ⟨wr_2_0, wr_2_1⟩ : ((c4_u16.toInt < (u 15).toInt ∧ r_2.toInt = ((b 14) c4_u16.toNatClampNeg).toInt) ∨ ((u 15).toInt ≤ c4_u16.toInt ∧ r_2.toInt = -1)) ∧ ((r_2.toInt = (TKR (b 14) (u 15).toInt) c4_u16.toInt.toNat ∧ -1 ≤ r_2.toInt ∧ r_2.toInt ≤ 127) ∨ (r_2.toInt = (TKR (b 14) (u 15).toInt) c4_u16.toInt.toNat - 256 ∧ 128 ≤ (TKR (b 14) (u 15).toInt) c4_u16.toInt.toNat ∧ (TKR (b 14) (u 15).toInt) c4_u16.toInt.toNat ≤ 255 ∧ r_2.toInt < 0)) := wr_2
        refine lv_bipush (v := 43) hx hb dX12_sum_15 (by decide) ?_
        refine lv_icmp_eq (tgt := 29) hx hb dX12_sum_17 (by decide) (fun c_3 => ?_) (fun c_3 => ?_)
        ·
          have kc_3 : r_2.toInt = (43 : Int) := i_eq c_3
          have hs : (TKR (b 14) (u 15).toInt) c4_u16.toInt.toNat = 43 ∨ (TKR (b 14) (u 15).toInt) c4_u16.toInt.toNat = 45 ∨ (TKR (b 14) (u 15).toInt) c4_u16.toInt.toNat = 45 := by omega
          have hlt0 : c4_u16.toInt < (u 15).toInt := by omega
          clear wr_2_0 wr_2_1
          refine lv_aload_n hx hb dX12_sum_29 rfl (lv_at hl 0 rfl) ?_
          refine cV_ro (As := []) (rest := []) ⟨hx, hb, hml, hown, hg⟩ (k_X12_look l D cs A bd (va_up (va_up (va_up (va_up u 16 c4_u16) 17 c4_u17) 18 c4_u18) 19 c4_u19) (va_up (va_up b 20 c4_b20) 21 c4_b21) bw   (show 0 ≤ c4_u16.toInt by first | omega | decide) (show 0 ≤ (u 15).toInt by first | omega | decide) (show (u 15).toInt ≤ 120 by first | omega | decide) ib14_0) ca_X12_look q6_66 ⟨rfl, rfl⟩ ⟨(show 0 + 1 ≤ 10 * n + 8 by omega), (show 8 + (1 + 11) + (0) ≤ 300 * n + 310 by omega)⟩ (rc_model hK hP) hK hP hD hS hZ rfl hl.1 rfl (Nat.le_of_ble_eq_true rfl) ⟨Nat.zero_le _, Nat.zero_le _⟩ dX12_sum_30 (fun r_4 wr_4 => ?_)
          obtain ⟨wr_4_0, wr_4_1⟩ : ((c4_u16.toInt < (u 15).toInt ∧ r_4.toInt = ((b 14) c4_u16.toNatClampNeg).toInt) ∨ ((u 15).toInt ≤ c4_u16.toInt ∧ r_4.toInt = -1)) ∧ ((r_4.toInt = (TKR (b 14) (u 15).toInt) c4_u16.toInt.toNat ∧ -1 ≤ r_4.toInt ∧ r_4.toInt ≤ 127) ∨ (r_4.toInt = (TKR (b 14) (u 15).toInt) c4_u16.toInt.toNat - 256 ∧ 128 ≤ (TKR (b 14) (u 15).toInt) c4_u16.toInt.toNat ∧ (TKR (b 14) (u 15).toInt) c4_u16.toInt.toNat ≤ 255 ∧ r_4.toInt < 0)) := wr_4
          refine lv_istore_n (lv' := [(1, .int r_4), (0, .ref (bd 0))]) hx hb dX12_sum_33 rfl hl (by decide) rfl (fun ls hl => ?_)
          have hsv : r_4.toInt = 43 ∨ r_4.toInt = 45 ∨ r_4.toInt = 45 := by omega
          clear wr_4_0 wr_4_1
          have hs_5 := jq8 (by omega)
          refine lv_aload_n hx hb dX12_sum_34 rfl (lv_at hl 1 rfl) ?_
          refine lv_dup hx hb dX12_sum_35 rfl ?_
          refine gr_here hx hb hg hown hK hP (x := c4_u16) rfl (hg _ q5_8) dX12_sum_36 ?_
          refine lv_iconst (v := 1) hx hb dX12_sum_39 (by decide) ?_
          refine lv_iadd hx hb dX12_sum_40 ?_
          refine lv_topi (fun x_6 ex_6 => ?_)
          have fx_6 : x_6.toInt = c4_u16.toInt + (1 : Int) := by rw [ex_6]; exact i_add (by first | omega | (show (_ : Int) ≤ c4_u16.toInt + (1 : Int); omega)) (by first | omega | (show c4_u16.toInt + (1 : Int) ≤ (_ : Int); omega))
          refine pr_here hx hb hg hown hK hP hD hS (hg _ q5_8) dX12_sum_41 (fun H locs hP hD hS => ?_)
          refine lv_aload_n hx hb dX12_sum_44 rfl (lv_at hl 1 rfl) ?_
          refine cV_v (As := []) (rest := []) ⟨hx, hb, hml, hown, hg⟩ (h1n l D cs A bd (va_up (va_up (va_up (va_up u 17 c4_u17) 18 c4_u18) 19 c4_u19) 16 x_6) (va_up (va_up b 20 c4_b20) 21 c4_b21) bw   (show c4_u17.toInt = -1 by first | omega | decide) (show 0 ≤ x_6.toInt by first | omega | decide) (show x_6.toInt ≤ (u 15).toInt by first | omega | decide) (show 0 ≤ c4_u19.toInt by first | omega | decide) (show c4_u19.toInt ≤ x_6.toInt by first | omega | decide) (show 0 ≤ c4_u18.toInt by first | omega | decide) (show c4_u18.toInt ≤ 6 by first | omega | decide) (show 6 ≤ c4_u18.toInt + (n : Int) by first | omega | decide) (show 0 ≤ (u 15).toInt by first | omega | decide) (show (u 15).toInt ≤ 120 by first | omega | decide) ib14_0 jb20_0) ca_X12_product q6_58 ⟨rfl, rfl⟩ ⟨(show 10 * n + 7 + 1 ≤ 10 * n + 8 by omega), (show 8 + (2 + 11) + (300 * n + 280) ≤ 300 * n + 310 by omega)⟩ (rc_model hK hP) hK hP hD hS hZ rfl hl.1 rfl (Nat.le_of_ble_eq_true rfl) ⟨Nat.zero_le _, Nat.zero_le _⟩ dX12_sum_45 (fun z_14 H locs wr_7 hP hD hS => ?_)
          obtain ⟨o_u16_8, o_u17_9, o_u18_10, o_u19_11, o_b20_12, o_b21_13⟩ := z_14
          have hP : va_P D vwCl (RW cs bd (va_up (va_up (va_up (va_up u 16 o_u16_8) 17 o_u17_9) 18 o_u18_10) 19 o_u19_11) (va_up (va_up b 20 o_b20_12) 21 o_b21_13) bw) H := hP
          have hD : va_D A (RW cs bd (va_up (va_up (va_up (va_up u 16 o_u16_8) 17 o_u17_9) 18 o_u18_10) 19 o_u19_11) (va_up (va_up b 20 o_b20_12) 21 o_b21_13) bw) := hD
          obtain ⟨wr_7_0, wr_7_1, wr_7_2, wr_7_3, wr_7_4, wr_7_5, wr_7_6, wr_7_7, wr_7_8, wr_7_9, wr_7_10⟩ : ((o_u17_9.toInt = -1 ∧ o_u18_10.toInt = c4_u18.toInt ∧ x_6.toInt < o_u16_8.toInt ∧ o_u19_11.toInt - c4_u19.toInt ≤ o_u16_8.toInt - x_6.toInt) ∨ (0 ≤ o_u17_9.toInt ∧ o_u19_11.toInt - c4_u19.toInt ≤ o_u16_8.toInt - x_6.toInt + 1)) ∧ (x_6.toInt ≤ o_u16_8.toInt) ∧ (o_u16_8.toInt ≤ (u 15).toInt) ∧ (c4_u18.toInt ≤ o_u18_10.toInt) ∧ (o_u18_10.toInt ≤ 6) ∧ (c4_u19.toInt ≤ o_u19_11.toInt) ∧ (FRM (130 + c4_u19.toInt.toNat) c4_b20 o_b20_12) ∧ (FRM (130 + c4_u19.toInt.toNat) c4_b21 o_b21_13) ∧ (o_u17_9.toInt = -1 → SEGI o_b20_12 o_b21_13 (130 + c4_u19.toInt.toNat) (130 + o_u19_11.toInt.toNat)) ∧ (RESR (PRODF (TKR (b 14) (u 15).toInt) (u 15).toInt.toNat (ONEF (TKR (b 14) (u 15).toInt) (u 15).toInt.toNat (6 - c4_u18.toInt).toNat) x_6.toInt.toNat) o_u17_9.toInt o_u16_8.toInt.toNat) ∧ (AB (-128) 127 o_b20_12) := wr_7
          have hA_15 : FRM (130 + (u 19).toInt.toNat) (b 20) o_b20_12 := FRM_trans jq6 wr_7_6 (by omega)
          have hA_16 : FRM (130 + (u 19).toInt.toNat) (b 21) o_b21_13 := FRM_trans jq7 wr_7_7 (by omega)
          have hs_17 := SEG_frm hs_5 wr_7_6 wr_7_7 (by omega)
          have hz1 : x_6.toInt.toNat = c4_u16.toInt.toNat + 1 := by omega
          have hn1 : (6 - c4_u18.toInt).toNat = (6 - (u 18).toInt).toNat := by omega
          rw [hz1] at wr_7_9
          rw [hn1] at wr_7_9
          refine lv_aload_n hx hb dX12_sum_48 rfl (lv_at hl 1 rfl) ?_
          refine lv_iload_n hx hb dX12_sum_49 rfl (lv_at hl 0 rfl) ?_
          refine lv_iconst (v := 0) hx hb dX12_sum_50 (by decide) ?_
          refine cV_v (As := [.int r_4, .int 0]) (rest := []) ⟨hx, hb, hml, hown, hg⟩ (k_X12_addStep l D cs A bd (va_up (va_up (va_up (va_up u 16 o_u16_8) 17 o_u17_9) 18 o_u18_10) 19 o_u19_11) (va_up (va_up b 20 o_b20_12) 21 o_b21_13) bw  r_4 0 (show 0 ≤ o_u19_11.toInt by first | omega | decide) (show o_u19_11.toInt ≤ 129 by first | omega | decide) (show -128 ≤ r_4.toInt by first | omega | decide) (show r_4.toInt ≤ 127 by first | omega | decide) wr_7_10) ca_X12_addStep q6_73 ⟨rfl, rfl⟩ ⟨(show 0 + 1 ≤ 10 * n + 8 by omega), (show 8 + (3 + 11) + (0) ≤ 300 * n + 310 by omega)⟩ (rc_model hK hP) hK hP hD hS hZ rfl hl.1 rfl (Nat.le_of_ble_eq_true rfl) ⟨Nat.zero_le _, Nat.zero_le _⟩ dX12_sum_51 (fun z_22 H locs wr_18 hP hD hS => ?_)
          obtain ⟨o_u19_19, o_b20_20, o_b21_21⟩ := z_22
          have hP : va_P D vwCl (RW cs bd (va_up (va_up (va_up (va_up u 16 o_u16_8) 17 o_u17_9) 18 o_u18_10) 19 o_u19_19) (va_up (va_up b 20 o_b20_20) 21 o_b21_21) bw) H := hP
          have hD : va_D A (RW cs bd (va_up (va_up (va_up (va_up u 16 o_u16_8) 17 o_u17_9) 18 o_u18_10) 19 o_u19_19) (va_up (va_up b 20 o_b20_20) 21 o_b21_21) bw) := hD
          obtain ⟨wr_18_0, wr_18_1, wr_18_2, wr_18_3, wr_18_4, wr_18_5⟩ : (o_u19_19.toInt = o_u19_11.toInt + 1) ∧ (FRM (130 + o_u19_11.toInt.toNat) o_b20_12 o_b20_20) ∧ (FRM (130 + o_u19_11.toInt.toNat) o_b21_13 o_b21_21) ∧ ((o_b20_20 (130 + o_u19_11.toInt.toNat)).toInt = r_4.toInt) ∧ ((o_b21_21 (130 + o_u19_11.toInt.toNat)).toInt = (0 : Int)) ∧ (AB (-128) 127 o_b20_20) := wr_18
          have hA_23 : FRM (130 + (u 19).toInt.toNat) (b 20) o_b20_20 := FRM_trans hA_15 wr_18_1 (by omega)
          have hA_24 : FRM (130 + (u 19).toInt.toNat) (b 21) o_b21_21 := FRM_trans hA_16 wr_18_2 (by omega)
          have hsg_25 : o_u17_9.toInt = -1 → SEGI o_b20_20 o_b21_21 (130 + (u 19).toInt.toNat) (130 + o_u19_19.toInt.toNat) := fun hq => SEG_bin (SEG_frm hs_17 wr_18_1 wr_18_2 (by omega)) (SEG_frm (wr_7_8 (by omega)) wr_18_1 wr_18_2 (by omega)) (by omega) (by omega)
          refine lv_goto (tgt := 4) hx hb dX12_sum_54 (by decide) ?_
          exact ih o_u16_8 o_u17_9 o_u18_10 o_u19_19 o_b20_20 o_b21_21 _ _ (by omega) (by omega) (by omega) (by omega) (by omega) (by omega) hA_23 hA_24 hsg_25 (LR_step hL (by omega) hs (by omega) wr_7_9 (fun _ => by omega)) wr_18_5 (by omega) hP hD hS ls (lv_sub hl [1] rfl)
        ·
          have kc_3 : r_2.toInt ≠ (43 : Int) := i_ne c_3
          have hn43 : (TKR (b 14) (u 15).toInt) c4_u16.toInt.toNat ≠ 43 := by omega
          clear wr_2_0 wr_2_1
          refine lv_aload_n hx hb dX12_sum_20 rfl (lv_at hl 0 rfl) ?_
          refine cV_ro (As := []) (rest := []) ⟨hx, hb, hml, hown, hg⟩ (k_X12_look l D cs A bd (va_up (va_up (va_up (va_up u 16 c4_u16) 17 c4_u17) 18 c4_u18) 19 c4_u19) (va_up (va_up b 20 c4_b20) 21 c4_b21) bw   (show 0 ≤ c4_u16.toInt by first | omega | decide) (show 0 ≤ (u 15).toInt by first | omega | decide) (show (u 15).toInt ≤ 120 by first | omega | decide) ib14_0) ca_X12_look q6_66 ⟨rfl, rfl⟩ ⟨(show 0 + 1 ≤ 10 * n + 8 by omega), (show 8 + (1 + 11) + (0) ≤ 300 * n + 310 by omega)⟩ (rc_model hK hP) hK hP hD hS hZ rfl hl.1 rfl (Nat.le_of_ble_eq_true rfl) ⟨Nat.zero_le _, Nat.zero_le _⟩ dX12_sum_21 (fun r_26 wr_26 => ?_)
          obtain ⟨wr_26_0, wr_26_1⟩ : ((c4_u16.toInt < (u 15).toInt ∧ r_26.toInt = ((b 14) c4_u16.toNatClampNeg).toInt) ∨ ((u 15).toInt ≤ c4_u16.toInt ∧ r_26.toInt = -1)) ∧ ((r_26.toInt = (TKR (b 14) (u 15).toInt) c4_u16.toInt.toNat ∧ -1 ≤ r_26.toInt ∧ r_26.toInt ≤ 127) ∨ (r_26.toInt = (TKR (b 14) (u 15).toInt) c4_u16.toInt.toNat - 256 ∧ 128 ≤ (TKR (b 14) (u 15).toInt) c4_u16.toInt.toNat ∧ (TKR (b 14) (u 15).toInt) c4_u16.toInt.toNat ≤ 255 ∧ r_26.toInt < 0)) := wr_26
          refine lv_bipush (v := 45) hx hb dX12_sum_24 (by decide) ?_
          refine lv_icmp_ne (tgt := 57) hx hb dX12_sum_26 (by decide) (fun c_27 => ?_) (fun c_27 => ?_)
          ·
            have kc_27 : r_26.toInt ≠ (45 : Int) := i_ne c_27
            have hns : ¬ ((TKR (b 14) (u 15).toInt) c4_u16.toInt.toNat = 43 ∨ (TKR (b 14) (u 15).toInt) c4_u16.toInt.toNat = 45 ∨ (TKR (b 14) (u 15).toInt) c4_u16.toInt.toNat = 45) := by omega
            clear wr_26_0 wr_26_1
            exact W.vret hx hb hr (fun tt ht hW => ⟨⟨⟨c4_u16, c4_u17, c4_u18, c4_u19, c4_b20, c4_b21⟩, rfl, ⟨(by first | rfl | omega | trivial | assumption | (dsimp only; first | omega | assumption)), (by first | rfl | omega | trivial | assumption | (dsimp only; first | omega | assumption)), (by first | rfl | omega | trivial | assumption | (dsimp only; first | omega | assumption)), (by first | rfl | omega | trivial | assumption | (dsimp only; first | omega | assumption)), (by first | rfl | omega | trivial | assumption | (dsimp only; first | omega | assumption)), (by first | rfl | omega | trivial | assumption | (dsimp only; first | omega | assumption)), jq6, jq7, jq8, (LR_exit hL (Or.inr hns)), jb20_0⟩, by rw [ht]; exact hP, hD⟩, hS.F ht⟩) hS.2.2 dX12_sum_57
          ·
            have kc_27 : r_26.toInt = (45 : Int) := i_eq c_27
            have hs : (TKR (b 14) (u 15).toInt) c4_u16.toInt.toNat = 43 ∨ (TKR (b 14) (u 15).toInt) c4_u16.toInt.toNat = 45 ∨ (TKR (b 14) (u 15).toInt) c4_u16.toInt.toNat = 45 := by omega
            have hlt0 : c4_u16.toInt < (u 15).toInt := by omega
            clear wr_26_0 wr_26_1
            refine lv_aload_n hx hb dX12_sum_29 rfl (lv_at hl 0 rfl) ?_
            refine cV_ro (As := []) (rest := []) ⟨hx, hb, hml, hown, hg⟩ (k_X12_look l D cs A bd (va_up (va_up (va_up (va_up u 16 c4_u16) 17 c4_u17) 18 c4_u18) 19 c4_u19) (va_up (va_up b 20 c4_b20) 21 c4_b21) bw   (show 0 ≤ c4_u16.toInt by first | omega | decide) (show 0 ≤ (u 15).toInt by first | omega | decide) (show (u 15).toInt ≤ 120 by first | omega | decide) ib14_0) ca_X12_look q6_66 ⟨rfl, rfl⟩ ⟨(show 0 + 1 ≤ 10 * n + 8 by omega), (show 8 + (1 + 11) + (0) ≤ 300 * n + 310 by omega)⟩ (rc_model hK hP) hK hP hD hS hZ rfl hl.1 rfl (Nat.le_of_ble_eq_true rfl) ⟨Nat.zero_le _, Nat.zero_le _⟩ dX12_sum_30 (fun r_28 wr_28 => ?_)
            obtain ⟨wr_28_0, wr_28_1⟩ : ((c4_u16.toInt < (u 15).toInt ∧ r_28.toInt = ((b 14) c4_u16.toNatClampNeg).toInt) ∨ ((u 15).toInt ≤ c4_u16.toInt ∧ r_28.toInt = -1)) ∧ ((r_28.toInt = (TKR (b 14) (u 15).toInt) c4_u16.toInt.toNat ∧ -1 ≤ r_28.toInt ∧ r_28.toInt ≤ 127) ∨ (r_28.toInt = (TKR (b 14) (u 15).toInt) c4_u16.toInt.toNat - 256 ∧ 128 ≤ (TKR (b 14) (u 15).toInt) c4_u16.toInt.toNat ∧ (TKR (b 14) (u 15).toInt) c4_u16.toInt.toNat ≤ 255 ∧ r_28.toInt < 0)) := wr_28
            refine lv_istore_n (lv' := [(1, .int r_28), (0, .ref (bd 0))]) hx hb dX12_sum_33 rfl hl (by decide) rfl (fun ls hl => ?_)
            have hsv : r_28.toInt = 43 ∨ r_28.toInt = 45 ∨ r_28.toInt = 45 := by omega
            clear wr_28_0 wr_28_1
            have hs_29 := jq8 (by omega)
            refine lv_aload_n hx hb dX12_sum_34 rfl (lv_at hl 1 rfl) ?_
            refine lv_dup hx hb dX12_sum_35 rfl ?_
            refine gr_here hx hb hg hown hK hP (x := c4_u16) rfl (hg _ q5_8) dX12_sum_36 ?_
            refine lv_iconst (v := 1) hx hb dX12_sum_39 (by decide) ?_
            refine lv_iadd hx hb dX12_sum_40 ?_
            refine lv_topi (fun x_30 ex_30 => ?_)
            have fx_30 : x_30.toInt = c4_u16.toInt + (1 : Int) := by rw [ex_30]; exact i_add (by first | omega | (show (_ : Int) ≤ c4_u16.toInt + (1 : Int); omega)) (by first | omega | (show c4_u16.toInt + (1 : Int) ≤ (_ : Int); omega))
            refine pr_here hx hb hg hown hK hP hD hS (hg _ q5_8) dX12_sum_41 (fun H locs hP hD hS => ?_)
            refine lv_aload_n hx hb dX12_sum_44 rfl (lv_at hl 1 rfl) ?_
            refine cV_v (As := []) (rest := []) ⟨hx, hb, hml, hown, hg⟩ (h1n l D cs A bd (va_up (va_up (va_up (va_up u 17 c4_u17) 18 c4_u18) 19 c4_u19) 16 x_30) (va_up (va_up b 20 c4_b20) 21 c4_b21) bw   (show c4_u17.toInt = -1 by first | omega | decide) (show 0 ≤ x_30.toInt by first | omega | decide) (show x_30.toInt ≤ (u 15).toInt by first | omega | decide) (show 0 ≤ c4_u19.toInt by first | omega | decide) (show c4_u19.toInt ≤ x_30.toInt by first | omega | decide) (show 0 ≤ c4_u18.toInt by first | omega | decide) (show c4_u18.toInt ≤ 6 by first | omega | decide) (show 6 ≤ c4_u18.toInt + (n : Int) by first | omega | decide) (show 0 ≤ (u 15).toInt by first | omega | decide) (show (u 15).toInt ≤ 120 by first | omega | decide) ib14_0 jb20_0) ca_X12_product q6_58 ⟨rfl, rfl⟩ ⟨(show 10 * n + 7 + 1 ≤ 10 * n + 8 by omega), (show 8 + (2 + 11) + (300 * n + 280) ≤ 300 * n + 310 by omega)⟩ (rc_model hK hP) hK hP hD hS hZ rfl hl.1 rfl (Nat.le_of_ble_eq_true rfl) ⟨Nat.zero_le _, Nat.zero_le _⟩ dX12_sum_45 (fun z_38 H locs wr_31 hP hD hS => ?_)
            obtain ⟨o_u16_32, o_u17_33, o_u18_34, o_u19_35, o_b20_36, o_b21_37⟩ := z_38
            have hP : va_P D vwCl (RW cs bd (va_up (va_up (va_up (va_up u 16 o_u16_32) 17 o_u17_33) 18 o_u18_34) 19 o_u19_35) (va_up (va_up b 20 o_b20_36) 21 o_b21_37) bw) H := hP
            have hD : va_D A (RW cs bd (va_up (va_up (va_up (va_up u 16 o_u16_32) 17 o_u17_33) 18 o_u18_34) 19 o_u19_35) (va_up (va_up b 20 o_b20_36) 21 o_b21_37) bw) := hD
            obtain ⟨wr_31_0, wr_31_1, wr_31_2, wr_31_3, wr_31_4, wr_31_5, wr_31_6, wr_31_7, wr_31_8, wr_31_9, wr_31_10⟩ : ((o_u17_33.toInt = -1 ∧ o_u18_34.toInt = c4_u18.toInt ∧ x_30.toInt < o_u16_32.toInt ∧ o_u19_35.toInt - c4_u19.toInt ≤ o_u16_32.toInt - x_30.toInt) ∨ (0 ≤ o_u17_33.toInt ∧ o_u19_35.toInt - c4_u19.toInt ≤ o_u16_32.toInt - x_30.toInt + 1)) ∧ (x_30.toInt ≤ o_u16_32.toInt) ∧ (o_u16_32.toInt ≤ (u 15).toInt) ∧ (c4_u18.toInt ≤ o_u18_34.toInt) ∧ (o_u18_34.toInt ≤ 6) ∧ (c4_u19.toInt ≤ o_u19_35.toInt) ∧ (FRM (130 + c4_u19.toInt.toNat) c4_b20 o_b20_36) ∧ (FRM (130 + c4_u19.toInt.toNat) c4_b21 o_b21_37) ∧ (o_u17_33.toInt = -1 → SEGI o_b20_36 o_b21_37 (130 + c4_u19.toInt.toNat) (130 + o_u19_35.toInt.toNat)) ∧ (RESR (PRODF (TKR (b 14) (u 15).toInt) (u 15).toInt.toNat (ONEF (TKR (b 14) (u 15).toInt) (u 15).toInt.toNat (6 - c4_u18.toInt).toNat) x_30.toInt.toNat) o_u17_33.toInt o_u16_32.toInt.toNat) ∧ (AB (-128) 127 o_b20_36) := wr_31
            have hA_39 : FRM (130 + (u 19).toInt.toNat) (b 20) o_b20_36 := FRM_trans jq6 wr_31_6 (by omega)
            have hA_40 : FRM (130 + (u 19).toInt.toNat) (b 21) o_b21_37 := FRM_trans jq7 wr_31_7 (by omega)
            have hs_41 := SEG_frm hs_29 wr_31_6 wr_31_7 (by omega)
            have hz1 : x_30.toInt.toNat = c4_u16.toInt.toNat + 1 := by omega
            have hn1 : (6 - c4_u18.toInt).toNat = (6 - (u 18).toInt).toNat := by omega
            rw [hz1] at wr_31_9
            rw [hn1] at wr_31_9
            refine lv_aload_n hx hb dX12_sum_48 rfl (lv_at hl 1 rfl) ?_
            refine lv_iload_n hx hb dX12_sum_49 rfl (lv_at hl 0 rfl) ?_
            refine lv_iconst (v := 0) hx hb dX12_sum_50 (by decide) ?_
            refine cV_v (As := [.int r_28, .int 0]) (rest := []) ⟨hx, hb, hml, hown, hg⟩ (k_X12_addStep l D cs A bd (va_up (va_up (va_up (va_up u 16 o_u16_32) 17 o_u17_33) 18 o_u18_34) 19 o_u19_35) (va_up (va_up b 20 o_b20_36) 21 o_b21_37) bw  r_28 0 (show 0 ≤ o_u19_35.toInt by first | omega | decide) (show o_u19_35.toInt ≤ 129 by first | omega | decide) (show -128 ≤ r_28.toInt by first | omega | decide) (show r_28.toInt ≤ 127 by first | omega | decide) wr_31_10) ca_X12_addStep q6_73 ⟨rfl, rfl⟩ ⟨(show 0 + 1 ≤ 10 * n + 8 by omega), (show 8 + (3 + 11) + (0) ≤ 300 * n + 310 by omega)⟩ (rc_model hK hP) hK hP hD hS hZ rfl hl.1 rfl (Nat.le_of_ble_eq_true rfl) ⟨Nat.zero_le _, Nat.zero_le _⟩ dX12_sum_51 (fun z_46 H locs wr_42 hP hD hS => ?_)
            obtain ⟨o_u19_43, o_b20_44, o_b21_45⟩ := z_46
            have hP : va_P D vwCl (RW cs bd (va_up (va_up (va_up (va_up u 16 o_u16_32) 17 o_u17_33) 18 o_u18_34) 19 o_u19_43) (va_up (va_up b 20 o_b20_44) 21 o_b21_45) bw) H := hP
            have hD : va_D A (RW cs bd (va_up (va_up (va_up (va_up u 16 o_u16_32) 17 o_u17_33) 18 o_u18_34) 19 o_u19_43) (va_up (va_up b 20 o_b20_44) 21 o_b21_45) bw) := hD
            obtain ⟨wr_42_0, wr_42_1, wr_42_2, wr_42_3, wr_42_4, wr_42_5⟩ : (o_u19_43.toInt = o_u19_35.toInt + 1) ∧ (FRM (130 + o_u19_35.toInt.toNat) o_b20_36 o_b20_44) ∧ (FRM (130 + o_u19_35.toInt.toNat) o_b21_37 o_b21_45) ∧ ((o_b20_44 (130 + o_u19_35.toInt.toNat)).toInt = r_28.toInt) ∧ ((o_b21_45 (130 + o_u19_35.toInt.toNat)).toInt = (0 : Int)) ∧ (AB (-128) 127 o_b20_44) := wr_42
            have hA_47 : FRM (130 + (u 19).toInt.toNat) (b 20) o_b20_44 := FRM_trans hA_39 wr_42_1 (by omega)
            have hA_48 : FRM (130 + (u 19).toInt.toNat) (b 21) o_b21_45 := FRM_trans hA_40 wr_42_2 (by omega)
            have hsg_49 : o_u17_33.toInt = -1 → SEGI o_b20_44 o_b21_45 (130 + (u 19).toInt.toNat) (130 + o_u19_43.toInt.toNat) := fun hq => SEG_bin (SEG_frm hs_41 wr_42_1 wr_42_2 (by omega)) (SEG_frm (wr_31_8 (by omega)) wr_42_1 wr_42_2 (by omega)) (by omega) (by omega)
            refine lv_goto (tgt := 4) hx hb dX12_sum_54 (by decide) ?_
            exact ih o_u16_32 o_u17_33 o_u18_34 o_u19_43 o_b20_44 o_b21_45 _ _ (by omega) (by omega) (by omega) (by omega) (by omega) (by omega) hA_47 hA_48 hsg_49 (LR_step hL (by omega) hs (by omega) wr_31_9 (fun _ => by omega)) wr_42_5 (by omega) hP hD hS ls (lv_sub hl [1] rfl)
  refine lv_aload_n hx hb dX12_sum_0 rfl (lv_at hl 0 rfl) ?_
  refine cV_v (As := []) (rest := []) ⟨hx, hb, hml, hown, hg⟩ (h1n l D cs A bd u b bw   (show (u 17).toInt = -1 by first | omega | decide) (show 0 ≤ (u 16).toInt by first | omega | decide) (show (u 16).toInt ≤ (u 15).toInt by first | omega | decide) (show 0 ≤ (u 19).toInt by first | omega | decide) (show (u 19).toInt ≤ (u 16).toInt by first | omega | decide) (show 0 ≤ (u 18).toInt by first | omega | decide) (show (u 18).toInt ≤ 6 by first | omega | decide) (show 6 ≤ (u 18).toInt + (n : Int) by first | omega | decide) (show 0 ≤ (u 15).toInt by first | omega | decide) (show (u 15).toInt ≤ 120 by first | omega | decide) ib14_0 ib20_0) ca_X12_product q6_58 ⟨rfl, rfl⟩ ⟨(show 10 * n + 7 + 1 ≤ 10 * n + 8 by omega), (show 8 + (2 + 11) + (300 * n + 280) ≤ 300 * n + 310 by omega)⟩ (rc_model hK hP) hK hP hD hS hZ rfl hl.1 rfl (Nat.le_of_ble_eq_true rfl) ⟨Nat.zero_le _, Nat.zero_le _⟩ dX12_sum_1 (fun z_57 H locs wr_50 hP hD hS => ?_)
  obtain ⟨o_u16_51, o_u17_52, o_u18_53, o_u19_54, o_b20_55, o_b21_56⟩ := z_57
  have hP : va_P D vwCl (RW cs bd (va_up (va_up (va_up (va_up u 16 o_u16_51) 17 o_u17_52) 18 o_u18_53) 19 o_u19_54) (va_up (va_up b 20 o_b20_55) 21 o_b21_56) bw) H := hP
  have hD : va_D A (RW cs bd (va_up (va_up (va_up (va_up u 16 o_u16_51) 17 o_u17_52) 18 o_u18_53) 19 o_u19_54) (va_up (va_up b 20 o_b20_55) 21 o_b21_56) bw) := hD
  obtain ⟨wr_50_0, wr_50_1, wr_50_2, wr_50_3, wr_50_4, wr_50_5, wr_50_6, wr_50_7, wr_50_8, wr_50_9, wr_50_10⟩ : ((o_u17_52.toInt = -1 ∧ o_u18_53.toInt = (u 18).toInt ∧ (u 16).toInt < o_u16_51.toInt ∧ o_u19_54.toInt - (u 19).toInt ≤ o_u16_51.toInt - (u 16).toInt) ∨ (0 ≤ o_u17_52.toInt ∧ o_u19_54.toInt - (u 19).toInt ≤ o_u16_51.toInt - (u 16).toInt + 1)) ∧ ((u 16).toInt ≤ o_u16_51.toInt) ∧ (o_u16_51.toInt ≤ (u 15).toInt) ∧ ((u 18).toInt ≤ o_u18_53.toInt) ∧ (o_u18_53.toInt ≤ 6) ∧ ((u 19).toInt ≤ o_u19_54.toInt) ∧ (FRM (130 + (u 19).toInt.toNat) (b 20) o_b20_55) ∧ (FRM (130 + (u 19).toInt.toNat) (b 21) o_b21_56) ∧ (o_u17_52.toInt = -1 → SEGI o_b20_55 o_b21_56 (130 + (u 19).toInt.toNat) (130 + o_u19_54.toInt.toNat)) ∧ (RESR (PRODF (TKR (b 14) (u 15).toInt) (u 15).toInt.toNat (ONEF (TKR (b 14) (u 15).toInt) (u 15).toInt.toNat (6 - (u 18).toInt).toNat) (u 16).toInt.toNat) o_u17_52.toInt o_u16_51.toInt.toNat) ∧ (AB (-128) 127 o_b20_55) := wr_50
  have hA_58 : FRM (130 + (u 19).toInt.toNat) (b 20) o_b20_55 := FRM_trans FRM_refl wr_50_6 (by omega)
  have hA_59 : FRM (130 + (u 19).toInt.toNat) (b 21) o_b21_56 := FRM_trans FRM_refl wr_50_7 (by omega)
  exact (hcut ((((u 15).toInt - o_u16_51.toInt).toNat) + 1)) o_u16_51 o_u17_52 o_u18_53 o_u19_54 o_b20_55 o_b21_56 _ _ (by omega) (by omega) (by omega) (by omega) (by omega) (by omega) hA_58 hA_59 (fun hq => wr_50_8 (by first | omega | (dsimp only at hq; omega))) (LR_start wr_50_9) wr_50_10 (Nat.lt_succ_self _) hP hD hS ls (lv_sub hl [0] rfl)
