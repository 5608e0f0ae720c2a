set_option maxHeartbeats 4000000 in
set_option maxRecDepth 100000 in
theorem s_X12_both (n : Nat) (h1n : C_X12_compared n) : C_X12_both n := by
  intro l D cs A bd u b bw hT hh0 hh1 hL0 hL1 ho0 ho6 hon iu15_0 iu15_1 ib14_0 ib20_0
  refine Met.ofW (cc := cX12_both) (maxL := 1) (ret := none) (by decide) rfl ?_
  intro p e s m args below meth c s₁ B hml hv
  obtain ⟨rfl, hP, hK, hD, hZ⟩ := hv
  have hx := B.exec
  have hb := B.bytes
  have hr := B.returns
  have hts := atoms_spec (ws := (Cond.code yX12_both cX12_both 1 none :: gw)) B.pre
  have hg : ∀ w ∈ gw, w.before ([.ref (bd 0)] : List Value).toArray s = true := fun w h => hts w (List.mem_cons_of_mem _ h)
  have hown : s.vm.findClass RX12 = some m.cls := findClass_of_methodNamed B.named
  have hlocks := B.notSynchronized
  have hS : va_S A s.heap s.heap [] := va_S.rf
  have hP : va_P D vwCl (RW cs bd u b bw) s.heap := hP
  have hl := lv_entry ([.ref (bd 0)]) (n := 1) (Nat.le_of_ble_eq_true rfl)
  rw [lg_entry_eq]
  generalize (lg_sl ([.ref (bd 0)]) ++ List.replicate (1 - (lg_sl ([.ref (bd 0)])).length) Slot.unset).toArray = ls at hl ⊢
  have hl : lv_has ls 1 [(0, .ref (bd 0))] := hl
  have hcut : ∀ nk : Nat, (∀ (c4_u16 : Int32) (c4_u17 : Int32) (c4_u18 : Int32) (c4_u19 : Int32) (c4_b20 : Nat → Int32) (c4_b21 : Nat → Int32) (H : Heap) (locs : List Loc) (jq0 : (c4_u17.toInt = -1 ∧ c4_u18.toInt = (u 18).toInt ∧ (u 16).toInt < c4_u16.toInt ∧ c4_u19.toInt - (u 19).toInt ≤ c4_u16.toInt - (u 16).toInt) ∨ (0 ≤ c4_u17.toInt ∧ c4_u19.toInt - (u 19).toInt ≤ c4_u16.toInt - (u 16).toInt + 1)) (jq1 : (u 16).toInt ≤ c4_u16.toInt) (jq2 : c4_u16.toInt ≤ (u 15).toInt) (jq3 : (u 18).toInt ≤ c4_u18.toInt) (jq4 : c4_u18.toInt ≤ 6) (jq5 : (u 19).toInt ≤ c4_u19.toInt) (jq6 : FRM (130 + (u 19).toInt.toNat) (b 20) c4_b20) (jq7 : FRM (130 + (u 19).toInt.toNat) (b 21) c4_b21) (jq8 : c4_u17.toInt = -1 → SEGI c4_b20 c4_b21 (130 + (u 19).toInt.toNat) (130 + c4_u19.toInt.toNat)) (hL : LINR (TKR (b 14) (u 15).toInt) (u 15).toInt.toNat 38 38 38 (CMPF (TKR (b 14) (u 15).toInt) (u 15).toInt.toNat (ONEF (TKR (b 14) (u 15).toInt) (u 15).toInt.toNat (6 - (u 18).toInt).toNat)) (BOTHF (TKR (b 14) (u 15).toInt) (u 15).toInt.toNat (ONEF (TKR (b 14) (u 15).toInt) (u 15).toInt.toNat (6 - (u 18).toInt).toNat) (u 16).toInt.toNat) c4_u17.toInt c4_u16.toInt.toNat) (jb20_0 : AB (-128) 127 c4_b20) (hmu : ((u 15).toInt - c4_u16.toInt).toNat < nk) (hP : va_P D vwCl (RW cs bd (va_up (va_up (va_up (va_up u 16 c4_u16) 17 c4_u17) 18 c4_u18) 19 c4_u19) (va_up (va_up b 20 c4_b20) 21 c4_b21) bw) H) (hD : va_D A (RW cs bd (va_up (va_up (va_up (va_up u 16 c4_u16) 17 c4_u17) 18 c4_u18) 19 c4_u19) (va_up (va_up b 20 c4_b20) 21 c4_b21) bw)) (hS : va_S A s.heap H locs) (ls : Array Slot) (hl : lv_has ls 1 [(0, .ref (bd 0))]), W p l e (headSpec (Cond.code yX12_both cX12_both 1 none :: gw) ({ frames := 10 * n + 10, cells := 0, slots := 0, locals := 300 * n + 370 })).room s m ([.ref (bd 0)] : List Value).toArray below meth c H locs 0 0 (MQ below (va_Qv (fun (z : Int32 × Int32 × Int32 × Int32 × (Nat → Int32) × (Nat → Int32)) => ((z.2.1.toInt = -1 ∧ z.2.2.1.toInt = (u 18).toInt ∧ (u 16).toInt < z.1.toInt ∧ z.2.2.2.1.toInt - (u 19).toInt ≤ z.1.toInt - (u 16).toInt) ∨ (0 ≤ z.2.1.toInt ∧ z.2.2.2.1.toInt - (u 19).toInt ≤ z.1.toInt - (u 16).toInt + 1)) ∧ ((u 16).toInt ≤ z.1.toInt) ∧ (z.1.toInt ≤ (u 15).toInt) ∧ ((u 18).toInt ≤ z.2.2.1.toInt) ∧ (z.2.2.1.toInt ≤ 6) ∧ ((u 19).toInt ≤ z.2.2.2.1.toInt) ∧ (FRM (130 + (u 19).toInt.toNat) (b 20) z.2.2.2.2.1) ∧ (FRM (130 + (u 19).toInt.toNat) (b 21) z.2.2.2.2.2) ∧ (z.2.1.toInt = -1 → SEGI z.2.2.2.2.1 z.2.2.2.2.2 (130 + (u 19).toInt.toNat) (130 + z.2.2.2.1.toInt.toNat)) ∧ (RESR (BOTHF (TKR (b 14) (u 15).toInt) (u 15).toInt.toNat (ONEF (TKR (b 14) (u 15).toInt) (u 15).toInt.toNat (6 - (u 18).toInt).toNat) (u 16).toInt.toNat) z.2.1.toInt z.1.toInt.toNat) ∧ (AB (-128) 127 z.2.2.2.2.1)) (XPo D (fun (z : Int32 × Int32 × Int32 × Int32 × (Nat → Int32) × (Nat → Int32)) => RW cs bd (va_up (va_up (va_up (va_up u 16 z.1) 17 z.2.1) 18 z.2.2.1) 19 z.2.2.2.1) (va_up (va_up b 20 z.2.2.2.2.1) 21 z.2.2.2.2.2) bw) A) A) ([.ref (bd 0)] : List Value).toArray s 0 0 A) (F0 m 4 ls [])) := by
    intro nk
    induction nk with
    | zero => exact (fun c4_u16 c4_u17 c4_u18 c4_u19 c4_b20 c4_b21 H locs jq0 jq1 jq2 jq3 jq4 jq5 jq6 jq7 jq8 hL jb20_0 hmu hP hD hS ls hl => absurd hmu (Nat.not_lt_zero _))
    | succ nk ih =>
      intro c4_u16 c4_u17 c4_u18 c4_u19 c4_b20 c4_b21 H locs jq0 jq1 jq2 jq3 jq4 jq5 jq6 jq7 jq8 hL jb20_0 hmu hP hD hS ls hl
      refine lv_aload_n hx hb dX12_both_4 rfl (lv_at hl 0 rfl) ?_
      refine gr_fault hx hb hg hown hK hP (x := c4_u17) rfl (hg _ q5_9) dX12_both_5 ?_
      refine lv_if_ge (tgt := 44) hx hb dX12_both_8 (by decide) (fun c_1 => ?_) (fun c_1 => ?_)
      ·
        have kc_1 : (0 : Int) ≤ c4_u17.toInt := i_le c_1
        exact W.vret hx hb hr (fun tt ht hW => ⟨⟨⟨c4_u16, c4_u17, c4_u18, c4_u19, c4_b20, c4_b21⟩, rfl, ⟨(by first | rfl | omega | trivial | assumption | (dsimp only; first | omega | assumption)), (by first | rfl | omega | trivial | assumption | (dsimp only; first | omega | assumption)), (by first | rfl | omega | trivial | assumption | (dsimp only; first | omega | assumption)), (by first | rfl | omega | trivial | assumption | (dsimp only; first | omega | assumption)), (by first | rfl | omega | trivial | assumption | (dsimp only; first | omega | assumption)), (by first | rfl | omega | trivial | assumption | (dsimp only; first | omega | assumption)), jq6, jq7, jq8, (LR_exit hL (Or.inl (by omega))), jb20_0⟩, by rw [ht]; exact hP, hD⟩, hS.F ht⟩) hS.2.2 dX12_both_44
      ·
        have kc_1 : c4_u17.toInt < (0 : Int) := i_nle c_1
        refine lv_aload_n hx hb dX12_both_11 rfl (lv_at hl 0 rfl) ?_
        refine cV_ro (As := []) (rest := []) ⟨hx, hb, hml, hown, hg⟩ (k_X12_look l D cs A bd (va_up (va_up (va_up (va_up u 16 c4_u16) 17 c4_u17) 18 c4_u18) 19 c4_u19) (va_up (va_up b 20 c4_b20) 21 c4_b21) bw   (show 0 ≤ c4_u16.toInt by first | omega | decide) (show 0 ≤ (u 15).toInt by first | omega | decide) (show (u 15).toInt ≤ 120 by first | omega | decide) ib14_0) ca_X12_look q6_66 ⟨rfl, rfl⟩ ⟨(show 0 + 1 ≤ 10 * n + 10 by omega), (show 8 + (1 + 11) + (0) ≤ 300 * n + 370 by omega)⟩ (rc_model hK hP) hK hP hD hS hZ rfl hl.1 rfl (Nat.le_of_ble_eq_true rfl) ⟨Nat.zero_le _, Nat.zero_le _⟩ dX12_both_12 (fun r_2 wr_2 => ?_)
        obtain ⟨wr_2_0, wr_2_1⟩ : ((c4_u16.toInt < (u 15).toInt ∧ r_2.toInt = ((b 14) c4_u16.toNatClampNeg).toInt) ∨ ((u 15).toInt ≤ c4_u16.toInt ∧ r_2.toInt = -1)) ∧ ((r_2.toInt = (TKR (b 14) (u 15).toInt) c4_u16.toInt.toNat ∧ -1 ≤ r_2.toInt ∧ r_2.toInt ≤ 127) ∨ (r_2.toInt = (TKR (b 14) (u 15).toInt) c4_u16.toInt.toNat - 256 ∧ 128 ≤ (TKR (b 14) (u 15).toInt) c4_u16.toInt.toNat ∧ (TKR (b 14) (u 15).toInt) c4_u16.toInt.toNat ≤ 255 ∧ r_2.toInt < 0)) := wr_2
        refine lv_bipush (v := 38) hx hb dX12_both_15 (by decide) ?_
        refine lv_icmp_ne (tgt := 44) hx hb dX12_both_17 (by decide) (fun c_3 => ?_) (fun c_3 => ?_)
        ·
          have kc_3 : r_2.toInt ≠ (38 : Int) := i_ne c_3
          have hns : ¬ ((TKR (b 14) (u 15).toInt) c4_u16.toInt.toNat = 38 ∨ (TKR (b 14) (u 15).toInt) c4_u16.toInt.toNat = 38 ∨ (TKR (b 14) (u 15).toInt) c4_u16.toInt.toNat = 38) := by omega
          clear wr_2_0 wr_2_1
          exact W.vret hx hb hr (fun tt ht hW => ⟨⟨⟨c4_u16, c4_u17, c4_u18, c4_u19, c4_b20, c4_b21⟩, rfl, ⟨(by first | rfl | omega | trivial | assumption | (dsimp only; first | omega | assumption)), (by first | rfl | omega | trivial | assumption | (dsimp only; first | omega | assumption)), (by first | rfl | omega | trivial | assumption | (dsimp only; first | omega | assumption)), (by first | rfl | omega | trivial | assumption | (dsimp only; first | omega | assumption)), (by first | rfl | omega | trivial | assumption | (dsimp only; first | omega | assumption)), (by first | rfl | omega | trivial | assumption | (dsimp only; first | omega | assumption)), jq6, jq7, jq8, (LR_exit hL (Or.inr hns)), jb20_0⟩, by rw [ht]; exact hP, hD⟩, hS.F ht⟩) hS.2.2 dX12_both_44
        ·
          have kc_3 : r_2.toInt = (38 : Int) := i_eq c_3
          have hs : (TKR (b 14) (u 15).toInt) c4_u16.toInt.toNat = 38 ∨ (TKR (b 14) (u 15).toInt) c4_u16.toInt.toNat = 38 ∨ (TKR (b 14) (u 15).toInt) c4_u16.toInt.toNat = 38 := by omega
          have hlt0 : c4_u16.toInt < (u 15).toInt := by omega
          clear wr_2_0 wr_2_1
          have hs_4 := jq8 (by omega)
          refine lv_aload_n hx hb dX12_both_20 rfl (lv_at hl 0 rfl) ?_
          refine lv_dup hx hb dX12_both_21 rfl ?_
          refine gr_here hx hb hg hown hK hP (x := c4_u16) rfl (hg _ q5_8) dX12_both_22 ?_
          refine lv_iconst (v := 1) hx hb dX12_both_25 (by decide) ?_
          refine lv_iadd hx hb dX12_both_26 ?_
          refine lv_topi (fun x_5 ex_5 => ?_)
          have fx_5 : x_5.toInt = c4_u16.toInt + (1 : Int) := by rw [ex_5]; exact i_add (by first | omega | (show (_ : Int) ≤ c4_u16.toInt + (1 : Int); omega)) (by first | omega | (show c4_u16.toInt + (1 : Int) ≤ (_ : Int); omega))
          refine pr_here hx hb hg hown hK hP hD hS (hg _ q5_8) dX12_both_27 (fun H locs hP hD hS => ?_)
          refine lv_aload_n hx hb dX12_both_30 rfl (lv_at hl 0 rfl) ?_
          refine cV_v (As := []) (rest := []) ⟨hx, hb, hml, hown, hg⟩ (h1n l D cs A bd (va_up (va_up (va_up (va_up u 17 c4_u17) 18 c4_u18) 19 c4_u19) 16 x_5) (va_up (va_up b 20 c4_b20) 21 c4_b21) bw   (show c4_u17.toInt = -1 by first | omega | decide) (show 0 ≤ x_5.toInt by first | omega | decide) (show x_5.toInt ≤ (u 15).toInt by first | omega | decide) (show 0 ≤ c4_u19.toInt by first | omega | decide) (show c4_u19.toInt ≤ x_5.toInt by first | omega | decide) (show 0 ≤ c4_u18.toInt by first | omega | decide) (show c4_u18.toInt ≤ 6 by first | omega | decide) (show 6 ≤ c4_u18.toInt + (n : Int) by first | omega | decide) (show 0 ≤ (u 15).toInt by first | omega | decide) (show (u 15).toInt ≤ 120 by first | omega | decide) ib14_0 jb20_0) ca_X12_compared q6_50 ⟨rfl, rfl⟩ ⟨(show 10 * n + 9 + 1 ≤ 10 * n + 10 by omega), (show 8 + (2 + 11) + (300 * n + 340) ≤ 300 * n + 370 by omega)⟩ (rc_model hK hP) hK hP hD hS hZ rfl hl.1 rfl (Nat.le_of_ble_eq_true rfl) ⟨Nat.zero_le _, Nat.zero_le _⟩ dX12_both_31 (fun z_13 H locs wr_6 hP hD hS => ?_)
          obtain ⟨o_u16_7, o_u17_8, o_u18_9, o_u19_10, o_b20_11, o_b21_12⟩ := z_13
          have hP : va_P D vwCl (RW cs bd (va_up (va_up (va_up (va_up u 16 o_u16_7) 17 o_u17_8) 18 o_u18_9) 19 o_u19_10) (va_up (va_up b 20 o_b20_11) 21 o_b21_12) bw) H := hP
          have hD : va_D A (RW cs bd (va_up (va_up (va_up (va_up u 16 o_u16_7) 17 o_u17_8) 18 o_u18_9) 19 o_u19_10) (va_up (va_up b 20 o_b20_11) 21 o_b21_12) bw) := hD
          obtain ⟨wr_6_0, wr_6_1, wr_6_2, wr_6_3, wr_6_4, wr_6_5, wr_6_6, wr_6_7, wr_6_8, wr_6_9, wr_6_10⟩ : ((o_u17_8.toInt = -1 ∧ o_u18_9.toInt = c4_u18.toInt ∧ x_5.toInt < o_u16_7.toInt ∧ o_u19_10.toInt - c4_u19.toInt ≤ o_u16_7.toInt - x_5.toInt) ∨ (0 ≤ o_u17_8.toInt ∧ o_u19_10.toInt - c4_u19.toInt ≤ o_u16_7.toInt - x_5.toInt + 1)) ∧ (x_5.toInt ≤ o_u16_7.toInt) ∧ (o_u16_7.toInt ≤ (u 15).toInt) ∧ (c4_u18.toInt ≤ o_u18_9.toInt) ∧ (o_u18_9.toInt ≤ 6) ∧ (c4_u19.toInt ≤ o_u19_10.toInt) ∧ (FRM (130 + c4_u19.toInt.toNat) c4_b20 o_b20_11) ∧ (FRM (130 + c4_u19.toInt.toNat) c4_b21 o_b21_12) ∧ (o_u17_8.toInt = -1 → SEGI o_b20_11 o_b21_12 (130 + c4_u19.toInt.toNat) (130 + o_u19_10.toInt.toNat)) ∧ (RESR (CMPF (TKR (b 14) (u 15).toInt) (u 15).toInt.toNat (ONEF (TKR (b 14) (u 15).toInt) (u 15).toInt.toNat (6 - c4_u18.toInt).toNat) x_5.toInt.toNat) o_u17_8.toInt o_u16_7.toInt.toNat) ∧ (AB (-128) 127 o_b20_11) := wr_6
          have hA_14 : FRM (130 + (u 19).toInt.toNat) (b 20) o_b20_11 := FRM_trans jq6 wr_6_6 (by omega)
          have hA_15 : FRM (130 + (u 19).toInt.toNat) (b 21) o_b21_12 := FRM_trans jq7 wr_6_7 (by omega)
          have hs_16 := SEG_frm hs_4 wr_6_6 wr_6_7 (by omega)
          have hz1 : x_5.toInt.toNat = c4_u16.toInt.toNat + 1 := by omega
          have hn1 : (6 - c4_u18.toInt).toNat = (6 - (u 18).toInt).toNat := by omega
          rw [hz1] at wr_6_9
          rw [hn1] at wr_6_9
          refine lv_aload_n hx hb dX12_both_34 rfl (lv_at hl 0 rfl) ?_
          refine lv_bipush (v := 38) hx hb dX12_both_35 (by decide) ?_
          refine lv_iconst (v := 0) hx hb dX12_both_37 (by decide) ?_
          refine cV_v (As := [.int 38, .int 0]) (rest := []) ⟨hx, hb, hml, hown, hg⟩ (k_X12_addStep l D cs A bd (va_up (va_up (va_up (va_up u 16 o_u16_7) 17 o_u17_8) 18 o_u18_9) 19 o_u19_10) (va_up (va_up b 20 o_b20_11) 21 o_b21_12) bw  38 0 (show 0 ≤ o_u19_10.toInt by first | omega | decide) (show o_u19_10.toInt ≤ 129 by first | omega | decide) (show -128 ≤ (38 : Int) by first | omega | decide) (show (38 : Int) ≤ 127 by first | omega | decide) wr_6_10) ca_X12_addStep q6_73 ⟨rfl, rfl⟩ ⟨(show 0 + 1 ≤ 10 * n + 10 by omega), (show 8 + (3 + 11) + (0) ≤ 300 * n + 370 by omega)⟩ (rc_model hK hP) hK hP hD hS hZ rfl hl.1 rfl (Nat.le_of_ble_eq_true rfl) ⟨Nat.zero_le _, Nat.zero_le _⟩ dX12_both_38 (fun z_21 H locs wr_17 hP hD hS => ?_)
          obtain ⟨o_u19_18, o_b20_19, o_b21_20⟩ := z_21
          have hP : va_P D vwCl (RW cs bd (va_up (va_up (va_up (va_up u 16 o_u16_7) 17 o_u17_8) 18 o_u18_9) 19 o_u19_18) (va_up (va_up b 20 o_b20_19) 21 o_b21_20) bw) H := hP
          have hD : va_D A (RW cs bd (va_up (va_up (va_up (va_up u 16 o_u16_7) 17 o_u17_8) 18 o_u18_9) 19 o_u19_18) (va_up (va_up b 20 o_b20_19) 21 o_b21_20) bw) := hD
          obtain ⟨wr_17_0, wr_17_1, wr_17_2, wr_17_3, wr_17_4, wr_17_5⟩ : (o_u19_18.toInt = o_u19_10.toInt + 1) ∧ (FRM (130 + o_u19_10.toInt.toNat) o_b20_11 o_b20_19) ∧ (FRM (130 + o_u19_10.toInt.toNat) o_b21_12 o_b21_20) ∧ ((o_b20_19 (130 + o_u19_10.toInt.toNat)).toInt = (38 : Int)) ∧ ((o_b21_20 (130 + o_u19_10.toInt.toNat)).toInt = (0 : Int)) ∧ (AB (-128) 127 o_b20_19) := wr_17
          have hA_22 : FRM (130 + (u 19).toInt.toNat) (b 20) o_b20_19 := FRM_trans hA_14 wr_17_1 (by omega)
          have hA_23 : FRM (130 + (u 19).toInt.toNat) (b 21) o_b21_20 := FRM_trans hA_15 wr_17_2 (by omega)
          have hsg_24 : o_u17_8.toInt = -1 → SEGI o_b20_19 o_b21_20 (130 + (u 19).toInt.toNat) (130 + o_u19_18.toInt.toNat) := fun hq => SEG_bin (SEG_frm hs_16 wr_17_1 wr_17_2 (by omega)) (SEG_frm (wr_6_8 (by omega)) wr_17_1 wr_17_2 (by omega)) (by omega) (by omega)
          refine lv_goto (tgt := 4) hx hb dX12_both_41 (by decide) ?_
          exact ih o_u16_7 o_u17_8 o_u18_9 o_u19_18 o_b20_19 o_b21_20 _ _ (by omega) (by omega) (by omega) (by omega) (by omega) (by omega) hA_22 hA_23 hsg_24 (LR_step hL (by omega) hs (by omega) wr_6_9 (fun _ => by omega)) wr_17_5 (by omega) hP hD hS ls (lv_sub hl [0] rfl)
  refine lv_aload_n hx hb dX12_both_0 rfl (lv_at hl 0 rfl) ?_
  refine cV_v (As := []) (rest := []) ⟨hx, hb, hml, hown, hg⟩ (h1n l D cs A bd u b bw   (show (u 17).toInt = -1 by first | omega | decide) (show 0 ≤ (u 16).toInt by first | omega | decide) (show (u 16).toInt ≤ (u 15).toInt by first | omega | decide) (show 0 ≤ (u 19).toInt by first | omega | decide) (show (u 19).toInt ≤ (u 16).toInt by first | omega | decide) (show 0 ≤ (u 18).toInt by first | omega | decide) (show (u 18).toInt ≤ 6 by first | omega | decide) (show 6 ≤ (u 18).toInt + (n : Int) by first | omega | decide) (show 0 ≤ (u 15).toInt by first | omega | decide) (show (u 15).toInt ≤ 120 by first | omega | decide) ib14_0 ib20_0) ca_X12_compared q6_50 ⟨rfl, rfl⟩ ⟨(show 10 * n + 9 + 1 ≤ 10 * n + 10 by omega), (show 8 + (2 + 11) + (300 * n + 340) ≤ 300 * n + 370 by omega)⟩ (rc_model hK hP) hK hP hD hS hZ rfl hl.1 rfl (Nat.le_of_ble_eq_true rfl) ⟨Nat.zero_le _, Nat.zero_le _⟩ dX12_both_1 (fun z_32 H locs wr_25 hP hD hS => ?_)
  obtain ⟨o_u16_26, o_u17_27, o_u18_28, o_u19_29, o_b20_30, o_b21_31⟩ := z_32
  have hP : va_P D vwCl (RW cs bd (va_up (va_up (va_up (va_up u 16 o_u16_26) 17 o_u17_27) 18 o_u18_28) 19 o_u19_29) (va_up (va_up b 20 o_b20_30) 21 o_b21_31) bw) H := hP
  have hD : va_D A (RW cs bd (va_up (va_up (va_up (va_up u 16 o_u16_26) 17 o_u17_27) 18 o_u18_28) 19 o_u19_29) (va_up (va_up b 20 o_b20_30) 21 o_b21_31) bw) := hD
  obtain ⟨wr_25_0, wr_25_1, wr_25_2, wr_25_3, wr_25_4, wr_25_5, wr_25_6, wr_25_7, wr_25_8, wr_25_9, wr_25_10⟩ : ((o_u17_27.toInt = -1 ∧ o_u18_28.toInt = (u 18).toInt ∧ (u 16).toInt < o_u16_26.toInt ∧ o_u19_29.toInt - (u 19).toInt ≤ o_u16_26.toInt - (u 16).toInt) ∨ (0 ≤ o_u17_27.toInt ∧ o_u19_29.toInt - (u 19).toInt ≤ o_u16_26.toInt - (u 16).toInt + 1)) ∧ ((u 16).toInt ≤ o_u16_26.toInt) ∧ (o_u16_26.toInt ≤ (u 15).toInt) ∧ ((u 18).toInt ≤ o_u18_28.toInt) ∧ (o_u18_28.toInt ≤ 6) ∧ ((u 19).toInt ≤ o_u19_29.toInt) ∧ (FRM (130 + (u 19).toInt.toNat) (b 20) o_b20_30) ∧ (FRM (130 + (u 19).toInt.toNat) (b 21) o_b21_31) ∧ (o_u17_27.toInt = -1 → SEGI o_b20_30 o_b21_31 (130 + (u 19).toInt.toNat) (130 + o_u19_29.toInt.toNat)) ∧ (RESR (CMPF (TKR (b 14) (u 15).toInt) (u 15).toInt.toNat (ONEF (TKR (b 14) (u 15).toInt) (u 15).toInt.toNat (6 - (u 18).toInt).toNat) (u 16).toInt.toNat) o_u17_27.toInt o_u16_26.toInt.toNat) ∧ (AB (-128) 127 o_b20_30) := wr_25
  have hA_33 : FRM (130 + (u 19).toInt.toNat) (b 20) o_b20_30 := FRM_trans FRM_refl wr_25_6 (by omega)
  have hA_34 : FRM (130 + (u 19).toInt.toNat) (b 21) o_b21_31 := FRM_trans FRM_refl wr_25_7 (by omega)
  exact (hcut ((((u 15).toInt - o_u16_26.toInt).toNat) + 1)) o_u16_26 o_u17_27 o_u18_28 o_u19_29 o_b20_30 o_b21_31 _ _ (by omega) (by omega) (by omega) (by omega) (by omega) (by omega) hA_33 hA_34 (fun hq => wr_25_8 (by first | omega | (dsimp only at hq; omega))) (LR_start wr_25_9) wr_25_10 (Nat.lt_succ_self _) hP hD hS ls (lv_sub hl [0] rfl)
