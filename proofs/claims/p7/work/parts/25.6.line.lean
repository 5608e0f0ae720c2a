set_option maxHeartbeats 4000000 in
set_option maxRecDepth 100000 in
theorem s_X12_either (n : Nat) (h1n : C_X12_both n) : C_X12_either n := by
  intro l D cs A bd u b bw hT hh0 hh1 hL0 hL1 ho0 ho6 hon iu15_0 iu15_1 ib14_0 ib20_0
  refine Met.ofW (cc := cX12_either) (maxL := 1) (ret := none) (by decide) rfl ?_
  intro p e s m args below meth c s₁ B hml hv
  obtain ⟨rfl, hP, hK, hD, hZ⟩ := hv
  have hx := B.exec
  have hb := B.bytes
  have hr := B.returns
  have hts := atoms_spec (ws := (Cond.code yX12_either cX12_either 1 none :: gw)) B.pre
  have hg : ∀ w ∈ gw, w.before ([.ref (bd 0)] : List Value).toArray s = true := fun w h => hts w (List.mem_cons_of_mem _ h)
  have hown : s.vm.findClass RX12 = some m.cls := findClass_of_methodNamed B.named
  have hlocks := B.notSynchronized
  have hS : va_S A s.heap s.heap [] := va_S.rf
  have hP : va_P D vwCl (RW cs bd u b bw) s.heap := hP
  have hl := lv_entry ([.ref (bd 0)]) (n := 1) (Nat.le_of_ble_eq_true rfl)
  rw [lg_entry_eq]
  generalize (lg_sl ([.ref (bd 0)]) ++ List.replicate (1 - (lg_sl ([.ref (bd 0)])).length) Slot.unset).toArray = ls at hl ⊢
  have hl : lv_has ls 1 [(0, .ref (bd 0))] := hl
  have hcut : ∀ nk : Nat, (∀ (c4_u16 : Int32) (c4_u17 : Int32) (c4_u18 : Int32) (c4_u19 : Int32) (c4_b20 : Nat → Int32) (c4_b21 : Nat → Int32) (H : Heap) (locs : List Loc) (jq0 : (c4_u17.toInt = -1 ∧ c4_u18.toInt = (u 18).toInt ∧ (u 16).toInt < c4_u16.toInt ∧ c4_u19.toInt - (u 19).toInt ≤ c4_u16.toInt - (u 16).toInt) ∨ (0 ≤ c4_u17.toInt ∧ c4_u19.toInt - (u 19).toInt ≤ c4_u16.toInt - (u 16).toInt + 1)) (jq1 : (u 16).toInt ≤ c4_u16.toInt) (jq2 : c4_u16.toInt ≤ (u 15).toInt) (jq3 : (u 18).toInt ≤ c4_u18.toInt) (jq4 : c4_u18.toInt ≤ 6) (jq5 : (u 19).toInt ≤ c4_u19.toInt) (jq6 : FRM (130 + (u 19).toInt.toNat) (b 20) c4_b20) (jq7 : FRM (130 + (u 19).toInt.toNat) (b 21) c4_b21) (jq8 : c4_u17.toInt = -1 → SEGI c4_b20 c4_b21 (130 + (u 19).toInt.toNat) (130 + c4_u19.toInt.toNat)) (hL : LINR (TKR (b 14) (u 15).toInt) (u 15).toInt.toNat 124 124 124 (BOTHF (TKR (b 14) (u 15).toInt) (u 15).toInt.toNat (ONEF (TKR (b 14) (u 15).toInt) (u 15).toInt.toNat (6 - (u 18).toInt).toNat)) (EITHF (TKR (b 14) (u 15).toInt) (u 15).toInt.toNat (ONEF (TKR (b 14) (u 15).toInt) (u 15).toInt.toNat (6 - (u 18).toInt).toNat) (u 16).toInt.toNat) c4_u17.toInt c4_u16.toInt.toNat) (jb20_0 : AB (-128) 127 c4_b20) (hmu : ((u 15).toInt - c4_u16.toInt).toNat < nk) (hP : va_P D vwCl (RW cs bd (va_up (va_up (va_up (va_up u 16 c4_u16) 17 c4_u17) 18 c4_u18) 19 c4_u19) (va_up (va_up b 20 c4_b20) 21 c4_b21) bw) H) (hD : va_D A (RW cs bd (va_up (va_up (va_up (va_up u 16 c4_u16) 17 c4_u17) 18 c4_u18) 19 c4_u19) (va_up (va_up b 20 c4_b20) 21 c4_b21) bw)) (hS : va_S A s.heap H locs) (ls : Array Slot) (hl : lv_has ls 1 [(0, .ref (bd 0))]), W p l e (headSpec (Cond.code yX12_either cX12_either 1 none :: gw) ({ frames := 10 * n + 11, cells := 0, slots := 0, locals := 300 * n + 400 })).room s m ([.ref (bd 0)] : List Value).toArray below meth c H locs 0 0 (MQ below (va_Qv (fun (z : Int32 × Int32 × Int32 × Int32 × (Nat → Int32) × (Nat → Int32)) => ((z.2.1.toInt = -1 ∧ z.2.2.1.toInt = (u 18).toInt ∧ (u 16).toInt < z.1.toInt ∧ z.2.2.2.1.toInt - (u 19).toInt ≤ z.1.toInt - (u 16).toInt) ∨ (0 ≤ z.2.1.toInt ∧ z.2.2.2.1.toInt - (u 19).toInt ≤ z.1.toInt - (u 16).toInt + 1)) ∧ ((u 16).toInt ≤ z.1.toInt) ∧ (z.1.toInt ≤ (u 15).toInt) ∧ ((u 18).toInt ≤ z.2.2.1.toInt) ∧ (z.2.2.1.toInt ≤ 6) ∧ ((u 19).toInt ≤ z.2.2.2.1.toInt) ∧ (FRM (130 + (u 19).toInt.toNat) (b 20) z.2.2.2.2.1) ∧ (FRM (130 + (u 19).toInt.toNat) (b 21) z.2.2.2.2.2) ∧ (z.2.1.toInt = -1 → SEGI z.2.2.2.2.1 z.2.2.2.2.2 (130 + (u 19).toInt.toNat) (130 + z.2.2.2.1.toInt.toNat)) ∧ (RESR (EITHF (TKR (b 14) (u 15).toInt) (u 15).toInt.toNat (ONEF (TKR (b 14) (u 15).toInt) (u 15).toInt.toNat (6 - (u 18).toInt).toNat) (u 16).toInt.toNat) z.2.1.toInt z.1.toInt.toNat) ∧ (AB (-128) 127 z.2.2.2.2.1)) (XPo D (fun (z : Int32 × Int32 × Int32 × Int32 × (Nat → Int32) × (Nat → Int32)) => RW cs bd (va_up (va_up (va_up (va_up u 16 z.1) 17 z.2.1) 18 z.2.2.1) 19 z.2.2.2.1) (va_up (va_up b 20 z.2.2.2.2.1) 21 z.2.2.2.2.2) bw) A) A) ([.ref (bd 0)] : List Value).toArray s 0 0 A) (F0 m 4 ls [])) := by
    intro nk
    induction nk with
    | zero => exact (fun c4_u16 c4_u17 c4_u18 c4_u19 c4_b20 c4_b21 H locs jq0 jq1 jq2 jq3 jq4 jq5 jq6 jq7 jq8 hL jb20_0 hmu hP hD hS ls hl => absurd hmu (Nat.not_lt_zero _))
    | succ nk ih =>
      intro c4_u16 c4_u17 c4_u18 c4_u19 c4_b20 c4_b21 H locs jq0 jq1 jq2 jq3 jq4 jq5 jq6 jq7 jq8 hL jb20_0 hmu hP hD hS ls hl
      refine lv_aload_n hx hb dX12_either_4 rfl (lv_at hl 0 rfl) ?_
      refine gr_fault hx hb hg hown hK hP (x := c4_u17) rfl (hg _ q5_9) dX12_either_5 ?_
      refine lv_if_ge (tgt := 44) hx hb dX12_either_8 (by decide) (fun c_1 => ?_) (fun c_1 => ?_)
      ·
        have kc_1 : (0 : Int) ≤ c4_u17.toInt := i_le c_1
        exact W.vret hx hb hr (fun tt ht hW => ⟨⟨⟨c4_u16, c4_u17, c4_u18, c4_u19, c4_b20, c4_b21⟩, rfl, ⟨(by first | rfl | omega | trivial | assumption | (dsimp only; first | omega | assumption)), (by first | rfl | omega | trivial | assumption | (dsimp only; first | omega | assumption)), (by first | rfl | omega | trivial | assumption | (dsimp only; first | omega | assumption)), (by first | rfl | omega | trivial | assumption | (dsimp only; first | omega | assumption)), (by first | rfl | omega | trivial | assumption | (dsimp only; first | omega | assumption)), (by first | rfl | omega | trivial | assumption | (dsimp only; first | omega | assumption)), jq6, jq7, jq8, (LR_exit hL (Or.inl (by omega))), jb20_0⟩, by rw [ht]; exact hP, hD⟩, hS.F ht⟩) hS.2.2 dX12_either_44
      ·
        have kc_1 : c4_u17.toInt < (0 : Int) := i_nle c_1
        refine lv_aload_n hx hb dX12_either_11 rfl (lv_at hl 0 rfl) ?_
        refine cV_ro (As := []) (rest := []) ⟨hx, hb, hml, hown, hg⟩ (k_X12_look l D cs A bd (va_up (va_up (va_up (va_up u 16 c4_u16) 17 c4_u17) 18 c4_u18) 19 c4_u19) (va_up (va_up b 20 c4_b20) 21 c4_b21) bw   (show 0 ≤ c4_u16.toInt by first | omega | decide) (show 0 ≤ (u 15).toInt by first | omega | decide) (show (u 15).toInt ≤ 120 by first | omega | decide) ib14_0) ca_X12_look q6_66 ⟨rfl, rfl⟩ ⟨(show 0 + 1 ≤ 10 * n + 11 by omega), (show 8 + (1 + 11) + (0) ≤ 300 * n + 400 by omega)⟩ (rc_model hK hP) hK hP hD hS hZ rfl hl.1 rfl (Nat.le_of_ble_eq_true rfl) ⟨Nat.zero_le _, Nat.zero_le _⟩ dX12_either_12 (fun r_2 wr_2 => ?_)
        obtain ⟨wr_2_0, wr_2_1⟩ : ((c4_u16.toInt < (u 15).toInt ∧ r_2.toInt = ((b 14) c4_u16.toNatClampNeg).toInt) ∨ ((u 15).toInt ≤ c4_u16.toInt ∧ r_2.toInt = -1)) ∧ ((r_2.toInt = (TKR (b 14) (u 15).toInt) c4_u16.toInt.toNat ∧ -1 ≤ r_2.toInt ∧ r_2.toInt ≤ 127) ∨ (r_2.toInt = (TKR (b 14) (u 15).toInt) c4_u16.toInt.toNat - 256 ∧ 128 ≤ (TKR (b 14) (u 15).toInt) c4_u16.toInt.toNat ∧ (TKR (b 14) (u 15).toInt) c4_u16.toInt.toNat ≤ 255 ∧ r_2.toInt < 0)) := wr_2
        refine lv_bipush (v := 124) hx hb dX12_either_15 (by decide) ?_
        refine lv_icmp_ne (tgt := 44) hx hb dX12_either_17 (by decide) (fun c_3 => ?_) (fun c_3 => ?_)
        ·
          have kc_3 : r_2.toInt ≠ (124 : Int) := i_ne c_3
          have hns : ¬ ((TKR (b 14) (u 15).toInt) c4_u16.toInt.toNat = 124 ∨ (TKR (b 14) (u 15).toInt) c4_u16.toInt.toNat = 124 ∨ (TKR (b 14) (u 15).toInt) c4_u16.toInt.toNat = 124) := by omega
          clear wr_2_0 wr_2_1
          exact W.vret hx hb hr (fun tt ht hW => ⟨⟨⟨c4_u16, c4_u17, c4_u18, c4_u19, c4_b20, c4_b21⟩, rfl, ⟨(by first | rfl | omega | trivial | assumption | (dsimp only; first | omega | assumption)), (by first | rfl | omega | trivial | assumption | (dsimp only; first | omega | assumption)), (by first | rfl | omega | trivial | assumption | (dsimp only; first | omega | assumption)), (by first | rfl | omega | trivial | assumption | (dsimp only; first | omega | assumption)), (by first | rfl | omega | trivial | assumption | (dsimp only; first | omega | assumption)), (by first | rfl | omega | trivial | assumption | (dsimp only; first | omega | assumption)), jq6, jq7, jq8, (LR_exit hL (Or.inr hns)), jb20_0⟩, by rw [ht]; exact hP, hD⟩, hS.F ht⟩) hS.2.2 dX12_either_44
        ·
          have kc_3 : r_2.toInt = (124 : Int) := i_eq c_3
          have hs : (TKR (b 14) (u 15).toInt) c4_u16.toInt.toNat = 124 ∨ (TKR (b 14) (u 15).toInt) c4_u16.toInt.toNat = 124 ∨ (TKR (b 14) (u 15).toInt) c4_u16.toInt.toNat = 124 := by omega
          have hlt0 : c4_u16.toInt < (u 15).toInt := by omega
          clear wr_2_0 wr_2_1
          have hs_4 := jq8 (by omega)
          refine lv_aload_n hx hb dX12_either_20 rfl (lv_at hl 0 rfl) ?_
          refine lv_dup hx hb dX12_either_21 rfl ?_
          refine gr_here hx hb hg hown hK hP (x := c4_u16) rfl (hg _ q5_8) dX12_either_22 ?_
          refine lv_iconst (v := 1) hx hb dX12_either_25 (by decide) ?_
          refine lv_iadd hx hb dX12_either_26 ?_
          refine lv_topi (fun x_5 ex_5 => ?_)
          have fx_5 : x_5.toInt = c4_u16.toInt + (1 : Int) := by rw [ex_5]; exact i_add (by first | omega | (show (_ : Int) ≤ c4_u16.toInt + (1 : Int); omega)) (by first | omega | (show c4_u16.toInt + (1 : Int) ≤ (_ : Int); omega))
          refine pr_here hx hb hg hown hK hP hD hS (hg _ q5_8) dX12_either_27 (fun H locs hP hD hS => ?_)
          refine lv_aload_n hx hb dX12_either_30 rfl (lv_at hl 0 rfl) ?_
          refine cV_v (As := []) (rest := []) ⟨hx, hb, hml, hown, hg⟩ (h1n l D cs A bd (va_up (va_up (va_up (va_up u 17 c4_u17) 18 c4_u18) 19 c4_u19) 16 x_5) (va_up (va_up b 20 c4_b20) 21 c4_b21) bw   (show c4_u17.toInt = -1 by first | omega | decide) (show 0 ≤ x_5.toInt by first | omega | decide) (show x_5.toInt ≤ (u 15).toInt by first | omega | decide) (show 0 ≤ c4_u19.toInt by first | omega | decide) (show c4_u19.toInt ≤ x_5.toInt by first | omega | decide) (show 0 ≤ c4_u18.toInt by first | omega | decide) (show c4_u18.toInt ≤ 6 by first | omega | decide) (show 6 ≤ c4_u18.toInt + (n : Int) by first | omega | decide) (show 0 ≤ (u 15).toInt by first | omega | decide) (show (u 15).toInt ≤ 120 by first | omega | decide) ib14_0 jb20_0) ca_X12_both q6_46 ⟨rfl, rfl⟩ ⟨(show 10 * n + 10 + 1 ≤ 10 * n + 11 by omega), (show 8 + (1 + 11) + (300 * n + 370) ≤ 300 * n + 400 by omega)⟩ (rc_model hK hP) hK hP hD hS hZ rfl hl.1 rfl (Nat.le_of_ble_eq_true rfl) ⟨Nat.zero_le _, Nat.zero_le _⟩ dX12_either_31 (fun z_13 H locs wr_6 hP hD hS => ?_)
          obtain ⟨o_u16_7, o_u17_8, o_u18_9, o_u19_10, o_b20_11, o_b21_12⟩ := z_13
          have hP : va_P D vwCl (RW cs bd (va_up (va_up (va_up (va_up u 16 o_u16_7) 17 o_u17_8) 18 o_u18_9) 19 o_u19_10) (va_up (va_up b 20 o_b20_11) 21 o_b21_12) bw) H := hP
          have hD : va_D A (RW cs bd (va_up (va_up (va_up (va_up u 16 o_u16_7) 17 o_u17_8) 18 o_u18_9) 19 o_u19_10) (va_up (va_up b 20 o_b20_11) 21 o_b21_12) bw) := hD
          obtain ⟨wr_6_0, wr_6_1, wr_6_2, wr_6_3, wr_6_4, wr_6_5, wr_6_6, wr_6_7, wr_6_8, wr_6_9, wr_6_10⟩ : ((o_u17_8.toInt = -1 ∧ o_u18_9.toInt = c4_u18.toInt ∧ x_5.toInt < o_u16_7.toInt ∧ o_u19_10.toInt - c4_u19.toInt ≤ o_u16_7.toInt - x_5.toInt) ∨ (0 ≤ o_u17_8.toInt ∧ o_u19_10.toInt - c4_u19.toInt ≤ o_u16_7.toInt - x_5.toInt + 1)) ∧ (x_5.toInt ≤ o_u16_7.toInt) ∧ (o_u16_7.toInt ≤ (u 15).toInt) ∧ (c4_u18.toInt ≤ o_u18_9.toInt) ∧ (o_u18_9.toInt ≤ 6) ∧ (c4_u19.toInt ≤ o_u19_10.toInt) ∧ (FRM (130 + c4_u19.toInt.toNat) c4_b20 o_b20_11) ∧ (FRM (130 + c4_u19.toInt.toNat) c4_b21 o_b21_12) ∧ (o_u17_8.toInt = -1 → SEGI o_b20_11 o_b21_12 (130 + c4_u19.toInt.toNat) (130 + o_u19_10.toInt.toNat)) ∧ (RESR (BOTHF (TKR (b 14) (u 15).toInt) (u 15).toInt.toNat (ONEF (TKR (b 14) (u 15).toInt) (u 15).toInt.toNat (6 - c4_u18.toInt).toNat) x_5.toInt.toNat) o_u17_8.toInt o_u16_7.toInt.toNat) ∧ (AB (-128) 127 o_b20_11) := wr_6
          have hA_14 : FRM (130 + (u 19).toInt.toNat) (b 20) o_b20_11 := FRM_trans jq6 wr_6_6 (by omega)
          have hA_15 : FRM (130 + (u 19).toInt.toNat) (b 21) o_b21_12 := FRM_trans jq7 wr_6_7 (by omega)
          have hs_16 := SEG_frm hs_4 wr_6_6 wr_6_7 (by omega)
          have hz1 : x_5.toInt.toNat = c4_u16.toInt.toNat + 1 := by omega
          have hn1 : (6 - c4_u18.toInt).toNat = (6 - (u 18).toInt).toNat := by omega
          rw [hz1] at wr_6_9
          rw [hn1] at wr_6_9
          refine lv_aload_n hx hb dX12_either_34 rfl (lv_at hl 0 rfl) ?_
          refine lv_bipush (v := 124) hx hb dX12_either_35 (by decide) ?_
          refine lv_iconst (v := 0) hx hb dX12_either_37 (by decide) ?_
          refine cV_v (As := [.int 124, .int 0]) (rest := []) ⟨hx, hb, hml, hown, hg⟩ (k_X12_addStep l D cs A bd (va_up (va_up (va_up (va_up u 16 o_u16_7) 17 o_u17_8) 18 o_u18_9) 19 o_u19_10) (va_up (va_up b 20 o_b20_11) 21 o_b21_12) bw  124 0 (show 0 ≤ o_u19_10.toInt by first | omega | decide) (show o_u19_10.toInt ≤ 129 by first | omega | decide) (show -128 ≤ (124 : Int) by first | omega | decide) (show (124 : Int) ≤ 127 by first | omega | decide) wr_6_10) ca_X12_addStep q6_73 ⟨rfl, rfl⟩ ⟨(show 0 + 1 ≤ 10 * n + 11 by omega), (show 8 + (3 + 11) + (0) ≤ 300 * n + 400 by omega)⟩ (rc_model hK hP) hK hP hD hS hZ rfl hl.1 rfl (Nat.le_of_ble_eq_true rfl) ⟨Nat.zero_le _, Nat.zero_le _⟩ dX12_either_38 (fun z_21 H locs wr_17 hP hD hS => ?_)
          obtain ⟨o_u19_18, o_b20_19, o_b21_20⟩ := z_21
          have hP : va_P D vwCl (RW cs bd (va_up (va_up (va_up (va_up u 16 o_u16_7) 17 o_u17_8) 18 o_u18_9) 19 o_u19_18) (va_up (va_up b 20 o_b20_19) 21 o_b21_20) bw) H := hP
          have hD : va_D A (RW cs bd (va_up (va_up (va_up (va_up u 16 o_u16_7) 17 o_u17_8) 18 o_u18_9) 19 o_u19_18) (va_up (va_up b 20 o_b20_19) 21 o_b21_20) bw) := hD
          obtain ⟨wr_17_0, wr_17_1, wr_17_2, wr_17_3, wr_17_4, wr_17_5⟩ : (o_u19_18.toInt = o_u19_10.toInt + 1) ∧ (FRM (130 + o_u19_10.toInt.toNat) o_b20_11 o_b20_19) ∧ (FRM (130 + o_u19_10.toInt.toNat) o_b21_12 o_b21_20) ∧ ((o_b20_19 (130 + o_u19_10.toInt.toNat)).toInt = (124 : Int)) ∧ ((o_b21_20 (130 + o_u19_10.toInt.toNat)).toInt = (0 : Int)) ∧ (AB (-128) 127 o_b20_19) := wr_17
          have hA_22 : FRM (130 + (u 19).toInt.toNat) (b 20) o_b20_19 := FRM_trans hA_14 wr_17_1 (by omega)
          have hA_23 : FRM (130 + (u 19).toInt.toNat) (b 21) o_b21_20 := FRM_trans hA_15 wr_17_2 (by omega)
          have hsg_24 : o_u17_8.toInt = -1 → SEGI o_b20_19 o_b21_20 (130 + (u 19).toInt.toNat) (130 + o_u19_18.toInt.toNat) := fun hq => SEG_bin (SEG_frm hs_16 wr_17_1 wr_17_2 (by omega)) (SEG_frm (wr_6_8 (by omega)) wr_17_1 wr_17_2 (by omega)) (by omega) (by omega)
          refine lv_goto (tgt := 4) hx hb dX12_either_41 (by decide) ?_
          exact ih o_u16_7 o_u17_8 o_u18_9 o_u19_18 o_b20_19 o_b21_20 _ _ (by omega) (by omega) (by omega) (by omega) (by omega) (by omega) hA_22 hA_23 hsg_24 (LR_step hL (by omega) hs (by omega) wr_6_9 (fun _ => by omega)) wr_17_5 (by omega) hP hD hS ls (lv_sub hl [0] rfl)
  refine lv_aload_n hx hb dX12_either_0 rfl (lv_at hl 0 rfl) ?_
  refine cV_v (As := []) (rest := []) ⟨hx, hb, hml, hown, hg⟩ (h1n l D cs A bd u b bw   (show (u 17).toInt = -1 by first | omega | decide) (show 0 ≤ (u 16).toInt by first | omega | decide) (show (u 16).toInt ≤ (u 15).toInt by first | omega | decide) (show 0 ≤ (u 19).toInt by first | omega | decide) (show (u 19).toInt ≤ (u 16).toInt by first | omega | decide) (show 0 ≤ (u 18).toInt by first | omega | decide) (show (u 18).toInt ≤ 6 by first | omega | decide) (show 6 ≤ (u 18).toInt + (n : Int) by first | omega | decide) (show 0 ≤ (u 15).toInt by first | omega | decide) (show (u 15).toInt ≤ 120 by first | omega | decide) ib14_0 ib20_0) ca_X12_both q6_46 ⟨rfl, rfl⟩ ⟨(show 10 * n + 10 + 1 ≤ 10 * n + 11 by omega), (show 8 + (1 + 11) + (300 * n + 370) ≤ 300 * n + 400 by omega)⟩ (rc_model hK hP) hK hP hD hS hZ rfl hl.1 rfl (Nat.le_of_ble_eq_true rfl) ⟨Nat.zero_le _, Nat.zero_le _⟩ dX12_either_1 (fun z_32 H locs wr_25 hP hD hS => ?_)
  obtain ⟨o_u16_26, o_u17_27, o_u18_28, o_u19_29, o_b20_30, o_b21_31⟩ := z_32
  have hP : va_P D vwCl (RW cs bd (va_up (va_up (va_up (va_up u 16 o_u16_26) 17 o_u17_27) 18 o_u18_28) 19 o_u19_29) (va_up (va_up b 20 o_b20_30) 21 o_b21_31) bw) H := hP
  have hD : va_D A (RW cs bd (va_up (va_up (va_up (va_up u 16 o_u16_26) 17 o_u17_27) 18 o_u18_28) 19 o_u19_29) (va_up (va_up b 20 o_b20_30) 21 o_b21_31) bw) := hD
  obtain ⟨wr_25_0, wr_25_1, wr_25_2, wr_25_3, wr_25_4, wr_25_5, wr_25_6, wr_25_7, wr_25_8, wr_25_9, wr_25_10⟩ : ((o_u17_27.toInt = -1 ∧ o_u18_28.toInt = (u 18).toInt ∧ (u 16).toInt < o_u16_26.toInt ∧ o_u19_29.toInt - (u 19).toInt ≤ o_u16_26.toInt - (u 16).toInt) ∨ (0 ≤ o_u17_27.toInt ∧ o_u19_29.toInt - (u 19).toInt ≤ o_u16_26.toInt - (u 16).toInt + 1)) ∧ ((u 16).toInt ≤ o_u16_26.toInt) ∧ (o_u16_26.toInt ≤ (u 15).toInt) ∧ ((u 18).toInt ≤ o_u18_28.toInt) ∧ (o_u18_28.toInt ≤ 6) ∧ ((u 19).toInt ≤ o_u19_29.toInt) ∧ (FRM (130 + (u 19).toInt.toNat) (b 20) o_b20_30) ∧ (FRM (130 + (u 19).toInt.toNat) (b 21) o_b21_31) ∧ (o_u17_27.toInt = -1 → SEGI o_b20_30 o_b21_31 (130 + (u 19).toInt.toNat) (130 + o_u19_29.toInt.toNat)) ∧ (RESR (BOTHF (TKR (b 14) (u 15).toInt) (u 15).toInt.toNat (ONEF (TKR (b 14) (u 15).toInt) (u 15).toInt.toNat (6 - (u 18).toInt).toNat) (u 16).toInt.toNat) o_u17_27.toInt o_u16_26.toInt.toNat) ∧ (AB (-128) 127 o_b20_30) := wr_25
  have hA_33 : FRM (130 + (u 19).toInt.toNat) (b 20) o_b20_30 := FRM_trans FRM_refl wr_25_6 (by omega)
  have hA_34 : FRM (130 + (u 19).toInt.toNat) (b 21) o_b21_31 := FRM_trans FRM_refl wr_25_7 (by omega)
  exact (hcut ((((u 15).toInt - o_u16_26.toInt).toNat) + 1)) o_u16_26 o_u17_27 o_u18_28 o_u19_29 o_b20_30 o_b21_31 _ _ (by omega) (by omega) (by omega) (by omega) (by omega) (by omega) hA_33 hA_34 (fun hq => wr_25_8 (by first | omega | (dsimp only at hq; omega))) (LR_start wr_25_9) wr_25_10 (Nat.lt_succ_self _) hP hD hS ls (lv_sub hl [0] rfl)
theorem rr_all : ∀ n, C_X12_operand n ∧ C_X12_either n := by
  intro n
  induction n with
  | zero =>
    have h0 := s_X12_operand 0 (fun k h => absurd h (by omega)) (fun k h => absurd h (by omega))
    exact ⟨h0, s_X12_either 0 (s_X12_both 0 (s_X12_compared 0 (s_X12_sum 0 (s_X12_product 0 h0))))⟩
  | succ n ih =>
    have h0 := s_X12_operand (n + 1) (fun k h => by (have e : k = n := by omega); subst e; exact ih.2) (fun k h => by (have e : k = n := by omega); subst e; exact ih.1)
    exact ⟨h0, s_X12_either _ (s_X12_both _ (s_X12_compared _ (s_X12_sum _ (s_X12_product _ h0))))⟩
set_option maxHeartbeats 4000000 in
set_option maxRecDepth 100000 in
theorem k_X12_line (l : Launch) (D : va_G) (cs : Nat → ClassId) (A : Nat → Prop) (bd : Nat → Nat) (u : Nat → Int32) (b : Nat → Nat → Int32) (bw : Nat → Nat → Int64)   (hT : (u 17).toInt = -1) (hh0 : 0 ≤ (u 16).toInt) (hh1 : (u 16).toInt ≤ (u 15).toInt) (hL0 : 0 ≤ (u 19).toInt) (hL1 : (u 19).toInt ≤ (u 16).toInt) (ho0 : 0 ≤ (u 18).toInt) (ho6 : (u 18).toInt ≤ 6) (ho00 : (u 18).toInt = 0) (hm0 : 0 ≤ ((b 22) 1).toInt) (hm1 : 2 * ((b 22) 1).toInt ≤ (u 16).toInt) (ib23_0 : AB (-32768) 32767 (b 23)) (iu15_0 : 0 ≤ (u 15).toInt) (iu15_1 : (u 15).toInt ≤ 120) (ib14_0 : AB (-128) 127 (b 14)) (ib20_0 : AB (-128) 127 (b 20)) (ib24_0 : AB (-32768) 32767 (b 24)) : Met l yX12_line (Cond.code yX12_line cX12_line 2 none :: gw) ({ frames := 72, cells := 0, slots := 0, locals := 2220 }) (va_Pc [.ref (bd 0)] (XPre D (TY cs) (RW cs bd u b bw) A)) (va_Qv (fun (z : Int32 × Int32 × Int32 × Int32 × (Nat → Int32) × (Nat → Int32) × (Nat → Int32) × (Nat → Int32) × (Nat → Int32)) => ((z.2.1.toInt = -1 ∧ z.2.2.1.toInt = (u 18).toInt ∧ (u 16).toInt < z.1.toInt ∧ z.2.2.2.1.toInt ≤ z.1.toInt) ∨ (0 ≤ z.2.1.toInt ∧ z.2.2.2.1.toInt ≤ z.1.toInt + 1)) ∧ ((u 16).toInt ≤ z.1.toInt) ∧ (z.1.toInt ≤ (u 15).toInt) ∧ ((u 18).toInt ≤ z.2.2.1.toInt) ∧ (z.2.2.1.toInt ≤ 6) ∧ ((u 19).toInt ≤ z.2.2.2.1.toInt) ∧ (FRM (130 + (u 19).toInt.toNat) (b 20) z.2.2.2.2.2.1) ∧ (FRM (130 + (u 19).toInt.toNat) (b 21) z.2.2.2.2.2.2.1) ∧ ((z.2.2.2.2.2.2.2.2 1).toInt = ((b 22) 1).toInt + 1) ∧ (z.2.2.2.2.2.2.2.2 0 = (b 22) 0) ∧ (FRM (61 + ((b 22) 1).toInt.toNat) (b 23) z.2.2.2.2.1) ∧ (FRM (61 + ((b 22) 1).toInt.toNat) (b 24) z.2.2.2.2.2.2.2.1) ∧ (z.2.1.toInt = -1 → LN z.2.2.2.2.2.1 z.2.2.2.2.2.2.1 z.2.2.2.2.1 z.2.2.2.2.2.2.2.1 ((b 22) 1).toInt.toNat (u 19).toInt.toNat z.2.2.2.1.toInt.toNat) ∧ (RESR (LINEF (TKR (b 14) (u 15).toInt) (u 15).toInt.toNat (u 16).toInt.toNat) z.2.1.toInt z.1.toInt.toNat) ∧ (AB (-32768) 32767 z.2.2.2.2.1) ∧ (AB (-128) 127 z.2.2.2.2.2.1) ∧ (AB (-32768) 32767 z.2.2.2.2.2.2.2.1)) (XPo D (fun (z : Int32 × Int32 × Int32 × Int32 × (Nat → Int32) × (Nat → Int32) × (Nat → Int32) × (Nat → Int32) × (Nat → Int32)) => RW cs bd (va_up (va_up (va_up (va_up u 16 z.1) 17 z.2.1) 18 z.2.2.1) 19 z.2.2.2.1) (va_up (va_up (va_up (va_up (va_up b 23 z.2.2.2.2.1) 20 z.2.2.2.2.2.1) 21 z.2.2.2.2.2.2.1) 24 z.2.2.2.2.2.2.2.1) 22 z.2.2.2.2.2.2.2.2) bw) A) A) 0 0 A := by
  refine Met.ofW (cc := cX12_line) (maxL := 2) (ret := none) (by decide) rfl ?_
  intro p e s m args below meth c s₁ B hml hv
  obtain ⟨rfl, hP, hK, hD, hZ⟩ := hv
  have hx := B.exec
  have hb := B.bytes
  have hr := B.returns
  have hts := atoms_spec (ws := (Cond.code yX12_line cX12_line 2 none :: gw)) B.pre
  have hg : ∀ w ∈ gw, w.before ([.ref (bd 0)] : List Value).toArray s = true := fun w h => hts w (List.mem_cons_of_mem _ h)
  have hown : s.vm.findClass RX12 = some m.cls := findClass_of_methodNamed B.named
  have hlocks := B.notSynchronized
  have hS : va_S A s.heap s.heap [] := va_S.rf
  have hP : va_P D vwCl (RW cs bd u b bw) s.heap := hP
  have hl := lv_entry ([.ref (bd 0)]) (n := 2) (Nat.le_of_ble_eq_true rfl)
  rw [lg_entry_eq]
  generalize (lg_sl ([.ref (bd 0)]) ++ List.replicate (2 - (lg_sl ([.ref (bd 0)])).length) Slot.unset).toArray = ls at hl ⊢
  have hl : lv_has ls 2 [(0, .ref (bd 0))] := hl
  refine lv_bipush (v := 61) hx hb dX12_line_0 (by decide) ?_
  refine lv_aload_n hx hb dX12_line_2 rfl (lv_at hl 0 rfl) ?_
  refine gr_lineMany hx hb hg hown hK hP (hg _ q5_14) dX12_line_3 ?_
  refine lv_iconst (v := 1) hx hb dX12_line_6 (by decide) ?_
  refine lr_lineMany hx hb hK hP (i_in (by decide) (by decide)) dX12_line_7 ?_
  refine lv_topi (fun x_1 ex_1 => ?_)
  have ex_1 : x_1 = (b 22) (1 : Int32).toNatClampNeg := ex_1
  have hx_1 : x_1.toInt = ((b 22) (1 : Int32).toNatClampNeg).toInt := by rw [ex_1]
  have nx_1 : x_1.toInt = ((b 22) 1).toInt := hx_1
  refine lv_iadd hx hb dX12_line_8 ?_
  refine lv_topi (fun x_2 ex_2 => ?_)
  have fx_2 : x_2.toInt = (61 : Int) + x_1.toInt := by rw [ex_2]; exact i_add (by first | omega | (show (_ : Int) ≤ (61 : Int) + x_1.toInt; omega)) (by first | omega | (show (61 : Int) + x_1.toInt ≤ (_ : Int); omega))
  refine lv_istore_n (lv' := [(1, .int x_2), (0, .ref (bd 0))]) hx hb dX12_line_9 rfl hl (by decide) rfl (fun ls hl => ?_)
  refine lv_aload_n hx hb dX12_line_10 rfl (lv_at hl 1 rfl) ?_
  refine gr_testEnd hx hb hg hown hK hP (hg _ q5_15) dX12_line_11 ?_
  refine lv_iload_n hx hb dX12_line_14 rfl (lv_at hl 0 rfl) ?_
  refine lv_aload_n hx hb dX12_line_15 rfl (lv_at hl 1 rfl) ?_
  refine gr_laid hx hb hg hown hK hP (x := (u 19)) rfl (hg _ q5_11) dX12_line_16 ?_
  refine lv_i2s hx hb dX12_line_19 rfl ?_
  refine lv_topi (fun x_3 ex_3 => ?_)
  have kt_4 : (vp_nar .short x_3).toInt = (u 19).toInt := nar_s ex_3 (by omega) (by omega)
  refine sr_testEnd hx hb hK hP hD hS (i_in (by omega) (by omega)) dX12_line_20 (fun H locs hP hD hS => ?_)
  have hab_5 : AB (-32768) 32767 (upd (b 23) x_2.toNatClampNeg (vp_nar .short x_3)) := AB_upd ib23_0 (nar_s_rg _).1 (nar_s_rg _).2
  refine lv_aload_n hx hb dX12_line_21 rfl (lv_at hl 1 rfl) ?_
  refine cV_v (As := []) (rest := []) ⟨hx, hb, hml, hown, hg⟩ (((rr_all 6).2) l D cs A bd u (va_up b 23 (upd (b 23) x_2.toNatClampNeg (vp_nar .short x_3))) bw   (show (u 17).toInt = -1 by first | omega | decide) (show 0 ≤ (u 16).toInt by first | omega | decide) (show (u 16).toInt ≤ (u 15).toInt by first | omega | decide) (show 0 ≤ (u 19).toInt by first | omega | decide) (show (u 19).toInt ≤ (u 16).toInt by first | omega | decide) (show 0 ≤ (u 18).toInt by first | omega | decide) (show (u 18).toInt ≤ 6 by first | omega | decide) (show 6 ≤ (u 18).toInt + ((6 : Nat) : Int) by first | omega | decide) (show 0 ≤ (u 15).toInt by first | omega | decide) (show (u 15).toInt ≤ 120 by first | omega | decide) ib14_0 ib20_0) ca_X12_either q6_42 ⟨rfl, rfl⟩ ⟨Nat.le_of_ble_eq_true rfl, Nat.le_of_ble_eq_true rfl⟩ (rc_model hK hP) hK hP hD hS hZ rfl hl.1 rfl (Nat.le_of_ble_eq_true rfl) ⟨Nat.zero_le _, Nat.zero_le _⟩ dX12_line_22 (fun z_13 H locs wr_6 hP hD hS => ?_)
  obtain ⟨o_u16_7, o_u17_8, o_u18_9, o_u19_10, o_b20_11, o_b21_12⟩ := z_13
  have hP : va_P D vwCl (RW cs bd (va_up (va_up (va_up (va_up u 16 o_u16_7) 17 o_u17_8) 18 o_u18_9) 19 o_u19_10) (va_up (va_up (va_up b 23 (upd (b 23) x_2.toNatClampNeg (vp_nar .short x_3))) 20 o_b20_11) 21 o_b21_12) bw) H := hP
  have hD : va_D A (RW cs bd (va_up (va_up (va_up (va_up u 16 o_u16_7) 17 o_u17_8) 18 o_u18_9) 19 o_u19_10) (va_up (va_up (va_up b 23 (upd (b 23) x_2.toNatClampNeg (vp_nar .short x_3))) 20 o_b20_11) 21 o_b21_12) bw) := hD
  obtain ⟨wr_6_0, wr_6_1, wr_6_2, wr_6_3, wr_6_4, wr_6_5, wr_6_6, wr_6_7, wr_6_8, wr_6_9, wr_6_10⟩ : ((o_u17_8.toInt = -1 ∧ o_u18_9.toInt = (u 18).toInt ∧ (u 16).toInt < o_u16_7.toInt ∧ o_u19_10.toInt - (u 19).toInt ≤ o_u16_7.toInt - (u 16).toInt) ∨ (0 ≤ o_u17_8.toInt ∧ o_u19_10.toInt - (u 19).toInt ≤ o_u16_7.toInt - (u 16).toInt + 1)) ∧ ((u 16).toInt ≤ o_u16_7.toInt) ∧ (o_u16_7.toInt ≤ (u 15).toInt) ∧ ((u 18).toInt ≤ o_u18_9.toInt) ∧ (o_u18_9.toInt ≤ 6) ∧ ((u 19).toInt ≤ o_u19_10.toInt) ∧ (FRM (130 + (u 19).toInt.toNat) (b 20) o_b20_11) ∧ (FRM (130 + (u 19).toInt.toNat) (b 21) o_b21_12) ∧ (o_u17_8.toInt = -1 → SEGI o_b20_11 o_b21_12 (130 + (u 19).toInt.toNat) (130 + o_u19_10.toInt.toNat)) ∧ (RESR (EITHF (TKR (b 14) (u 15).toInt) (u 15).toInt.toNat (ONEF (TKR (b 14) (u 15).toInt) (u 15).toInt.toNat (6 - (u 18).toInt).toNat) (u 16).toInt.toNat) o_u17_8.toInt o_u16_7.toInt.toNat) ∧ (AB (-128) 127 o_b20_11) := wr_6
  have hA_14 : FRM (130 + (u 19).toInt.toNat) (b 20) o_b20_11 := FRM_trans FRM_refl wr_6_6 (by omega)
  have hA_15 : FRM (130 + (u 19).toInt.toNat) (b 21) o_b21_12 := FRM_trans FRM_refl wr_6_7 (by omega)
  rw [show (6 - (u 18).toInt).toNat = 6 from by omega] at wr_6_9
  refine lv_aload_n hx hb dX12_line_25 rfl (lv_at hl 1 rfl) ?_
  refine gr_fault hx hb hg hown hK hP (x := o_u17_8) rfl (hg _ q5_9) dX12_line_26 ?_
  refine lv_if_ge (tgt := 66) hx hb dX12_line_29 (by decide) (fun c_16 => ?_) (fun c_16 => ?_)
  ·
    have kc_16 : (0 : Int) ≤ o_u17_8.toInt := i_le c_16
    refine lv_aload_n hx hb dX12_line_66 rfl (lv_at hl 1 rfl) ?_
    refine gr_lineEnd hx hb hg hown hK hP (hg _ q5_16) dX12_line_67 ?_
    refine lv_iload_n hx hb dX12_line_70 rfl (lv_at hl 0 rfl) ?_
    refine lv_aload_n hx hb dX12_line_71 rfl (lv_at hl 1 rfl) ?_
    refine gr_laid hx hb hg hown hK hP (x := o_u19_10) rfl (hg _ q5_11) dX12_line_72 ?_
    refine lv_i2s hx hb dX12_line_75 rfl ?_
    refine lv_topi (fun x_17 ex_17 => ?_)
    have ke_18 : (vp_nar .short x_17).toInt = o_u19_10.toInt := nar_s ex_17 (by omega) (by omega)
    refine sr_lineEnd hx hb hK hP hD hS (i_in (by omega) (by omega)) dX12_line_76 (fun H locs hP hD hS => ?_)
    have hab_19 : AB (-32768) 32767 (upd (b 24) x_2.toNatClampNeg (vp_nar .short x_17)) := AB_upd ib24_0 (nar_s_rg _).1 (nar_s_rg _).2
    refine lv_aload_n hx hb dX12_line_77 rfl (lv_at hl 1 rfl) ?_
    refine gr_lineMany hx hb hg hown hK hP (hg _ q5_14) dX12_line_78 ?_
    refine lv_iconst (v := 1) hx hb dX12_line_81 (by decide) ?_
    refine lv_dup2_11 hx hb dX12_line_82 rfl rfl ?_
    refine lr_lineMany hx hb hK hP (i_in (by decide) (by decide)) dX12_line_83 ?_
    refine lv_topi (fun x_20 ex_20 => ?_)
    have ex_20 : x_20 = (b 22) (1 : Int32).toNatClampNeg := ex_20
    have hx_20 : x_20.toInt = ((b 22) (1 : Int32).toNatClampNeg).toInt := by rw [ex_20]
    have nx_20 : x_20.toInt = ((b 22) 1).toInt := hx_20
    refine lv_iconst (v := 1) hx hb dX12_line_84 (by decide) ?_
    refine lv_iadd hx hb dX12_line_85 ?_
    refine lv_topi (fun x_21 ex_21 => ?_)
    have fx_21 : x_21.toInt = x_20.toInt + (1 : Int) := by rw [ex_21]; exact i_add (by first | omega | (show (_ : Int) ≤ x_20.toInt + (1 : Int); omega)) (by first | omega | (show x_20.toInt + (1 : Int) ≤ (_ : Int); omega))
    refine sr_lineMany hx hb hK hP hD hS (i_in (by decide) (by decide)) dX12_line_86 (fun H locs hP hD hS => ?_)
    have ht23 : ((upd (b 23) x_2.toNatClampNeg (vp_nar .short x_3)) (61 + ((b 22) 1).toInt.toNat)).toInt = (u 19).toInt := by rw [upd_at (show (61 + ((b 22) 1).toInt.toNat) = x_2.toNatClampNeg from (by show _ = x_2.toInt.toNat; omega))]; exact kt_4
    have ht24 : ((upd (b 24) x_2.toNatClampNeg (vp_nar .short x_17)) (61 + ((b 22) 1).toInt.toNat)).toInt = o_u19_10.toInt := by rw [upd_at (show (61 + ((b 22) 1).toInt.toNat) = x_2.toNatClampNeg from (by show _ = x_2.toInt.toNat; omega))]; exact ke_18
    have hln : o_u17_8.toInt = -1 → LN o_b20_11 o_b21_12 (upd (b 23) x_2.toNatClampNeg (vp_nar .short x_3)) (upd (b 24) x_2.toNatClampNeg (vp_nar .short x_17)) ((b 22) 1).toInt.toNat (u 19).toInt.toNat o_u19_10.toInt.toNat := fun hq => ⟨(u 19).toInt.toNat, by omega, by omega, by omega, by omega, fun q => absurd rfl q, wr_6_8 (by omega)⟩
    exact W.vret hx hb hr (fun tt ht hW => ⟨⟨⟨o_u16_7, o_u17_8, o_u18_9, o_u19_10, (upd (b 23) x_2.toNatClampNeg (vp_nar .short x_3)), o_b20_11, o_b21_12, (upd (b 24) x_2.toNatClampNeg (vp_nar .short x_17)), (upd (b 22) (1 : Int32).toNatClampNeg x_21)⟩, rfl, ⟨(by first | rfl | omega | trivial | assumption | (dsimp only; first | omega | assumption)), (by first | rfl | omega | trivial | assumption | (dsimp only; first | omega | assumption)), (by first | rfl | omega | trivial | assumption | (dsimp only; first | omega | assumption)), (by first | rfl | omega | trivial | assumption | (dsimp only; first | omega | assumption)), (by first | rfl | omega | trivial | assumption | (dsimp only; first | omega | assumption)), (by first | rfl | omega | trivial | assumption | (dsimp only; first | omega | assumption)), hA_14, hA_15, (by dsimp only; rw [upd_at (show 1 = (1 : Int32).toNatClampNeg from rfl)]; omega), (by dsimp only; exact upd_ne (by decide)), (by first | exact FRM_upd FRM_refl (by show _ ≤ x_2.toInt.toNat; omega) | exact FRM_upd (FRM_upd FRM_refl (by show _ ≤ x_2.toInt.toNat; omega)) (by show _ ≤ x_2.toInt.toNat; omega)), (by first | exact FRM_upd FRM_refl (by show _ ≤ x_2.toInt.toNat; omega) | exact FRM_upd (FRM_upd FRM_refl (by show _ ≤ x_2.toInt.toNat; omega)) (by show _ ≤ x_2.toInt.toNat; omega)), hln, (by (try dsimp only); first | exact RR_opt0 wr_6_9 (by omega) | exact RR_opt1 wr_6_9 (by omega) (by omega) {SND}), hab_5, wr_6_10, hab_19⟩, by rw [ht]; exact hP, hD⟩, hS.F ht⟩) hS.2.2 dX12_line_87
  ·
    have kc_16 : o_u17_8.toInt < (0 : Int) := i_nle c_16
    refine lv_aload_n hx hb dX12_line_32 rfl (lv_at hl 1 rfl) ?_
    refine cV_ro (As := []) (rest := []) ⟨hx, hb, hml, hown, hg⟩ (k_X12_look l D cs A bd (va_up (va_up (va_up (va_up u 16 o_u16_7) 17 o_u17_8) 18 o_u18_9) 19 o_u19_10) (va_up (va_up (va_up b 23 (upd (b 23) x_2.toNatClampNeg (vp_nar .short x_3))) 20 o_b20_11) 21 o_b21_12) bw   (show 0 ≤ o_u16_7.toInt by first | omega | decide) (show 0 ≤ (u 15).toInt by first | omega | decide) (show (u 15).toInt ≤ 120 by first | omega | decide) ib14_0) ca_X12_look q6_66 ⟨rfl, rfl⟩ ⟨Nat.le_of_ble_eq_true rfl, Nat.le_of_ble_eq_true rfl⟩ (rc_model hK hP) hK hP hD hS hZ rfl hl.1 rfl (Nat.le_of_ble_eq_true rfl) ⟨Nat.zero_le _, Nat.zero_le _⟩ dX12_line_33 (fun r_22 wr_22 => ?_)
    obtain ⟨wr_22_0, wr_22_1⟩ : ((o_u16_7.toInt < (u 15).toInt ∧ r_22.toInt = ((b 14) o_u16_7.toNatClampNeg).toInt) ∨ ((u 15).toInt ≤ o_u16_7.toInt ∧ r_22.toInt = -1)) ∧ ((r_22.toInt = (TKR (b 14) (u 15).toInt) o_u16_7.toInt.toNat ∧ -1 ≤ r_22.toInt ∧ r_22.toInt ≤ 127) ∨ (r_22.toInt = (TKR (b 14) (u 15).toInt) o_u16_7.toInt.toNat - 256 ∧ 128 ≤ (TKR (b 14) (u 15).toInt) o_u16_7.toInt.toNat ∧ (TKR (b 14) (u 15).toInt) o_u16_7.toInt.toNat ≤ 255 ∧ r_22.toInt < 0)) := wr_22
    refine lv_bipush (v := 63) hx hb dX12_line_36 (by decide) ?_
    refine lv_icmp_ne (tgt := 66) hx hb dX12_line_38 (by decide) (fun c_23 => ?_) (fun c_23 => ?_)
    ·
      have kc_23 : r_22.toInt ≠ (63 : Int) := i_ne c_23
      refine lv_aload_n hx hb dX12_line_66 rfl (lv_at hl 1 rfl) ?_
      refine gr_lineEnd hx hb hg hown hK hP (hg _ q5_16) dX12_line_67 ?_
      refine lv_iload_n hx hb dX12_line_70 rfl (lv_at hl 0 rfl) ?_
      refine lv_aload_n hx hb dX12_line_71 rfl (lv_at hl 1 rfl) ?_
      refine gr_laid hx hb hg hown hK hP (x := o_u19_10) rfl (hg _ q5_11) dX12_line_72 ?_
      refine lv_i2s hx hb dX12_line_75 rfl ?_
      refine lv_topi (fun x_24 ex_24 => ?_)
      have ke_25 : (vp_nar .short x_24).toInt = o_u19_10.toInt := nar_s ex_24 (by omega) (by omega)
      refine sr_lineEnd hx hb hK hP hD hS (i_in (by omega) (by omega)) dX12_line_76 (fun H locs hP hD hS => ?_)
      have hab_26 : AB (-32768) 32767 (upd (b 24) x_2.toNatClampNeg (vp_nar .short x_24)) := AB_upd ib24_0 (nar_s_rg _).1 (nar_s_rg _).2
      refine lv_aload_n hx hb dX12_line_77 rfl (lv_at hl 1 rfl) ?_
      refine gr_lineMany hx hb hg hown hK hP (hg _ q5_14) dX12_line_78 ?_
      refine lv_iconst (v := 1) hx hb dX12_line_81 (by decide) ?_
      refine lv_dup2_11 hx hb dX12_line_82 rfl rfl ?_
      refine lr_lineMany hx hb hK hP (i_in (by decide) (by decide)) dX12_line_83 ?_
      refine lv_topi (fun x_27 ex_27 => ?_)
      have ex_27 : x_27 = (b 22) (1 : Int32).toNatClampNeg := ex_27
      have hx_27 : x_27.toInt = ((b 22) (1 : Int32).toNatClampNeg).toInt := by rw [ex_27]
      have nx_27 : x_27.toInt = ((b 22) 1).toInt := hx_27
      refine lv_iconst (v := 1) hx hb dX12_line_84 (by decide) ?_
      refine lv_iadd hx hb dX12_line_85 ?_
      refine lv_topi (fun x_28 ex_28 => ?_)
      have fx_28 : x_28.toInt = x_27.toInt + (1 : Int) := by rw [ex_28]; exact i_add (by first | omega | (show (_ : Int) ≤ x_27.toInt + (1 : Int); omega)) (by first | omega | (show x_27.toInt + (1 : Int) ≤ (_ : Int); omega))
      refine sr_lineMany hx hb hK hP hD hS (i_in (by decide) (by decide)) dX12_line_86 (fun H locs hP hD hS => ?_)
      have ht23 : ((upd (b 23) x_2.toNatClampNeg (vp_nar .short x_3)) (61 + ((b 22) 1).toInt.toNat)).toInt = (u 19).toInt := by rw [upd_at (show (61 + ((b 22) 1).toInt.toNat) = x_2.toNatClampNeg from (by show _ = x_2.toInt.toNat; omega))]; exact kt_4
      have ht24 : ((upd (b 24) x_2.toNatClampNeg (vp_nar .short x_24)) (61 + ((b 22) 1).toInt.toNat)).toInt = o_u19_10.toInt := by rw [upd_at (show (61 + ((b 22) 1).toInt.toNat) = x_2.toNatClampNeg from (by show _ = x_2.toInt.toNat; omega))]; exact ke_25
      have hln : o_u17_8.toInt = -1 → LN o_b20_11 o_b21_12 (upd (b 23) x_2.toNatClampNeg (vp_nar .short x_3)) (upd (b 24) x_2.toNatClampNeg (vp_nar .short x_24)) ((b 22) 1).toInt.toNat (u 19).toInt.toNat o_u19_10.toInt.toNat := fun hq => ⟨(u 19).toInt.toNat, by omega, by omega, by omega, by omega, fun q => absurd rfl q, wr_6_8 (by omega)⟩
      exact W.vret hx hb hr (fun tt ht hW => ⟨⟨⟨o_u16_7, o_u17_8, o_u18_9, o_u19_10, (upd (b 23) x_2.toNatClampNeg (vp_nar .short x_3)), o_b20_11, o_b21_12, (upd (b 24) x_2.toNatClampNeg (vp_nar .short x_24)), (upd (b 22) (1 : Int32).toNatClampNeg x_28)⟩, rfl, ⟨(by first | rfl | omega | trivial | assumption | (dsimp only; first | omega | assumption)), (by first | rfl | omega | trivial | assumption | (dsimp only; first | omega | assumption)), (by first | rfl | omega | trivial | assumption | (dsimp only; first | omega | assumption)), (by first | rfl | omega | trivial | assumption | (dsimp only; first | omega | assumption)), (by first | rfl | omega | trivial | assumption | (dsimp only; first | omega | assumption)), (by first | rfl | omega | trivial | assumption | (dsimp only; first | omega | assumption)), hA_14, hA_15, (by dsimp only; rw [upd_at (show 1 = (1 : Int32).toNatClampNeg from rfl)]; omega), (by dsimp only; exact upd_ne (by decide)), (by first | exact FRM_upd FRM_refl (by show _ ≤ x_2.toInt.toNat; omega) | exact FRM_upd (FRM_upd FRM_refl (by show _ ≤ x_2.toInt.toNat; omega)) (by show _ ≤ x_2.toInt.toNat; omega)), (by first | exact FRM_upd FRM_refl (by show _ ≤ x_2.toInt.toNat; omega) | exact FRM_upd (FRM_upd FRM_refl (by show _ ≤ x_2.toInt.toNat; omega)) (by show _ ≤ x_2.toInt.toNat; omega)), hln, (by (try dsimp only); first | exact RR_opt0 wr_6_9 (by omega) | exact RR_opt1 wr_6_9 (by omega) (by omega) {SND}), hab_5, wr_6_10, hab_26⟩, by rw [ht]; exact hP, hD⟩, hS.F ht⟩) hS.2.2 dX12_line_87
    ·
      have kc_23 : r_22.toInt = (63 : Int) := i_eq c_23
      refine lv_aload_n hx hb dX12_line_41 rfl (lv_at hl 1 rfl) ?_
      refine lv_dup hx hb dX12_line_42 rfl ?_
      refine gr_here hx hb hg hown hK hP (x := o_u16_7) rfl (hg _ q5_8) dX12_line_43 ?_
      refine lv_iconst (v := 1) hx hb dX12_line_46 (by decide) ?_
      refine lv_iadd hx hb dX12_line_47 ?_
      refine lv_topi (fun x_29 ex_29 => ?_)
      have fx_29 : x_29.toInt = o_u16_7.toInt + (1 : Int) := by rw [ex_29]; exact i_add (by first | omega | (show (_ : Int) ≤ o_u16_7.toInt + (1 : Int); omega)) (by first | omega | (show o_u16_7.toInt + (1 : Int) ≤ (_ : Int); omega))
      refine pr_here hx hb hg hown hK hP hD hS (hg _ q5_8) dX12_line_48 (fun H locs hP hD hS => ?_)
      refine lv_aload_n hx hb dX12_line_51 rfl (lv_at hl 1 rfl) ?_
      refine gr_testEnd hx hb hg hown hK hP (hg _ q5_15) dX12_line_52 ?_
      refine lv_iload_n hx hb dX12_line_55 rfl (lv_at hl 0 rfl) ?_
      refine lv_aload_n hx hb dX12_line_56 rfl (lv_at hl 1 rfl) ?_
      refine gr_laid hx hb hg hown hK hP (x := o_u19_10) rfl (hg _ q5_11) dX12_line_57 ?_
      refine lv_i2s hx hb dX12_line_60 rfl ?_
      refine lv_topi (fun x_30 ex_30 => ?_)
      have kt_31 : (vp_nar .short x_30).toInt = o_u19_10.toInt := nar_s ex_30 (by omega) (by omega)
      refine sr_testEnd hx hb hK hP hD hS (i_in (by omega) (by omega)) dX12_line_61 (fun H locs hP hD hS => ?_)
      have hab_32 : AB (-32768) 32767 (upd (upd (b 23) x_2.toNatClampNeg (vp_nar .short x_3)) x_2.toNatClampNeg (vp_nar .short x_30)) := AB_upd hab_5 (nar_s_rg _).1 (nar_s_rg _).2
      refine lv_aload_n hx hb dX12_line_62 rfl (lv_at hl 1 rfl) ?_
      refine cV_v (As := []) (rest := []) ⟨hx, hb, hml, hown, hg⟩ (((rr_all 6).2) l D cs A bd (va_up (va_up (va_up (va_up u 17 o_u17_8) 18 o_u18_9) 19 o_u19_10) 16 x_29) (va_up (va_up (va_up b 20 o_b20_11) 21 o_b21_12) 23 (upd (upd (b 23) x_2.toNatClampNeg (vp_nar .short x_3)) x_2.toNatClampNeg (vp_nar .short x_30))) bw   (show o_u17_8.toInt = -1 by first | omega | decide) (show 0 ≤ x_29.toInt by first | omega | decide) (show x_29.toInt ≤ (u 15).toInt by first | omega | decide) (show 0 ≤ o_u19_10.toInt by first | omega | decide) (show o_u19_10.toInt ≤ x_29.toInt by first | omega | decide) (show 0 ≤ o_u18_9.toInt by first | omega | decide) (show o_u18_9.toInt ≤ 6 by first | omega | decide) (show 6 ≤ o_u18_9.toInt + ((6 : Nat) : Int) by first | omega | decide) (show 0 ≤ (u 15).toInt by first | omega | decide) (show (u 15).toInt ≤ 120 by first | omega | decide) ib14_0 wr_6_10) ca_X12_either q6_42 ⟨rfl, rfl⟩ ⟨Nat.le_of_ble_eq_true rfl, Nat.le_of_ble_eq_true rfl⟩ (rc_model hK hP) hK hP hD hS hZ rfl hl.1 rfl (Nat.le_of_ble_eq_true rfl) ⟨Nat.zero_le _, Nat.zero_le _⟩ dX12_line_63 (fun z_40 H locs wr_33 hP hD hS => ?_)
      obtain ⟨o_u16_34, o_u17_35, o_u18_36, o_u19_37, o_b20_38, o_b21_39⟩ := z_40
      have hP : va_P D vwCl (RW cs bd (va_up (va_up (va_up (va_up u 16 o_u16_34) 17 o_u17_35) 18 o_u18_36) 19 o_u19_37) (va_up (va_up (va_up b 23 (upd (upd (b 23) x_2.toNatClampNeg (vp_nar .short x_3)) x_2.toNatClampNeg (vp_nar .short x_30))) 20 o_b20_38) 21 o_b21_39) bw) H := hP
      have hD : va_D A (RW cs bd (va_up (va_up (va_up (va_up u 16 o_u16_34) 17 o_u17_35) 18 o_u18_36) 19 o_u19_37) (va_up (va_up (va_up b 23 (upd (upd (b 23) x_2.toNatClampNeg (vp_nar .short x_3)) x_2.toNatClampNeg (vp_nar .short x_30))) 20 o_b20_38) 21 o_b21_39) bw) := hD
      obtain ⟨wr_33_0, wr_33_1, wr_33_2, wr_33_3, wr_33_4, wr_33_5, wr_33_6, wr_33_7, wr_33_8, wr_33_9, wr_33_10⟩ : ((o_u17_35.toInt = -1 ∧ o_u18_36.toInt = o_u18_9.toInt ∧ x_29.toInt < o_u16_34.toInt ∧ o_u19_37.toInt - o_u19_10.toInt ≤ o_u16_34.toInt - x_29.toInt) ∨ (0 ≤ o_u17_35.toInt ∧ o_u19_37.toInt - o_u19_10.toInt ≤ o_u16_34.toInt - x_29.toInt + 1)) ∧ (x_29.toInt ≤ o_u16_34.toInt) ∧ (o_u16_34.toInt ≤ (u 15).toInt) ∧ (o_u18_9.toInt ≤ o_u18_36.toInt) ∧ (o_u18_36.toInt ≤ 6) ∧ (o_u19_10.toInt ≤ o_u19_37.toInt) ∧ (FRM (130 + o_u19_10.toInt.toNat) o_b20_11 o_b20_38) ∧ (FRM (130 + o_u19_10.toInt.toNat) o_b21_12 o_b21_39) ∧ (o_u17_35.toInt = -1 → SEGI o_b20_38 o_b21_39 (130 + o_u19_10.toInt.toNat) (130 + o_u19_37.toInt.toNat)) ∧ (RESR (EITHF (TKR (b 14) (u 15).toInt) (u 15).toInt.toNat (ONEF (TKR (b 14) (u 15).toInt) (u 15).toInt.toNat (6 - o_u18_9.toInt).toNat) x_29.toInt.toNat) o_u17_35.toInt o_u16_34.toInt.toNat) ∧ (AB (-128) 127 o_b20_38) := wr_33
      have hA_41 : FRM (130 + (u 19).toInt.toNat) (b 20) o_b20_38 := FRM_trans hA_14 wr_33_6 (by omega)
      have hA_42 : FRM (130 + (u 19).toInt.toNat) (b 21) o_b21_39 := FRM_trans hA_15 wr_33_7 (by omega)
      have hs_43 := SEG_frm (wr_6_8 (by omega)) wr_33_6 wr_33_7 (by omega)
      have hz1 : x_29.toInt.toNat = o_u16_7.toInt.toNat + 1 := by omega
      rw [hz1, show (6 - o_u18_9.toInt).toNat = 6 from by omega] at wr_33_9
      refine lv_aload_n hx hb dX12_line_66 rfl (lv_at hl 1 rfl) ?_
      refine gr_lineEnd hx hb hg hown hK hP (hg _ q5_16) dX12_line_67 ?_
      refine lv_iload_n hx hb dX12_line_70 rfl (lv_at hl 0 rfl) ?_
      refine lv_aload_n hx hb dX12_line_71 rfl (lv_at hl 1 rfl) ?_
      refine gr_laid hx hb hg hown hK hP (x := o_u19_37) rfl (hg _ q5_11) dX12_line_72 ?_
      refine lv_i2s hx hb dX12_line_75 rfl ?_
      refine lv_topi (fun x_44 ex_44 => ?_)
      have ke_45 : (vp_nar .short x_44).toInt = o_u19_37.toInt := nar_s ex_44 (by omega) (by omega)
      refine sr_lineEnd hx hb hK hP hD hS (i_in (by omega) (by omega)) dX12_line_76 (fun H locs hP hD hS => ?_)
      have hab_46 : AB (-32768) 32767 (upd (b 24) x_2.toNatClampNeg (vp_nar .short x_44)) := AB_upd ib24_0 (nar_s_rg _).1 (nar_s_rg _).2
      refine lv_aload_n hx hb dX12_line_77 rfl (lv_at hl 1 rfl) ?_
      refine gr_lineMany hx hb hg hown hK hP (hg _ q5_14) dX12_line_78 ?_
      refine lv_iconst (v := 1) hx hb dX12_line_81 (by decide) ?_
      refine lv_dup2_11 hx hb dX12_line_82 rfl rfl ?_
      refine lr_lineMany hx hb hK hP (i_in (by decide) (by decide)) dX12_line_83 ?_
      refine lv_topi (fun x_47 ex_47 => ?_)
      have ex_47 : x_47 = (b 22) (1 : Int32).toNatClampNeg := ex_47
      have hx_47 : x_47.toInt = ((b 22) (1 : Int32).toNatClampNeg).toInt := by rw [ex_47]
      have nx_47 : x_47.toInt = ((b 22) 1).toInt := hx_47
      refine lv_iconst (v := 1) hx hb dX12_line_84 (by decide) ?_
      refine lv_iadd hx hb dX12_line_85 ?_
      refine lv_topi (fun x_48 ex_48 => ?_)
      have fx_48 : x_48.toInt = x_47.toInt + (1 : Int) := by rw [ex_48]; exact i_add (by first | omega | (show (_ : Int) ≤ x_47.toInt + (1 : Int); omega)) (by first | omega | (show x_47.toInt + (1 : Int) ≤ (_ : Int); omega))
      refine sr_lineMany hx hb hK hP hD hS (i_in (by decide) (by decide)) dX12_line_86 (fun H locs hP hD hS => ?_)
      have ht23 : ((upd (upd (b 23) x_2.toNatClampNeg (vp_nar .short x_3)) x_2.toNatClampNeg (vp_nar .short x_30)) (61 + ((b 22) 1).toInt.toNat)).toInt = o_u19_10.toInt := by rw [upd_at (show (61 + ((b 22) 1).toInt.toNat) = x_2.toNatClampNeg from (by show _ = x_2.toInt.toNat; omega))]; exact kt_31
      have ht24 : ((upd (b 24) x_2.toNatClampNeg (vp_nar .short x_44)) (61 + ((b 22) 1).toInt.toNat)).toInt = o_u19_37.toInt := by rw [upd_at (show (61 + ((b 22) 1).toInt.toNat) = x_2.toNatClampNeg from (by show _ = x_2.toInt.toNat; omega))]; exact ke_45
      have hln : o_u17_35.toInt = -1 → LN o_b20_38 o_b21_39 (upd (upd (b 23) x_2.toNatClampNeg (vp_nar .short x_3)) x_2.toNatClampNeg (vp_nar .short x_30)) (upd (b 24) x_2.toNatClampNeg (vp_nar .short x_44)) ((b 22) 1).toInt.toNat (u 19).toInt.toNat o_u19_37.toInt.toNat := fun hq => ⟨o_u19_10.toInt.toNat, by omega, by omega, by omega, by omega, fun _ => hs_43, wr_33_8 (by omega)⟩
      exact W.vret hx hb hr (fun tt ht hW => ⟨⟨⟨o_u16_34, o_u17_35, o_u18_36, o_u19_37, (upd (upd (b 23) x_2.toNatClampNeg (vp_nar .short x_3)) x_2.toNatClampNeg (vp_nar .short x_30)), o_b20_38, o_b21_39, (upd (b 24) x_2.toNatClampNeg (vp_nar .short x_44)), (upd (b 22) (1 : Int32).toNatClampNeg x_48)⟩, rfl, ⟨(by first | rfl | omega | trivial | assumption | (dsimp only; first | omega | assumption)), (by first | rfl | omega | trivial | assumption | (dsimp only; first | omega | assumption)), (by first | rfl | omega | trivial | assumption | (dsimp only; first | omega | assumption)), (by first | rfl | omega | trivial | assumption | (dsimp only; first | omega | assumption)), (by first | rfl | omega | trivial | assumption | (dsimp only; first | omega | assumption)), (by first | rfl | omega | trivial | assumption | (dsimp only; first | omega | assumption)), hA_41, hA_42, (by dsimp only; rw [upd_at (show 1 = (1 : Int32).toNatClampNeg from rfl)]; omega), (by dsimp only; exact upd_ne (by decide)), (by first | exact FRM_upd FRM_refl (by show _ ≤ x_2.toInt.toNat; omega) | exact FRM_upd (FRM_upd FRM_refl (by show _ ≤ x_2.toInt.toNat; omega)) (by show _ ≤ x_2.toInt.toNat; omega)), (by first | exact FRM_upd FRM_refl (by show _ ≤ x_2.toInt.toNat; omega) | exact FRM_upd (FRM_upd FRM_refl (by show _ ≤ x_2.toInt.toNat; omega)) (by show _ ≤ x_2.toInt.toNat; omega)), hln, (by (try dsimp only); first | exact RR_opt0 wr_6_9 (by omega) | exact RR_opt1 wr_6_9 (by omega) (by omega) wr_33_9), hab_32, wr_33_10, hab_46⟩, by rw [ht]; exact hP, hD⟩, hS.F ht⟩) hS.2.2 dX12_line_87
