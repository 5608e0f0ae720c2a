set_option maxHeartbeats 4000000 in
set_option maxRecDepth 100000 in
theorem k_X12_ran (l : Launch) (D : va_G) (cs : Nat → ClassId) (A : Nat → Prop) (bd : Nat → Nat) (u : Nat → Int32) (b : Nat → Nat → Int32) (bw : Nat → Nat → Int64)  (p1 : Int32) (hr0 : 0 ≤ (u 64).toInt) (hr1 : (u 64).toInt ≤ 23) (iu64_0 : 0 ≤ (u 64).toInt) (iu64_1 : (u 64).toInt ≤ 1000) : Met l yX12_ran (Cond.code yX12_ran cX12_ran 2 none :: gw) ({ frames := 0, cells := 0, slots := 0, locals := 0 }) (va_Pc [.ref (bd 0), .int p1] (XPre D (TY cs) (RW cs bd u b bw) A)) (va_Qv (fun (z : Int32 × (Nat → Int32)) => (z.1.toInt = (u 64).toInt + 1) ∧ (z.2 = TRW (b 65) (u 64).toInt.toNat [p1]) ∧ (0 ≤ z.1.toInt) ∧ (z.1.toInt ≤ 1000)) (XPo D (fun (z : Int32 × (Nat → Int32)) => RW cs bd (va_up u 64 z.1) (va_up b 65 z.2) bw) A) A) 0 0 A := by
  refine Met.ofW (cc := cX12_ran) (maxL := 2) (ret := none) (by decide) rfl ?_
  intro p e s m args below meth c s₁ B hml hv
  obtain ⟨rfl, hP, hK, hD, hZ⟩ := hv
  have hx := B.exec
  have hb := B.bytes
  have hr := B.returns
  have hts := atoms_spec (ws := (Cond.code yX12_ran cX12_ran 2 none :: gw)) B.pre
  have hg : ∀ w ∈ gw, w.before ([.ref (bd 0), .int p1] : List Value).toArray s = true := fun w h => hts w (List.mem_cons_of_mem _ h)
  have hown : s.vm.findClass RX12 = some m.cls := findClass_of_methodNamed B.named
  have hlocks := B.notSynchronized
  have hS : va_S A s.heap s.heap [] := va_S.rf
  have hP : va_P D vwCl (RW cs bd u b bw) s.heap := hP
  have hl := lv_entry ([.ref (bd 0), .int p1]) (n := 2) (Nat.le_of_ble_eq_true rfl)
  rw [lg_entry_eq]
  generalize (lg_sl ([.ref (bd 0), .int p1]) ++ List.replicate (2 - (lg_sl ([.ref (bd 0), .int p1])).length) Slot.unset).toArray = ls at hl ⊢
  have hl : lv_has ls 2 [(0, .ref (bd 0)), (1, .int p1)] := hl
  refine lv_aload_n hx hb dX12_ran_0 rfl (lv_at hl 0 rfl) ?_
  refine gr_traces hx hb hg hown hK hP (x := (u 64)) rfl (hg _ q5_56) dX12_ran_1 ?_
  refine lv_bipush (v := 24) hx hb dX12_ran_4 (by decide) ?_
  refine lv_icmp_ge (tgt := 19) hx hb dX12_ran_6 (by decide) (fun c_1 => ?_) (fun c_1 => ?_)
  ·
    have kc_1 : (24 : Int) ≤ (u 64).toInt := i_le c_1
    exfalso; omega
  ·
    have kc_1 : (u 64).toInt < (24 : Int) := i_nle c_1
    refine lv_aload_n hx hb dX12_ran_9 rfl (lv_at hl 0 rfl) ?_
    refine gr_traced hx hb hg hown hK hP (hg _ q5_57) dX12_ran_10 ?_
    refine lv_aload_n hx hb dX12_ran_13 rfl (lv_at hl 0 rfl) ?_
    refine gr_traces hx hb hg hown hK hP (x := (u 64)) rfl (hg _ q5_56) dX12_ran_14 ?_
    refine lv_iload_n hx hb dX12_ran_17 rfl (lv_at hl 1 rfl) ?_
    refine sr_traced hx hb hK hP hD hS (i_in (by omega) (by omega)) dX12_ran_18 (fun H locs hP hD hS => ?_)
    refine lv_aload_n hx hb dX12_ran_19 rfl (lv_at hl 0 rfl) ?_
    refine lv_dup hx hb dX12_ran_20 rfl ?_
    refine gr_traces hx hb hg hown hK hP (x := (u 64)) rfl (hg _ q5_56) dX12_ran_21 ?_
    refine lv_iconst (v := 1) hx hb dX12_ran_24 (by decide) ?_
    refine lv_iadd hx hb dX12_ran_25 ?_
    refine lv_topi (fun x_2 ex_2 => ?_)
    have fx_2 : x_2.toInt = (u 64).toInt + (1 : Int) := by rw [ex_2]; exact i_add (by first | omega | (show (_ : Int) ≤ (u 64).toInt + (1 : Int); omega)) (by first | omega | (show (u 64).toInt + (1 : Int) ≤ (_ : Int); omega))
    refine pr_traces hx hb hg hown hK hP hD hS (hg _ q5_56) dX12_ran_26 (fun H locs hP hD hS => ?_)
    exact W.vret hx hb hr (fun tt ht hW => ⟨⟨⟨x_2, (upd (b 65) (u 64).toNatClampNeg p1)⟩, rfl, ⟨(by first | rfl | omega | trivial | assumption | (dsimp only; first | omega | assumption)), (by (try dsimp only); first | assumption | rfl), (show 0 ≤ x_2.toInt by first | omega | assumption), (show x_2.toInt ≤ 1000 by first | omega | assumption)⟩, by rw [ht]; exact hP, hD⟩, hS.F ht⟩) hS.2.2 dX12_ran_29
set_option maxHeartbeats 4000000 in
set_option maxRecDepth 100000 in
theorem k_X12_plainFlies (l : Launch) (D : va_G) (cs : Nat → ClassId) (A : Nat → Prop) (bd : Nat → Nat) (u : Nat → Int32) (b : Nat → Nat → Int32) (bw : Nat → Nat → Int64)  (p1 : Int32) (p2 : Int32) (hr0 : 0 ≤ (u 64).toInt) (hr1 : (u 64).toInt ≤ 23) (iu64_0 : 0 ≤ (u 64).toInt) (iu64_1 : (u 64).toInt ≤ 1000) : Met l yX12_plainFlies (Cond.code yX12_plainFlies cX12_plainFlies 3 (some .int) :: gw) ({ frames := 1, cells := 0, slots := 0, locals := 21 }) (va_Pc [.ref (bd 0), .int p1, .int p2] (XPre D (TY cs) (RW cs bd u b bw) A)) (va_Qi (fun (r : Int32) (z : Int32 × (Nat → Int32)) => (z.1.toInt = (u 64).toInt + 1) ∧ (z.2 = TRW (b 65) (u 64).toInt.toNat [1]) ∧ (r = (p2 + p1)) ∧ (0 ≤ z.1.toInt) ∧ (z.1.toInt ≤ 1000)) (XPo D (fun (z : Int32 × (Nat → Int32)) => RW cs bd (va_up u 64 z.1) (va_up b 65 z.2) bw) A) A) 0 0 A := by
  refine Met.ofW (cc := cX12_plainFlies) (maxL := 3) (ret := (some .int)) (by decide) rfl ?_
  intro p e s m args below meth c s₁ B hml hv
  obtain ⟨rfl, hP, hK, hD, hZ⟩ := hv
  have hx := B.exec
  have hb := B.bytes
  have hr := B.returns
  have hts := atoms_spec (ws := (Cond.code yX12_plainFlies cX12_plainFlies 3 (some .int) :: gw)) B.pre
  have hg : ∀ w ∈ gw, w.before ([.ref (bd 0), .int p1, .int p2] : List Value).toArray s = true := fun w h => hts w (List.mem_cons_of_mem _ h)
  have hown : s.vm.findClass RX12 = some m.cls := findClass_of_methodNamed B.named
  have hlocks := B.notSynchronized
  have hS : va_S A s.heap s.heap [] := va_S.rf
  have hP : va_P D vwCl (RW cs bd u b bw) s.heap := hP
  have hl := lv_entry ([.ref (bd 0), .int p1, .int p2]) (n := 3) (Nat.le_of_ble_eq_true rfl)
  rw [lg_entry_eq]
  generalize (lg_sl ([.ref (bd 0), .int p1, .int p2]) ++ List.replicate (3 - (lg_sl ([.ref (bd 0), .int p1, .int p2])).length) Slot.unset).toArray = ls at hl ⊢
  have hl : lv_has ls 3 [(0, .ref (bd 0)), (1, .int p1), (2, .int p2)] := hl
  refine lv_aload_n hx hb dX12_plainFlies_0 rfl (lv_at hl 0 rfl) ?_
  refine lv_iconst (v := 1) hx hb dX12_plainFlies_1 (by decide) ?_
  refine cV_v (As := [.int 1]) (rest := []) ⟨hx, hb, hml, hown, hg⟩ (k_X12_ran l D cs A bd u b bw  1 (show 0 ≤ (u 64).toInt by first | omega | decide) (show (u 64).toInt ≤ 23 by first | omega | decide) (show 0 ≤ (u 64).toInt by first | omega | decide) (show (u 64).toInt ≤ 1000 by first | omega | decide)) ca_X12_ran q7_55 ⟨rfl, rfl⟩ ⟨Nat.le_of_ble_eq_true rfl, Nat.le_of_ble_eq_true rfl⟩ (rc_model hK hP) hK hP hD hS hZ rfl hl.1 rfl (Nat.le_of_ble_eq_true rfl) ⟨Nat.zero_le _, Nat.zero_le _⟩ dX12_plainFlies_2 (fun z_4 H locs wr_1 hP hD hS => ?_)
  obtain ⟨o_u64_2, o_b65_3⟩ := z_4
  have hP : va_P D vwCl (RW cs bd (va_up u 64 o_u64_2) (va_up b 65 o_b65_3) bw) H := hP
  have hD : va_D A (RW cs bd (va_up u 64 o_u64_2) (va_up b 65 o_b65_3) bw) := hD
  obtain ⟨wr_1_0, wr_1_1, wr_1_2, wr_1_3⟩ : (o_u64_2.toInt = (u 64).toInt + 1) ∧ (o_b65_3 = TRW (b 65) (u 64).toInt.toNat [(1 : Int32)]) ∧ (0 ≤ o_u64_2.toInt) ∧ (o_u64_2.toInt ≤ 1000) := wr_1
  have kt_5 : o_b65_3 = TRW (b 65) (u 64).toInt.toNat [1] := by rw [wr_1_1]
  refine lv_iload_n hx hb dX12_plainFlies_5 rfl (lv_at hl 2 rfl) ?_
  refine lv_iload_n hx hb dX12_plainFlies_6 rfl (lv_at hl 1 rfl) ?_
  refine lv_iadd hx hb dX12_plainFlies_7 ?_
  refine lv_topi (fun x_6 ex_6 => ?_)
  exact W.iret (v := x_6) hx hb hr (fun tt ht hW => ⟨⟨x_6, ⟨o_u64_2, o_b65_3⟩, rfl, ⟨(by first | rfl | omega | trivial | assumption | (dsimp only; first | omega | assumption)), (by (try dsimp only); first | assumption | rfl), (by simp only [ex_6]), (show 0 ≤ o_u64_2.toInt by first | omega | assumption), (show o_u64_2.toInt ≤ 1000 by first | omega | assumption)⟩, by rw [ht]; exact hP, hD⟩, hS.F ht⟩) hS.2.2 dX12_plainFlies_8
set_option maxHeartbeats 4000000 in
set_option maxRecDepth 100000 in
theorem k_X12_coatFlies (l : Launch) (D : va_G) (cs : Nat → ClassId) (A : Nat → Prop) (bd : Nat → Nat) (u : Nat → Int32) (b : Nat → Nat → Int32) (bw : Nat → Nat → Int64)  (p1 : Int32) (p2 : Int32) (hr0 : 0 ≤ (u 64).toInt) (hr1 : (u 64).toInt ≤ 22) (iu64_0 : 0 ≤ (u 64).toInt) (iu64_1 : (u 64).toInt ≤ 1000) : Met l yX12_coatFlies (Cond.code yX12_coatFlies cX12_coatFlies 3 (some .int) :: gw) ({ frames := 2, cells := 0, slots := 0, locals := 43 }) (va_Pc [.ref (bd 0), .int p1, .int p2] (XPre D (TY cs) (RW cs bd u b bw) A)) (va_Qi (fun (r : Int32) (z : Int32 × (Nat → Int32)) => (z.1.toInt = (u 64).toInt + 2) ∧ (z.2 = TRW (b 65) (u 64).toInt.toNat [70, 1]) ∧ (r = ((p2 + p1) * 2)) ∧ (0 ≤ z.1.toInt) ∧ (z.1.toInt ≤ 1000)) (XPo D (fun (z : Int32 × (Nat → Int32)) => RW cs bd (va_up u 64 z.1) (va_up b 65 z.2) bw) A) A) 0 0 A := by
  refine Met.ofW (cc := cX12_coatFlies) (maxL := 3) (ret := (some .int)) (by decide) rfl ?_
  intro p e s m args below meth c s₁ B hml hv
  obtain ⟨rfl, hP, hK, hD, hZ⟩ := hv
  have hx := B.exec
  have hb := B.bytes
  have hr := B.returns
  have hts := atoms_spec (ws := (Cond.code yX12_coatFlies cX12_coatFlies 3 (some .int) :: gw)) B.pre
  have hg : ∀ w ∈ gw, w.before ([.ref (bd 0), .int p1, .int p2] : List Value).toArray s = true := fun w h => hts w (List.mem_cons_of_mem _ h)
  have hown : s.vm.findClass RX12 = some m.cls := findClass_of_methodNamed B.named
  have hlocks := B.notSynchronized
  have hS : va_S A s.heap s.heap [] := va_S.rf
  have hP : va_P D vwCl (RW cs bd u b bw) s.heap := hP
  have hl := lv_entry ([.ref (bd 0), .int p1, .int p2]) (n := 3) (Nat.le_of_ble_eq_true rfl)
  rw [lg_entry_eq]
  generalize (lg_sl ([.ref (bd 0), .int p1, .int p2]) ++ List.replicate (3 - (lg_sl ([.ref (bd 0), .int p1, .int p2])).length) Slot.unset).toArray = ls at hl ⊢
  have hl : lv_has ls 3 [(0, .ref (bd 0)), (1, .int p1), (2, .int p2)] := hl
  refine lv_aload_n hx hb dX12_coatFlies_0 rfl (lv_at hl 0 rfl) ?_
  refine lv_bipush (v := 70) hx hb dX12_coatFlies_1 (by decide) ?_
  refine cV_v (As := [.int 70]) (rest := []) ⟨hx, hb, hml, hown, hg⟩ (k_X12_ran l D cs A bd u b bw  70 (show 0 ≤ (u 64).toInt by first | omega | decide) (show (u 64).toInt ≤ 23 by first | omega | decide) (show 0 ≤ (u 64).toInt by first | omega | decide) (show (u 64).toInt ≤ 1000 by first | omega | decide)) ca_X12_ran q7_55 ⟨rfl, rfl⟩ ⟨Nat.le_of_ble_eq_true rfl, Nat.le_of_ble_eq_true rfl⟩ (rc_model hK hP) hK hP hD hS hZ rfl hl.1 rfl (Nat.le_of_ble_eq_true rfl) ⟨Nat.zero_le _, Nat.zero_le _⟩ dX12_coatFlies_3 (fun z_4 H locs wr_1 hP hD hS => ?_)
  obtain ⟨o_u64_2, o_b65_3⟩ := z_4
  have hP : va_P D vwCl (RW cs bd (va_up u 64 o_u64_2) (va_up b 65 o_b65_3) bw) H := hP
  have hD : va_D A (RW cs bd (va_up u 64 o_u64_2) (va_up b 65 o_b65_3) bw) := hD
  obtain ⟨wr_1_0, wr_1_1, wr_1_2, wr_1_3⟩ : (o_u64_2.toInt = (u 64).toInt + 1) ∧ (o_b65_3 = TRW (b 65) (u 64).toInt.toNat [(70 : Int32)]) ∧ (0 ≤ o_u64_2.toInt) ∧ (o_u64_2.toInt ≤ 1000) := wr_1
  have kt_5 : o_b65_3 = TRW (b 65) (u 64).toInt.toNat [70] := by rw [wr_1_1]
  refine lv_aload_n hx hb dX12_coatFlies_6 rfl (lv_at hl 0 rfl) ?_
  refine lv_iload_n hx hb dX12_coatFlies_7 rfl (lv_at hl 1 rfl) ?_
  refine lv_iload_n hx hb dX12_coatFlies_8 rfl (lv_at hl 2 rfl) ?_
  refine cV_i (As := [.int p1, .int p2]) (rest := []) ⟨hx, hb, hml, hown, hg⟩ (k_X12_plainFlies l D cs A bd (va_up u 64 o_u64_2) (va_up b 65 o_b65_3) bw  p1 p2 (show 0 ≤ o_u64_2.toInt by first | omega | decide) (show o_u64_2.toInt ≤ 23 by first | omega | decide) (show 0 ≤ o_u64_2.toInt by first | omega | decide) (show o_u64_2.toInt ≤ 1000 by first | omega | decide)) ca_X12_plainFlies q7_59 ⟨rfl, rfl⟩ ⟨Nat.le_of_ble_eq_true rfl, Nat.le_of_ble_eq_true rfl⟩ (rc_model hK hP) hK hP hD hS hZ rfl hl.1 rfl (Nat.le_of_ble_eq_true rfl) ⟨Nat.zero_le _, Nat.zero_le _⟩ dX12_coatFlies_9 (fun r_6 z_9 H locs wr_6 hP hD hS => ?_)
  obtain ⟨o_u64_7, o_b65_8⟩ := z_9
  have hP : va_P D vwCl (RW cs bd (va_up u 64 o_u64_7) (va_up b 65 o_b65_8) bw) H := hP
  have hD : va_D A (RW cs bd (va_up u 64 o_u64_7) (va_up b 65 o_b65_8) bw) := hD
  obtain ⟨wr_6_0, wr_6_1, wr_6_2, wr_6_3, wr_6_4⟩ : (o_u64_7.toInt = o_u64_2.toInt + 1) ∧ (o_b65_8 = TRW o_b65_3 o_u64_2.toInt.toNat [1]) ∧ (r_6 = (p2 + p1)) ∧ (0 ≤ o_u64_7.toInt) ∧ (o_u64_7.toInt ≤ 1000) := wr_6
  have kt_10 : o_b65_8 = TRW (b 65) (u 64).toInt.toNat [70, 1] := by rw [wr_6_1, kt_5, show (o_u64_2).toInt.toNat = (u 64).toInt.toNat + 1 from by omega]; rfl
  refine lv_iconst (v := 2) hx hb dX12_coatFlies_12 (by decide) ?_
  refine lv_imul hx hb dX12_coatFlies_13 ?_
  refine lv_topi (fun x_11 ex_11 => ?_)
  exact W.iret (v := x_11) hx hb hr (fun tt ht hW => ⟨⟨x_11, ⟨o_u64_7, o_b65_8⟩, rfl, ⟨(by first | rfl | omega | trivial | assumption | (dsimp only; first | omega | assumption)), (by (try dsimp only); first | assumption | rfl), (by simp only [ex_11, wr_6_2]), (show 0 ≤ o_u64_7.toInt by first | omega | assumption), (show o_u64_7.toInt ≤ 1000 by first | omega | assumption)⟩, by rw [ht]; exact hP, hD⟩, hS.F ht⟩) hS.2.2 dX12_coatFlies_14
set_option maxHeartbeats 4000000 in
set_option maxRecDepth 100000 in
theorem k_X12_plainSettles (l : Launch) (D : va_G) (cs : Nat → ClassId) (A : Nat → Prop) (bd : Nat → Nat) (u : Nat → Int32) (b : Nat → Nat → Int32) (bw : Nat → Nat → Int64)  (p1 : Int32) (p2 : Int32) (hr0 : 0 ≤ (u 64).toInt) (hr1 : (u 64).toInt ≤ 23) (iu64_0 : 0 ≤ (u 64).toInt) (iu64_1 : (u 64).toInt ≤ 1000) : Met l yX12_plainSettles (Cond.code yX12_plainSettles cX12_plainSettles 3 (some .int) :: gw) ({ frames := 1, cells := 0, slots := 0, locals := 21 }) (va_Pc [.ref (bd 0), .int p1, .int p2] (XPre D (TY cs) (RW cs bd u b bw) A)) (va_Qi (fun (r : Int32) (z : Int32 × (Nat → Int32)) => (z.1.toInt = (u 64).toInt + 1) ∧ (z.2 = TRW (b 65) (u 64).toInt.toNat [11]) ∧ (r = (p2 ^^^ p1)) ∧ (0 ≤ z.1.toInt) ∧ (z.1.toInt ≤ 1000)) (XPo D (fun (z : Int32 × (Nat → Int32)) => RW cs bd (va_up u 64 z.1) (va_up b 65 z.2) bw) A) A) 0 0 A := by
  refine Met.ofW (cc := cX12_plainSettles) (maxL := 3) (ret := (some .int)) (by decide) rfl ?_
  intro p e s m args below meth c s₁ B hml hv
  obtain ⟨rfl, hP, hK, hD, hZ⟩ := hv
  have hx := B.exec
  have hb := B.bytes
  have hr := B.returns
  have hts := atoms_spec (ws := (Cond.code yX12_plainSettles cX12_plainSettles 3 (some .int) :: gw)) B.pre
  have hg : ∀ w ∈ gw, w.before ([.ref (bd 0), .int p1, .int p2] : List Value).toArray s = true := fun w h => hts w (List.mem_cons_of_mem _ h)
  have hown : s.vm.findClass RX12 = some m.cls := findClass_of_methodNamed B.named
  have hlocks := B.notSynchronized
  have hS : va_S A s.heap s.heap [] := va_S.rf
  have hP : va_P D vwCl (RW cs bd u b bw) s.heap := hP
  have hl := lv_entry ([.ref (bd 0), .int p1, .int p2]) (n := 3) (Nat.le_of_ble_eq_true rfl)
  rw [lg_entry_eq]
  generalize (lg_sl ([.ref (bd 0), .int p1, .int p2]) ++ List.replicate (3 - (lg_sl ([.ref (bd 0), .int p1, .int p2])).length) Slot.unset).toArray = ls at hl ⊢
  have hl : lv_has ls 3 [(0, .ref (bd 0)), (1, .int p1), (2, .int p2)] := hl
  refine lv_aload_n hx hb dX12_plainSettles_0 rfl (lv_at hl 0 rfl) ?_
  refine lv_bipush (v := 11) hx hb dX12_plainSettles_1 (by decide) ?_
  refine cV_v (As := [.int 11]) (rest := []) ⟨hx, hb, hml, hown, hg⟩ (k_X12_ran l D cs A bd u b bw  11 (show 0 ≤ (u 64).toInt by first | omega | decide) (show (u 64).toInt ≤ 23 by first | omega | decide) (show 0 ≤ (u 64).toInt by first | omega | decide) (show (u 64).toInt ≤ 1000 by first | omega | decide)) ca_X12_ran q7_55 ⟨rfl, rfl⟩ ⟨Nat.le_of_ble_eq_true rfl, Nat.le_of_ble_eq_true rfl⟩ (rc_model hK hP) hK hP hD hS hZ rfl hl.1 rfl (Nat.le_of_ble_eq_true rfl) ⟨Nat.zero_le _, Nat.zero_le _⟩ dX12_plainSettles_3 (fun z_4 H locs wr_1 hP hD hS => ?_)
  obtain ⟨o_u64_2, o_b65_3⟩ := z_4
  have hP : va_P D vwCl (RW cs bd (va_up u 64 o_u64_2) (va_up b 65 o_b65_3) bw) H := hP
  have hD : va_D A (RW cs bd (va_up u 64 o_u64_2) (va_up b 65 o_b65_3) bw) := hD
  obtain ⟨wr_1_0, wr_1_1, wr_1_2, wr_1_3⟩ : (o_u64_2.toInt = (u 64).toInt + 1) ∧ (o_b65_3 = TRW (b 65) (u 64).toInt.toNat [(11 : Int32)]) ∧ (0 ≤ o_u64_2.toInt) ∧ (o_u64_2.toInt ≤ 1000) := wr_1
  have kt_5 : o_b65_3 = TRW (b 65) (u 64).toInt.toNat [11] := by rw [wr_1_1]
  refine lv_iload_n hx hb dX12_plainSettles_6 rfl (lv_at hl 2 rfl) ?_
  refine lv_iload_n hx hb dX12_plainSettles_7 rfl (lv_at hl 1 rfl) ?_
  refine lv_ixor hx hb dX12_plainSettles_8 ?_
  refine lv_topi (fun x_6 ex_6 => ?_)
  exact W.iret (v := x_6) hx hb hr (fun tt ht hW => ⟨⟨x_6, ⟨o_u64_2, o_b65_3⟩, rfl, ⟨(by first | rfl | omega | trivial | assumption | (dsimp only; first | omega | assumption)), (by (try dsimp only); first | assumption | rfl), (by simp only [ex_6]), (show 0 ≤ o_u64_2.toInt by first | omega | assumption), (show o_u64_2.toInt ≤ 1000 by first | omega | assumption)⟩, by rw [ht]; exact hP, hD⟩, hS.F ht⟩) hS.2.2 dX12_plainSettles_9
set_option maxHeartbeats 4000000 in
set_option maxRecDepth 100000 in
theorem k_X12_courtSettles (l : Launch) (D : va_G) (cs : Nat → ClassId) (A : Nat → Prop) (bd : Nat → Nat) (u : Nat → Int32) (b : Nat → Nat → Int32) (bw : Nat → Nat → Int64)  (p1 : Int32) (p2 : Int32) (hr0 : 0 ≤ (u 64).toInt) (hr1 : (u 64).toInt ≤ 22) (iu64_0 : 0 ≤ (u 64).toInt) (iu64_1 : (u 64).toInt ≤ 1000) : Met l yX12_courtSettles (Cond.code yX12_courtSettles cX12_courtSettles 3 (some .int) :: gw) ({ frames := 2, cells := 0, slots := 0, locals := 43 }) (va_Pc [.ref (bd 0), .int p1, .int p2] (XPre D (TY cs) (RW cs bd u b bw) A)) (va_Qi (fun (r : Int32) (z : Int32 × (Nat → Int32)) => (z.1.toInt = (u 64).toInt + 2) ∧ (z.2 = TRW (b 65) (u 64).toInt.toNat [40, 11]) ∧ (r = ((p2 ^^^ p1) * 3)) ∧ (0 ≤ z.1.toInt) ∧ (z.1.toInt ≤ 1000)) (XPo D (fun (z : Int32 × (Nat → Int32)) => RW cs bd (va_up u 64 z.1) (va_up b 65 z.2) bw) A) A) 0 0 A := by
  refine Met.ofW (cc := cX12_courtSettles) (maxL := 3) (ret := (some .int)) (by decide) rfl ?_
  intro p e s m args below meth c s₁ B hml hv
  obtain ⟨rfl, hP, hK, hD, hZ⟩ := hv
  have hx := B.exec
  have hb := B.bytes
  have hr := B.returns
  have hts := atoms_spec (ws := (Cond.code yX12_courtSettles cX12_courtSettles 3 (some .int) :: gw)) B.pre
  have hg : ∀ w ∈ gw, w.before ([.ref (bd 0), .int p1, .int p2] : List Value).toArray s = true := fun w h => hts w (List.mem_cons_of_mem _ h)
  have hown : s.vm.findClass RX12 = some m.cls := findClass_of_methodNamed B.named
  have hlocks := B.notSynchronized
  have hS : va_S A s.heap s.heap [] := va_S.rf
  have hP : va_P D vwCl (RW cs bd u b bw) s.heap := hP
  have hl := lv_entry ([.ref (bd 0), .int p1, .int p2]) (n := 3) (Nat.le_of_ble_eq_true rfl)
  rw [lg_entry_eq]
  generalize (lg_sl ([.ref (bd 0), .int p1, .int p2]) ++ List.replicate (3 - (lg_sl ([.ref (bd 0), .int p1, .int p2])).length) Slot.unset).toArray = ls at hl ⊢
  have hl : lv_has ls 3 [(0, .ref (bd 0)), (1, .int p1), (2, .int p2)] := hl
  refine lv_aload_n hx hb dX12_courtSettles_0 rfl (lv_at hl 0 rfl) ?_
  refine lv_bipush (v := 40) hx hb dX12_courtSettles_1 (by decide) ?_
  refine cV_v (As := [.int 40]) (rest := []) ⟨hx, hb, hml, hown, hg⟩ (k_X12_ran l D cs A bd u b bw  40 (show 0 ≤ (u 64).toInt by first | omega | decide) (show (u 64).toInt ≤ 23 by first | omega | decide) (show 0 ≤ (u 64).toInt by first | omega | decide) (show (u 64).toInt ≤ 1000 by first | omega | decide)) ca_X12_ran q7_55 ⟨rfl, rfl⟩ ⟨Nat.le_of_ble_eq_true rfl, Nat.le_of_ble_eq_true rfl⟩ (rc_model hK hP) hK hP hD hS hZ rfl hl.1 rfl (Nat.le_of_ble_eq_true rfl) ⟨Nat.zero_le _, Nat.zero_le _⟩ dX12_courtSettles_3 (fun z_4 H locs wr_1 hP hD hS => ?_)
  obtain ⟨o_u64_2, o_b65_3⟩ := z_4
  have hP : va_P D vwCl (RW cs bd (va_up u 64 o_u64_2) (va_up b 65 o_b65_3) bw) H := hP
  have hD : va_D A (RW cs bd (va_up u 64 o_u64_2) (va_up b 65 o_b65_3) bw) := hD
  obtain ⟨wr_1_0, wr_1_1, wr_1_2, wr_1_3⟩ : (o_u64_2.toInt = (u 64).toInt + 1) ∧ (o_b65_3 = TRW (b 65) (u 64).toInt.toNat [(40 : Int32)]) ∧ (0 ≤ o_u64_2.toInt) ∧ (o_u64_2.toInt ≤ 1000) := wr_1
  have kt_5 : o_b65_3 = TRW (b 65) (u 64).toInt.toNat [40] := by rw [wr_1_1]
  refine lv_aload_n hx hb dX12_courtSettles_6 rfl (lv_at hl 0 rfl) ?_
  refine lv_iload_n hx hb dX12_courtSettles_7 rfl (lv_at hl 1 rfl) ?_
  refine lv_iload_n hx hb dX12_courtSettles_8 rfl (lv_at hl 2 rfl) ?_
  refine cV_i (As := [.int p1, .int p2]) (rest := []) ⟨hx, hb, hml, hown, hg⟩ (k_X12_plainSettles l D cs A bd (va_up u 64 o_u64_2) (va_up b 65 o_b65_3) bw  p1 p2 (show 0 ≤ o_u64_2.toInt by first | omega | decide) (show o_u64_2.toInt ≤ 23 by first | omega | decide) (show 0 ≤ o_u64_2.toInt by first | omega | decide) (show o_u64_2.toInt ≤ 1000 by first | omega | decide)) ca_X12_plainSettles q7_87 ⟨rfl, rfl⟩ ⟨Nat.le_of_ble_eq_true rfl, Nat.le_of_ble_eq_true rfl⟩ (rc_model hK hP) hK hP hD hS hZ rfl hl.1 rfl (Nat.le_of_ble_eq_true rfl) ⟨Nat.zero_le _, Nat.zero_le _⟩ dX12_courtSettles_9 (fun r_6 z_9 H locs wr_6 hP hD hS => ?_)
  obtain ⟨o_u64_7, o_b65_8⟩ := z_9
  have hP : va_P D vwCl (RW cs bd (va_up u 64 o_u64_7) (va_up b 65 o_b65_8) bw) H := hP
  have hD : va_D A (RW cs bd (va_up u 64 o_u64_7) (va_up b 65 o_b65_8) bw) := hD
  obtain ⟨wr_6_0, wr_6_1, wr_6_2, wr_6_3, wr_6_4⟩ : (o_u64_7.toInt = o_u64_2.toInt + 1) ∧ (o_b65_8 = TRW o_b65_3 o_u64_2.toInt.toNat [11]) ∧ (r_6 = (p2 ^^^ p1)) ∧ (0 ≤ o_u64_7.toInt) ∧ (o_u64_7.toInt ≤ 1000) := wr_6
  have kt_10 : o_b65_8 = TRW (b 65) (u 64).toInt.toNat [40, 11] := by rw [wr_6_1, kt_5, show (o_u64_2).toInt.toNat = (u 64).toInt.toNat + 1 from by omega]; rfl
  refine lv_iconst (v := 3) hx hb dX12_courtSettles_12 (by decide) ?_
  refine lv_imul hx hb dX12_courtSettles_13 ?_
  refine lv_topi (fun x_11 ex_11 => ?_)
  exact W.iret (v := x_11) hx hb hr (fun tt ht hW => ⟨⟨x_11, ⟨o_u64_7, o_b65_8⟩, rfl, ⟨(by first | rfl | omega | trivial | assumption | (dsimp only; first | omega | assumption)), (by (try dsimp only); first | assumption | rfl), (by simp only [ex_11, wr_6_2]), (show 0 ≤ o_u64_7.toInt by first | omega | assumption), (show o_u64_7.toInt ≤ 1000 by first | omega | assumption)⟩, by rw [ht]; exact hP, hD⟩, hS.F ht⟩) hS.2.2 dX12_courtSettles_14
set_option maxHeartbeats 4000000 in
set_option maxRecDepth 100000 in
theorem k_RU_0_1 (l : Launch)     : Met l yX12_isUnder (Cond.code yX12_isUnder cX12_isUnder 2 (some .boolean) :: gw) ({ frames := 0, cells := 0, slots := 0, locals := 0 }) (fun v _ => v = ([.int 0, .int 1] : List Value).toArray) (vp_Si (fun (r : Int32) => r.toInt = 0)) 0 0 (fun _ => False) := by
  refine Met.ofW (cc := cX12_isUnder) (maxL := 2) (ret := (some .boolean)) (by decide) rfl ?_
  intro p e s m args below meth c s₁ B hml hv
  subst hv
  have hx := B.exec
  have hb := B.bytes
  have hr := B.returns
  have hts := atoms_spec (ws := (Cond.code yX12_isUnder cX12_isUnder 2 (some .boolean) :: gw)) B.pre
  have hg : ∀ w ∈ gw, w.before ([.int 0, .int 1] : List Value).toArray s = true := fun w h => hts w (List.mem_cons_of_mem _ h)
  have hown : s.vm.findClass RX12 = some m.cls := findClass_of_methodNamed B.named
  have hlocks := B.notSynchronized
  have hl := lv_entry ([.int 0, .int 1]) (n := 2) (Nat.le_of_ble_eq_true rfl)
  rw [lg_entry_eq]
  generalize (lg_sl ([.int 0, .int 1]) ++ List.replicate (2 - (lg_sl ([.int 0, .int 1])).length) Slot.unset).toArray = ls at hl ⊢
  have hl : lv_has ls 2 [(0, .int 0), (1, .int 1)] := hl
  refine lv_iload_n hx hb dX12_isUnder_0 rfl (lv_at hl 1 rfl) ?_
  refine lv_if_eq (tgt := 56) hx hb dX12_isUnder_1 (by decide) (fun c_1 => absurd c_1 (by decide)) (fun c_1 => ?_)
  refine lv_iload_n hx hb dX12_isUnder_4 rfl (lv_at hl 0 rfl) ?_
  refine lv_iload_n hx hb dX12_isUnder_5 rfl (lv_at hl 1 rfl) ?_
  refine lv_icmp_eq (tgt := 56) hx hb dX12_isUnder_6 (by decide) (fun c_2 => absurd c_2 (by decide)) (fun c_2 => ?_)
  refine lv_iload_n hx hb dX12_isUnder_9 rfl (lv_at hl 1 rfl) ?_
  refine lv_iconst (v := 1) hx hb dX12_isUnder_10 (by decide) ?_
  refine lv_icmp_ne (tgt := 19) hx hb dX12_isUnder_11 (by decide) (fun c_3 => absurd c_3 (by decide)) (fun c_3 => ?_)
  refine lv_iload_n hx hb dX12_isUnder_14 rfl (lv_at hl 0 rfl) ?_
  refine lv_iconst (v := 4) hx hb dX12_isUnder_15 (by decide) ?_
  refine lv_icmp_eq (tgt := 56) hx hb dX12_isUnder_16 (by decide) (fun c_4 => absurd c_4 (by decide)) (fun c_4 => ?_)
  refine lv_iload_n hx hb dX12_isUnder_19 rfl (lv_at hl 1 rfl) ?_
  refine lv_iconst (v := 2) hx hb dX12_isUnder_20 (by decide) ?_
  refine lv_icmp_ne (tgt := 34) hx hb dX12_isUnder_21 (by decide) (fun c_5 => ?_) (fun c_5 => absurd c_5 (by decide))
  refine lv_iload_n hx hb dX12_isUnder_34 rfl (lv_at hl 1 rfl) ?_
  refine lv_iconst (v := 3) hx hb dX12_isUnder_35 (by decide) ?_
  refine lv_icmp_ne (tgt := 44) hx hb dX12_isUnder_36 (by decide) (fun c_6 => ?_) (fun c_6 => absurd c_6 (by decide))
  refine lv_iload_n hx hb dX12_isUnder_44 rfl (lv_at hl 1 rfl) ?_
  refine lv_bipush (v := 6) hx hb dX12_isUnder_45 (by decide) ?_
  refine lv_icmp_ne (tgt := 60) hx hb dX12_isUnder_47 (by decide) (fun c_7 => ?_) (fun c_7 => absurd c_7 (by decide))
  refine lv_iconst (v := 0) hx hb dX12_isUnder_60 (by decide) ?_
  have q0_0 : (0 : Int32).toInt = 0 := rfl
  exact W.zret (v := 0) hx hb hr rfl (fun tt ht hW => ⟨0, rfl, (by first | rfl | omega | trivial | assumption | (dsimp only; first | omega | assumption)), ht⟩) (fun _ h => by cases h) dX12_isUnder_61
set_option maxHeartbeats 4000000 in
set_option maxRecDepth 100000 in
theorem k_RU_0_3 (l : Launch)     : Met l yX12_isUnder (Cond.code yX12_isUnder cX12_isUnder 2 (some .boolean) :: gw) ({ frames := 0, cells := 0, slots := 0, locals := 0 }) (fun v _ => v = ([.int 0, .int 3] : List Value).toArray) (vp_Si (fun (r : Int32) => r.toInt = 0)) 0 0 (fun _ => False) := by
  refine Met.ofW (cc := cX12_isUnder) (maxL := 2) (ret := (some .boolean)) (by decide) rfl ?_
  intro p e s m args below meth c s₁ B hml hv
  subst hv
  have hx := B.exec
  have hb := B.bytes
  have hr := B.returns
  have hts := atoms_spec (ws := (Cond.code yX12_isUnder cX12_isUnder 2 (some .boolean) :: gw)) B.pre
  have hg : ∀ w ∈ gw, w.before ([.int 0, .int 3] : List Value).toArray s = true := fun w h => hts w (List.mem_cons_of_mem _ h)
  have hown : s.vm.findClass RX12 = some m.cls := findClass_of_methodNamed B.named
  have hlocks := B.notSynchronized
  have hl := lv_entry ([.int 0, .int 3]) (n := 2) (Nat.le_of_ble_eq_true rfl)
  rw [lg_entry_eq]
  generalize (lg_sl ([.int 0, .int 3]) ++ List.replicate (2 - (lg_sl ([.int 0, .int 3])).length) Slot.unset).toArray = ls at hl ⊢
  have hl : lv_has ls 2 [(0, .int 0), (1, .int 3)] := hl
  refine lv_iload_n hx hb dX12_isUnder_0 rfl (lv_at hl 1 rfl) ?_
  refine lv_if_eq (tgt := 56) hx hb dX12_isUnder_1 (by decide) (fun c_1 => absurd c_1 (by decide)) (fun c_1 => ?_)
  refine lv_iload_n hx hb dX12_isUnder_4 rfl (lv_at hl 0 rfl) ?_
  refine lv_iload_n hx hb dX12_isUnder_5 rfl (lv_at hl 1 rfl) ?_
  refine lv_icmp_eq (tgt := 56) hx hb dX12_isUnder_6 (by decide) (fun c_2 => absurd c_2 (by decide)) (fun c_2 => ?_)
  refine lv_iload_n hx hb dX12_isUnder_9 rfl (lv_at hl 1 rfl) ?_
  refine lv_iconst (v := 1) hx hb dX12_isUnder_10 (by decide) ?_
  refine lv_icmp_ne (tgt := 19) hx hb dX12_isUnder_11 (by decide) (fun c_3 => ?_) (fun c_3 => absurd c_3 (by decide))
  refine lv_iload_n hx hb dX12_isUnder_19 rfl (lv_at hl 1 rfl) ?_
  refine lv_iconst (v := 2) hx hb dX12_isUnder_20 (by decide) ?_
  refine lv_icmp_ne (tgt := 34) hx hb dX12_isUnder_21 (by decide) (fun c_4 => ?_) (fun c_4 => absurd c_4 (by decide))
  refine lv_iload_n hx hb dX12_isUnder_34 rfl (lv_at hl 1 rfl) ?_
  refine lv_iconst (v := 3) hx hb dX12_isUnder_35 (by decide) ?_
  refine lv_icmp_ne (tgt := 44) hx hb dX12_isUnder_36 (by decide) (fun c_5 => absurd c_5 (by decide)) (fun c_5 => ?_)
  refine lv_iload_n hx hb dX12_isUnder_39 rfl (lv_at hl 0 rfl) ?_
  refine lv_iconst (v := 5) hx hb dX12_isUnder_40 (by decide) ?_
  refine lv_icmp_eq (tgt := 56) hx hb dX12_isUnder_41 (by decide) (fun c_6 => absurd c_6 (by decide)) (fun c_6 => ?_)
  refine lv_iload_n hx hb dX12_isUnder_44 rfl (lv_at hl 1 rfl) ?_
  refine lv_bipush (v := 6) hx hb dX12_isUnder_45 (by decide) ?_
  refine lv_icmp_ne (tgt := 60) hx hb dX12_isUnder_47 (by decide) (fun c_7 => ?_) (fun c_7 => absurd c_7 (by decide))
  refine lv_iconst (v := 0) hx hb dX12_isUnder_60 (by decide) ?_
  have q0_0 : (0 : Int32).toInt = 0 := rfl
  exact W.zret (v := 0) hx hb hr rfl (fun tt ht hW => ⟨0, rfl, (by first | rfl | omega | trivial | assumption | (dsimp only; first | omega | assumption)), ht⟩) (fun _ h => by cases h) dX12_isUnder_61
set_option maxHeartbeats 4000000 in
set_option maxRecDepth 100000 in
theorem k_X12_flying_0 (l : Launch) (D : va_G) (cs : Nat → ClassId) (A : Nat → Prop) (bd : Nat → Nat) (u : Nat → Int32) (b : Nat → Nat → Int32) (bw : Nat → Nat → Int64)  (p1 : Int32) (p2 : Int32) (hkn : (b 63) p1.toNatClampNeg = 0) (h1 : 0 ≤ p1.toInt) (h2 : p1.toInt < 50) (hr0 : 0 ≤ (u 64).toInt) (hr1 : (u 64).toInt ≤ 23) (ib63_0 : AB 0 7 (b 63)) (iu64_0 : 0 ≤ (u 64).toInt) (iu64_1 : (u 64).toInt ≤ 1000) : Met l yX12_flying (Cond.code yX12_flying cX12_flying 3 (some .int) :: gw) ({ frames := 2, cells := 0, slots := 0, locals := 43 }) (va_Pc [.ref (bd 0), .int p1, .int p2] (XPre D (TY cs) (RW cs bd u b bw) A)) (va_Qi (fun (r : Int32) (z : Int32 × (Nat → Int32)) => (z.1.toInt = (u 64).toInt + 1) ∧ (z.2 = TRW (b 65) (u 64).toInt.toNat [1]) ∧ (r = (p2 + p1)) ∧ (0 ≤ z.1.toInt) ∧ (z.1.toInt ≤ 1000)) (XPo D (fun (z : Int32 × (Nat → Int32)) => RW cs bd (va_up u 64 z.1) (va_up b 65 z.2) bw) A) A) 0 0 A := by
  refine Met.ofW (cc := cX12_flying) (maxL := 3) (ret := (some .int)) (by decide) rfl ?_
  intro p e s m args below meth c s₁ B hml hv
  obtain ⟨rfl, hP, hK, hD, hZ⟩ := hv
  have hx := B.exec
  have hb := B.bytes
  have hr := B.returns
  have hts := atoms_spec (ws := (Cond.code yX12_flying cX12_flying 3 (some .int) :: gw)) B.pre
  have hg : ∀ w ∈ gw, w.before ([.ref (bd 0), .int p1, .int p2] : List Value).toArray s = true := fun w h => hts w (List.mem_cons_of_mem _ h)
  have hown : s.vm.findClass RX12 = some m.cls := findClass_of_methodNamed B.named
  have hlocks := B.notSynchronized
  have hS : va_S A s.heap s.heap [] := va_S.rf
  have hP : va_P D vwCl (RW cs bd u b bw) s.heap := hP
  have hl := lv_entry ([.ref (bd 0), .int p1, .int p2]) (n := 3) (Nat.le_of_ble_eq_true rfl)
  rw [lg_entry_eq]
  generalize (lg_sl ([.ref (bd 0), .int p1, .int p2]) ++ List.replicate (3 - (lg_sl ([.ref (bd 0), .int p1, .int p2])).length) Slot.unset).toArray = ls at hl ⊢
  have hl : lv_has ls 3 [(0, .ref (bd 0)), (1, .int p1), (2, .int p2)] := hl
  refine lv_aload_n hx hb dX12_flying_0 rfl (lv_at hl 0 rfl) ?_
  refine gr_kind hx hb hg hown hK hP (hg _ q5_55) dX12_flying_1 ?_
  refine lv_iload_n hx hb dX12_flying_4 rfl (lv_at hl 1 rfl) ?_
  refine lr_kind hx hb hK hP (i_in (by omega) (by omega)) dX12_flying_5 ?_
  refine lv_topi (fun x_1 ex_1 => ?_)
  have ex_1 : x_1 = (b 63) p1.toNatClampNeg := ex_1
  have hx_1 : x_1.toInt = ((b 63) p1.toNatClampNeg).toInt := by rw [ex_1]
  have bx_1 := ib63_0 p1.toNatClampNeg
  rw [← ex_1] at bx_1
  have fx_1 : x_1 = 0 := by rw [ex_1]; exact hkn
  subst fx_1
  refine lv_iconst (v := 1) hx hb dX12_flying_6 (by decide) ?_
  refine cS_p (As := [.int 0, .int 1]) (rest := []) ⟨hx, hb, hml, hown, hg⟩ (k_RU_0_1 l    ) ca_X12_isUnder q7_52 ⟨rfl, rfl⟩ ⟨Nat.le_of_ble_eq_true rfl, Nat.le_of_ble_eq_true rfl⟩ rfl hl.1 rfl (Nat.le_of_ble_eq_true rfl) ⟨Nat.zero_le _, Nat.zero_le _⟩ dX12_flying_7 (fun r_2 wr_2 => ?_)
  have wr_2 : r_2.toInt = 0 := wr_2
  refine lv_if_eq (tgt := 28) hx hb dX12_flying_10 (by decide) (fun c_3 => ?_) (fun c_3 => ?_)
  ·
    have kc_3 : r_2.toInt = (0 : Int) := i_eq c_3
    refine lv_aload_n hx hb dX12_flying_28 rfl (lv_at hl 0 rfl) ?_
    refine gr_kind hx hb hg hown hK hP (hg _ q5_55) dX12_flying_29 ?_
    refine lv_iload_n hx hb dX12_flying_32 rfl (lv_at hl 1 rfl) ?_
    refine lr_kind hx hb hK hP (i_in (by omega) (by omega)) dX12_flying_33 ?_
    refine lv_topi (fun x_4 ex_4 => ?_)
    have ex_4 : x_4 = (b 63) p1.toNatClampNeg := ex_4
    have hx_4 : x_4.toInt = ((b 63) p1.toNatClampNeg).toInt := by rw [ex_4]
    have bx_4 := ib63_0 p1.toNatClampNeg
    rw [← ex_4] at bx_4
    have fx_4 : x_4 = 0 := by rw [ex_4]; exact hkn
    subst fx_4
    refine lv_bipush (v := 7) hx hb dX12_flying_34 (by decide) ?_
    refine lv_icmp_ne (tgt := 54) hx hb dX12_flying_36 (by decide) (fun c_5 => ?_) (fun c_5 => absurd c_5 (by decide))
    refine lv_aload_n hx hb dX12_flying_54 rfl (lv_at hl 0 rfl) ?_
    refine gr_kind hx hb hg hown hK hP (hg _ q5_55) dX12_flying_55 ?_
    refine lv_iload_n hx hb dX12_flying_58 rfl (lv_at hl 1 rfl) ?_
    refine lr_kind hx hb hK hP (i_in (by omega) (by omega)) dX12_flying_59 ?_
    refine lv_topi (fun x_6 ex_6 => ?_)
    have ex_6 : x_6 = (b 63) p1.toNatClampNeg := ex_6
    have hx_6 : x_6.toInt = ((b 63) p1.toNatClampNeg).toInt := by rw [ex_6]
    have bx_6 := ib63_0 p1.toNatClampNeg
    rw [← ex_6] at bx_6
    have fx_6 : x_6 = 0 := by rw [ex_6]; exact hkn
    subst fx_6
    refine lv_bipush (v := 6) hx hb dX12_flying_60 (by decide) ?_
    refine lv_icmp_ne (tgt := 74) hx hb dX12_flying_62 (by decide) (fun c_7 => ?_) (fun c_7 => absurd c_7 (by decide))
    refine lv_aload_n hx hb dX12_flying_74 rfl (lv_at hl 0 rfl) ?_
    refine lv_iload_n hx hb dX12_flying_75 rfl (lv_at hl 1 rfl) ?_
    refine lv_iload_n hx hb dX12_flying_76 rfl (lv_at hl 2 rfl) ?_
    refine cV_i (As := [.int p1, .int p2]) (rest := []) ⟨hx, hb, hml, hown, hg⟩ (k_X12_plainFlies l D cs A bd u b bw  p1 p2 (show 0 ≤ (u 64).toInt by first | omega | decide) (show (u 64).toInt ≤ 23 by first | omega | decide) (show 0 ≤ (u 64).toInt by first | omega | decide) (show (u 64).toInt ≤ 1000 by first | omega | decide)) ca_X12_plainFlies q7_59 ⟨rfl, rfl⟩ ⟨Nat.le_of_ble_eq_true rfl, Nat.le_of_ble_eq_true rfl⟩ (rc_model hK hP) hK hP hD hS hZ rfl hl.1 rfl (Nat.le_of_ble_eq_true rfl) ⟨Nat.zero_le _, Nat.zero_le _⟩ dX12_flying_77 (fun r_8 z_11 H locs wr_8 hP hD hS => ?_)
    obtain ⟨o_u64_9, o_b65_10⟩ := z_11
    have hP : va_P D vwCl (RW cs bd (va_up u 64 o_u64_9) (va_up b 65 o_b65_10) bw) H := hP
    have hD : va_D A (RW cs bd (va_up u 64 o_u64_9) (va_up b 65 o_b65_10) bw) := hD
    obtain ⟨wr_8_0, wr_8_1, wr_8_2, wr_8_3, wr_8_4⟩ : (o_u64_9.toInt = (u 64).toInt + 1) ∧ (o_b65_10 = TRW (b 65) (u 64).toInt.toNat [1]) ∧ (r_8 = (p2 + p1)) ∧ (0 ≤ o_u64_9.toInt) ∧ (o_u64_9.toInt ≤ 1000) := wr_8
    have kt_12 : o_b65_10 = TRW (b 65) (u 64).toInt.toNat [1] := by rw [wr_8_1]
    exact W.iret (v := r_8) hx hb hr (fun tt ht hW => ⟨⟨r_8, ⟨o_u64_9, o_b65_10⟩, rfl, ⟨(by first | rfl | omega | trivial | assumption | (dsimp only; first | omega | assumption)), (by (try dsimp only); first | assumption | rfl), (by simp only [wr_8_2]), (show 0 ≤ o_u64_9.toInt by first | omega | assumption), (show o_u64_9.toInt ≤ 1000 by first | omega | assumption)⟩, by rw [ht]; exact hP, hD⟩, hS.F ht⟩) hS.2.2 dX12_flying_80
  ·
    have kc_3 : r_2.toInt ≠ (0 : Int) := i_ne c_3
    exfalso; omega
set_option maxHeartbeats 4000000 in
set_option maxRecDepth 100000 in
theorem k_X12_plainStings_0 (l : Launch) (D : va_G) (cs : Nat → ClassId) (A : Nat → Prop) (bd : Nat → Nat) (u : Nat → Int32) (b : Nat → Nat → Int32) (bw : Nat → Nat → Int64)  (p1 : Int32) (p2 : Int32) (hkn : (b 63) p1.toNatClampNeg = 0) (h1 : 0 ≤ p1.toInt) (h2 : p1.toInt < 50) (hr0 : 0 ≤ (u 64).toInt) (hr1 : (u 64).toInt ≤ 22) (iu64_0 : 0 ≤ (u 64).toInt) (iu64_1 : (u 64).toInt ≤ 1000) (ib63_0 : AB 0 7 (b 63)) : Met l yX12_plainStings (Cond.code yX12_plainStings cX12_plainStings 3 (some .int) :: gw) ({ frames := 3, cells := 0, slots := 0, locals := 65 }) (va_Pc [.ref (bd 0), .int p1, .int p2] (XPre D (TY cs) (RW cs bd u b bw) A)) (va_Qi (fun (r : Int32) (z : Int32 × (Nat → Int32)) => (z.1.toInt = (u 64).toInt + 2) ∧ (z.2 = TRW (b 65) (u 64).toInt.toNat [10, 1]) ∧ (r = ((p2 + p1) * 2)) ∧ (0 ≤ z.1.toInt) ∧ (z.1.toInt ≤ 1000)) (XPo D (fun (z : Int32 × (Nat → Int32)) => RW cs bd (va_up u 64 z.1) (va_up b 65 z.2) bw) A) A) 0 0 A := by
  refine Met.ofW (cc := cX12_plainStings) (maxL := 3) (ret := (some .int)) (by decide) rfl ?_
  intro p e s m args below meth c s₁ B hml hv
  obtain ⟨rfl, hP, hK, hD, hZ⟩ := hv
  have hx := B.exec
  have hb := B.bytes
  have hr := B.returns
  have hts := atoms_spec (ws := (Cond.code yX12_plainStings cX12_plainStings 3 (some .int) :: gw)) B.pre
  have hg : ∀ w ∈ gw, w.before ([.ref (bd 0), .int p1, .int p2] : List Value).toArray s = true := fun w h => hts w (List.mem_cons_of_mem _ h)
  have hown : s.vm.findClass RX12 = some m.cls := findClass_of_methodNamed B.named
  have hlocks := B.notSynchronized
  have hS : va_S A s.heap s.heap [] := va_S.rf
  have hP : va_P D vwCl (RW cs bd u b bw) s.heap := hP
  have hl := lv_entry ([.ref (bd 0), .int p1, .int p2]) (n := 3) (Nat.le_of_ble_eq_true rfl)
  rw [lg_entry_eq]
  generalize (lg_sl ([.ref (bd 0), .int p1, .int p2]) ++ List.replicate (3 - (lg_sl ([.ref (bd 0), .int p1, .int p2])).length) Slot.unset).toArray = ls at hl ⊢
  have hl : lv_has ls 3 [(0, .ref (bd 0)), (1, .int p1), (2, .int p2)] := hl
  refine lv_aload_n hx hb dX12_plainStings_0 rfl (lv_at hl 0 rfl) ?_
  refine lv_bipush (v := 10) hx hb dX12_plainStings_1 (by decide) ?_
  refine cV_v (As := [.int 10]) (rest := []) ⟨hx, hb, hml, hown, hg⟩ (k_X12_ran l D cs A bd u b bw  10 (show 0 ≤ (u 64).toInt by first | omega | decide) (show (u 64).toInt ≤ 23 by first | omega | decide) (show 0 ≤ (u 64).toInt by first | omega | decide) (show (u 64).toInt ≤ 1000 by first | omega | decide)) ca_X12_ran q7_55 ⟨rfl, rfl⟩ ⟨Nat.le_of_ble_eq_true rfl, Nat.le_of_ble_eq_true rfl⟩ (rc_model hK hP) hK hP hD hS hZ rfl hl.1 rfl (Nat.le_of_ble_eq_true rfl) ⟨Nat.zero_le _, Nat.zero_le _⟩ dX12_plainStings_3 (fun z_4 H locs wr_1 hP hD hS => ?_)
  obtain ⟨o_u64_2, o_b65_3⟩ := z_4
  have hP : va_P D vwCl (RW cs bd (va_up u 64 o_u64_2) (va_up b 65 o_b65_3) bw) H := hP
  have hD : va_D A (RW cs bd (va_up u 64 o_u64_2) (va_up b 65 o_b65_3) bw) := hD
  obtain ⟨wr_1_0, wr_1_1, wr_1_2, wr_1_3⟩ : (o_u64_2.toInt = (u 64).toInt + 1) ∧ (o_b65_3 = TRW (b 65) (u 64).toInt.toNat [(10 : Int32)]) ∧ (0 ≤ o_u64_2.toInt) ∧ (o_u64_2.toInt ≤ 1000) := wr_1
  have kt_5 : o_b65_3 = TRW (b 65) (u 64).toInt.toNat [10] := by rw [wr_1_1]
  refine lv_aload_n hx hb dX12_plainStings_6 rfl (lv_at hl 0 rfl) ?_
  refine lv_iload_n hx hb dX12_plainStings_7 rfl (lv_at hl 1 rfl) ?_
  refine lv_iload_n hx hb dX12_plainStings_8 rfl (lv_at hl 2 rfl) ?_
  refine cV_i (As := [.int p1, .int p2]) (rest := []) ⟨hx, hb, hml, hown, hg⟩ (k_X12_flying_0 l D cs A bd (va_up u 64 o_u64_2) (va_up b 65 o_b65_3) bw  p1 p2 hkn (show 0 ≤ p1.toInt by first | omega | decide) (show p1.toInt < 50 by first | omega | decide) (show 0 ≤ o_u64_2.toInt by first | omega | decide) (show o_u64_2.toInt ≤ 23 by first | omega | decide) ib63_0 (show 0 ≤ o_u64_2.toInt by first | omega | decide) (show o_u64_2.toInt ≤ 1000 by first | omega | decide)) ca_X12_flying q7_48 ⟨rfl, rfl⟩ ⟨Nat.le_of_ble_eq_true rfl, Nat.le_of_ble_eq_true rfl⟩ (rc_model hK hP) hK hP hD hS hZ rfl hl.1 rfl (Nat.le_of_ble_eq_true rfl) ⟨Nat.zero_le _, Nat.zero_le _⟩ dX12_plainStings_9 (fun r_6 z_9 H locs wr_6 hP hD hS => ?_)
  obtain ⟨o_u64_7, o_b65_8⟩ := z_9
  have hP : va_P D vwCl (RW cs bd (va_up u 64 o_u64_7) (va_up b 65 o_b65_8) bw) H := hP
  have hD : va_D A (RW cs bd (va_up u 64 o_u64_7) (va_up b 65 o_b65_8) bw) := hD
  obtain ⟨wr_6_0, wr_6_1, wr_6_2, wr_6_3, wr_6_4⟩ : (o_u64_7.toInt = o_u64_2.toInt + 1) ∧ (o_b65_8 = TRW o_b65_3 o_u64_2.toInt.toNat [1]) ∧ (r_6 = (p2 + p1)) ∧ (0 ≤ o_u64_7.toInt) ∧ (o_u64_7.toInt ≤ 1000) := wr_6
  have kt_10 : o_b65_8 = TRW (b 65) (u 64).toInt.toNat [10, 1] := by rw [wr_6_1, kt_5, show (o_u64_2).toInt.toNat = (u 64).toInt.toNat + 1 from by omega]; rfl
  refine lv_iconst (v := 2) hx hb dX12_plainStings_12 (by decide) ?_
  refine lv_imul hx hb dX12_plainStings_13 ?_
  refine lv_topi (fun x_11 ex_11 => ?_)
  exact W.iret (v := x_11) hx hb hr (fun tt ht hW => ⟨⟨x_11, ⟨o_u64_7, o_b65_8⟩, rfl, ⟨(by first | rfl | omega | trivial | assumption | (dsimp only; first | omega | assumption)), (by (try dsimp only); first | assumption | rfl), (by simp only [ex_11, wr_6_2]), (show 0 ≤ o_u64_7.toInt by first | omega | assumption), (show o_u64_7.toInt ≤ 1000 by first | omega | assumption)⟩, by rw [ht]; exact hP, hD⟩, hS.F ht⟩) hS.2.2 dX12_plainStings_14
set_option maxHeartbeats 4000000 in
set_option maxRecDepth 100000 in
theorem k_X12_brookStings_0 (l : Launch) (D : va_G) (cs : Nat → ClassId) (A : Nat → Prop) (bd : Nat → Nat) (u : Nat → Int32) (b : Nat → Nat → Int32) (bw : Nat → Nat → Int64)  (p1 : Int32) (p2 : Int32) (hkn : (b 63) p1.toNatClampNeg = 0) (h1 : 0 ≤ p1.toInt) (h2 : p1.toInt < 50) (hr0 : 0 ≤ (u 64).toInt) (hr1 : (u 64).toInt ≤ 21) (iu64_0 : 0 ≤ (u 64).toInt) (iu64_1 : (u 64).toInt ≤ 1000) (ib63_0 : AB 0 7 (b 63)) : Met l yX12_brookStings (Cond.code yX12_brookStings cX12_brookStings 3 (some .int) :: gw) ({ frames := 4, cells := 0, slots := 0, locals := 87 }) (va_Pc [.ref (bd 0), .int p1, .int p2] (XPre D (TY cs) (RW cs bd u b bw) A)) (va_Qi (fun (r : Int32) (z : Int32 × (Nat → Int32)) => (z.1.toInt = (u 64).toInt + 3) ∧ (z.2 = TRW (b 65) (u 64).toInt.toNat [30, 10, 1]) ∧ (r = (-((p2 + p1) * 2))) ∧ (0 ≤ z.1.toInt) ∧ (z.1.toInt ≤ 1000)) (XPo D (fun (z : Int32 × (Nat → Int32)) => RW cs bd (va_up u 64 z.1) (va_up b 65 z.2) bw) A) A) 0 0 A := by
  refine Met.ofW (cc := cX12_brookStings) (maxL := 3) (ret := (some .int)) (by decide) rfl ?_
  intro p e s m args below meth c s₁ B hml hv
  obtain ⟨rfl, hP, hK, hD, hZ⟩ := hv
  have hx := B.exec
  have hb := B.bytes
  have hr := B.returns
  have hts := atoms_spec (ws := (Cond.code yX12_brookStings cX12_brookStings 3 (some .int) :: gw)) B.pre
  have hg : ∀ w ∈ gw, w.before ([.ref (bd 0), .int p1, .int p2] : List Value).toArray s = true := fun w h => hts w (List.mem_cons_of_mem _ h)
  have hown : s.vm.findClass RX12 = some m.cls := findClass_of_methodNamed B.named
  have hlocks := B.notSynchronized
  have hS : va_S A s.heap s.heap [] := va_S.rf
  have hP : va_P D vwCl (RW cs bd u b bw) s.heap := hP
  have hl := lv_entry ([.ref (bd 0), .int p1, .int p2]) (n := 3) (Nat.le_of_ble_eq_true rfl)
  rw [lg_entry_eq]
  generalize (lg_sl ([.ref (bd 0), .int p1, .int p2]) ++ List.replicate (3 - (lg_sl ([.ref (bd 0), .int p1, .int p2])).length) Slot.unset).toArray = ls at hl ⊢
  have hl : lv_has ls 3 [(0, .ref (bd 0)), (1, .int p1), (2, .int p2)] := hl
  refine lv_aload_n hx hb dX12_brookStings_0 rfl (lv_at hl 0 rfl) ?_
  refine lv_bipush (v := 30) hx hb dX12_brookStings_1 (by decide) ?_
  refine cV_v (As := [.int 30]) (rest := []) ⟨hx, hb, hml, hown, hg⟩ (k_X12_ran l D cs A bd u b bw  30 (show 0 ≤ (u 64).toInt by first | omega | decide) (show (u 64).toInt ≤ 23 by first | omega | decide) (show 0 ≤ (u 64).toInt by first | omega | decide) (show (u 64).toInt ≤ 1000 by first | omega | decide)) ca_X12_ran q7_55 ⟨rfl, rfl⟩ ⟨Nat.le_of_ble_eq_true rfl, Nat.le_of_ble_eq_true rfl⟩ (rc_model hK hP) hK hP hD hS hZ rfl hl.1 rfl (Nat.le_of_ble_eq_true rfl) ⟨Nat.zero_le _, Nat.zero_le _⟩ dX12_brookStings_3 (fun z_4 H locs wr_1 hP hD hS => ?_)
  obtain ⟨o_u64_2, o_b65_3⟩ := z_4
  have hP : va_P D vwCl (RW cs bd (va_up u 64 o_u64_2) (va_up b 65 o_b65_3) bw) H := hP
  have hD : va_D A (RW cs bd (va_up u 64 o_u64_2) (va_up b 65 o_b65_3) bw) := hD
  obtain ⟨wr_1_0, wr_1_1, wr_1_2, wr_1_3⟩ : (o_u64_2.toInt = (u 64).toInt + 1) ∧ (o_b65_3 = TRW (b 65) (u 64).toInt.toNat [(30 : Int32)]) ∧ (0 ≤ o_u64_2.toInt) ∧ (o_u64_2.toInt ≤ 1000) := wr_1
  have kt_5 : o_b65_3 = TRW (b 65) (u 64).toInt.toNat [30] := by rw [wr_1_1]
  refine lv_aload_n hx hb dX12_brookStings_6 rfl (lv_at hl 0 rfl) ?_
  refine lv_iload_n hx hb dX12_brookStings_7 rfl (lv_at hl 1 rfl) ?_
  refine lv_iload_n hx hb dX12_brookStings_8 rfl (lv_at hl 2 rfl) ?_
  refine cV_i (As := [.int p1, .int p2]) (rest := []) ⟨hx, hb, hml, hown, hg⟩ (k_X12_plainStings_0 l D cs A bd (va_up u 64 o_u64_2) (va_up b 65 o_b65_3) bw  p1 p2 hkn (show 0 ≤ p1.toInt by first | omega | decide) (show p1.toInt < 50 by first | omega | decide) (show 0 ≤ o_u64_2.toInt by first | omega | decide) (show o_u64_2.toInt ≤ 22 by first | omega | decide) (show 0 ≤ o_u64_2.toInt by first | omega | decide) (show o_u64_2.toInt ≤ 1000 by first | omega | decide) ib63_0) ca_X12_plainStings q7_75 ⟨rfl, rfl⟩ ⟨Nat.le_of_ble_eq_true rfl, Nat.le_of_ble_eq_true rfl⟩ (rc_model hK hP) hK hP hD hS hZ rfl hl.1 rfl (Nat.le_of_ble_eq_true rfl) ⟨Nat.zero_le _, Nat.zero_le _⟩ dX12_brookStings_9 (fun r_6 z_9 H locs wr_6 hP hD hS => ?_)
  obtain ⟨o_u64_7, o_b65_8⟩ := z_9
  have hP : va_P D vwCl (RW cs bd (va_up u 64 o_u64_7) (va_up b 65 o_b65_8) bw) H := hP
  have hD : va_D A (RW cs bd (va_up u 64 o_u64_7) (va_up b 65 o_b65_8) bw) := hD
  obtain ⟨wr_6_0, wr_6_1, wr_6_2, wr_6_3, wr_6_4⟩ : (o_u64_7.toInt = o_u64_2.toInt + 2) ∧ (o_b65_8 = TRW o_b65_3 o_u64_2.toInt.toNat [10, 1]) ∧ (r_6 = ((p2 + p1) * 2)) ∧ (0 ≤ o_u64_7.toInt) ∧ (o_u64_7.toInt ≤ 1000) := wr_6
  have kt_10 : o_b65_8 = TRW (b 65) (u 64).toInt.toNat [30, 10, 1] := by rw [wr_6_1, kt_5, show (o_u64_2).toInt.toNat = (u 64).toInt.toNat + 1 from by omega]; rfl
  refine lv_ineg hx hb dX12_brookStings_12 ?_
  refine lv_topi (fun x_11 ex_11 => ?_)
  exact W.iret (v := x_11) hx hb hr (fun tt ht hW => ⟨⟨x_11, ⟨o_u64_7, o_b65_8⟩, rfl, ⟨(by first | rfl | omega | trivial | assumption | (dsimp only; first | omega | assumption)), (by (try dsimp only); first | assumption | rfl), (by simp only [ex_11, wr_6_2]), (show 0 ≤ o_u64_7.toInt by first | omega | assumption), (show o_u64_7.toInt ≤ 1000 by first | omega | assumption)⟩, by rw [ht]; exact hP, hD⟩, hS.F ht⟩) hS.2.2 dX12_brookStings_13
set_option maxHeartbeats 4000000 in
set_option maxRecDepth 100000 in
theorem k_X12_settling_0 (l : Launch) (D : va_G) (cs : Nat → ClassId) (A : Nat → Prop) (bd : Nat → Nat) (u : Nat → Int32) (b : Nat → Nat → Int32) (bw : Nat → Nat → Int64)  (p1 : Int32) (p2 : Int32) (hkn : (b 63) p1.toNatClampNeg = 0) (h1 : 0 ≤ p1.toInt) (h2 : p1.toInt < 50) (hr0 : 0 ≤ (u 64).toInt) (hr1 : (u 64).toInt ≤ 23) (ib63_0 : AB 0 7 (b 63)) (iu64_0 : 0 ≤ (u 64).toInt) (iu64_1 : (u 64).toInt ≤ 1000) : Met l yX12_settling (Cond.code yX12_settling cX12_settling 4 (some .int) :: gw) ({ frames := 2, cells := 0, slots := 0, locals := 43 }) (va_Pc [.ref (bd 0), .int p1, .int p2] (XPre D (TY cs) (RW cs bd u b bw) A)) (va_Qi (fun (r : Int32) (z : Int32 × (Nat → Int32)) => (z.1.toInt = (u 64).toInt + 1) ∧ (z.2 = TRW (b 65) (u 64).toInt.toNat [11]) ∧ (r = (p2 ^^^ p1)) ∧ (0 ≤ z.1.toInt) ∧ (z.1.toInt ≤ 1000)) (XPo D (fun (z : Int32 × (Nat → Int32)) => RW cs bd (va_up u 64 z.1) (va_up b 65 z.2) bw) A) A) 0 0 A := by
  refine Met.ofW (cc := cX12_settling) (maxL := 4) (ret := (some .int)) (by decide) rfl ?_
  intro p e s m args below meth c s₁ B hml hv
  obtain ⟨rfl, hP, hK, hD, hZ⟩ := hv
  have hx := B.exec
  have hb := B.bytes
  have hr := B.returns
  have hts := atoms_spec (ws := (Cond.code yX12_settling cX12_settling 4 (some .int) :: gw)) B.pre
  have hg : ∀ w ∈ gw, w.before ([.ref (bd 0), .int p1, .int p2] : List Value).toArray s = true := fun w h => hts w (List.mem_cons_of_mem _ h)
  have hown : s.vm.findClass RX12 = some m.cls := findClass_of_methodNamed B.named
  have hlocks := B.notSynchronized
  have hS : va_S A s.heap s.heap [] := va_S.rf
  have hP : va_P D vwCl (RW cs bd u b bw) s.heap := hP
  have hl := lv_entry ([.ref (bd 0), .int p1, .int p2]) (n := 4) (Nat.le_of_ble_eq_true rfl)
  rw [lg_entry_eq]
  generalize (lg_sl ([.ref (bd 0), .int p1, .int p2]) ++ List.replicate (4 - (lg_sl ([.ref (bd 0), .int p1, .int p2])).length) Slot.unset).toArray = ls at hl ⊢
  have hl : lv_has ls 4 [(0, .ref (bd 0)), (1, .int p1), (2, .int p2)] := hl
  refine lv_aload_n hx hb dX12_settling_0 rfl (lv_at hl 0 rfl) ?_
  refine gr_kind hx hb hg hown hK hP (hg _ q5_55) dX12_settling_1 ?_
  refine lv_iload_n hx hb dX12_settling_4 rfl (lv_at hl 1 rfl) ?_
  refine lr_kind hx hb hK hP (i_in (by omega) (by omega)) dX12_settling_5 ?_
  refine lv_topi (fun x_1 ex_1 => ?_)
  have ex_1 : x_1 = (b 63) p1.toNatClampNeg := ex_1
  have hx_1 : x_1.toInt = ((b 63) p1.toNatClampNeg).toInt := by rw [ex_1]
  have bx_1 := ib63_0 p1.toNatClampNeg
  rw [← ex_1] at bx_1
  have fx_1 : x_1 = 0 := by rw [ex_1]; exact hkn
  subst fx_1
  refine lv_iconst (v := 5) hx hb dX12_settling_6 (by decide) ?_
  refine lv_icmp_ne (tgt := 32) hx hb dX12_settling_7 (by decide) (fun c_2 => ?_) (fun c_2 => absurd c_2 (by decide))
  refine lv_aload_n hx hb dX12_settling_32 rfl (lv_at hl 0 rfl) ?_
  refine gr_kind hx hb hg hown hK hP (hg _ q5_55) dX12_settling_33 ?_
  refine lv_iload_n hx hb dX12_settling_36 rfl (lv_at hl 1 rfl) ?_
  refine lr_kind hx hb hK hP (i_in (by omega) (by omega)) dX12_settling_37 ?_
  refine lv_topi (fun x_3 ex_3 => ?_)
  have ex_3 : x_3 = (b 63) p1.toNatClampNeg := ex_3
  have hx_3 : x_3.toInt = ((b 63) p1.toNatClampNeg).toInt := by rw [ex_3]
  have bx_3 := ib63_0 p1.toNatClampNeg
  rw [← ex_3] at bx_3
  have fx_3 : x_3 = 0 := by rw [ex_3]; exact hkn
  subst fx_3
  refine lv_iconst (v := 3) hx hb dX12_settling_38 (by decide) ?_
  refine lv_icmp_ne (tgt := 51) hx hb dX12_settling_39 (by decide) (fun c_4 => ?_) (fun c_4 => absurd c_4 (by decide))
  refine lv_aload_n hx hb dX12_settling_51 rfl (lv_at hl 0 rfl) ?_
  refine lv_iload_n hx hb dX12_settling_52 rfl (lv_at hl 1 rfl) ?_
  refine lv_iload_n hx hb dX12_settling_53 rfl (lv_at hl 2 rfl) ?_
  refine cV_i (As := [.int p1, .int p2]) (rest := []) ⟨hx, hb, hml, hown, hg⟩ (k_X12_plainSettles l D cs A bd u b bw  p1 p2 (show 0 ≤ (u 64).toInt by first | omega | decide) (show (u 64).toInt ≤ 23 by first | omega | decide) (show 0 ≤ (u 64).toInt by first | omega | decide) (show (u 64).toInt ≤ 1000 by first | omega | decide)) ca_X12_plainSettles q7_87 ⟨rfl, rfl⟩ ⟨Nat.le_of_ble_eq_true rfl, Nat.le_of_ble_eq_true rfl⟩ (rc_model hK hP) hK hP hD hS hZ rfl hl.1 rfl (Nat.le_of_ble_eq_true rfl) ⟨Nat.zero_le _, Nat.zero_le _⟩ dX12_settling_54 (fun r_5 z_8 H locs wr_5 hP hD hS => ?_)
  obtain ⟨o_u64_6, o_b65_7⟩ := z_8
  have hP : va_P D vwCl (RW cs bd (va_up u 64 o_u64_6) (va_up b 65 o_b65_7) bw) H := hP
  have hD : va_D A (RW cs bd (va_up u 64 o_u64_6) (va_up b 65 o_b65_7) bw) := hD
  obtain ⟨wr_5_0, wr_5_1, wr_5_2, wr_5_3, wr_5_4⟩ : (o_u64_6.toInt = (u 64).toInt + 1) ∧ (o_b65_7 = TRW (b 65) (u 64).toInt.toNat [11]) ∧ (r_5 = (p2 ^^^ p1)) ∧ (0 ≤ o_u64_6.toInt) ∧ (o_u64_6.toInt ≤ 1000) := wr_5
  have kt_9 : o_b65_7 = TRW (b 65) (u 64).toInt.toNat [11] := by rw [wr_5_1]
  exact W.iret (v := r_5) hx hb hr (fun tt ht hW => ⟨⟨r_5, ⟨o_u64_6, o_b65_7⟩, rfl, ⟨(by first | rfl | omega | trivial | assumption | (dsimp only; first | omega | assumption)), (by (try dsimp only); first | assumption | rfl), (by simp only [wr_5_2]), (show 0 ≤ o_u64_6.toInt by first | omega | assumption), (show o_u64_6.toInt ≤ 1000 by first | omega | assumption)⟩, by rw [ht]; exact hP, hD⟩, hS.F ht⟩) hS.2.2 dX12_settling_57
set_option maxHeartbeats 4000000 in
set_option maxRecDepth 100000 in
theorem k_X12_stinging_0 (l : Launch) (D : va_G) (cs : Nat → ClassId) (A : Nat → Prop) (bd : Nat → Nat) (u : Nat → Int32) (b : Nat → Nat → Int32) (bw : Nat → Nat → Int64)  (p1 : Int32) (p2 : Int32) (hkn : (b 63) p1.toNatClampNeg = 0) (h1 : 0 ≤ p1.toInt) (h2 : p1.toInt < 50) (hr0 : 0 ≤ (u 64).toInt) (hr1 : (u 64).toInt ≤ 22) (ib63_0 : AB 0 7 (b 63)) (iu64_0 : 0 ≤ (u 64).toInt) (iu64_1 : (u 64).toInt ≤ 1000) : Met l yX12_stinging (Cond.code yX12_stinging cX12_stinging 4 (some .int) :: gw) ({ frames := 4, cells := 0, slots := 0, locals := 87 }) (va_Pc [.ref (bd 0), .int p1, .int p2] (XPre D (TY cs) (RW cs bd u b bw) A)) (va_Qi (fun (r : Int32) (z : Int32 × (Nat → Int32)) => (z.1.toInt = (u 64).toInt + 2) ∧ (z.2 = TRW (b 65) (u 64).toInt.toNat [10, 1]) ∧ (r = ((p2 + p1) * 2)) ∧ (0 ≤ z.1.toInt) ∧ (z.1.toInt ≤ 1000)) (XPo D (fun (z : Int32 × (Nat → Int32)) => RW cs bd (va_up u 64 z.1) (va_up b 65 z.2) bw) A) A) 0 0 A := by
  refine Met.ofW (cc := cX12_stinging) (maxL := 4) (ret := (some .int)) (by decide) rfl ?_
  intro p e s m args below meth c s₁ B hml hv
  obtain ⟨rfl, hP, hK, hD, hZ⟩ := hv
  have hx := B.exec
  have hb := B.bytes
  have hr := B.returns
  have hts := atoms_spec (ws := (Cond.code yX12_stinging cX12_stinging 4 (some .int) :: gw)) B.pre
  have hg : ∀ w ∈ gw, w.before ([.ref (bd 0), .int p1, .int p2] : List Value).toArray s = true := fun w h => hts w (List.mem_cons_of_mem _ h)
  have hown : s.vm.findClass RX12 = some m.cls := findClass_of_methodNamed B.named
  have hlocks := B.notSynchronized
  have hS : va_S A s.heap s.heap [] := va_S.rf
  have hP : va_P D vwCl (RW cs bd u b bw) s.heap := hP
  have hl := lv_entry ([.ref (bd 0), .int p1, .int p2]) (n := 4) (Nat.le_of_ble_eq_true rfl)
  rw [lg_entry_eq]
  generalize (lg_sl ([.ref (bd 0), .int p1, .int p2]) ++ List.replicate (4 - (lg_sl ([.ref (bd 0), .int p1, .int p2])).length) Slot.unset).toArray = ls at hl ⊢
  have hl : lv_has ls 4 [(0, .ref (bd 0)), (1, .int p1), (2, .int p2)] := hl
  refine lv_aload_n hx hb dX12_stinging_0 rfl (lv_at hl 0 rfl) ?_
  refine gr_kind hx hb hg hown hK hP (hg _ q5_55) dX12_stinging_1 ?_
  refine lv_iload_n hx hb dX12_stinging_4 rfl (lv_at hl 1 rfl) ?_
  refine lr_kind hx hb hK hP (i_in (by omega) (by omega)) dX12_stinging_5 ?_
  refine lv_topi (fun x_1 ex_1 => ?_)
  have ex_1 : x_1 = (b 63) p1.toNatClampNeg := ex_1
  have hx_1 : x_1.toInt = ((b 63) p1.toNatClampNeg).toInt := by rw [ex_1]
  have bx_1 := ib63_0 p1.toNatClampNeg
  rw [← ex_1] at bx_1
  have fx_1 : x_1 = 0 := by rw [ex_1]; exact hkn
  subst fx_1
  refine lv_iconst (v := 3) hx hb dX12_stinging_6 (by decide) ?_
  refine cS_p (As := [.int 0, .int 3]) (rest := []) ⟨hx, hb, hml, hown, hg⟩ (k_RU_0_3 l    ) ca_X12_isUnder q7_52 ⟨rfl, rfl⟩ ⟨Nat.le_of_ble_eq_true rfl, Nat.le_of_ble_eq_true rfl⟩ rfl hl.1 rfl (Nat.le_of_ble_eq_true rfl) ⟨Nat.zero_le _, Nat.zero_le _⟩ dX12_stinging_7 (fun r_2 wr_2 => ?_)
  have wr_2 : r_2.toInt = 0 := wr_2
  refine lv_if_eq (tgt := 28) hx hb dX12_stinging_10 (by decide) (fun c_3 => ?_) (fun c_3 => ?_)
  ·
    have kc_3 : r_2.toInt = (0 : Int) := i_eq c_3
    refine lv_aload_n hx hb dX12_stinging_28 rfl (lv_at hl 0 rfl) ?_
    refine gr_kind hx hb hg hown hK hP (hg _ q5_55) dX12_stinging_29 ?_
    refine lv_iload_n hx hb dX12_stinging_32 rfl (lv_at hl 1 rfl) ?_
    refine lr_kind hx hb hK hP (i_in (by omega) (by omega)) dX12_stinging_33 ?_
    refine lv_topi (fun x_4 ex_4 => ?_)
    have ex_4 : x_4 = (b 63) p1.toNatClampNeg := ex_4
    have hx_4 : x_4.toInt = ((b 63) p1.toNatClampNeg).toInt := by rw [ex_4]
    have bx_4 := ib63_0 p1.toNatClampNeg
    rw [← ex_4] at bx_4
    have fx_4 : x_4 = 0 := by rw [ex_4]; exact hkn
    subst fx_4
    refine lv_bipush (v := 7) hx hb dX12_stinging_34 (by decide) ?_
    refine lv_icmp_ne (tgt := 61) hx hb dX12_stinging_36 (by decide) (fun c_5 => ?_) (fun c_5 => absurd c_5 (by decide))
    refine lv_aload_n hx hb dX12_stinging_61 rfl (lv_at hl 0 rfl) ?_
    refine gr_kind hx hb hg hown hK hP (hg _ q5_55) dX12_stinging_62 ?_
    refine lv_iload_n hx hb dX12_stinging_65 rfl (lv_at hl 1 rfl) ?_
    refine lr_kind hx hb hK hP (i_in (by omega) (by omega)) dX12_stinging_66 ?_
    refine lv_topi (fun x_6 ex_6 => ?_)
    have ex_6 : x_6 = (b 63) p1.toNatClampNeg := ex_6
    have hx_6 : x_6.toInt = ((b 63) p1.toNatClampNeg).toInt := by rw [ex_6]
    have bx_6 := ib63_0 p1.toNatClampNeg
    rw [← ex_6] at bx_6
    have fx_6 : x_6 = 0 := by rw [ex_6]; exact hkn
    subst fx_6
    refine lv_iconst (v := 2) hx hb dX12_stinging_67 (by decide) ?_
    refine lv_icmp_ne (tgt := 80) hx hb dX12_stinging_68 (by decide) (fun c_7 => ?_) (fun c_7 => absurd c_7 (by decide))
    refine lv_aload_n hx hb dX12_stinging_80 rfl (lv_at hl 0 rfl) ?_
    refine lv_iload_n hx hb dX12_stinging_81 rfl (lv_at hl 1 rfl) ?_
    refine lv_iload_n hx hb dX12_stinging_82 rfl (lv_at hl 2 rfl) ?_
    refine cV_i (As := [.int p1, .int p2]) (rest := []) ⟨hx, hb, hml, hown, hg⟩ (k_X12_plainStings_0 l D cs A bd u b bw  p1 p2 hkn (show 0 ≤ p1.toInt by first | omega | decide) (show p1.toInt < 50 by first | omega | decide) (show 0 ≤ (u 64).toInt by first | omega | decide) (show (u 64).toInt ≤ 22 by first | omega | decide) (show 0 ≤ (u 64).toInt by first | omega | decide) (show (u 64).toInt ≤ 1000 by first | omega | decide) ib63_0) ca_X12_plainStings q7_75 ⟨rfl, rfl⟩ ⟨Nat.le_of_ble_eq_true rfl, Nat.le_of_ble_eq_true rfl⟩ (rc_model hK hP) hK hP hD hS hZ rfl hl.1 rfl (Nat.le_of_ble_eq_true rfl) ⟨Nat.zero_le _, Nat.zero_le _⟩ dX12_stinging_83 (fun r_8 z_11 H locs wr_8 hP hD hS => ?_)
    obtain ⟨o_u64_9, o_b65_10⟩ := z_11
    have hP : va_P D vwCl (RW cs bd (va_up u 64 o_u64_9) (va_up b 65 o_b65_10) bw) H := hP
    have hD : va_D A (RW cs bd (va_up u 64 o_u64_9) (va_up b 65 o_b65_10) bw) := hD
    obtain ⟨wr_8_0, wr_8_1, wr_8_2, wr_8_3, wr_8_4⟩ : (o_u64_9.toInt = (u 64).toInt + 2) ∧ (o_b65_10 = TRW (b 65) (u 64).toInt.toNat [10, 1]) ∧ (r_8 = ((p2 + p1) * 2)) ∧ (0 ≤ o_u64_9.toInt) ∧ (o_u64_9.toInt ≤ 1000) := wr_8
    have kt_12 : o_b65_10 = TRW (b 65) (u 64).toInt.toNat [10, 1] := by rw [wr_8_1]
    exact W.iret (v := r_8) hx hb hr (fun tt ht hW => ⟨⟨r_8, ⟨o_u64_9, o_b65_10⟩, rfl, ⟨(by first | rfl | omega | trivial | assumption | (dsimp only; first | omega | assumption)), (by (try dsimp only); first | assumption | rfl), (by simp only [wr_8_2]), (show 0 ≤ o_u64_9.toInt by first | omega | assumption), (show o_u64_9.toInt ≤ 1000 by first | omega | assumption)⟩, by rw [ht]; exact hP, hD⟩, hS.F ht⟩) hS.2.2 dX12_stinging_86
  ·
    have kc_3 : r_2.toInt ≠ (0 : Int) := i_ne c_3
    exfalso; omega
set_option maxHeartbeats 4000000 in
set_option maxRecDepth 100000 in
theorem k_X12_plainTells_0 (l : Launch) (D : va_G) (cs : Nat → ClassId) (A : Nat → Prop) (bd : Nat → Nat) (u : Nat → Int32) (b : Nat → Nat → Int32) (bw : Nat → Nat → Int64)  (p1 : Int32) (p2 : Int32) (hkn : (b 63) p1.toNatClampNeg = 0) (h1 : 0 ≤ p1.toInt) (h2 : p1.toInt < 50) (hr0 : 0 ≤ (u 64).toInt) (hr1 : (u 64).toInt ≤ 20) (iu64_0 : 0 ≤ (u 64).toInt) (iu64_1 : (u 64).toInt ≤ 1000) (ib63_0 : AB 0 7 (b 63)) : Met l yX12_plainTells (Cond.code yX12_plainTells cX12_plainTells 4 (some .int) :: gw) ({ frames := 5, cells := 0, slots := 0, locals := 110 }) (va_Pc [.ref (bd 0), .int p1, .int p2] (XPre D (TY cs) (RW cs bd u b bw) A)) (va_Qi (fun (r : Int32) (z : Int32 × (Nat → Int32)) => (z.1.toInt = (u 64).toInt + 4) ∧ (z.2 = TRW (b 65) (u 64).toInt.toNat [2, 10, 1, 11]) ∧ (r = (((p2 + p1) * 2) - ((1 : Int32) ^^^ p1))) ∧ (0 ≤ z.1.toInt) ∧ (z.1.toInt ≤ 1000)) (XPo D (fun (z : Int32 × (Nat → Int32)) => RW cs bd (va_up u 64 z.1) (va_up b 65 z.2) bw) A) A) 0 0 A := by
  refine Met.ofW (cc := cX12_plainTells) (maxL := 4) (ret := (some .int)) (by decide) rfl ?_
  intro p e s m args below meth c s₁ B hml hv
  obtain ⟨rfl, hP, hK, hD, hZ⟩ := hv
  have hx := B.exec
  have hb := B.bytes
  have hr := B.returns
  have hts := atoms_spec (ws := (Cond.code yX12_plainTells cX12_plainTells 4 (some .int) :: gw)) B.pre
  have hg : ∀ w ∈ gw, w.before ([.ref (bd 0), .int p1, .int p2] : List Value).toArray s = true := fun w h => hts w (List.mem_cons_of_mem _ h)
  have hown : s.vm.findClass RX12 = some m.cls := findClass_of_methodNamed B.named
  have hlocks := B.notSynchronized
  have hS : va_S A s.heap s.heap [] := va_S.rf
  have hP : va_P D vwCl (RW cs bd u b bw) s.heap := hP
  have hl := lv_entry ([.ref (bd 0), .int p1, .int p2]) (n := 4) (Nat.le_of_ble_eq_true rfl)
  rw [lg_entry_eq]
  generalize (lg_sl ([.ref (bd 0), .int p1, .int p2]) ++ List.replicate (4 - (lg_sl ([.ref (bd 0), .int p1, .int p2])).length) Slot.unset).toArray = ls at hl ⊢
  have hl : lv_has ls 4 [(0, .ref (bd 0)), (1, .int p1), (2, .int p2)] := hl
  refine lv_aload_n hx hb dX12_plainTells_0 rfl (lv_at hl 0 rfl) ?_
  refine lv_iconst (v := 2) hx hb dX12_plainTells_1 (by decide) ?_
  refine cV_v (As := [.int 2]) (rest := []) ⟨hx, hb, hml, hown, hg⟩ (k_X12_ran l D cs A bd u b bw  2 (show 0 ≤ (u 64).toInt by first | omega | decide) (show (u 64).toInt ≤ 23 by first | omega | decide) (show 0 ≤ (u 64).toInt by first | omega | decide) (show (u 64).toInt ≤ 1000 by first | omega | decide)) ca_X12_ran q7_55 ⟨rfl, rfl⟩ ⟨Nat.le_of_ble_eq_true rfl, Nat.le_of_ble_eq_true rfl⟩ (rc_model hK hP) hK hP hD hS hZ rfl hl.1 rfl (Nat.le_of_ble_eq_true rfl) ⟨Nat.zero_le _, Nat.zero_le _⟩ dX12_plainTells_2 (fun z_4 H locs wr_1 hP hD hS => ?_)
  obtain ⟨o_u64_2, o_b65_3⟩ := z_4
  have hP : va_P D vwCl (RW cs bd (va_up u 64 o_u64_2) (va_up b 65 o_b65_3) bw) H := hP
  have hD : va_D A (RW cs bd (va_up u 64 o_u64_2) (va_up b 65 o_b65_3) bw) := hD
  obtain ⟨wr_1_0, wr_1_1, wr_1_2, wr_1_3⟩ : (o_u64_2.toInt = (u 64).toInt + 1) ∧ (o_b65_3 = TRW (b 65) (u 64).toInt.toNat [(2 : Int32)]) ∧ (0 ≤ o_u64_2.toInt) ∧ (o_u64_2.toInt ≤ 1000) := wr_1
  have kt_5 : o_b65_3 = TRW (b 65) (u 64).toInt.toNat [2] := by rw [wr_1_1]
  refine lv_aload_n hx hb dX12_plainTells_5 rfl (lv_at hl 0 rfl) ?_
  refine lv_iload_n hx hb dX12_plainTells_6 rfl (lv_at hl 1 rfl) ?_
  refine lv_iload_n hx hb dX12_plainTells_7 rfl (lv_at hl 2 rfl) ?_
  refine cV_i (As := [.int p1, .int p2]) (rest := []) ⟨hx, hb, hml, hown, hg⟩ (k_X12_stinging_0 l D cs A bd (va_up u 64 o_u64_2) (va_up b 65 o_b65_3) bw  p1 p2 hkn (show 0 ≤ p1.toInt by first | omega | decide) (show p1.toInt < 50 by first | omega | decide) (show 0 ≤ o_u64_2.toInt by first | omega | decide) (show o_u64_2.toInt ≤ 22 by first | omega | decide) ib63_0 (show 0 ≤ o_u64_2.toInt by first | omega | decide) (show o_u64_2.toInt ≤ 1000 by first | omega | decide)) ca_X12_stinging q7_67 ⟨rfl, rfl⟩ ⟨Nat.le_of_ble_eq_true rfl, Nat.le_of_ble_eq_true rfl⟩ (rc_model hK hP) hK hP hD hS hZ rfl hl.1 rfl (Nat.le_of_ble_eq_true rfl) ⟨Nat.zero_le _, Nat.zero_le _⟩ dX12_plainTells_8 (fun r_6 z_9 H locs wr_6 hP hD hS => ?_)
  obtain ⟨o_u64_7, o_b65_8⟩ := z_9
  have hP : va_P D vwCl (RW cs bd (va_up u 64 o_u64_7) (va_up b 65 o_b65_8) bw) H := hP
  have hD : va_D A (RW cs bd (va_up u 64 o_u64_7) (va_up b 65 o_b65_8) bw) := hD
  obtain ⟨wr_6_0, wr_6_1, wr_6_2, wr_6_3, wr_6_4⟩ : (o_u64_7.toInt = o_u64_2.toInt + 2) ∧ (o_b65_8 = TRW o_b65_3 o_u64_2.toInt.toNat [10, 1]) ∧ (r_6 = ((p2 + p1) * 2)) ∧ (0 ≤ o_u64_7.toInt) ∧ (o_u64_7.toInt ≤ 1000) := wr_6
  have kt_10 : o_b65_8 = TRW (b 65) (u 64).toInt.toNat [2, 10, 1] := by rw [wr_6_1, kt_5, show (o_u64_2).toInt.toNat = (u 64).toInt.toNat + 1 from by omega]; rfl
  refine lv_istore_n (lv' := [(3, .int r_6), (0, .ref (bd 0)), (1, .int p1), (2, .int p2)]) hx hb dX12_plainTells_11 rfl hl (by decide) rfl (fun ls hl => ?_)
  refine lv_iload_n hx hb dX12_plainTells_12 rfl (lv_at hl 0 rfl) ?_
  refine lv_aload_n hx hb dX12_plainTells_13 rfl (lv_at hl 1 rfl) ?_
  refine lv_iload_n hx hb dX12_plainTells_14 rfl (lv_at hl 2 rfl) ?_
  refine lv_iconst (v := 1) hx hb dX12_plainTells_15 (by decide) ?_
  refine cV_i (As := [.int p1, .int 1]) (rest := [.int r_6]) ⟨hx, hb, hml, hown, hg⟩ (k_X12_settling_0 l D cs A bd (va_up u 64 o_u64_7) (va_up b 65 o_b65_8) bw  p1 1 hkn (show 0 ≤ p1.toInt by first | omega | decide) (show p1.toInt < 50 by first | omega | decide) (show 0 ≤ o_u64_7.toInt by first | omega | decide) (show o_u64_7.toInt ≤ 23 by first | omega | decide) ib63_0 (show 0 ≤ o_u64_7.toInt by first | omega | decide) (show o_u64_7.toInt ≤ 1000 by first | omega | decide)) ca_X12_settling q7_79 ⟨rfl, rfl⟩ ⟨Nat.le_of_ble_eq_true rfl, Nat.le_of_ble_eq_true rfl⟩ (rc_model hK hP) hK hP hD hS hZ rfl hl.1 rfl (Nat.le_of_ble_eq_true rfl) ⟨Nat.zero_le _, Nat.zero_le _⟩ dX12_plainTells_16 (fun r_11 z_14 H locs wr_11 hP hD hS => ?_)
  obtain ⟨o_u64_12, o_b65_13⟩ := z_14
  have hP : va_P D vwCl (RW cs bd (va_up u 64 o_u64_12) (va_up b 65 o_b65_13) bw) H := hP
  have hD : va_D A (RW cs bd (va_up u 64 o_u64_12) (va_up b 65 o_b65_13) bw) := hD
  obtain ⟨wr_11_0, wr_11_1, wr_11_2, wr_11_3, wr_11_4⟩ : (o_u64_12.toInt = o_u64_7.toInt + 1) ∧ (o_b65_13 = TRW o_b65_8 o_u64_7.toInt.toNat [11]) ∧ (r_11 = ((1 : Int32) ^^^ p1)) ∧ (0 ≤ o_u64_12.toInt) ∧ (o_u64_12.toInt ≤ 1000) := wr_11
  have kt_15 : o_b65_13 = TRW (b 65) (u 64).toInt.toNat [2, 10, 1, 11] := by rw [wr_11_1, kt_10, show (o_u64_7).toInt.toNat = (u 64).toInt.toNat + 3 from by omega]; rfl
  refine lv_isub hx hb dX12_plainTells_19 ?_
  refine lv_topi (fun x_16 ex_16 => ?_)
  exact W.iret (v := x_16) hx hb hr (fun tt ht hW => ⟨⟨x_16, ⟨o_u64_12, o_b65_13⟩, rfl, ⟨(by first | rfl | omega | trivial | assumption | (dsimp only; first | omega | assumption)), (by (try dsimp only); first | assumption | rfl), (by simp only [ex_16, wr_11_2, wr_6_2]), (show 0 ≤ o_u64_12.toInt by first | omega | assumption), (show o_u64_12.toInt ≤ 1000 by first | omega | assumption)⟩, by rw [ht]; exact hP, hD⟩, hS.F ht⟩) hS.2.2 dX12_plainTells_20
set_option maxHeartbeats 4000000 in
set_option maxRecDepth 100000 in
theorem k_X12_telling_0 (l : Launch) (D : va_G) (cs : Nat → ClassId) (A : Nat → Prop) (bd : Nat → Nat) (u : Nat → Int32) (b : Nat → Nat → Int32) (bw : Nat → Nat → Int64)  (p1 : Int32) (p2 : Int32) (hkn : (b 63) p1.toNatClampNeg = 0) (h1 : 0 ≤ p1.toInt) (h2 : p1.toInt < 50) (hr0 : 0 ≤ (u 64).toInt) (hr1 : (u 64).toInt ≤ 20) (ib63_0 : AB 0 7 (b 63)) (iu64_0 : 0 ≤ (u 64).toInt) (iu64_1 : (u 64).toInt ≤ 1000) : Met l yX12_telling (Cond.code yX12_telling cX12_telling 3 (some .int) :: gw) ({ frames := 6, cells := 0, slots := 0, locals := 133 }) (va_Pc [.ref (bd 0), .int p1, .int p2] (XPre D (TY cs) (RW cs bd u b bw) A)) (va_Qi (fun (r : Int32) (z : Int32 × (Nat → Int32)) => (z.1.toInt = (u 64).toInt + 4) ∧ (z.2 = TRW (b 65) (u 64).toInt.toNat [2, 10, 1, 11]) ∧ (r = (((p2 + p1) * 2) - ((1 : Int32) ^^^ p1))) ∧ (0 ≤ z.1.toInt) ∧ (z.1.toInt ≤ 1000)) (XPo D (fun (z : Int32 × (Nat → Int32)) => RW cs bd (va_up u 64 z.1) (va_up b 65 z.2) bw) A) A) 0 0 A := by
  refine Met.ofW (cc := cX12_telling) (maxL := 3) (ret := (some .int)) (by decide) rfl ?_
  intro p e s m args below meth c s₁ B hml hv
  obtain ⟨rfl, hP, hK, hD, hZ⟩ := hv
  have hx := B.exec
  have hb := B.bytes
  have hr := B.returns
  have hts := atoms_spec (ws := (Cond.code yX12_telling cX12_telling 3 (some .int) :: gw)) B.pre
  have hg : ∀ w ∈ gw, w.before ([.ref (bd 0), .int p1, .int p2] : List Value).toArray s = true := fun w h => hts w (List.mem_cons_of_mem _ h)
  have hown : s.vm.findClass RX12 = some m.cls := findClass_of_methodNamed B.named
  have hlocks := B.notSynchronized
  have hS : va_S A s.heap s.heap [] := va_S.rf
  have hP : va_P D vwCl (RW cs bd u b bw) s.heap := hP
  have hl := lv_entry ([.ref (bd 0), .int p1, .int p2]) (n := 3) (Nat.le_of_ble_eq_true rfl)
  rw [lg_entry_eq]
  generalize (lg_sl ([.ref (bd 0), .int p1, .int p2]) ++ List.replicate (3 - (lg_sl ([.ref (bd 0), .int p1, .int p2])).length) Slot.unset).toArray = ls at hl ⊢
  have hl : lv_has ls 3 [(0, .ref (bd 0)), (1, .int p1), (2, .int p2)] := hl
  refine lv_aload_n hx hb dX12_telling_0 rfl (lv_at hl 0 rfl) ?_
  refine gr_kind hx hb hg hown hK hP (hg _ q5_55) dX12_telling_1 ?_
  refine lv_iload_n hx hb dX12_telling_4 rfl (lv_at hl 1 rfl) ?_
  refine lr_kind hx hb hK hP (i_in (by omega) (by omega)) dX12_telling_5 ?_
  refine lv_topi (fun x_1 ex_1 => ?_)
  have ex_1 : x_1 = (b 63) p1.toNatClampNeg := ex_1
  have hx_1 : x_1.toInt = ((b 63) p1.toNatClampNeg).toInt := by rw [ex_1]
  have bx_1 := ib63_0 p1.toNatClampNeg
  rw [← ex_1] at bx_1
  have fx_1 : x_1 = 0 := by rw [ex_1]; exact hkn
  subst fx_1
  refine lv_iconst (v := 4) hx hb dX12_telling_6 (by decide) ?_
  refine lv_icmp_ne (tgt := 25) hx hb dX12_telling_7 (by decide) (fun c_2 => ?_) (fun c_2 => absurd c_2 (by decide))
  refine lv_aload_n hx hb dX12_telling_25 rfl (lv_at hl 0 rfl) ?_
  refine gr_kind hx hb hg hown hK hP (hg _ q5_55) dX12_telling_26 ?_
  refine lv_iload_n hx hb dX12_telling_29 rfl (lv_at hl 1 rfl) ?_
  refine lr_kind hx hb hK hP (i_in (by omega) (by omega)) dX12_telling_30 ?_
  refine lv_topi (fun x_3 ex_3 => ?_)
  have ex_3 : x_3 = (b 63) p1.toNatClampNeg := ex_3
  have hx_3 : x_3.toInt = ((b 63) p1.toNatClampNeg).toInt := by rw [ex_3]
  have bx_3 := ib63_0 p1.toNatClampNeg
  rw [← ex_3] at bx_3
  have fx_3 : x_3 = 0 := by rw [ex_3]; exact hkn
  subst fx_3
  refine lv_iconst (v := 5) hx hb dX12_telling_31 (by decide) ?_
  refine lv_icmp_ne (tgt := 50) hx hb dX12_telling_32 (by decide) (fun c_4 => ?_) (fun c_4 => absurd c_4 (by decide))
  refine lv_aload_n hx hb dX12_telling_50 rfl (lv_at hl 0 rfl) ?_
  refine lv_iload_n hx hb dX12_telling_51 rfl (lv_at hl 1 rfl) ?_
  refine lv_iload_n hx hb dX12_telling_52 rfl (lv_at hl 2 rfl) ?_
  refine cV_i (As := [.int p1, .int p2]) (rest := []) ⟨hx, hb, hml, hown, hg⟩ (k_X12_plainTells_0 l D cs A bd u b bw  p1 p2 hkn (show 0 ≤ p1.toInt by first | omega | decide) (show p1.toInt < 50 by first | omega | decide) (show 0 ≤ (u 64).toInt by first | omega | decide) (show (u 64).toInt ≤ 20 by first | omega | decide) (show 0 ≤ (u 64).toInt by first | omega | decide) (show (u 64).toInt ≤ 1000 by first | omega | decide) ib63_0) ca_X12_plainTells q7_95 ⟨rfl, rfl⟩ ⟨Nat.le_of_ble_eq_true rfl, Nat.le_of_ble_eq_true rfl⟩ (rc_model hK hP) hK hP hD hS hZ rfl hl.1 rfl (Nat.le_of_ble_eq_true rfl) ⟨Nat.zero_le _, Nat.zero_le _⟩ dX12_telling_53 (fun r_5 z_8 H locs wr_5 hP hD hS => ?_)
  obtain ⟨o_u64_6, o_b65_7⟩ := z_8
  have hP : va_P D vwCl (RW cs bd (va_up u 64 o_u64_6) (va_up b 65 o_b65_7) bw) H := hP
  have hD : va_D A (RW cs bd (va_up u 64 o_u64_6) (va_up b 65 o_b65_7) bw) := hD
  obtain ⟨wr_5_0, wr_5_1, wr_5_2, wr_5_3, wr_5_4⟩ : (o_u64_6.toInt = (u 64).toInt + 4) ∧ (o_b65_7 = TRW (b 65) (u 64).toInt.toNat [2, 10, 1, 11]) ∧ (r_5 = (((p2 + p1) * 2) - ((1 : Int32) ^^^ p1))) ∧ (0 ≤ o_u64_6.toInt) ∧ (o_u64_6.toInt ≤ 1000) := wr_5
  have kt_9 : o_b65_7 = TRW (b 65) (u 64).toInt.toNat [2, 10, 1, 11] := by rw [wr_5_1]
  exact W.iret (v := r_5) hx hb hr (fun tt ht hW => ⟨⟨r_5, ⟨o_u64_6, o_b65_7⟩, rfl, ⟨(by first | rfl | omega | trivial | assumption | (dsimp only; first | omega | assumption)), (by (try dsimp only); first | assumption | rfl), (by simp only [wr_5_2]), (show 0 ≤ o_u64_6.toInt by first | omega | assumption), (show o_u64_6.toInt ≤ 1000 by first | omega | assumption)⟩, by rw [ht]; exact hP, hD⟩, hS.F ht⟩) hS.2.2 dX12_telling_56
set_option maxHeartbeats 4000000 in
set_option maxRecDepth 100000 in
theorem k_RU_1_1 (l : Launch)     : Met l yX12_isUnder (Cond.code yX12_isUnder cX12_isUnder 2 (some .boolean) :: gw) ({ frames := 0, cells := 0, slots := 0, locals := 0 }) (fun v _ => v = ([.int 1, .int 1] : List Value).toArray) (vp_Si (fun (r : Int32) => r.toInt = 1)) 0 0 (fun _ => False) := by
  refine Met.ofW (cc := cX12_isUnder) (maxL := 2) (ret := (some .boolean)) (by decide) rfl ?_
  intro p e s m args below meth c s₁ B hml hv
  subst hv
  have hx := B.exec
  have hb := B.bytes
  have hr := B.returns
  have hts := atoms_spec (ws := (Cond.code yX12_isUnder cX12_isUnder 2 (some .boolean) :: gw)) B.pre
  have hg : ∀ w ∈ gw, w.before ([.int 1, .int 1] : List Value).toArray s = true := fun w h => hts w (List.mem_cons_of_mem _ h)
  have hown : s.vm.findClass RX12 = some m.cls := findClass_of_methodNamed B.named
  have hlocks := B.notSynchronized
  have hl := lv_entry ([.int 1, .int 1]) (n := 2) (Nat.le_of_ble_eq_true rfl)
  rw [lg_entry_eq]
  generalize (lg_sl ([.int 1, .int 1]) ++ List.replicate (2 - (lg_sl ([.int 1, .int 1])).length) Slot.unset).toArray = ls at hl ⊢
  have hl : lv_has ls 2 [(0, .int 1), (1, .int 1)] := hl
  refine lv_iload_n hx hb dX12_isUnder_0 rfl (lv_at hl 1 rfl) ?_
  refine lv_if_eq (tgt := 56) hx hb dX12_isUnder_1 (by decide) (fun c_1 => absurd c_1 (by decide)) (fun c_1 => ?_)
  refine lv_iload_n hx hb dX12_isUnder_4 rfl (lv_at hl 0 rfl) ?_
  refine lv_iload_n hx hb dX12_isUnder_5 rfl (lv_at hl 1 rfl) ?_
  refine lv_icmp_eq (tgt := 56) hx hb dX12_isUnder_6 (by decide) (fun c_2 => ?_) (fun c_2 => absurd c_2 (by decide))
  refine lv_iconst (v := 1) hx hb dX12_isUnder_56 (by decide) ?_
  refine lv_goto (tgt := 61) hx hb dX12_isUnder_57 (by decide) ?_
  have q0_1 : (1 : Int32).toInt = 1 := rfl
  exact W.zret (v := 1) hx hb hr rfl (fun tt ht hW => ⟨1, rfl, (by first | rfl | omega | trivial | assumption | (dsimp only; first | omega | assumption)), ht⟩) (fun _ h => by cases h) dX12_isUnder_61
set_option maxHeartbeats 4000000 in
set_option maxRecDepth 100000 in
theorem k_RU_1_3 (l : Launch)     : Met l yX12_isUnder (Cond.code yX12_isUnder cX12_isUnder 2 (some .boolean) :: gw) ({ frames := 0, cells := 0, slots := 0, locals := 0 }) (fun v _ => v = ([.int 1, .int 3] : List Value).toArray) (vp_Si (fun (r : Int32) => r.toInt = 0)) 0 0 (fun _ => False) := by
  refine Met.ofW (cc := cX12_isUnder) (maxL := 2) (ret := (some .boolean)) (by decide) rfl ?_
  intro p e s m args below meth c s₁ B hml hv
  subst hv
  have hx := B.exec
  have hb := B.bytes
  have hr := B.returns
  have hts := atoms_spec (ws := (Cond.code yX12_isUnder cX12_isUnder 2 (some .boolean) :: gw)) B.pre
  have hg : ∀ w ∈ gw, w.before ([.int 1, .int 3] : List Value).toArray s = true := fun w h => hts w (List.mem_cons_of_mem _ h)
  have hown : s.vm.findClass RX12 = some m.cls := findClass_of_methodNamed B.named
  have hlocks := B.notSynchronized
  have hl := lv_entry ([.int 1, .int 3]) (n := 2) (Nat.le_of_ble_eq_true rfl)
  rw [lg_entry_eq]
  generalize (lg_sl ([.int 1, .int 3]) ++ List.replicate (2 - (lg_sl ([.int 1, .int 3])).length) Slot.unset).toArray = ls at hl ⊢
  have hl : lv_has ls 2 [(0, .int 1), (1, .int 3)] := hl
  refine lv_iload_n hx hb dX12_isUnder_0 rfl (lv_at hl 1 rfl) ?_
  refine lv_if_eq (tgt := 56) hx hb dX12_isUnder_1 (by decide) (fun c_1 => absurd c_1 (by decide)) (fun c_1 => ?_)
  refine lv_iload_n hx hb dX12_isUnder_4 rfl (lv_at hl 0 rfl) ?_
  refine lv_iload_n hx hb dX12_isUnder_5 rfl (lv_at hl 1 rfl) ?_
  refine lv_icmp_eq (tgt := 56) hx hb dX12_isUnder_6 (by decide) (fun c_2 => absurd c_2 (by decide)) (fun c_2 => ?_)
  refine lv_iload_n hx hb dX12_isUnder_9 rfl (lv_at hl 1 rfl) ?_
  refine lv_iconst (v := 1) hx hb dX12_isUnder_10 (by decide) ?_
  refine lv_icmp_ne (tgt := 19) hx hb dX12_isUnder_11 (by decide) (fun c_3 => ?_) (fun c_3 => absurd c_3 (by decide))
  refine lv_iload_n hx hb dX12_isUnder_19 rfl (lv_at hl 1 rfl) ?_
  refine lv_iconst (v := 2) hx hb dX12_isUnder_20 (by decide) ?_
  refine lv_icmp_ne (tgt := 34) hx hb dX12_isUnder_21 (by decide) (fun c_4 => ?_) (fun c_4 => absurd c_4 (by decide))
  refine lv_iload_n hx hb dX12_isUnder_34 rfl (lv_at hl 1 rfl) ?_
  refine lv_iconst (v := 3) hx hb dX12_isUnder_35 (by decide) ?_
  refine lv_icmp_ne (tgt := 44) hx hb dX12_isUnder_36 (by decide) (fun c_5 => absurd c_5 (by decide)) (fun c_5 => ?_)
  refine lv_iload_n hx hb dX12_isUnder_39 rfl (lv_at hl 0 rfl) ?_
  refine lv_iconst (v := 5) hx hb dX12_isUnder_40 (by decide) ?_
  refine lv_icmp_eq (tgt := 56) hx hb dX12_isUnder_41 (by decide) (fun c_6 => absurd c_6 (by decide)) (fun c_6 => ?_)
  refine lv_iload_n hx hb dX12_isUnder_44 rfl (lv_at hl 1 rfl) ?_
  refine lv_bipush (v := 6) hx hb dX12_isUnder_45 (by decide) ?_
  refine lv_icmp_ne (tgt := 60) hx hb dX12_isUnder_47 (by decide) (fun c_7 => ?_) (fun c_7 => absurd c_7 (by decide))
  refine lv_iconst (v := 0) hx hb dX12_isUnder_60 (by decide) ?_
  have q0_0 : (0 : Int32).toInt = 0 := rfl
  exact W.zret (v := 0) hx hb hr rfl (fun tt ht hW => ⟨0, rfl, (by first | rfl | omega | trivial | assumption | (dsimp only; first | omega | assumption)), ht⟩) (fun _ h => by cases h) dX12_isUnder_61
set_option maxHeartbeats 4000000 in
set_option maxRecDepth 100000 in
theorem k_X12_flying_1 (l : Launch) (D : va_G) (cs : Nat → ClassId) (A : Nat → Prop) (bd : Nat → Nat) (u : Nat → Int32) (b : Nat → Nat → Int32) (bw : Nat → Nat → Int64)  (p1 : Int32) (p2 : Int32) (hkn : (b 63) p1.toNatClampNeg = 1) (h1 : 0 ≤ p1.toInt) (h2 : p1.toInt < 50) (hr0 : 0 ≤ (u 64).toInt) (hr1 : (u 64).toInt ≤ 22) (ib63_0 : AB 0 7 (b 63)) (iu64_0 : 0 ≤ (u 64).toInt) (iu64_1 : (u 64).toInt ≤ 1000) : Met l yX12_flying (Cond.code yX12_flying cX12_flying 3 (some .int) :: gw) ({ frames := 2, cells := 0, slots := 0, locals := 43 }) (va_Pc [.ref (bd 0), .int p1, .int p2] (XPre D (TY cs) (RW cs bd u b bw) A)) (va_Qi (fun (r : Int32) (z : Int32 × (Nat → Int32)) => (z.1.toInt = (u 64).toInt + 2) ∧ (z.2 = TRW (b 65) (u 64).toInt.toNat [20, 1]) ∧ (r = ((p2 + p1) + 3)) ∧ (0 ≤ z.1.toInt) ∧ (z.1.toInt ≤ 1000)) (XPo D (fun (z : Int32 × (Nat → Int32)) => RW cs bd (va_up u 64 z.1) (va_up b 65 z.2) bw) A) A) 0 0 A := by
  refine Met.ofW (cc := cX12_flying) (maxL := 3) (ret := (some .int)) (by decide) rfl ?_
  intro p e s m args below meth c s₁ B hml hv
  obtain ⟨rfl, hP, hK, hD, hZ⟩ := hv
  have hx := B.exec
  have hb := B.bytes
  have hr := B.returns
  have hts := atoms_spec (ws := (Cond.code yX12_flying cX12_flying 3 (some .int) :: gw)) B.pre
  have hg : ∀ w ∈ gw, w.before ([.ref (bd 0), .int p1, .int p2] : List Value).toArray s = true := fun w h => hts w (List.mem_cons_of_mem _ h)
  have hown : s.vm.findClass RX12 = some m.cls := findClass_of_methodNamed B.named
  have hlocks := B.notSynchronized
  have hS : va_S A s.heap s.heap [] := va_S.rf
  have hP : va_P D vwCl (RW cs bd u b bw) s.heap := hP
  have hl := lv_entry ([.ref (bd 0), .int p1, .int p2]) (n := 3) (Nat.le_of_ble_eq_true rfl)
  rw [lg_entry_eq]
  generalize (lg_sl ([.ref (bd 0), .int p1, .int p2]) ++ List.replicate (3 - (lg_sl ([.ref (bd 0), .int p1, .int p2])).length) Slot.unset).toArray = ls at hl ⊢
  have hl : lv_has ls 3 [(0, .ref (bd 0)), (1, .int p1), (2, .int p2)] := hl
  refine lv_aload_n hx hb dX12_flying_0 rfl (lv_at hl 0 rfl) ?_
  refine gr_kind hx hb hg hown hK hP (hg _ q5_55) dX12_flying_1 ?_
  refine lv_iload_n hx hb dX12_flying_4 rfl (lv_at hl 1 rfl) ?_
  refine lr_kind hx hb hK hP (i_in (by omega) (by omega)) dX12_flying_5 ?_
  refine lv_topi (fun x_1 ex_1 => ?_)
  have ex_1 : x_1 = (b 63) p1.toNatClampNeg := ex_1
  have hx_1 : x_1.toInt = ((b 63) p1.toNatClampNeg).toInt := by rw [ex_1]
  have bx_1 := ib63_0 p1.toNatClampNeg
  rw [← ex_1] at bx_1
  have fx_1 : x_1 = 1 := by rw [ex_1]; exact hkn
  subst fx_1
  refine lv_iconst (v := 1) hx hb dX12_flying_6 (by decide) ?_
  refine cS_p (As := [.int 1, .int 1]) (rest := []) ⟨hx, hb, hml, hown, hg⟩ (k_RU_1_1 l    ) ca_X12_isUnder q7_52 ⟨rfl, rfl⟩ ⟨Nat.le_of_ble_eq_true rfl, Nat.le_of_ble_eq_true rfl⟩ rfl hl.1 rfl (Nat.le_of_ble_eq_true rfl) ⟨Nat.zero_le _, Nat.zero_le _⟩ dX12_flying_7 (fun r_2 wr_2 => ?_)
  have wr_2 : r_2.toInt = 1 := wr_2
  refine lv_if_eq (tgt := 28) hx hb dX12_flying_10 (by decide) (fun c_3 => ?_) (fun c_3 => ?_)
  ·
    have kc_3 : r_2.toInt = (0 : Int) := i_eq c_3
    exfalso; omega
  ·
    have kc_3 : r_2.toInt ≠ (0 : Int) := i_ne c_3
    refine lv_aload_n hx hb dX12_flying_13 rfl (lv_at hl 0 rfl) ?_
    refine lv_bipush (v := 20) hx hb dX12_flying_14 (by decide) ?_
    refine cV_v (As := [.int 20]) (rest := []) ⟨hx, hb, hml, hown, hg⟩ (k_X12_ran l D cs A bd u b bw  20 (show 0 ≤ (u 64).toInt by first | omega | decide) (show (u 64).toInt ≤ 23 by first | omega | decide) (show 0 ≤ (u 64).toInt by first | omega | decide) (show (u 64).toInt ≤ 1000 by first | omega | decide)) ca_X12_ran q7_55 ⟨rfl, rfl⟩ ⟨Nat.le_of_ble_eq_true rfl, Nat.le_of_ble_eq_true rfl⟩ (rc_model hK hP) hK hP hD hS hZ rfl hl.1 rfl (Nat.le_of_ble_eq_true rfl) ⟨Nat.zero_le _, Nat.zero_le _⟩ dX12_flying_16 (fun z_7 H locs wr_4 hP hD hS => ?_)
    obtain ⟨o_u64_5, o_b65_6⟩ := z_7
    have hP : va_P D vwCl (RW cs bd (va_up u 64 o_u64_5) (va_up b 65 o_b65_6) bw) H := hP
    have hD : va_D A (RW cs bd (va_up u 64 o_u64_5) (va_up b 65 o_b65_6) bw) := hD
    obtain ⟨wr_4_0, wr_4_1, wr_4_2, wr_4_3⟩ : (o_u64_5.toInt = (u 64).toInt + 1) ∧ (o_b65_6 = TRW (b 65) (u 64).toInt.toNat [(20 : Int32)]) ∧ (0 ≤ o_u64_5.toInt) ∧ (o_u64_5.toInt ≤ 1000) := wr_4
    have kt_8 : o_b65_6 = TRW (b 65) (u 64).toInt.toNat [20] := by rw [wr_4_1]
    refine lv_aload_n hx hb dX12_flying_19 rfl (lv_at hl 0 rfl) ?_
    refine lv_iload_n hx hb dX12_flying_20 rfl (lv_at hl 1 rfl) ?_
    refine lv_iload_n hx hb dX12_flying_21 rfl (lv_at hl 2 rfl) ?_
    refine cV_i (As := [.int p1, .int p2]) (rest := []) ⟨hx, hb, hml, hown, hg⟩ (k_X12_plainFlies l D cs A bd (va_up u 64 o_u64_5) (va_up b 65 o_b65_6) bw  p1 p2 (show 0 ≤ o_u64_5.toInt by first | omega | decide) (show o_u64_5.toInt ≤ 23 by first | omega | decide) (show 0 ≤ o_u64_5.toInt by first | omega | decide) (show o_u64_5.toInt ≤ 1000 by first | omega | decide)) ca_X12_plainFlies q7_59 ⟨rfl, rfl⟩ ⟨Nat.le_of_ble_eq_true rfl, Nat.le_of_ble_eq_true rfl⟩ (rc_model hK hP) hK hP hD hS hZ rfl hl.1 rfl (Nat.le_of_ble_eq_true rfl) ⟨Nat.zero_le _, Nat.zero_le _⟩ dX12_flying_22 (fun r_9 z_12 H locs wr_9 hP hD hS => ?_)
    obtain ⟨o_u64_10, o_b65_11⟩ := z_12
    have hP : va_P D vwCl (RW cs bd (va_up u 64 o_u64_10) (va_up b 65 o_b65_11) bw) H := hP
    have hD : va_D A (RW cs bd (va_up u 64 o_u64_10) (va_up b 65 o_b65_11) bw) := hD
    obtain ⟨wr_9_0, wr_9_1, wr_9_2, wr_9_3, wr_9_4⟩ : (o_u64_10.toInt = o_u64_5.toInt + 1) ∧ (o_b65_11 = TRW o_b65_6 o_u64_5.toInt.toNat [1]) ∧ (r_9 = (p2 + p1)) ∧ (0 ≤ o_u64_10.toInt) ∧ (o_u64_10.toInt ≤ 1000) := wr_9
    have kt_13 : o_b65_11 = TRW (b 65) (u 64).toInt.toNat [20, 1] := by rw [wr_9_1, kt_8, show (o_u64_5).toInt.toNat = (u 64).toInt.toNat + 1 from by omega]; rfl
    refine lv_iconst (v := 3) hx hb dX12_flying_25 (by decide) ?_
    refine lv_iadd hx hb dX12_flying_26 ?_
    refine lv_topi (fun x_14 ex_14 => ?_)
    exact W.iret (v := x_14) hx hb hr (fun tt ht hW => ⟨⟨x_14, ⟨o_u64_10, o_b65_11⟩, rfl, ⟨(by first | rfl | omega | trivial | assumption | (dsimp only; first | omega | assumption)), (by (try dsimp only); first | assumption | rfl), (by simp only [ex_14, wr_9_2]), (show 0 ≤ o_u64_10.toInt by first | omega | assumption), (show o_u64_10.toInt ≤ 1000 by first | omega | assumption)⟩, by rw [ht]; exact hP, hD⟩, hS.F ht⟩) hS.2.2 dX12_flying_27
set_option maxHeartbeats 4000000 in
set_option maxRecDepth 100000 in
theorem k_X12_plainStings_1 (l : Launch) (D : va_G) (cs : Nat → ClassId) (A : Nat → Prop) (bd : Nat → Nat) (u : Nat → Int32) (b : Nat → Nat → Int32) (bw : Nat → Nat → Int64)  (p1 : Int32) (p2 : Int32) (hkn : (b 63) p1.toNatClampNeg = 1) (h1 : 0 ≤ p1.toInt) (h2 : p1.toInt < 50) (hr0 : 0 ≤ (u 64).toInt) (hr1 : (u 64).toInt ≤ 21) (iu64_0 : 0 ≤ (u 64).toInt) (iu64_1 : (u 64).toInt ≤ 1000) (ib63_0 : AB 0 7 (b 63)) : Met l yX12_plainStings (Cond.code yX12_plainStings cX12_plainStings 3 (some .int) :: gw) ({ frames := 3, cells := 0, slots := 0, locals := 65 }) (va_Pc [.ref (bd 0), .int p1, .int p2] (XPre D (TY cs) (RW cs bd u b bw) A)) (va_Qi (fun (r : Int32) (z : Int32 × (Nat → Int32)) => (z.1.toInt = (u 64).toInt + 3) ∧ (z.2 = TRW (b 65) (u 64).toInt.toNat [10, 20, 1]) ∧ (r = (((p2 + p1) + 3) * 2)) ∧ (0 ≤ z.1.toInt) ∧ (z.1.toInt ≤ 1000)) (XPo D (fun (z : Int32 × (Nat → Int32)) => RW cs bd (va_up u 64 z.1) (va_up b 65 z.2) bw) A) A) 0 0 A := by
  refine Met.ofW (cc := cX12_plainStings) (maxL := 3) (ret := (some .int)) (by decide) rfl ?_
  intro p e s m args below meth c s₁ B hml hv
  obtain ⟨rfl, hP, hK, hD, hZ⟩ := hv
  have hx := B.exec
  have hb := B.bytes
  have hr := B.returns
  have hts := atoms_spec (ws := (Cond.code yX12_plainStings cX12_plainStings 3 (some .int) :: gw)) B.pre
  have hg : ∀ w ∈ gw, w.before ([.ref (bd 0), .int p1, .int p2] : List Value).toArray s = true := fun w h => hts w (List.mem_cons_of_mem _ h)
  have hown : s.vm.findClass RX12 = some m.cls := findClass_of_methodNamed B.named
  have hlocks := B.notSynchronized
  have hS : va_S A s.heap s.heap [] := va_S.rf
  have hP : va_P D vwCl (RW cs bd u b bw) s.heap := hP
  have hl := lv_entry ([.ref (bd 0), .int p1, .int p2]) (n := 3) (Nat.le_of_ble_eq_true rfl)
  rw [lg_entry_eq]
  generalize (lg_sl ([.ref (bd 0), .int p1, .int p2]) ++ List.replicate (3 - (lg_sl ([.ref (bd 0), .int p1, .int p2])).length) Slot.unset).toArray = ls at hl ⊢
  have hl : lv_has ls 3 [(0, .ref (bd 0)), (1, .int p1), (2, .int p2)] := hl
  refine lv_aload_n hx hb dX12_plainStings_0 rfl (lv_at hl 0 rfl) ?_
  refine lv_bipush (v := 10) hx hb dX12_plainStings_1 (by decide) ?_
  refine cV_v (As := [.int 10]) (rest := []) ⟨hx, hb, hml, hown, hg⟩ (k_X12_ran l D cs A bd u b bw  10 (show 0 ≤ (u 64).toInt by first | omega | decide) (show (u 64).toInt ≤ 23 by first | omega | decide) (show 0 ≤ (u 64).toInt by first | omega | decide) (show (u 64).toInt ≤ 1000 by first | omega | decide)) ca_X12_ran q7_55 ⟨rfl, rfl⟩ ⟨Nat.le_of_ble_eq_true rfl, Nat.le_of_ble_eq_true rfl⟩ (rc_model hK hP) hK hP hD hS hZ rfl hl.1 rfl (Nat.le_of_ble_eq_true rfl) ⟨Nat.zero_le _, Nat.zero_le _⟩ dX12_plainStings_3 (fun z_4 H locs wr_1 hP hD hS => ?_)
  obtain ⟨o_u64_2, o_b65_3⟩ := z_4
  have hP : va_P D vwCl (RW cs bd (va_up u 64 o_u64_2) (va_up b 65 o_b65_3) bw) H := hP
  have hD : va_D A (RW cs bd (va_up u 64 o_u64_2) (va_up b 65 o_b65_3) bw) := hD
  obtain ⟨wr_1_0, wr_1_1, wr_1_2, wr_1_3⟩ : (o_u64_2.toInt = (u 64).toInt + 1) ∧ (o_b65_3 = TRW (b 65) (u 64).toInt.toNat [(10 : Int32)]) ∧ (0 ≤ o_u64_2.toInt) ∧ (o_u64_2.toInt ≤ 1000) := wr_1
  have kt_5 : o_b65_3 = TRW (b 65) (u 64).toInt.toNat [10] := by rw [wr_1_1]
  refine lv_aload_n hx hb dX12_plainStings_6 rfl (lv_at hl 0 rfl) ?_
  refine lv_iload_n hx hb dX12_plainStings_7 rfl (lv_at hl 1 rfl) ?_
  refine lv_iload_n hx hb dX12_plainStings_8 rfl (lv_at hl 2 rfl) ?_
  refine cV_i (As := [.int p1, .int p2]) (rest := []) ⟨hx, hb, hml, hown, hg⟩ (k_X12_flying_1 l D cs A bd (va_up u 64 o_u64_2) (va_up b 65 o_b65_3) bw  p1 p2 hkn (show 0 ≤ p1.toInt by first | omega | decide) (show p1.toInt < 50 by first | omega | decide) (show 0 ≤ o_u64_2.toInt by first | omega | decide) (show o_u64_2.toInt ≤ 22 by first | omega | decide) ib63_0 (show 0 ≤ o_u64_2.toInt by first | omega | decide) (show o_u64_2.toInt ≤ 1000 by first | omega | decide)) ca_X12_flying q7_48 ⟨rfl, rfl⟩ ⟨Nat.le_of_ble_eq_true rfl, Nat.le_of_ble_eq_true rfl⟩ (rc_model hK hP) hK hP hD hS hZ rfl hl.1 rfl (Nat.le_of_ble_eq_true rfl) ⟨Nat.zero_le _, Nat.zero_le _⟩ dX12_plainStings_9 (fun r_6 z_9 H locs wr_6 hP hD hS => ?_)
  obtain ⟨o_u64_7, o_b65_8⟩ := z_9
  have hP : va_P D vwCl (RW cs bd (va_up u 64 o_u64_7) (va_up b 65 o_b65_8) bw) H := hP
  have hD : va_D A (RW cs bd (va_up u 64 o_u64_7) (va_up b 65 o_b65_8) bw) := hD
  obtain ⟨wr_6_0, wr_6_1, wr_6_2, wr_6_3, wr_6_4⟩ : (o_u64_7.toInt = o_u64_2.toInt + 2) ∧ (o_b65_8 = TRW o_b65_3 o_u64_2.toInt.toNat [20, 1]) ∧ (r_6 = ((p2 + p1) + 3)) ∧ (0 ≤ o_u64_7.toInt) ∧ (o_u64_7.toInt ≤ 1000) := wr_6
  have kt_10 : o_b65_8 = TRW (b 65) (u 64).toInt.toNat [10, 20, 1] := by rw [wr_6_1, kt_5, show (o_u64_2).toInt.toNat = (u 64).toInt.toNat + 1 from by omega]; rfl
  refine lv_iconst (v := 2) hx hb dX12_plainStings_12 (by decide) ?_
  refine lv_imul hx hb dX12_plainStings_13 ?_
  refine lv_topi (fun x_11 ex_11 => ?_)
  exact W.iret (v := x_11) hx hb hr (fun tt ht hW => ⟨⟨x_11, ⟨o_u64_7, o_b65_8⟩, rfl, ⟨(by first | rfl | omega | trivial | assumption | (dsimp only; first | omega | assumption)), (by (try dsimp only); first | assumption | rfl), (by simp only [ex_11, wr_6_2]), (show 0 ≤ o_u64_7.toInt by first | omega | assumption), (show o_u64_7.toInt ≤ 1000 by first | omega | assumption)⟩, by rw [ht]; exact hP, hD⟩, hS.F ht⟩) hS.2.2 dX12_plainStings_14
set_option maxHeartbeats 4000000 in
set_option maxRecDepth 100000 in
theorem k_X12_brookStings_1 (l : Launch) (D : va_G) (cs : Nat → ClassId) (A : Nat → Prop) (bd : Nat → Nat) (u : Nat → Int32) (b : Nat → Nat → Int32) (bw : Nat → Nat → Int64)  (p1 : Int32) (p2 : Int32) (hkn : (b 63) p1.toNatClampNeg = 1) (h1 : 0 ≤ p1.toInt) (h2 : p1.toInt < 50) (hr0 : 0 ≤ (u 64).toInt) (hr1 : (u 64).toInt ≤ 20) (iu64_0 : 0 ≤ (u 64).toInt) (iu64_1 : (u 64).toInt ≤ 1000) (ib63_0 : AB 0 7 (b 63)) : Met l yX12_brookStings (Cond.code yX12_brookStings cX12_brookStings 3 (some .int) :: gw) ({ frames := 4, cells := 0, slots := 0, locals := 87 }) (va_Pc [.ref (bd 0), .int p1, .int p2] (XPre D (TY cs) (RW cs bd u b bw) A)) (va_Qi (fun (r : Int32) (z : Int32 × (Nat → Int32)) => (z.1.toInt = (u 64).toInt + 4) ∧ (z.2 = TRW (b 65) (u 64).toInt.toNat [30, 10, 20, 1]) ∧ (r = (-(((p2 + p1) + 3) * 2))) ∧ (0 ≤ z.1.toInt) ∧ (z.1.toInt ≤ 1000)) (XPo D (fun (z : Int32 × (Nat → Int32)) => RW cs bd (va_up u 64 z.1) (va_up b 65 z.2) bw) A) A) 0 0 A := by
  refine Met.ofW (cc := cX12_brookStings) (maxL := 3) (ret := (some .int)) (by decide) rfl ?_
  intro p e s m args below meth c s₁ B hml hv
  obtain ⟨rfl, hP, hK, hD, hZ⟩ := hv
  have hx := B.exec
  have hb := B.bytes
  have hr := B.returns
  have hts := atoms_spec (ws := (Cond.code yX12_brookStings cX12_brookStings 3 (some .int) :: gw)) B.pre
  have hg : ∀ w ∈ gw, w.before ([.ref (bd 0), .int p1, .int p2] : List Value).toArray s = true := fun w h => hts w (List.mem_cons_of_mem _ h)
  have hown : s.vm.findClass RX12 = some m.cls := findClass_of_methodNamed B.named
  have hlocks := B.notSynchronized
  have hS : va_S A s.heap s.heap [] := va_S.rf
  have hP : va_P D vwCl (RW cs bd u b bw) s.heap := hP
  have hl := lv_entry ([.ref (bd 0), .int p1, .int p2]) (n := 3) (Nat.le_of_ble_eq_true rfl)
  rw [lg_entry_eq]
  generalize (lg_sl ([.ref (bd 0), .int p1, .int p2]) ++ List.replicate (3 - (lg_sl ([.ref (bd 0), .int p1, .int p2])).length) Slot.unset).toArray = ls at hl ⊢
  have hl : lv_has ls 3 [(0, .ref (bd 0)), (1, .int p1), (2, .int p2)] := hl
  refine lv_aload_n hx hb dX12_brookStings_0 rfl (lv_at hl 0 rfl) ?_
  refine lv_bipush (v := 30) hx hb dX12_brookStings_1 (by decide) ?_
  refine cV_v (As := [.int 30]) (rest := []) ⟨hx, hb, hml, hown, hg⟩ (k_X12_ran l D cs A bd u b bw  30 (show 0 ≤ (u 64).toInt by first | omega | decide) (show (u 64).toInt ≤ 23 by first | omega | decide) (show 0 ≤ (u 64).toInt by first | omega | decide) (show (u 64).toInt ≤ 1000 by first | omega | decide)) ca_X12_ran q7_55 ⟨rfl, rfl⟩ ⟨Nat.le_of_ble_eq_true rfl, Nat.le_of_ble_eq_true rfl⟩ (rc_model hK hP) hK hP hD hS hZ rfl hl.1 rfl (Nat.le_of_ble_eq_true rfl) ⟨Nat.zero_le _, Nat.zero_le _⟩ dX12_brookStings_3 (fun z_4 H locs wr_1 hP hD hS => ?_)
  obtain ⟨o_u64_2, o_b65_3⟩ := z_4
  have hP : va_P D vwCl (RW cs bd (va_up u 64 o_u64_2) (va_up b 65 o_b65_3) bw) H := hP
  have hD : va_D A (RW cs bd (va_up u 64 o_u64_2) (va_up b 65 o_b65_3) bw) := hD
  obtain ⟨wr_1_0, wr_1_1, wr_1_2, wr_1_3⟩ : (o_u64_2.toInt = (u 64).toInt + 1) ∧ (o_b65_3 = TRW (b 65) (u 64).toInt.toNat [(30 : Int32)]) ∧ (0 ≤ o_u64_2.toInt) ∧ (o_u64_2.toInt ≤ 1000) := wr_1
  have kt_5 : o_b65_3 = TRW (b 65) (u 64).toInt.toNat [30] := by rw [wr_1_1]
  refine lv_aload_n hx hb dX12_brookStings_6 rfl (lv_at hl 0 rfl) ?_
  refine lv_iload_n hx hb dX12_brookStings_7 rfl (lv_at hl 1 rfl) ?_
  refine lv_iload_n hx hb dX12_brookStings_8 rfl (lv_at hl 2 rfl) ?_
  refine cV_i (As := [.int p1, .int p2]) (rest := []) ⟨hx, hb, hml, hown, hg⟩ (k_X12_plainStings_1 l D cs A bd (va_up u 64 o_u64_2) (va_up b 65 o_b65_3) bw  p1 p2 hkn (show 0 ≤ p1.toInt by first | omega | decide) (show p1.toInt < 50 by first | omega | decide) (show 0 ≤ o_u64_2.toInt by first | omega | decide) (show o_u64_2.toInt ≤ 21 by first | omega | decide) (show 0 ≤ o_u64_2.toInt by first | omega | decide) (show o_u64_2.toInt ≤ 1000 by first | omega | decide) ib63_0) ca_X12_plainStings q7_75 ⟨rfl, rfl⟩ ⟨Nat.le_of_ble_eq_true rfl, Nat.le_of_ble_eq_true rfl⟩ (rc_model hK hP) hK hP hD hS hZ rfl hl.1 rfl (Nat.le_of_ble_eq_true rfl) ⟨Nat.zero_le _, Nat.zero_le _⟩ dX12_brookStings_9 (fun r_6 z_9 H locs wr_6 hP hD hS => ?_)
  obtain ⟨o_u64_7, o_b65_8⟩ := z_9
  have hP : va_P D vwCl (RW cs bd (va_up u 64 o_u64_7) (va_up b 65 o_b65_8) bw) H := hP
  have hD : va_D A (RW cs bd (va_up u 64 o_u64_7) (va_up b 65 o_b65_8) bw) := hD
  obtain ⟨wr_6_0, wr_6_1, wr_6_2, wr_6_3, wr_6_4⟩ : (o_u64_7.toInt = o_u64_2.toInt + 3) ∧ (o_b65_8 = TRW o_b65_3 o_u64_2.toInt.toNat [10, 20, 1]) ∧ (r_6 = (((p2 + p1) + 3) * 2)) ∧ (0 ≤ o_u64_7.toInt) ∧ (o_u64_7.toInt ≤ 1000) := wr_6
  have kt_10 : o_b65_8 = TRW (b 65) (u 64).toInt.toNat [30, 10, 20, 1] := by rw [wr_6_1, kt_5, show (o_u64_2).toInt.toNat = (u 64).toInt.toNat + 1 from by omega]; rfl
  refine lv_ineg hx hb dX12_brookStings_12 ?_
  refine lv_topi (fun x_11 ex_11 => ?_)
  exact W.iret (v := x_11) hx hb hr (fun tt ht hW => ⟨⟨x_11, ⟨o_u64_7, o_b65_8⟩, rfl, ⟨(by first | rfl | omega | trivial | assumption | (dsimp only; first | omega | assumption)), (by (try dsimp only); first | assumption | rfl), (by simp only [ex_11, wr_6_2]), (show 0 ≤ o_u64_7.toInt by first | omega | assumption), (show o_u64_7.toInt ≤ 1000 by first | omega | assumption)⟩, by rw [ht]; exact hP, hD⟩, hS.F ht⟩) hS.2.2 dX12_brookStings_13
set_option maxHeartbeats 4000000 in
set_option maxRecDepth 100000 in
theorem k_X12_settling_1 (l : Launch) (D : va_G) (cs : Nat → ClassId) (A : Nat → Prop) (bd : Nat → Nat) (u : Nat → Int32) (b : Nat → Nat → Int32) (bw : Nat → Nat → Int64)  (p1 : Int32) (p2 : Int32) (hkn : (b 63) p1.toNatClampNeg = 1) (h1 : 0 ≤ p1.toInt) (h2 : p1.toInt < 50) (hr0 : 0 ≤ (u 64).toInt) (hr1 : (u 64).toInt ≤ 23) (ib63_0 : AB 0 7 (b 63)) (iu64_0 : 0 ≤ (u 64).toInt) (iu64_1 : (u 64).toInt ≤ 1000) : Met l yX12_settling (Cond.code yX12_settling cX12_settling 4 (some .int) :: gw) ({ frames := 2, cells := 0, slots := 0, locals := 43 }) (va_Pc [.ref (bd 0), .int p1, .int p2] (XPre D (TY cs) (RW cs bd u b bw) A)) (va_Qi (fun (r : Int32) (z : Int32 × (Nat → Int32)) => (z.1.toInt = (u 64).toInt + 1) ∧ (z.2 = TRW (b 65) (u 64).toInt.toNat [11]) ∧ (r = (p2 ^^^ p1)) ∧ (0 ≤ z.1.toInt) ∧ (z.1.toInt ≤ 1000)) (XPo D (fun (z : Int32 × (Nat → Int32)) => RW cs bd (va_up u 64 z.1) (va_up b 65 z.2) bw) A) A) 0 0 A := by
  refine Met.ofW (cc := cX12_settling) (maxL := 4) (ret := (some .int)) (by decide) rfl ?_
  intro p e s m args below meth c s₁ B hml hv
  obtain ⟨rfl, hP, hK, hD, hZ⟩ := hv
  have hx := B.exec
  have hb := B.bytes
  have hr := B.returns
  have hts := atoms_spec (ws := (Cond.code yX12_settling cX12_settling 4 (some .int) :: gw)) B.pre
  have hg : ∀ w ∈ gw, w.before ([.ref (bd 0), .int p1, .int p2] : List Value).toArray s = true := fun w h => hts w (List.mem_cons_of_mem _ h)
  have hown : s.vm.findClass RX12 = some m.cls := findClass_of_methodNamed B.named
  have hlocks := B.notSynchronized
  have hS : va_S A s.heap s.heap [] := va_S.rf
  have hP : va_P D vwCl (RW cs bd u b bw) s.heap := hP
  have hl := lv_entry ([.ref (bd 0), .int p1, .int p2]) (n := 4) (Nat.le_of_ble_eq_true rfl)
  rw [lg_entry_eq]
  generalize (lg_sl ([.ref (bd 0), .int p1, .int p2]) ++ List.replicate (4 - (lg_sl ([.ref (bd 0), .int p1, .int p2])).length) Slot.unset).toArray = ls at hl ⊢
  have hl : lv_has ls 4 [(0, .ref (bd 0)), (1, .int p1), (2, .int p2)] := hl
  refine lv_aload_n hx hb dX12_settling_0 rfl (lv_at hl 0 rfl) ?_
  refine gr_kind hx hb hg hown hK hP (hg _ q5_55) dX12_settling_1 ?_
  refine lv_iload_n hx hb dX12_settling_4 rfl (lv_at hl 1 rfl) ?_
  refine lr_kind hx hb hK hP (i_in (by omega) (by omega)) dX12_settling_5 ?_
  refine lv_topi (fun x_1 ex_1 => ?_)
  have ex_1 : x_1 = (b 63) p1.toNatClampNeg := ex_1
  have hx_1 : x_1.toInt = ((b 63) p1.toNatClampNeg).toInt := by rw [ex_1]
  have bx_1 := ib63_0 p1.toNatClampNeg
  rw [← ex_1] at bx_1
  have fx_1 : x_1 = 1 := by rw [ex_1]; exact hkn
  subst fx_1
  refine lv_iconst (v := 5) hx hb dX12_settling_6 (by decide) ?_
  refine lv_icmp_ne (tgt := 32) hx hb dX12_settling_7 (by decide) (fun c_2 => ?_) (fun c_2 => absurd c_2 (by decide))
  refine lv_aload_n hx hb dX12_settling_32 rfl (lv_at hl 0 rfl) ?_
  refine gr_kind hx hb hg hown hK hP (hg _ q5_55) dX12_settling_33 ?_
  refine lv_iload_n hx hb dX12_settling_36 rfl (lv_at hl 1 rfl) ?_
  refine lr_kind hx hb hK hP (i_in (by omega) (by omega)) dX12_settling_37 ?_
  refine lv_topi (fun x_3 ex_3 => ?_)
  have ex_3 : x_3 = (b 63) p1.toNatClampNeg := ex_3
  have hx_3 : x_3.toInt = ((b 63) p1.toNatClampNeg).toInt := by rw [ex_3]
  have bx_3 := ib63_0 p1.toNatClampNeg
  rw [← ex_3] at bx_3
  have fx_3 : x_3 = 1 := by rw [ex_3]; exact hkn
  subst fx_3
  refine lv_iconst (v := 3) hx hb dX12_settling_38 (by decide) ?_
  refine lv_icmp_ne (tgt := 51) hx hb dX12_settling_39 (by decide) (fun c_4 => ?_) (fun c_4 => absurd c_4 (by decide))
  refine lv_aload_n hx hb dX12_settling_51 rfl (lv_at hl 0 rfl) ?_
  refine lv_iload_n hx hb dX12_settling_52 rfl (lv_at hl 1 rfl) ?_
  refine lv_iload_n hx hb dX12_settling_53 rfl (lv_at hl 2 rfl) ?_
  refine cV_i (As := [.int p1, .int p2]) (rest := []) ⟨hx, hb, hml, hown, hg⟩ (k_X12_plainSettles l D cs A bd u b bw  p1 p2 (show 0 ≤ (u 64).toInt by first | omega | decide) (show (u 64).toInt ≤ 23 by first | omega | decide) (show 0 ≤ (u 64).toInt by first | omega | decide) (show (u 64).toInt ≤ 1000 by first | omega | decide)) ca_X12_plainSettles q7_87 ⟨rfl, rfl⟩ ⟨Nat.le_of_ble_eq_true rfl, Nat.le_of_ble_eq_true rfl⟩ (rc_model hK hP) hK hP hD hS hZ rfl hl.1 rfl (Nat.le_of_ble_eq_true rfl) ⟨Nat.zero_le _, Nat.zero_le _⟩ dX12_settling_54 (fun r_5 z_8 H locs wr_5 hP hD hS => ?_)
  obtain ⟨o_u64_6, o_b65_7⟩ := z_8
  have hP : va_P D vwCl (RW cs bd (va_up u 64 o_u64_6) (va_up b 65 o_b65_7) bw) H := hP
  have hD : va_D A (RW cs bd (va_up u 64 o_u64_6) (va_up b 65 o_b65_7) bw) := hD
  obtain ⟨wr_5_0, wr_5_1, wr_5_2, wr_5_3, wr_5_4⟩ : (o_u64_6.toInt = (u 64).toInt + 1) ∧ (o_b65_7 = TRW (b 65) (u 64).toInt.toNat [11]) ∧ (r_5 = (p2 ^^^ p1)) ∧ (0 ≤ o_u64_6.toInt) ∧ (o_u64_6.toInt ≤ 1000) := wr_5
  have kt_9 : o_b65_7 = TRW (b 65) (u 64).toInt.toNat [11] := by rw [wr_5_1]
  exact W.iret (v := r_5) hx hb hr (fun tt ht hW => ⟨⟨r_5, ⟨o_u64_6, o_b65_7⟩, rfl, ⟨(by first | rfl | omega | trivial | assumption | (dsimp only; first | omega | assumption)), (by (try dsimp only); first | assumption | rfl), (by simp only [wr_5_2]), (show 0 ≤ o_u64_6.toInt by first | omega | assumption), (show o_u64_6.toInt ≤ 1000 by first | omega | assumption)⟩, by rw [ht]; exact hP, hD⟩, hS.F ht⟩) hS.2.2 dX12_settling_57
set_option maxHeartbeats 4000000 in
set_option maxRecDepth 100000 in
theorem k_X12_stinging_1 (l : Launch) (D : va_G) (cs : Nat → ClassId) (A : Nat → Prop) (bd : Nat → Nat) (u : Nat → Int32) (b : Nat → Nat → Int32) (bw : Nat → Nat → Int64)  (p1 : Int32) (p2 : Int32) (hkn : (b 63) p1.toNatClampNeg = 1) (h1 : 0 ≤ p1.toInt) (h2 : p1.toInt < 50) (hr0 : 0 ≤ (u 64).toInt) (hr1 : (u 64).toInt ≤ 21) (ib63_0 : AB 0 7 (b 63)) (iu64_0 : 0 ≤ (u 64).toInt) (iu64_1 : (u 64).toInt ≤ 1000) : Met l yX12_stinging (Cond.code yX12_stinging cX12_stinging 4 (some .int) :: gw) ({ frames := 4, cells := 0, slots := 0, locals := 87 }) (va_Pc [.ref (bd 0), .int p1, .int p2] (XPre D (TY cs) (RW cs bd u b bw) A)) (va_Qi (fun (r : Int32) (z : Int32 × (Nat → Int32)) => (z.1.toInt = (u 64).toInt + 3) ∧ (z.2 = TRW (b 65) (u 64).toInt.toNat [10, 20, 1]) ∧ (r = (((p2 + p1) + 3) * 2)) ∧ (0 ≤ z.1.toInt) ∧ (z.1.toInt ≤ 1000)) (XPo D (fun (z : Int32 × (Nat → Int32)) => RW cs bd (va_up u 64 z.1) (va_up b 65 z.2) bw) A) A) 0 0 A := by
  refine Met.ofW (cc := cX12_stinging) (maxL := 4) (ret := (some .int)) (by decide) rfl ?_
  intro p e s m args below meth c s₁ B hml hv
  obtain ⟨rfl, hP, hK, hD, hZ⟩ := hv
  have hx := B.exec
  have hb := B.bytes
  have hr := B.returns
  have hts := atoms_spec (ws := (Cond.code yX12_stinging cX12_stinging 4 (some .int) :: gw)) B.pre
  have hg : ∀ w ∈ gw, w.before ([.ref (bd 0), .int p1, .int p2] : List Value).toArray s = true := fun w h => hts w (List.mem_cons_of_mem _ h)
  have hown : s.vm.findClass RX12 = some m.cls := findClass_of_methodNamed B.named
  have hlocks := B.notSynchronized
  have hS : va_S A s.heap s.heap [] := va_S.rf
  have hP : va_P D vwCl (RW cs bd u b bw) s.heap := hP
  have hl := lv_entry ([.ref (bd 0), .int p1, .int p2]) (n := 4) (Nat.le_of_ble_eq_true rfl)
  rw [lg_entry_eq]
  generalize (lg_sl ([.ref (bd 0), .int p1, .int p2]) ++ List.replicate (4 - (lg_sl ([.ref (bd 0), .int p1, .int p2])).length) Slot.unset).toArray = ls at hl ⊢
  have hl : lv_has ls 4 [(0, .ref (bd 0)), (1, .int p1), (2, .int p2)] := hl
  refine lv_aload_n hx hb dX12_stinging_0 rfl (lv_at hl 0 rfl) ?_
  refine gr_kind hx hb hg hown hK hP (hg _ q5_55) dX12_stinging_1 ?_
  refine lv_iload_n hx hb dX12_stinging_4 rfl (lv_at hl 1 rfl) ?_
  refine lr_kind hx hb hK hP (i_in (by omega) (by omega)) dX12_stinging_5 ?_
  refine lv_topi (fun x_1 ex_1 => ?_)
  have ex_1 : x_1 = (b 63) p1.toNatClampNeg := ex_1
  have hx_1 : x_1.toInt = ((b 63) p1.toNatClampNeg).toInt := by rw [ex_1]
  have bx_1 := ib63_0 p1.toNatClampNeg
  rw [← ex_1] at bx_1
  have fx_1 : x_1 = 1 := by rw [ex_1]; exact hkn
  subst fx_1
  refine lv_iconst (v := 3) hx hb dX12_stinging_6 (by decide) ?_
  refine cS_p (As := [.int 1, .int 3]) (rest := []) ⟨hx, hb, hml, hown, hg⟩ (k_RU_1_3 l    ) ca_X12_isUnder q7_52 ⟨rfl, rfl⟩ ⟨Nat.le_of_ble_eq_true rfl, Nat.le_of_ble_eq_true rfl⟩ rfl hl.1 rfl (Nat.le_of_ble_eq_true rfl) ⟨Nat.zero_le _, Nat.zero_le _⟩ dX12_stinging_7 (fun r_2 wr_2 => ?_)
  have wr_2 : r_2.toInt = 0 := wr_2
  refine lv_if_eq (tgt := 28) hx hb dX12_stinging_10 (by decide) (fun c_3 => ?_) (fun c_3 => ?_)
  ·
    have kc_3 : r_2.toInt = (0 : Int) := i_eq c_3
    refine lv_aload_n hx hb dX12_stinging_28 rfl (lv_at hl 0 rfl) ?_
    refine gr_kind hx hb hg hown hK hP (hg _ q5_55) dX12_stinging_29 ?_
    refine lv_iload_n hx hb dX12_stinging_32 rfl (lv_at hl 1 rfl) ?_
    refine lr_kind hx hb hK hP (i_in (by omega) (by omega)) dX12_stinging_33 ?_
    refine lv_topi (fun x_4 ex_4 => ?_)
    have ex_4 : x_4 = (b 63) p1.toNatClampNeg := ex_4
    have hx_4 : x_4.toInt = ((b 63) p1.toNatClampNeg).toInt := by rw [ex_4]
    have bx_4 := ib63_0 p1.toNatClampNeg
    rw [← ex_4] at bx_4
    have fx_4 : x_4 = 1 := by rw [ex_4]; exact hkn
    subst fx_4
    refine lv_bipush (v := 7) hx hb dX12_stinging_34 (by decide) ?_
    refine lv_icmp_ne (tgt := 61) hx hb dX12_stinging_36 (by decide) (fun c_5 => ?_) (fun c_5 => absurd c_5 (by decide))
    refine lv_aload_n hx hb dX12_stinging_61 rfl (lv_at hl 0 rfl) ?_
    refine gr_kind hx hb hg hown hK hP (hg _ q5_55) dX12_stinging_62 ?_
    refine lv_iload_n hx hb dX12_stinging_65 rfl (lv_at hl 1 rfl) ?_
    refine lr_kind hx hb hK hP (i_in (by omega) (by omega)) dX12_stinging_66 ?_
    refine lv_topi (fun x_6 ex_6 => ?_)
    have ex_6 : x_6 = (b 63) p1.toNatClampNeg := ex_6
    have hx_6 : x_6.toInt = ((b 63) p1.toNatClampNeg).toInt := by rw [ex_6]
    have bx_6 := ib63_0 p1.toNatClampNeg
    rw [← ex_6] at bx_6
    have fx_6 : x_6 = 1 := by rw [ex_6]; exact hkn
    subst fx_6
    refine lv_iconst (v := 2) hx hb dX12_stinging_67 (by decide) ?_
    refine lv_icmp_ne (tgt := 80) hx hb dX12_stinging_68 (by decide) (fun c_7 => ?_) (fun c_7 => absurd c_7 (by decide))
    refine lv_aload_n hx hb dX12_stinging_80 rfl (lv_at hl 0 rfl) ?_
    refine lv_iload_n hx hb dX12_stinging_81 rfl (lv_at hl 1 rfl) ?_
    refine lv_iload_n hx hb dX12_stinging_82 rfl (lv_at hl 2 rfl) ?_
    refine cV_i (As := [.int p1, .int p2]) (rest := []) ⟨hx, hb, hml, hown, hg⟩ (k_X12_plainStings_1 l D cs A bd u b bw  p1 p2 hkn (show 0 ≤ p1.toInt by first | omega | decide) (show p1.toInt < 50 by first | omega | decide) (show 0 ≤ (u 64).toInt by first | omega | decide) (show (u 64).toInt ≤ 21 by first | omega | decide) (show 0 ≤ (u 64).toInt by first | omega | decide) (show (u 64).toInt ≤ 1000 by first | omega | decide) ib63_0) ca_X12_plainStings q7_75 ⟨rfl, rfl⟩ ⟨Nat.le_of_ble_eq_true rfl, Nat.le_of_ble_eq_true rfl⟩ (rc_model hK hP) hK hP hD hS hZ rfl hl.1 rfl (Nat.le_of_ble_eq_true rfl) ⟨Nat.zero_le _, Nat.zero_le _⟩ dX12_stinging_83 (fun r_8 z_11 H locs wr_8 hP hD hS => ?_)
    obtain ⟨o_u64_9, o_b65_10⟩ := z_11
    have hP : va_P D vwCl (RW cs bd (va_up u 64 o_u64_9) (va_up b 65 o_b65_10) bw) H := hP
    have hD : va_D A (RW cs bd (va_up u 64 o_u64_9) (va_up b 65 o_b65_10) bw) := hD
    obtain ⟨wr_8_0, wr_8_1, wr_8_2, wr_8_3, wr_8_4⟩ : (o_u64_9.toInt = (u 64).toInt + 3) ∧ (o_b65_10 = TRW (b 65) (u 64).toInt.toNat [10, 20, 1]) ∧ (r_8 = (((p2 + p1) + 3) * 2)) ∧ (0 ≤ o_u64_9.toInt) ∧ (o_u64_9.toInt ≤ 1000) := wr_8
    have kt_12 : o_b65_10 = TRW (b 65) (u 64).toInt.toNat [10, 20, 1] := by rw [wr_8_1]
    exact W.iret (v := r_8) hx hb hr (fun tt ht hW => ⟨⟨r_8, ⟨o_u64_9, o_b65_10⟩, rfl, ⟨(by first | rfl | omega | trivial | assumption | (dsimp only; first | omega | assumption)), (by (try dsimp only); first | assumption | rfl), (by simp only [wr_8_2]), (show 0 ≤ o_u64_9.toInt by first | omega | assumption), (show o_u64_9.toInt ≤ 1000 by first | omega | assumption)⟩, by rw [ht]; exact hP, hD⟩, hS.F ht⟩) hS.2.2 dX12_stinging_86
  ·
    have kc_3 : r_2.toInt ≠ (0 : Int) := i_ne c_3
    exfalso; omega
set_option maxHeartbeats 4000000 in
set_option maxRecDepth 100000 in
theorem k_X12_plainTells_1 (l : Launch) (D : va_G) (cs : Nat → ClassId) (A : Nat → Prop) (bd : Nat → Nat) (u : Nat → Int32) (b : Nat → Nat → Int32) (bw : Nat → Nat → Int64)  (p1 : Int32) (p2 : Int32) (hkn : (b 63) p1.toNatClampNeg = 1) (h1 : 0 ≤ p1.toInt) (h2 : p1.toInt < 50) (hr0 : 0 ≤ (u 64).toInt) (hr1 : (u 64).toInt ≤ 19) (iu64_0 : 0 ≤ (u 64).toInt) (iu64_1 : (u 64).toInt ≤ 1000) (ib63_0 : AB 0 7 (b 63)) : Met l yX12_plainTells (Cond.code yX12_plainTells cX12_plainTells 4 (some .int) :: gw) ({ frames := 5, cells := 0, slots := 0, locals := 110 }) (va_Pc [.ref (bd 0), .int p1, .int p2] (XPre D (TY cs) (RW cs bd u b bw) A)) (va_Qi (fun (r : Int32) (z : Int32 × (Nat → Int32)) => (z.1.toInt = (u 64).toInt + 5) ∧ (z.2 = TRW (b 65) (u 64).toInt.toNat [2, 10, 20, 1, 11]) ∧ (r = ((((p2 + p1) + 3) * 2) - ((1 : Int32) ^^^ p1))) ∧ (0 ≤ z.1.toInt) ∧ (z.1.toInt ≤ 1000)) (XPo D (fun (z : Int32 × (Nat → Int32)) => RW cs bd (va_up u 64 z.1) (va_up b 65 z.2) bw) A) A) 0 0 A := by
  refine Met.ofW (cc := cX12_plainTells) (maxL := 4) (ret := (some .int)) (by decide) rfl ?_
  intro p e s m args below meth c s₁ B hml hv
  obtain ⟨rfl, hP, hK, hD, hZ⟩ := hv
  have hx := B.exec
  have hb := B.bytes
  have hr := B.returns
  have hts := atoms_spec (ws := (Cond.code yX12_plainTells cX12_plainTells 4 (some .int) :: gw)) B.pre
  have hg : ∀ w ∈ gw, w.before ([.ref (bd 0), .int p1, .int p2] : List Value).toArray s = true := fun w h => hts w (List.mem_cons_of_mem _ h)
  have hown : s.vm.findClass RX12 = some m.cls := findClass_of_methodNamed B.named
  have hlocks := B.notSynchronized
  have hS : va_S A s.heap s.heap [] := va_S.rf
  have hP : va_P D vwCl (RW cs bd u b bw) s.heap := hP
  have hl := lv_entry ([.ref (bd 0), .int p1, .int p2]) (n := 4) (Nat.le_of_ble_eq_true rfl)
  rw [lg_entry_eq]
  generalize (lg_sl ([.ref (bd 0), .int p1, .int p2]) ++ List.replicate (4 - (lg_sl ([.ref (bd 0), .int p1, .int p2])).length) Slot.unset).toArray = ls at hl ⊢
  have hl : lv_has ls 4 [(0, .ref (bd 0)), (1, .int p1), (2, .int p2)] := hl
  refine lv_aload_n hx hb dX12_plainTells_0 rfl (lv_at hl 0 rfl) ?_
  refine lv_iconst (v := 2) hx hb dX12_plainTells_1 (by decide) ?_
  refine cV_v (As := [.int 2]) (rest := []) ⟨hx, hb, hml, hown, hg⟩ (k_X12_ran l D cs A bd u b bw  2 (show 0 ≤ (u 64).toInt by first | omega | decide) (show (u 64).toInt ≤ 23 by first | omega | decide) (show 0 ≤ (u 64).toInt by first | omega | decide) (show (u 64).toInt ≤ 1000 by first | omega | decide)) ca_X12_ran q7_55 ⟨rfl, rfl⟩ ⟨Nat.le_of_ble_eq_true rfl, Nat.le_of_ble_eq_true rfl⟩ (rc_model hK hP) hK hP hD hS hZ rfl hl.1 rfl (Nat.le_of_ble_eq_true rfl) ⟨Nat.zero_le _, Nat.zero_le _⟩ dX12_plainTells_2 (fun z_4 H locs wr_1 hP hD hS => ?_)
  obtain ⟨o_u64_2, o_b65_3⟩ := z_4
  have hP : va_P D vwCl (RW cs bd (va_up u 64 o_u64_2) (va_up b 65 o_b65_3) bw) H := hP
  have hD : va_D A (RW cs bd (va_up u 64 o_u64_2) (va_up b 65 o_b65_3) bw) := hD
  obtain ⟨wr_1_0, wr_1_1, wr_1_2, wr_1_3⟩ : (o_u64_2.toInt = (u 64).toInt + 1) ∧ (o_b65_3 = TRW (b 65) (u 64).toInt.toNat [(2 : Int32)]) ∧ (0 ≤ o_u64_2.toInt) ∧ (o_u64_2.toInt ≤ 1000) := wr_1
  have kt_5 : o_b65_3 = TRW (b 65) (u 64).toInt.toNat [2] := by rw [wr_1_1]
  refine lv_aload_n hx hb dX12_plainTells_5 rfl (lv_at hl 0 rfl) ?_
  refine lv_iload_n hx hb dX12_plainTells_6 rfl (lv_at hl 1 rfl) ?_
  refine lv_iload_n hx hb dX12_plainTells_7 rfl (lv_at hl 2 rfl) ?_
  refine cV_i (As := [.int p1, .int p2]) (rest := []) ⟨hx, hb, hml, hown, hg⟩ (k_X12_stinging_1 l D cs A bd (va_up u 64 o_u64_2) (va_up b 65 o_b65_3) bw  p1 p2 hkn (show 0 ≤ p1.toInt by first | omega | decide) (show p1.toInt < 50 by first | omega | decide) (show 0 ≤ o_u64_2.toInt by first | omega | decide) (show o_u64_2.toInt ≤ 21 by first | omega | decide) ib63_0 (show 0 ≤ o_u64_2.toInt by first | omega | decide) (show o_u64_2.toInt ≤ 1000 by first | omega | decide)) ca_X12_stinging q7_67 ⟨rfl, rfl⟩ ⟨Nat.le_of_ble_eq_true rfl, Nat.le_of_ble_eq_true rfl⟩ (rc_model hK hP) hK hP hD hS hZ rfl hl.1 rfl (Nat.le_of_ble_eq_true rfl) ⟨Nat.zero_le _, Nat.zero_le _⟩ dX12_plainTells_8 (fun r_6 z_9 H locs wr_6 hP hD hS => ?_)
  obtain ⟨o_u64_7, o_b65_8⟩ := z_9
  have hP : va_P D vwCl (RW cs bd (va_up u 64 o_u64_7) (va_up b 65 o_b65_8) bw) H := hP
  have hD : va_D A (RW cs bd (va_up u 64 o_u64_7) (va_up b 65 o_b65_8) bw) := hD
  obtain ⟨wr_6_0, wr_6_1, wr_6_2, wr_6_3, wr_6_4⟩ : (o_u64_7.toInt = o_u64_2.toInt + 3) ∧ (o_b65_8 = TRW o_b65_3 o_u64_2.toInt.toNat [10, 20, 1]) ∧ (r_6 = (((p2 + p1) + 3) * 2)) ∧ (0 ≤ o_u64_7.toInt) ∧ (o_u64_7.toInt ≤ 1000) := wr_6
  have kt_10 : o_b65_8 = TRW (b 65) (u 64).toInt.toNat [2, 10, 20, 1] := by rw [wr_6_1, kt_5, show (o_u64_2).toInt.toNat = (u 64).toInt.toNat + 1 from by omega]; rfl
  refine lv_istore_n (lv' := [(3, .int r_6), (0, .ref (bd 0)), (1, .int p1), (2, .int p2)]) hx hb dX12_plainTells_11 rfl hl (by decide) rfl (fun ls hl => ?_)
  refine lv_iload_n hx hb dX12_plainTells_12 rfl (lv_at hl 0 rfl) ?_
  refine lv_aload_n hx hb dX12_plainTells_13 rfl (lv_at hl 1 rfl) ?_
  refine lv_iload_n hx hb dX12_plainTells_14 rfl (lv_at hl 2 rfl) ?_
  refine lv_iconst (v := 1) hx hb dX12_plainTells_15 (by decide) ?_
  refine cV_i (As := [.int p1, .int 1]) (rest := [.int r_6]) ⟨hx, hb, hml, hown, hg⟩ (k_X12_settling_1 l D cs A bd (va_up u 64 o_u64_7) (va_up b 65 o_b65_8) bw  p1 1 hkn (show 0 ≤ p1.toInt by first | omega | decide) (show p1.toInt < 50 by first | omega | decide) (show 0 ≤ o_u64_7.toInt by first | omega | decide) (show o_u64_7.toInt ≤ 23 by first | omega | decide) ib63_0 (show 0 ≤ o_u64_7.toInt by first | omega | decide) (show o_u64_7.toInt ≤ 1000 by first | omega | decide)) ca_X12_settling q7_79 ⟨rfl, rfl⟩ ⟨Nat.le_of_ble_eq_true rfl, Nat.le_of_ble_eq_true rfl⟩ (rc_model hK hP) hK hP hD hS hZ rfl hl.1 rfl (Nat.le_of_ble_eq_true rfl) ⟨Nat.zero_le _, Nat.zero_le _⟩ dX12_plainTells_16 (fun r_11 z_14 H locs wr_11 hP hD hS => ?_)
  obtain ⟨o_u64_12, o_b65_13⟩ := z_14
  have hP : va_P D vwCl (RW cs bd (va_up u 64 o_u64_12) (va_up b 65 o_b65_13) bw) H := hP
  have hD : va_D A (RW cs bd (va_up u 64 o_u64_12) (va_up b 65 o_b65_13) bw) := hD
  obtain ⟨wr_11_0, wr_11_1, wr_11_2, wr_11_3, wr_11_4⟩ : (o_u64_12.toInt = o_u64_7.toInt + 1) ∧ (o_b65_13 = TRW o_b65_8 o_u64_7.toInt.toNat [11]) ∧ (r_11 = ((1 : Int32) ^^^ p1)) ∧ (0 ≤ o_u64_12.toInt) ∧ (o_u64_12.toInt ≤ 1000) := wr_11
  have kt_15 : o_b65_13 = TRW (b 65) (u 64).toInt.toNat [2, 10, 20, 1, 11] := by rw [wr_11_1, kt_10, show (o_u64_7).toInt.toNat = (u 64).toInt.toNat + 4 from by omega]; rfl
  refine lv_isub hx hb dX12_plainTells_19 ?_
  refine lv_topi (fun x_16 ex_16 => ?_)
  exact W.iret (v := x_16) hx hb hr (fun tt ht hW => ⟨⟨x_16, ⟨o_u64_12, o_b65_13⟩, rfl, ⟨(by first | rfl | omega | trivial | assumption | (dsimp only; first | omega | assumption)), (by (try dsimp only); first | assumption | rfl), (by simp only [ex_16, wr_11_2, wr_6_2]), (show 0 ≤ o_u64_12.toInt by first | omega | assumption), (show o_u64_12.toInt ≤ 1000 by first | omega | assumption)⟩, by rw [ht]; exact hP, hD⟩, hS.F ht⟩) hS.2.2 dX12_plainTells_20
set_option maxHeartbeats 4000000 in
set_option maxRecDepth 100000 in
theorem k_X12_telling_1 (l : Launch) (D : va_G) (cs : Nat → ClassId) (A : Nat → Prop) (bd : Nat → Nat) (u : Nat → Int32) (b : Nat → Nat → Int32) (bw : Nat → Nat → Int64)  (p1 : Int32) (p2 : Int32) (hkn : (b 63) p1.toNatClampNeg = 1) (h1 : 0 ≤ p1.toInt) (h2 : p1.toInt < 50) (hr0 : 0 ≤ (u 64).toInt) (hr1 : (u 64).toInt ≤ 19) (ib63_0 : AB 0 7 (b 63)) (iu64_0 : 0 ≤ (u 64).toInt) (iu64_1 : (u 64).toInt ≤ 1000) : Met l yX12_telling (Cond.code yX12_telling cX12_telling 3 (some .int) :: gw) ({ frames := 6, cells := 0, slots := 0, locals := 133 }) (va_Pc [.ref (bd 0), .int p1, .int p2] (XPre D (TY cs) (RW cs bd u b bw) A)) (va_Qi (fun (r : Int32) (z : Int32 × (Nat → Int32)) => (z.1.toInt = (u 64).toInt + 5) ∧ (z.2 = TRW (b 65) (u 64).toInt.toNat [2, 10, 20, 1, 11]) ∧ (r = ((((p2 + p1) + 3) * 2) - ((1 : Int32) ^^^ p1))) ∧ (0 ≤ z.1.toInt) ∧ (z.1.toInt ≤ 1000)) (XPo D (fun (z : Int32 × (Nat → Int32)) => RW cs bd (va_up u 64 z.1) (va_up b 65 z.2) bw) A) A) 0 0 A := by
  refine Met.ofW (cc := cX12_telling) (maxL := 3) (ret := (some .int)) (by decide) rfl ?_
  intro p e s m args below meth c s₁ B hml hv
  obtain ⟨rfl, hP, hK, hD, hZ⟩ := hv
  have hx := B.exec
  have hb := B.bytes
  have hr := B.returns
  have hts := atoms_spec (ws := (Cond.code yX12_telling cX12_telling 3 (some .int) :: gw)) B.pre
  have hg : ∀ w ∈ gw, w.before ([.ref (bd 0), .int p1, .int p2] : List Value).toArray s = true := fun w h => hts w (List.mem_cons_of_mem _ h)
  have hown : s.vm.findClass RX12 = some m.cls := findClass_of_methodNamed B.named
  have hlocks := B.notSynchronized
  have hS : va_S A s.heap s.heap [] := va_S.rf
  have hP : va_P D vwCl (RW cs bd u b bw) s.heap := hP
  have hl := lv_entry ([.ref (bd 0), .int p1, .int p2]) (n := 3) (Nat.le_of_ble_eq_true rfl)
  rw [lg_entry_eq]
  generalize (lg_sl ([.ref (bd 0), .int p1, .int p2]) ++ List.replicate (3 - (lg_sl ([.ref (bd 0), .int p1, .int p2])).length) Slot.unset).toArray = ls at hl ⊢
  have hl : lv_has ls 3 [(0, .ref (bd 0)), (1, .int p1), (2, .int p2)] := hl
  refine lv_aload_n hx hb dX12_telling_0 rfl (lv_at hl 0 rfl) ?_
  refine gr_kind hx hb hg hown hK hP (hg _ q5_55) dX12_telling_1 ?_
  refine lv_iload_n hx hb dX12_telling_4 rfl (lv_at hl 1 rfl) ?_
  refine lr_kind hx hb hK hP (i_in (by omega) (by omega)) dX12_telling_5 ?_
  refine lv_topi (fun x_1 ex_1 => ?_)
  have ex_1 : x_1 = (b 63) p1.toNatClampNeg := ex_1
  have hx_1 : x_1.toInt = ((b 63) p1.toNatClampNeg).toInt := by rw [ex_1]
  have bx_1 := ib63_0 p1.toNatClampNeg
  rw [← ex_1] at bx_1
  have fx_1 : x_1 = 1 := by rw [ex_1]; exact hkn
  subst fx_1
  refine lv_iconst (v := 4) hx hb dX12_telling_6 (by decide) ?_
  refine lv_icmp_ne (tgt := 25) hx hb dX12_telling_7 (by decide) (fun c_2 => ?_) (fun c_2 => absurd c_2 (by decide))
  refine lv_aload_n hx hb dX12_telling_25 rfl (lv_at hl 0 rfl) ?_
  refine gr_kind hx hb hg hown hK hP (hg _ q5_55) dX12_telling_26 ?_
  refine lv_iload_n hx hb dX12_telling_29 rfl (lv_at hl 1 rfl) ?_
  refine lr_kind hx hb hK hP (i_in (by omega) (by omega)) dX12_telling_30 ?_
  refine lv_topi (fun x_3 ex_3 => ?_)
  have ex_3 : x_3 = (b 63) p1.toNatClampNeg := ex_3
  have hx_3 : x_3.toInt = ((b 63) p1.toNatClampNeg).toInt := by rw [ex_3]
  have bx_3 := ib63_0 p1.toNatClampNeg
  rw [← ex_3] at bx_3
  have fx_3 : x_3 = 1 := by rw [ex_3]; exact hkn
  subst fx_3
  refine lv_iconst (v := 5) hx hb dX12_telling_31 (by decide) ?_
  refine lv_icmp_ne (tgt := 50) hx hb dX12_telling_32 (by decide) (fun c_4 => ?_) (fun c_4 => absurd c_4 (by decide))
  refine lv_aload_n hx hb dX12_telling_50 rfl (lv_at hl 0 rfl) ?_
  refine lv_iload_n hx hb dX12_telling_51 rfl (lv_at hl 1 rfl) ?_
  refine lv_iload_n hx hb dX12_telling_52 rfl (lv_at hl 2 rfl) ?_
  refine cV_i (As := [.int p1, .int p2]) (rest := []) ⟨hx, hb, hml, hown, hg⟩ (k_X12_plainTells_1 l D cs A bd u b bw  p1 p2 hkn (show 0 ≤ p1.toInt by first | omega | decide) (show p1.toInt < 50 by first | omega | decide) (show 0 ≤ (u 64).toInt by first | omega | decide) (show (u 64).toInt ≤ 19 by first | omega | decide) (show 0 ≤ (u 64).toInt by first | omega | decide) (show (u 64).toInt ≤ 1000 by first | omega | decide) ib63_0) ca_X12_plainTells q7_95 ⟨rfl, rfl⟩ ⟨Nat.le_of_ble_eq_true rfl, Nat.le_of_ble_eq_true rfl⟩ (rc_model hK hP) hK hP hD hS hZ rfl hl.1 rfl (Nat.le_of_ble_eq_true rfl) ⟨Nat.zero_le _, Nat.zero_le _⟩ dX12_telling_53 (fun r_5 z_8 H locs wr_5 hP hD hS => ?_)
  obtain ⟨o_u64_6, o_b65_7⟩ := z_8
  have hP : va_P D vwCl (RW cs bd (va_up u 64 o_u64_6) (va_up b 65 o_b65_7) bw) H := hP
  have hD : va_D A (RW cs bd (va_up u 64 o_u64_6) (va_up b 65 o_b65_7) bw) := hD
  obtain ⟨wr_5_0, wr_5_1, wr_5_2, wr_5_3, wr_5_4⟩ : (o_u64_6.toInt = (u 64).toInt + 5) ∧ (o_b65_7 = TRW (b 65) (u 64).toInt.toNat [2, 10, 20, 1, 11]) ∧ (r_5 = ((((p2 + p1) + 3) * 2) - ((1 : Int32) ^^^ p1))) ∧ (0 ≤ o_u64_6.toInt) ∧ (o_u64_6.toInt ≤ 1000) := wr_5
  have kt_9 : o_b65_7 = TRW (b 65) (u 64).toInt.toNat [2, 10, 20, 1, 11] := by rw [wr_5_1]
  exact W.iret (v := r_5) hx hb hr (fun tt ht hW => ⟨⟨r_5, ⟨o_u64_6, o_b65_7⟩, rfl, ⟨(by first | rfl | omega | trivial | assumption | (dsimp only; first | omega | assumption)), (by (try dsimp only); first | assumption | rfl), (by simp only [wr_5_2]), (show 0 ≤ o_u64_6.toInt by first | omega | assumption), (show o_u64_6.toInt ≤ 1000 by first | omega | assumption)⟩, by rw [ht]; exact hP, hD⟩, hS.F ht⟩) hS.2.2 dX12_telling_56
set_option maxHeartbeats 4000000 in
set_option maxRecDepth 100000 in
theorem k_RU_2_1 (l : Launch)     : Met l yX12_isUnder (Cond.code yX12_isUnder cX12_isUnder 2 (some .boolean) :: gw) ({ frames := 0, cells := 0, slots := 0, locals := 0 }) (fun v _ => v = ([.int 2, .int 1] : List Value).toArray) (vp_Si (fun (r : Int32) => r.toInt = 0)) 0 0 (fun _ => False) := by
  refine Met.ofW (cc := cX12_isUnder) (maxL := 2) (ret := (some .boolean)) (by decide) rfl ?_
  intro p e s m args below meth c s₁ B hml hv
  subst hv
  have hx := B.exec
  have hb := B.bytes
  have hr := B.returns
  have hts := atoms_spec (ws := (Cond.code yX12_isUnder cX12_isUnder 2 (some .boolean) :: gw)) B.pre
  have hg : ∀ w ∈ gw, w.before ([.int 2, .int 1] : List Value).toArray s = true := fun w h => hts w (List.mem_cons_of_mem _ h)
  have hown : s.vm.findClass RX12 = some m.cls := findClass_of_methodNamed B.named
  have hlocks := B.notSynchronized
  have hl := lv_entry ([.int 2, .int 1]) (n := 2) (Nat.le_of_ble_eq_true rfl)
  rw [lg_entry_eq]
  generalize (lg_sl ([.int 2, .int 1]) ++ List.replicate (2 - (lg_sl ([.int 2, .int 1])).length) Slot.unset).toArray = ls at hl ⊢
  have hl : lv_has ls 2 [(0, .int 2), (1, .int 1)] := hl
  refine lv_iload_n hx hb dX12_isUnder_0 rfl (lv_at hl 1 rfl) ?_
  refine lv_if_eq (tgt := 56) hx hb dX12_isUnder_1 (by decide) (fun c_1 => absurd c_1 (by decide)) (fun c_1 => ?_)
  refine lv_iload_n hx hb dX12_isUnder_4 rfl (lv_at hl 0 rfl) ?_
  refine lv_iload_n hx hb dX12_isUnder_5 rfl (lv_at hl 1 rfl) ?_
  refine lv_icmp_eq (tgt := 56) hx hb dX12_isUnder_6 (by decide) (fun c_2 => absurd c_2 (by decide)) (fun c_2 => ?_)
  refine lv_iload_n hx hb dX12_isUnder_9 rfl (lv_at hl 1 rfl) ?_
  refine lv_iconst (v := 1) hx hb dX12_isUnder_10 (by decide) ?_
  refine lv_icmp_ne (tgt := 19) hx hb dX12_isUnder_11 (by decide) (fun c_3 => absurd c_3 (by decide)) (fun c_3 => ?_)
  refine lv_iload_n hx hb dX12_isUnder_14 rfl (lv_at hl 0 rfl) ?_
  refine lv_iconst (v := 4) hx hb dX12_isUnder_15 (by decide) ?_
  refine lv_icmp_eq (tgt := 56) hx hb dX12_isUnder_16 (by decide) (fun c_4 => absurd c_4 (by decide)) (fun c_4 => ?_)
  refine lv_iload_n hx hb dX12_isUnder_19 rfl (lv_at hl 1 rfl) ?_
  refine lv_iconst (v := 2) hx hb dX12_isUnder_20 (by decide) ?_
  refine lv_icmp_ne (tgt := 34) hx hb dX12_isUnder_21 (by decide) (fun c_5 => ?_) (fun c_5 => absurd c_5 (by decide))
  refine lv_iload_n hx hb dX12_isUnder_34 rfl (lv_at hl 1 rfl) ?_
  refine lv_iconst (v := 3) hx hb dX12_isUnder_35 (by decide) ?_
  refine lv_icmp_ne (tgt := 44) hx hb dX12_isUnder_36 (by decide) (fun c_6 => ?_) (fun c_6 => absurd c_6 (by decide))
  refine lv_iload_n hx hb dX12_isUnder_44 rfl (lv_at hl 1 rfl) ?_
  refine lv_bipush (v := 6) hx hb dX12_isUnder_45 (by decide) ?_
  refine lv_icmp_ne (tgt := 60) hx hb dX12_isUnder_47 (by decide) (fun c_7 => ?_) (fun c_7 => absurd c_7 (by decide))
  refine lv_iconst (v := 0) hx hb dX12_isUnder_60 (by decide) ?_
  have q0_0 : (0 : Int32).toInt = 0 := rfl
  exact W.zret (v := 0) hx hb hr rfl (fun tt ht hW => ⟨0, rfl, (by first | rfl | omega | trivial | assumption | (dsimp only; first | omega | assumption)), ht⟩) (fun _ h => by cases h) dX12_isUnder_61
set_option maxHeartbeats 4000000 in
set_option maxRecDepth 100000 in
theorem k_RU_2_3 (l : Launch)     : Met l yX12_isUnder (Cond.code yX12_isUnder cX12_isUnder 2 (some .boolean) :: gw) ({ frames := 0, cells := 0, slots := 0, locals := 0 }) (fun v _ => v = ([.int 2, .int 3] : List Value).toArray) (vp_Si (fun (r : Int32) => r.toInt = 0)) 0 0 (fun _ => False) := by
  refine Met.ofW (cc := cX12_isUnder) (maxL := 2) (ret := (some .boolean)) (by decide) rfl ?_
  intro p e s m args below meth c s₁ B hml hv
  subst hv
  have hx := B.exec
  have hb := B.bytes
  have hr := B.returns
  have hts := atoms_spec (ws := (Cond.code yX12_isUnder cX12_isUnder 2 (some .boolean) :: gw)) B.pre
  have hg : ∀ w ∈ gw, w.before ([.int 2, .int 3] : List Value).toArray s = true := fun w h => hts w (List.mem_cons_of_mem _ h)
  have hown : s.vm.findClass RX12 = some m.cls := findClass_of_methodNamed B.named
  have hlocks := B.notSynchronized
  have hl := lv_entry ([.int 2, .int 3]) (n := 2) (Nat.le_of_ble_eq_true rfl)
  rw [lg_entry_eq]
  generalize (lg_sl ([.int 2, .int 3]) ++ List.replicate (2 - (lg_sl ([.int 2, .int 3])).length) Slot.unset).toArray = ls at hl ⊢
  have hl : lv_has ls 2 [(0, .int 2), (1, .int 3)] := hl
  refine lv_iload_n hx hb dX12_isUnder_0 rfl (lv_at hl 1 rfl) ?_
  refine lv_if_eq (tgt := 56) hx hb dX12_isUnder_1 (by decide) (fun c_1 => absurd c_1 (by decide)) (fun c_1 => ?_)
  refine lv_iload_n hx hb dX12_isUnder_4 rfl (lv_at hl 0 rfl) ?_
  refine lv_iload_n hx hb dX12_isUnder_5 rfl (lv_at hl 1 rfl) ?_
  refine lv_icmp_eq (tgt := 56) hx hb dX12_isUnder_6 (by decide) (fun c_2 => absurd c_2 (by decide)) (fun c_2 => ?_)
  refine lv_iload_n hx hb dX12_isUnder_9 rfl (lv_at hl 1 rfl) ?_
  refine lv_iconst (v := 1) hx hb dX12_isUnder_10 (by decide) ?_
  refine lv_icmp_ne (tgt := 19) hx hb dX12_isUnder_11 (by decide) (fun c_3 => ?_) (fun c_3 => absurd c_3 (by decide))
  refine lv_iload_n hx hb dX12_isUnder_19 rfl (lv_at hl 1 rfl) ?_
  refine lv_iconst (v := 2) hx hb dX12_isUnder_20 (by decide) ?_
  refine lv_icmp_ne (tgt := 34) hx hb dX12_isUnder_21 (by decide) (fun c_4 => ?_) (fun c_4 => absurd c_4 (by decide))
  refine lv_iload_n hx hb dX12_isUnder_34 rfl (lv_at hl 1 rfl) ?_
  refine lv_iconst (v := 3) hx hb dX12_isUnder_35 (by decide) ?_
  refine lv_icmp_ne (tgt := 44) hx hb dX12_isUnder_36 (by decide) (fun c_5 => absurd c_5 (by decide)) (fun c_5 => ?_)
  refine lv_iload_n hx hb dX12_isUnder_39 rfl (lv_at hl 0 rfl) ?_
  refine lv_iconst (v := 5) hx hb dX12_isUnder_40 (by decide) ?_
  refine lv_icmp_eq (tgt := 56) hx hb dX12_isUnder_41 (by decide) (fun c_6 => absurd c_6 (by decide)) (fun c_6 => ?_)
  refine lv_iload_n hx hb dX12_isUnder_44 rfl (lv_at hl 1 rfl) ?_
  refine lv_bipush (v := 6) hx hb dX12_isUnder_45 (by decide) ?_
  refine lv_icmp_ne (tgt := 60) hx hb dX12_isUnder_47 (by decide) (fun c_7 => ?_) (fun c_7 => absurd c_7 (by decide))
  refine lv_iconst (v := 0) hx hb dX12_isUnder_60 (by decide) ?_
  have q0_0 : (0 : Int32).toInt = 0 := rfl
  exact W.zret (v := 0) hx hb hr rfl (fun tt ht hW => ⟨0, rfl, (by first | rfl | omega | trivial | assumption | (dsimp only; first | omega | assumption)), ht⟩) (fun _ h => by cases h) dX12_isUnder_61
set_option maxHeartbeats 4000000 in
set_option maxRecDepth 100000 in
theorem k_X12_flying_2 (l : Launch) (D : va_G) (cs : Nat → ClassId) (A : Nat → Prop) (bd : Nat → Nat) (u : Nat → Int32) (b : Nat → Nat → Int32) (bw : Nat → Nat → Int64)  (p1 : Int32) (p2 : Int32) (hkn : (b 63) p1.toNatClampNeg = 2) (h1 : 0 ≤ p1.toInt) (h2 : p1.toInt < 50) (hr0 : 0 ≤ (u 64).toInt) (hr1 : (u 64).toInt ≤ 23) (ib63_0 : AB 0 7 (b 63)) (iu64_0 : 0 ≤ (u 64).toInt) (iu64_1 : (u 64).toInt ≤ 1000) : Met l yX12_flying (Cond.code yX12_flying cX12_flying 3 (some .int) :: gw) ({ frames := 2, cells := 0, slots := 0, locals := 43 }) (va_Pc [.ref (bd 0), .int p1, .int p2] (XPre D (TY cs) (RW cs bd u b bw) A)) (va_Qi (fun (r : Int32) (z : Int32 × (Nat → Int32)) => (z.1.toInt = (u 64).toInt + 1) ∧ (z.2 = TRW (b 65) (u 64).toInt.toNat [1]) ∧ (r = (p2 + p1)) ∧ (0 ≤ z.1.toInt) ∧ (z.1.toInt ≤ 1000)) (XPo D (fun (z : Int32 × (Nat → Int32)) => RW cs bd (va_up u 64 z.1) (va_up b 65 z.2) bw) A) A) 0 0 A := by
  refine Met.ofW (cc := cX12_flying) (maxL := 3) (ret := (some .int)) (by decide) rfl ?_
  intro p e s m args below meth c s₁ B hml hv
  obtain ⟨rfl, hP, hK, hD, hZ⟩ := hv
  have hx := B.exec
  have hb := B.bytes
  have hr := B.returns
  have hts := atoms_spec (ws := (Cond.code yX12_flying cX12_flying 3 (some .int) :: gw)) B.pre
  have hg : ∀ w ∈ gw, w.before ([.ref (bd 0), .int p1, .int p2] : List Value).toArray s = true := fun w h => hts w (List.mem_cons_of_mem _ h)
  have hown : s.vm.findClass RX12 = some m.cls := findClass_of_methodNamed B.named
  have hlocks := B.notSynchronized
  have hS : va_S A s.heap s.heap [] := va_S.rf
  have hP : va_P D vwCl (RW cs bd u b bw) s.heap := hP
  have hl := lv_entry ([.ref (bd 0), .int p1, .int p2]) (n := 3) (Nat.le_of_ble_eq_true rfl)
  rw [lg_entry_eq]
  generalize (lg_sl ([.ref (bd 0), .int p1, .int p2]) ++ List.replicate (3 - (lg_sl ([.ref (bd 0), .int p1, .int p2])).length) Slot.unset).toArray = ls at hl ⊢
  have hl : lv_has ls 3 [(0, .ref (bd 0)), (1, .int p1), (2, .int p2)] := hl
  refine lv_aload_n hx hb dX12_flying_0 rfl (lv_at hl 0 rfl) ?_
  refine gr_kind hx hb hg hown hK hP (hg _ q5_55) dX12_flying_1 ?_
  refine lv_iload_n hx hb dX12_flying_4 rfl (lv_at hl 1 rfl) ?_
  refine lr_kind hx hb hK hP (i_in (by omega) (by omega)) dX12_flying_5 ?_
  refine lv_topi (fun x_1 ex_1 => ?_)
  have ex_1 : x_1 = (b 63) p1.toNatClampNeg := ex_1
  have hx_1 : x_1.toInt = ((b 63) p1.toNatClampNeg).toInt := by rw [ex_1]
  have bx_1 := ib63_0 p1.toNatClampNeg
  rw [← ex_1] at bx_1
  have fx_1 : x_1 = 2 := by rw [ex_1]; exact hkn
  subst fx_1
  refine lv_iconst (v := 1) hx hb dX12_flying_6 (by decide) ?_
  refine cS_p (As := [.int 2, .int 1]) (rest := []) ⟨hx, hb, hml, hown, hg⟩ (k_RU_2_1 l    ) ca_X12_isUnder q7_52 ⟨rfl, rfl⟩ ⟨Nat.le_of_ble_eq_true rfl, Nat.le_of_ble_eq_true rfl⟩ rfl hl.1 rfl (Nat.le_of_ble_eq_true rfl) ⟨Nat.zero_le _, Nat.zero_le _⟩ dX12_flying_7 (fun r_2 wr_2 => ?_)
  have wr_2 : r_2.toInt = 0 := wr_2
  refine lv_if_eq (tgt := 28) hx hb dX12_flying_10 (by decide) (fun c_3 => ?_) (fun c_3 => ?_)
  ·
    have kc_3 : r_2.toInt = (0 : Int) := i_eq c_3
    refine lv_aload_n hx hb dX12_flying_28 rfl (lv_at hl 0 rfl) ?_
    refine gr_kind hx hb hg hown hK hP (hg _ q5_55) dX12_flying_29 ?_
    refine lv_iload_n hx hb dX12_flying_32 rfl (lv_at hl 1 rfl) ?_
    refine lr_kind hx hb hK hP (i_in (by omega) (by omega)) dX12_flying_33 ?_
    refine lv_topi (fun x_4 ex_4 => ?_)
    have ex_4 : x_4 = (b 63) p1.toNatClampNeg := ex_4
    have hx_4 : x_4.toInt = ((b 63) p1.toNatClampNeg).toInt := by rw [ex_4]
    have bx_4 := ib63_0 p1.toNatClampNeg
    rw [← ex_4] at bx_4
    have fx_4 : x_4 = 2 := by rw [ex_4]; exact hkn
    subst fx_4
    refine lv_bipush (v := 7) hx hb dX12_flying_34 (by decide) ?_
    refine lv_icmp_ne (tgt := 54) hx hb dX12_flying_36 (by decide) (fun c_5 => ?_) (fun c_5 => absurd c_5 (by decide))
    refine lv_aload_n hx hb dX12_flying_54 rfl (lv_at hl 0 rfl) ?_
    refine gr_kind hx hb hg hown hK hP (hg _ q5_55) dX12_flying_55 ?_
    refine lv_iload_n hx hb dX12_flying_58 rfl (lv_at hl 1 rfl) ?_
    refine lr_kind hx hb hK hP (i_in (by omega) (by omega)) dX12_flying_59 ?_
    refine lv_topi (fun x_6 ex_6 => ?_)
    have ex_6 : x_6 = (b 63) p1.toNatClampNeg := ex_6
    have hx_6 : x_6.toInt = ((b 63) p1.toNatClampNeg).toInt := by rw [ex_6]
    have bx_6 := ib63_0 p1.toNatClampNeg
    rw [← ex_6] at bx_6
    have fx_6 : x_6 = 2 := by rw [ex_6]; exact hkn
    subst fx_6
    refine lv_bipush (v := 6) hx hb dX12_flying_60 (by decide) ?_
    refine lv_icmp_ne (tgt := 74) hx hb dX12_flying_62 (by decide) (fun c_7 => ?_) (fun c_7 => absurd c_7 (by decide))
    refine lv_aload_n hx hb dX12_flying_74 rfl (lv_at hl 0 rfl) ?_
    refine lv_iload_n hx hb dX12_flying_75 rfl (lv_at hl 1 rfl) ?_
    refine lv_iload_n hx hb dX12_flying_76 rfl (lv_at hl 2 rfl) ?_
    refine cV_i (As := [.int p1, .int p2]) (rest := []) ⟨hx, hb, hml, hown, hg⟩ (k_X12_plainFlies l D cs A bd u b bw  p1 p2 (show 0 ≤ (u 64).toInt by first | omega | decide) (show (u 64).toInt ≤ 23 by first | omega | decide) (show 0 ≤ (u 64).toInt by first | omega | decide) (show (u 64).toInt ≤ 1000 by first | omega | decide)) ca_X12_plainFlies q7_59 ⟨rfl, rfl⟩ ⟨Nat.le_of_ble_eq_true rfl, Nat.le_of_ble_eq_true rfl⟩ (rc_model hK hP) hK hP hD hS hZ rfl hl.1 rfl (Nat.le_of_ble_eq_true rfl) ⟨Nat.zero_le _, Nat.zero_le _⟩ dX12_flying_77 (fun r_8 z_11 H locs wr_8 hP hD hS => ?_)
    obtain ⟨o_u64_9, o_b65_10⟩ := z_11
    have hP : va_P D vwCl (RW cs bd (va_up u 64 o_u64_9) (va_up b 65 o_b65_10) bw) H := hP
    have hD : va_D A (RW cs bd (va_up u 64 o_u64_9) (va_up b 65 o_b65_10) bw) := hD
    obtain ⟨wr_8_0, wr_8_1, wr_8_2, wr_8_3, wr_8_4⟩ : (o_u64_9.toInt = (u 64).toInt + 1) ∧ (o_b65_10 = TRW (b 65) (u 64).toInt.toNat [1]) ∧ (r_8 = (p2 + p1)) ∧ (0 ≤ o_u64_9.toInt) ∧ (o_u64_9.toInt ≤ 1000) := wr_8
    have kt_12 : o_b65_10 = TRW (b 65) (u 64).toInt.toNat [1] := by rw [wr_8_1]
    exact W.iret (v := r_8) hx hb hr (fun tt ht hW => ⟨⟨r_8, ⟨o_u64_9, o_b65_10⟩, rfl, ⟨(by first | rfl | omega | trivial | assumption | (dsimp only; first | omega | assumption)), (by (try dsimp only); first | assumption | rfl), (by simp only [wr_8_2]), (show 0 ≤ o_u64_9.toInt by first | omega | assumption), (show o_u64_9.toInt ≤ 1000 by first | omega | assumption)⟩, by rw [ht]; exact hP, hD⟩, hS.F ht⟩) hS.2.2 dX12_flying_80
  ·
    have kc_3 : r_2.toInt ≠ (0 : Int) := i_ne c_3
    exfalso; omega
set_option maxHeartbeats 4000000 in
set_option maxRecDepth 100000 in
theorem k_X12_plainStings_2 (l : Launch) (D : va_G) (cs : Nat → ClassId) (A : Nat → Prop) (bd : Nat → Nat) (u : Nat → Int32) (b : Nat → Nat → Int32) (bw : Nat → Nat → Int64)  (p1 : Int32) (p2 : Int32) (hkn : (b 63) p1.toNatClampNeg = 2) (h1 : 0 ≤ p1.toInt) (h2 : p1.toInt < 50) (hr0 : 0 ≤ (u 64).toInt) (hr1 : (u 64).toInt ≤ 22) (iu64_0 : 0 ≤ (u 64).toInt) (iu64_1 : (u 64).toInt ≤ 1000) (ib63_0 : AB 0 7 (b 63)) : Met l yX12_plainStings (Cond.code yX12_plainStings cX12_plainStings 3 (some .int) :: gw) ({ frames := 3, cells := 0, slots := 0, locals := 65 }) (va_Pc [.ref (bd 0), .int p1, .int p2] (XPre D (TY cs) (RW cs bd u b bw) A)) (va_Qi (fun (r : Int32) (z : Int32 × (Nat → Int32)) => (z.1.toInt = (u 64).toInt + 2) ∧ (z.2 = TRW (b 65) (u 64).toInt.toNat [10, 1]) ∧ (r = ((p2 + p1) * 2)) ∧ (0 ≤ z.1.toInt) ∧ (z.1.toInt ≤ 1000)) (XPo D (fun (z : Int32 × (Nat → Int32)) => RW cs bd (va_up u 64 z.1) (va_up b 65 z.2) bw) A) A) 0 0 A := by
  refine Met.ofW (cc := cX12_plainStings) (maxL := 3) (ret := (some .int)) (by decide) rfl ?_
  intro p e s m args below meth c s₁ B hml hv
  obtain ⟨rfl, hP, hK, hD, hZ⟩ := hv
  have hx := B.exec
  have hb := B.bytes
  have hr := B.returns
  have hts := atoms_spec (ws := (Cond.code yX12_plainStings cX12_plainStings 3 (some .int) :: gw)) B.pre
  have hg : ∀ w ∈ gw, w.before ([.ref (bd 0), .int p1, .int p2] : List Value).toArray s = true := fun w h => hts w (List.mem_cons_of_mem _ h)
  have hown : s.vm.findClass RX12 = some m.cls := findClass_of_methodNamed B.named
  have hlocks := B.notSynchronized
  have hS : va_S A s.heap s.heap [] := va_S.rf
  have hP : va_P D vwCl (RW cs bd u b bw) s.heap := hP
  have hl := lv_entry ([.ref (bd 0), .int p1, .int p2]) (n := 3) (Nat.le_of_ble_eq_true rfl)
  rw [lg_entry_eq]
  generalize (lg_sl ([.ref (bd 0), .int p1, .int p2]) ++ List.replicate (3 - (lg_sl ([.ref (bd 0), .int p1, .int p2])).length) Slot.unset).toArray = ls at hl ⊢
  have hl : lv_has ls 3 [(0, .ref (bd 0)), (1, .int p1), (2, .int p2)] := hl
  refine lv_aload_n hx hb dX12_plainStings_0 rfl (lv_at hl 0 rfl) ?_
  refine lv_bipush (v := 10) hx hb dX12_plainStings_1 (by decide) ?_
  refine cV_v (As := [.int 10]) (rest := []) ⟨hx, hb, hml, hown, hg⟩ (k_X12_ran l D cs A bd u b bw  10 (show 0 ≤ (u 64).toInt by first | omega | decide) (show (u 64).toInt ≤ 23 by first | omega | decide) (show 0 ≤ (u 64).toInt by first | omega | decide) (show (u 64).toInt ≤ 1000 by first | omega | decide)) ca_X12_ran q7_55 ⟨rfl, rfl⟩ ⟨Nat.le_of_ble_eq_true rfl, Nat.le_of_ble_eq_true rfl⟩ (rc_model hK hP) hK hP hD hS hZ rfl hl.1 rfl (Nat.le_of_ble_eq_true rfl) ⟨Nat.zero_le _, Nat.zero_le _⟩ dX12_plainStings_3 (fun z_4 H locs wr_1 hP hD hS => ?_)
  obtain ⟨o_u64_2, o_b65_3⟩ := z_4
  have hP : va_P D vwCl (RW cs bd (va_up u 64 o_u64_2) (va_up b 65 o_b65_3) bw) H := hP
  have hD : va_D A (RW cs bd (va_up u 64 o_u64_2) (va_up b 65 o_b65_3) bw) := hD
  obtain ⟨wr_1_0, wr_1_1, wr_1_2, wr_1_3⟩ : (o_u64_2.toInt = (u 64).toInt + 1) ∧ (o_b65_3 = TRW (b 65) (u 64).toInt.toNat [(10 : Int32)]) ∧ (0 ≤ o_u64_2.toInt) ∧ (o_u64_2.toInt ≤ 1000) := wr_1
  have kt_5 : o_b65_3 = TRW (b 65) (u 64).toInt.toNat [10] := by rw [wr_1_1]
  refine lv_aload_n hx hb dX12_plainStings_6 rfl (lv_at hl 0 rfl) ?_
  refine lv_iload_n hx hb dX12_plainStings_7 rfl (lv_at hl 1 rfl) ?_
  refine lv_iload_n hx hb dX12_plainStings_8 rfl (lv_at hl 2 rfl) ?_
  refine cV_i (As := [.int p1, .int p2]) (rest := []) ⟨hx, hb, hml, hown, hg⟩ (k_X12_flying_2 l D cs A bd (va_up u 64 o_u64_2) (va_up b 65 o_b65_3) bw  p1 p2 hkn (show 0 ≤ p1.toInt by first | omega | decide) (show p1.toInt < 50 by first | omega | decide) (show 0 ≤ o_u64_2.toInt by first | omega | decide) (show o_u64_2.toInt ≤ 23 by first | omega | decide) ib63_0 (show 0 ≤ o_u64_2.toInt by first | omega | decide) (show o_u64_2.toInt ≤ 1000 by first | omega | decide)) ca_X12_flying q7_48 ⟨rfl, rfl⟩ ⟨Nat.le_of_ble_eq_true rfl, Nat.le_of_ble_eq_true rfl⟩ (rc_model hK hP) hK hP hD hS hZ rfl hl.1 rfl (Nat.le_of_ble_eq_true rfl) ⟨Nat.zero_le _, Nat.zero_le _⟩ dX12_plainStings_9 (fun r_6 z_9 H locs wr_6 hP hD hS => ?_)
  obtain ⟨o_u64_7, o_b65_8⟩ := z_9
  have hP : va_P D vwCl (RW cs bd (va_up u 64 o_u64_7) (va_up b 65 o_b65_8) bw) H := hP
  have hD : va_D A (RW cs bd (va_up u 64 o_u64_7) (va_up b 65 o_b65_8) bw) := hD
  obtain ⟨wr_6_0, wr_6_1, wr_6_2, wr_6_3, wr_6_4⟩ : (o_u64_7.toInt = o_u64_2.toInt + 1) ∧ (o_b65_8 = TRW o_b65_3 o_u64_2.toInt.toNat [1]) ∧ (r_6 = (p2 + p1)) ∧ (0 ≤ o_u64_7.toInt) ∧ (o_u64_7.toInt ≤ 1000) := wr_6
  have kt_10 : o_b65_8 = TRW (b 65) (u 64).toInt.toNat [10, 1] := by rw [wr_6_1, kt_5, show (o_u64_2).toInt.toNat = (u 64).toInt.toNat + 1 from by omega]; rfl
  refine lv_iconst (v := 2) hx hb dX12_plainStings_12 (by decide) ?_
  refine lv_imul hx hb dX12_plainStings_13 ?_
  refine lv_topi (fun x_11 ex_11 => ?_)
  exact W.iret (v := x_11) hx hb hr (fun tt ht hW => ⟨⟨x_11, ⟨o_u64_7, o_b65_8⟩, rfl, ⟨(by first | rfl | omega | trivial | assumption | (dsimp only; first | omega | assumption)), (by (try dsimp only); first | assumption | rfl), (by simp only [ex_11, wr_6_2]), (show 0 ≤ o_u64_7.toInt by first | omega | assumption), (show o_u64_7.toInt ≤ 1000 by first | omega | assumption)⟩, by rw [ht]; exact hP, hD⟩, hS.F ht⟩) hS.2.2 dX12_plainStings_14
set_option maxHeartbeats 4000000 in
set_option maxRecDepth 100000 in
theorem k_X12_brookStings_2 (l : Launch) (D : va_G) (cs : Nat → ClassId) (A : Nat → Prop) (bd : Nat → Nat) (u : Nat → Int32) (b : Nat → Nat → Int32) (bw : Nat → Nat → Int64)  (p1 : Int32) (p2 : Int32) (hkn : (b 63) p1.toNatClampNeg = 2) (h1 : 0 ≤ p1.toInt) (h2 : p1.toInt < 50) (hr0 : 0 ≤ (u 64).toInt) (hr1 : (u 64).toInt ≤ 21) (iu64_0 : 0 ≤ (u 64).toInt) (iu64_1 : (u 64).toInt ≤ 1000) (ib63_0 : AB 0 7 (b 63)) : Met l yX12_brookStings (Cond.code yX12_brookStings cX12_brookStings 3 (some .int) :: gw) ({ frames := 4, cells := 0, slots := 0, locals := 87 }) (va_Pc [.ref (bd 0), .int p1, .int p2] (XPre D (TY cs) (RW cs bd u b bw) A)) (va_Qi (fun (r : Int32) (z : Int32 × (Nat → Int32)) => (z.1.toInt = (u 64).toInt + 3) ∧ (z.2 = TRW (b 65) (u 64).toInt.toNat [30, 10, 1]) ∧ (r = (-((p2 + p1) * 2))) ∧ (0 ≤ z.1.toInt) ∧ (z.1.toInt ≤ 1000)) (XPo D (fun (z : Int32 × (Nat → Int32)) => RW cs bd (va_up u 64 z.1) (va_up b 65 z.2) bw) A) A) 0 0 A := by
  refine Met.ofW (cc := cX12_brookStings) (maxL := 3) (ret := (some .int)) (by decide) rfl ?_
  intro p e s m args below meth c s₁ B hml hv
  obtain ⟨rfl, hP, hK, hD, hZ⟩ := hv
  have hx := B.exec
  have hb := B.bytes
  have hr := B.returns
  have hts := atoms_spec (ws := (Cond.code yX12_brookStings cX12_brookStings 3 (some .int) :: gw)) B.pre
  have hg : ∀ w ∈ gw, w.before ([.ref (bd 0), .int p1, .int p2] : List Value).toArray s = true := fun w h => hts w (List.mem_cons_of_mem _ h)
  have hown : s.vm.findClass RX12 = some m.cls := findClass_of_methodNamed B.named
  have hlocks := B.notSynchronized
  have hS : va_S A s.heap s.heap [] := va_S.rf
  have hP : va_P D vwCl (RW cs bd u b bw) s.heap := hP
  have hl := lv_entry ([.ref (bd 0), .int p1, .int p2]) (n := 3) (Nat.le_of_ble_eq_true rfl)
  rw [lg_entry_eq]
  generalize (lg_sl ([.ref (bd 0), .int p1, .int p2]) ++ List.replicate (3 - (lg_sl ([.ref (bd 0), .int p1, .int p2])).length) Slot.unset).toArray = ls at hl ⊢
  have hl : lv_has ls 3 [(0, .ref (bd 0)), (1, .int p1), (2, .int p2)] := hl
  refine lv_aload_n hx hb dX12_brookStings_0 rfl (lv_at hl 0 rfl) ?_
  refine lv_bipush (v := 30) hx hb dX12_brookStings_1 (by decide) ?_
  refine cV_v (As := [.int 30]) (rest := []) ⟨hx, hb, hml, hown, hg⟩ (k_X12_ran l D cs A bd u b bw  30 (show 0 ≤ (u 64).toInt by first | omega | decide) (show (u 64).toInt ≤ 23 by first | omega | decide) (show 0 ≤ (u 64).toInt by first | omega | decide) (show (u 64).toInt ≤ 1000 by first | omega | decide)) ca_X12_ran q7_55 ⟨rfl, rfl⟩ ⟨Nat.le_of_ble_eq_true rfl, Nat.le_of_ble_eq_true rfl⟩ (rc_model hK hP) hK hP hD hS hZ rfl hl.1 rfl (Nat.le_of_ble_eq_true rfl) ⟨Nat.zero_le _, Nat.zero_le _⟩ dX12_brookStings_3 (fun z_4 H locs wr_1 hP hD hS => ?_)
  obtain ⟨o_u64_2, o_b65_3⟩ := z_4
  have hP : va_P D vwCl (RW cs bd (va_up u 64 o_u64_2) (va_up b 65 o_b65_3) bw) H := hP
  have hD : va_D A (RW cs bd (va_up u 64 o_u64_2) (va_up b 65 o_b65_3) bw) := hD
  obtain ⟨wr_1_0, wr_1_1, wr_1_2, wr_1_3⟩ : (o_u64_2.toInt = (u 64).toInt + 1) ∧ (o_b65_3 = TRW (b 65) (u 64).toInt.toNat [(30 : Int32)]) ∧ (0 ≤ o_u64_2.toInt) ∧ (o_u64_2.toInt ≤ 1000) := wr_1
  have kt_5 : o_b65_3 = TRW (b 65) (u 64).toInt.toNat [30] := by rw [wr_1_1]
  refine lv_aload_n hx hb dX12_brookStings_6 rfl (lv_at hl 0 rfl) ?_
  refine lv_iload_n hx hb dX12_brookStings_7 rfl (lv_at hl 1 rfl) ?_
  refine lv_iload_n hx hb dX12_brookStings_8 rfl (lv_at hl 2 rfl) ?_
  refine cV_i (As := [.int p1, .int p2]) (rest := []) ⟨hx, hb, hml, hown, hg⟩ (k_X12_plainStings_2 l D cs A bd (va_up u 64 o_u64_2) (va_up b 65 o_b65_3) bw  p1 p2 hkn (show 0 ≤ p1.toInt by first | omega | decide) (show p1.toInt < 50 by first | omega | decide) (show 0 ≤ o_u64_2.toInt by first | omega | decide) (show o_u64_2.toInt ≤ 22 by first | omega | decide) (show 0 ≤ o_u64_2.toInt by first | omega | decide) (show o_u64_2.toInt ≤ 1000 by first | omega | decide) ib63_0) ca_X12_plainStings q7_75 ⟨rfl, rfl⟩ ⟨Nat.le_of_ble_eq_true rfl, Nat.le_of_ble_eq_true rfl⟩ (rc_model hK hP) hK hP hD hS hZ rfl hl.1 rfl (Nat.le_of_ble_eq_true rfl) ⟨Nat.zero_le _, Nat.zero_le _⟩ dX12_brookStings_9 (fun r_6 z_9 H locs wr_6 hP hD hS => ?_)
  obtain ⟨o_u64_7, o_b65_8⟩ := z_9
  have hP : va_P D vwCl (RW cs bd (va_up u 64 o_u64_7) (va_up b 65 o_b65_8) bw) H := hP
  have hD : va_D A (RW cs bd (va_up u 64 o_u64_7) (va_up b 65 o_b65_8) bw) := hD
  obtain ⟨wr_6_0, wr_6_1, wr_6_2, wr_6_3, wr_6_4⟩ : (o_u64_7.toInt = o_u64_2.toInt + 2) ∧ (o_b65_8 = TRW o_b65_3 o_u64_2.toInt.toNat [10, 1]) ∧ (r_6 = ((p2 + p1) * 2)) ∧ (0 ≤ o_u64_7.toInt) ∧ (o_u64_7.toInt ≤ 1000) := wr_6
  have kt_10 : o_b65_8 = TRW (b 65) (u 64).toInt.toNat [30, 10, 1] := by rw [wr_6_1, kt_5, show (o_u64_2).toInt.toNat = (u 64).toInt.toNat + 1 from by omega]; rfl
  refine lv_ineg hx hb dX12_brookStings_12 ?_
  refine lv_topi (fun x_11 ex_11 => ?_)
  exact W.iret (v := x_11) hx hb hr (fun tt ht hW => ⟨⟨x_11, ⟨o_u64_7, o_b65_8⟩, rfl, ⟨(by first | rfl | omega | trivial | assumption | (dsimp only; first | omega | assumption)), (by (try dsimp only); first | assumption | rfl), (by simp only [ex_11, wr_6_2]), (show 0 ≤ o_u64_7.toInt by first | omega | assumption), (show o_u64_7.toInt ≤ 1000 by first | omega | assumption)⟩, by rw [ht]; exact hP, hD⟩, hS.F ht⟩) hS.2.2 dX12_brookStings_13
set_option maxHeartbeats 4000000 in
set_option maxRecDepth 100000 in
theorem k_X12_settling_2 (l : Launch) (D : va_G) (cs : Nat → ClassId) (A : Nat → Prop) (bd : Nat → Nat) (u : Nat → Int32) (b : Nat → Nat → Int32) (bw : Nat → Nat → Int64)  (p1 : Int32) (p2 : Int32) (hkn : (b 63) p1.toNatClampNeg = 2) (h1 : 0 ≤ p1.toInt) (h2 : p1.toInt < 50) (hr0 : 0 ≤ (u 64).toInt) (hr1 : (u 64).toInt ≤ 23) (ib63_0 : AB 0 7 (b 63)) (iu64_0 : 0 ≤ (u 64).toInt) (iu64_1 : (u 64).toInt ≤ 1000) : Met l yX12_settling (Cond.code yX12_settling cX12_settling 4 (some .int) :: gw) ({ frames := 2, cells := 0, slots := 0, locals := 43 }) (va_Pc [.ref (bd 0), .int p1, .int p2] (XPre D (TY cs) (RW cs bd u b bw) A)) (va_Qi (fun (r : Int32) (z : Int32 × (Nat → Int32)) => (z.1.toInt = (u 64).toInt + 1) ∧ (z.2 = TRW (b 65) (u 64).toInt.toNat [11]) ∧ (r = (p2 ^^^ p1)) ∧ (0 ≤ z.1.toInt) ∧ (z.1.toInt ≤ 1000)) (XPo D (fun (z : Int32 × (Nat → Int32)) => RW cs bd (va_up u 64 z.1) (va_up b 65 z.2) bw) A) A) 0 0 A := by
  refine Met.ofW (cc := cX12_settling) (maxL := 4) (ret := (some .int)) (by decide) rfl ?_
  intro p e s m args below meth c s₁ B hml hv
  obtain ⟨rfl, hP, hK, hD, hZ⟩ := hv
  have hx := B.exec
  have hb := B.bytes
  have hr := B.returns
  have hts := atoms_spec (ws := (Cond.code yX12_settling cX12_settling 4 (some .int) :: gw)) B.pre
  have hg : ∀ w ∈ gw, w.before ([.ref (bd 0), .int p1, .int p2] : List Value).toArray s = true := fun w h => hts w (List.mem_cons_of_mem _ h)
  have hown : s.vm.findClass RX12 = some m.cls := findClass_of_methodNamed B.named
  have hlocks := B.notSynchronized
  have hS : va_S A s.heap s.heap [] := va_S.rf
  have hP : va_P D vwCl (RW cs bd u b bw) s.heap := hP
  have hl := lv_entry ([.ref (bd 0), .int p1, .int p2]) (n := 4) (Nat.le_of_ble_eq_true rfl)
  rw [lg_entry_eq]
  generalize (lg_sl ([.ref (bd 0), .int p1, .int p2]) ++ List.replicate (4 - (lg_sl ([.ref (bd 0), .int p1, .int p2])).length) Slot.unset).toArray = ls at hl ⊢
  have hl : lv_has ls 4 [(0, .ref (bd 0)), (1, .int p1), (2, .int p2)] := hl
  refine lv_aload_n hx hb dX12_settling_0 rfl (lv_at hl 0 rfl) ?_
  refine gr_kind hx hb hg hown hK hP (hg _ q5_55) dX12_settling_1 ?_
  refine lv_iload_n hx hb dX12_settling_4 rfl (lv_at hl 1 rfl) ?_
  refine lr_kind hx hb hK hP (i_in (by omega) (by omega)) dX12_settling_5 ?_
  refine lv_topi (fun x_1 ex_1 => ?_)
  have ex_1 : x_1 = (b 63) p1.toNatClampNeg := ex_1
  have hx_1 : x_1.toInt = ((b 63) p1.toNatClampNeg).toInt := by rw [ex_1]
  have bx_1 := ib63_0 p1.toNatClampNeg
  rw [← ex_1] at bx_1
  have fx_1 : x_1 = 2 := by rw [ex_1]; exact hkn
  subst fx_1
  refine lv_iconst (v := 5) hx hb dX12_settling_6 (by decide) ?_
  refine lv_icmp_ne (tgt := 32) hx hb dX12_settling_7 (by decide) (fun c_2 => ?_) (fun c_2 => absurd c_2 (by decide))
  refine lv_aload_n hx hb dX12_settling_32 rfl (lv_at hl 0 rfl) ?_
  refine gr_kind hx hb hg hown hK hP (hg _ q5_55) dX12_settling_33 ?_
  refine lv_iload_n hx hb dX12_settling_36 rfl (lv_at hl 1 rfl) ?_
  refine lr_kind hx hb hK hP (i_in (by omega) (by omega)) dX12_settling_37 ?_
  refine lv_topi (fun x_3 ex_3 => ?_)
  have ex_3 : x_3 = (b 63) p1.toNatClampNeg := ex_3
  have hx_3 : x_3.toInt = ((b 63) p1.toNatClampNeg).toInt := by rw [ex_3]
  have bx_3 := ib63_0 p1.toNatClampNeg
  rw [← ex_3] at bx_3
  have fx_3 : x_3 = 2 := by rw [ex_3]; exact hkn
  subst fx_3
  refine lv_iconst (v := 3) hx hb dX12_settling_38 (by decide) ?_
  refine lv_icmp_ne (tgt := 51) hx hb dX12_settling_39 (by decide) (fun c_4 => ?_) (fun c_4 => absurd c_4 (by decide))
  refine lv_aload_n hx hb dX12_settling_51 rfl (lv_at hl 0 rfl) ?_
  refine lv_iload_n hx hb dX12_settling_52 rfl (lv_at hl 1 rfl) ?_
  refine lv_iload_n hx hb dX12_settling_53 rfl (lv_at hl 2 rfl) ?_
  refine cV_i (As := [.int p1, .int p2]) (rest := []) ⟨hx, hb, hml, hown, hg⟩ (k_X12_plainSettles l D cs A bd u b bw  p1 p2 (show 0 ≤ (u 64).toInt by first | omega | decide) (show (u 64).toInt ≤ 23 by first | omega | decide) (show 0 ≤ (u 64).toInt by first | omega | decide) (show (u 64).toInt ≤ 1000 by first | omega | decide)) ca_X12_plainSettles q7_87 ⟨rfl, rfl⟩ ⟨Nat.le_of_ble_eq_true rfl, Nat.le_of_ble_eq_true rfl⟩ (rc_model hK hP) hK hP hD hS hZ rfl hl.1 rfl (Nat.le_of_ble_eq_true rfl) ⟨Nat.zero_le _, Nat.zero_le _⟩ dX12_settling_54 (fun r_5 z_8 H locs wr_5 hP hD hS => ?_)
  obtain ⟨o_u64_6, o_b65_7⟩ := z_8
  have hP : va_P D vwCl (RW cs bd (va_up u 64 o_u64_6) (va_up b 65 o_b65_7) bw) H := hP
  have hD : va_D A (RW cs bd (va_up u 64 o_u64_6) (va_up b 65 o_b65_7) bw) := hD
  obtain ⟨wr_5_0, wr_5_1, wr_5_2, wr_5_3, wr_5_4⟩ : (o_u64_6.toInt = (u 64).toInt + 1) ∧ (o_b65_7 = TRW (b 65) (u 64).toInt.toNat [11]) ∧ (r_5 = (p2 ^^^ p1)) ∧ (0 ≤ o_u64_6.toInt) ∧ (o_u64_6.toInt ≤ 1000) := wr_5
  have kt_9 : o_b65_7 = TRW (b 65) (u 64).toInt.toNat [11] := by rw [wr_5_1]
  exact W.iret (v := r_5) hx hb hr (fun tt ht hW => ⟨⟨r_5, ⟨o_u64_6, o_b65_7⟩, rfl, ⟨(by first | rfl | omega | trivial | assumption | (dsimp only; first | omega | assumption)), (by (try dsimp only); first | assumption | rfl), (by simp only [wr_5_2]), (show 0 ≤ o_u64_6.toInt by first | omega | assumption), (show o_u64_6.toInt ≤ 1000 by first | omega | assumption)⟩, by rw [ht]; exact hP, hD⟩, hS.F ht⟩) hS.2.2 dX12_settling_57
set_option maxHeartbeats 4000000 in
set_option maxRecDepth 100000 in
theorem k_X12_stinging_2 (l : Launch) (D : va_G) (cs : Nat → ClassId) (A : Nat → Prop) (bd : Nat → Nat) (u : Nat → Int32) (b : Nat → Nat → Int32) (bw : Nat → Nat → Int64)  (p1 : Int32) (p2 : Int32) (hkn : (b 63) p1.toNatClampNeg = 2) (h1 : 0 ≤ p1.toInt) (h2 : p1.toInt < 50) (hr0 : 0 ≤ (u 64).toInt) (hr1 : (u 64).toInt ≤ 21) (ib63_0 : AB 0 7 (b 63)) (iu64_0 : 0 ≤ (u 64).toInt) (iu64_1 : (u 64).toInt ≤ 1000) : Met l yX12_stinging (Cond.code yX12_stinging cX12_stinging 4 (some .int) :: gw) ({ frames := 5, cells := 0, slots := 0, locals := 109 }) (va_Pc [.ref (bd 0), .int p1, .int p2] (XPre D (TY cs) (RW cs bd u b bw) A)) (va_Qi (fun (r : Int32) (z : Int32 × (Nat → Int32)) => (z.1.toInt = (u 64).toInt + 3) ∧ (z.2 = TRW (b 65) (u 64).toInt.toNat [30, 10, 1]) ∧ (r = (-((p2 + p1) * 2))) ∧ (0 ≤ z.1.toInt) ∧ (z.1.toInt ≤ 1000)) (XPo D (fun (z : Int32 × (Nat → Int32)) => RW cs bd (va_up u 64 z.1) (va_up b 65 z.2) bw) A) A) 0 0 A := by
  refine Met.ofW (cc := cX12_stinging) (maxL := 4) (ret := (some .int)) (by decide) rfl ?_
  intro p e s m args below meth c s₁ B hml hv
  obtain ⟨rfl, hP, hK, hD, hZ⟩ := hv
  have hx := B.exec
  have hb := B.bytes
  have hr := B.returns
  have hts := atoms_spec (ws := (Cond.code yX12_stinging cX12_stinging 4 (some .int) :: gw)) B.pre
  have hg : ∀ w ∈ gw, w.before ([.ref (bd 0), .int p1, .int p2] : List Value).toArray s = true := fun w h => hts w (List.mem_cons_of_mem _ h)
  have hown : s.vm.findClass RX12 = some m.cls := findClass_of_methodNamed B.named
  have hlocks := B.notSynchronized
  have hS : va_S A s.heap s.heap [] := va_S.rf
  have hP : va_P D vwCl (RW cs bd u b bw) s.heap := hP
  have hl := lv_entry ([.ref (bd 0), .int p1, .int p2]) (n := 4) (Nat.le_of_ble_eq_true rfl)
  rw [lg_entry_eq]
  generalize (lg_sl ([.ref (bd 0), .int p1, .int p2]) ++ List.replicate (4 - (lg_sl ([.ref (bd 0), .int p1, .int p2])).length) Slot.unset).toArray = ls at hl ⊢
  have hl : lv_has ls 4 [(0, .ref (bd 0)), (1, .int p1), (2, .int p2)] := hl
  refine lv_aload_n hx hb dX12_stinging_0 rfl (lv_at hl 0 rfl) ?_
  refine gr_kind hx hb hg hown hK hP (hg _ q5_55) dX12_stinging_1 ?_
  refine lv_iload_n hx hb dX12_stinging_4 rfl (lv_at hl 1 rfl) ?_
  refine lr_kind hx hb hK hP (i_in (by omega) (by omega)) dX12_stinging_5 ?_
  refine lv_topi (fun x_1 ex_1 => ?_)
  have ex_1 : x_1 = (b 63) p1.toNatClampNeg := ex_1
  have hx_1 : x_1.toInt = ((b 63) p1.toNatClampNeg).toInt := by rw [ex_1]
  have bx_1 := ib63_0 p1.toNatClampNeg
  rw [← ex_1] at bx_1
  have fx_1 : x_1 = 2 := by rw [ex_1]; exact hkn
  subst fx_1
  refine lv_iconst (v := 3) hx hb dX12_stinging_6 (by decide) ?_
  refine cS_p (As := [.int 2, .int 3]) (rest := []) ⟨hx, hb, hml, hown, hg⟩ (k_RU_2_3 l    ) ca_X12_isUnder q7_52 ⟨rfl, rfl⟩ ⟨Nat.le_of_ble_eq_true rfl, Nat.le_of_ble_eq_true rfl⟩ rfl hl.1 rfl (Nat.le_of_ble_eq_true rfl) ⟨Nat.zero_le _, Nat.zero_le _⟩ dX12_stinging_7 (fun r_2 wr_2 => ?_)
  have wr_2 : r_2.toInt = 0 := wr_2
  refine lv_if_eq (tgt := 28) hx hb dX12_stinging_10 (by decide) (fun c_3 => ?_) (fun c_3 => ?_)
  ·
    have kc_3 : r_2.toInt = (0 : Int) := i_eq c_3
    refine lv_aload_n hx hb dX12_stinging_28 rfl (lv_at hl 0 rfl) ?_
    refine gr_kind hx hb hg hown hK hP (hg _ q5_55) dX12_stinging_29 ?_
    refine lv_iload_n hx hb dX12_stinging_32 rfl (lv_at hl 1 rfl) ?_
    refine lr_kind hx hb hK hP (i_in (by omega) (by omega)) dX12_stinging_33 ?_
    refine lv_topi (fun x_4 ex_4 => ?_)
    have ex_4 : x_4 = (b 63) p1.toNatClampNeg := ex_4
    have hx_4 : x_4.toInt = ((b 63) p1.toNatClampNeg).toInt := by rw [ex_4]
    have bx_4 := ib63_0 p1.toNatClampNeg
    rw [← ex_4] at bx_4
    have fx_4 : x_4 = 2 := by rw [ex_4]; exact hkn
    subst fx_4
    refine lv_bipush (v := 7) hx hb dX12_stinging_34 (by decide) ?_
    refine lv_icmp_ne (tgt := 61) hx hb dX12_stinging_36 (by decide) (fun c_5 => ?_) (fun c_5 => absurd c_5 (by decide))
    refine lv_aload_n hx hb dX12_stinging_61 rfl (lv_at hl 0 rfl) ?_
    refine gr_kind hx hb hg hown hK hP (hg _ q5_55) dX12_stinging_62 ?_
    refine lv_iload_n hx hb dX12_stinging_65 rfl (lv_at hl 1 rfl) ?_
    refine lr_kind hx hb hK hP (i_in (by omega) (by omega)) dX12_stinging_66 ?_
    refine lv_topi (fun x_6 ex_6 => ?_)
    have ex_6 : x_6 = (b 63) p1.toNatClampNeg := ex_6
    have hx_6 : x_6.toInt = ((b 63) p1.toNatClampNeg).toInt := by rw [ex_6]
    have bx_6 := ib63_0 p1.toNatClampNeg
    rw [← ex_6] at bx_6
    have fx_6 : x_6 = 2 := by rw [ex_6]; exact hkn
    subst fx_6
    refine lv_iconst (v := 2) hx hb dX12_stinging_67 (by decide) ?_
    refine lv_icmp_ne (tgt := 80) hx hb dX12_stinging_68 (by decide) (fun c_7 => absurd c_7 (by decide)) (fun c_7 => ?_)
    refine lv_aload_n hx hb dX12_stinging_71 rfl (lv_at hl 0 rfl) ?_
    refine lv_iload_n hx hb dX12_stinging_72 rfl (lv_at hl 1 rfl) ?_
    refine lv_iload_n hx hb dX12_stinging_73 rfl (lv_at hl 2 rfl) ?_
    refine cV_i (As := [.int p1, .int p2]) (rest := []) ⟨hx, hb, hml, hown, hg⟩ (k_X12_brookStings_2 l D cs A bd u b bw  p1 p2 hkn (show 0 ≤ p1.toInt by first | omega | decide) (show p1.toInt < 50 by first | omega | decide) (show 0 ≤ (u 64).toInt by first | omega | decide) (show (u 64).toInt ≤ 21 by first | omega | decide) (show 0 ≤ (u 64).toInt by first | omega | decide) (show (u 64).toInt ≤ 1000 by first | omega | decide) ib63_0) ca_X12_brookStings q7_71 ⟨rfl, rfl⟩ ⟨Nat.le_of_ble_eq_true rfl, Nat.le_of_ble_eq_true rfl⟩ (rc_model hK hP) hK hP hD hS hZ rfl hl.1 rfl (Nat.le_of_ble_eq_true rfl) ⟨Nat.zero_le _, Nat.zero_le _⟩ dX12_stinging_74 (fun r_8 z_11 H locs wr_8 hP hD hS => ?_)
    obtain ⟨o_u64_9, o_b65_10⟩ := z_11
    have hP : va_P D vwCl (RW cs bd (va_up u 64 o_u64_9) (va_up b 65 o_b65_10) bw) H := hP
    have hD : va_D A (RW cs bd (va_up u 64 o_u64_9) (va_up b 65 o_b65_10) bw) := hD
    obtain ⟨wr_8_0, wr_8_1, wr_8_2, wr_8_3, wr_8_4⟩ : (o_u64_9.toInt = (u 64).toInt + 3) ∧ (o_b65_10 = TRW (b 65) (u 64).toInt.toNat [30, 10, 1]) ∧ (r_8 = (-((p2 + p1) * 2))) ∧ (0 ≤ o_u64_9.toInt) ∧ (o_u64_9.toInt ≤ 1000) := wr_8
    have kt_12 : o_b65_10 = TRW (b 65) (u 64).toInt.toNat [30, 10, 1] := by rw [wr_8_1]
    refine lv_goto (tgt := 86) hx hb dX12_stinging_77 (by decide) ?_
    exact W.iret (v := r_8) hx hb hr (fun tt ht hW => ⟨⟨r_8, ⟨o_u64_9, o_b65_10⟩, rfl, ⟨(by first | rfl | omega | trivial | assumption | (dsimp only; first | omega | assumption)), (by (try dsimp only); first | assumption | rfl), (by simp only [wr_8_2]), (show 0 ≤ o_u64_9.toInt by first | omega | assumption), (show o_u64_9.toInt ≤ 1000 by first | omega | assumption)⟩, by rw [ht]; exact hP, hD⟩, hS.F ht⟩) hS.2.2 dX12_stinging_86
  ·
    have kc_3 : r_2.toInt ≠ (0 : Int) := i_ne c_3
    exfalso; omega
set_option maxHeartbeats 4000000 in
set_option maxRecDepth 100000 in
theorem k_X12_plainTells_2 (l : Launch) (D : va_G) (cs : Nat → ClassId) (A : Nat → Prop) (bd : Nat → Nat) (u : Nat → Int32) (b : Nat → Nat → Int32) (bw : Nat → Nat → Int64)  (p1 : Int32) (p2 : Int32) (hkn : (b 63) p1.toNatClampNeg = 2) (h1 : 0 ≤ p1.toInt) (h2 : p1.toInt < 50) (hr0 : 0 ≤ (u 64).toInt) (hr1 : (u 64).toInt ≤ 19) (iu64_0 : 0 ≤ (u 64).toInt) (iu64_1 : (u 64).toInt ≤ 1000) (ib63_0 : AB 0 7 (b 63)) : Met l yX12_plainTells (Cond.code yX12_plainTells cX12_plainTells 4 (some .int) :: gw) ({ frames := 6, cells := 0, slots := 0, locals := 132 }) (va_Pc [.ref (bd 0), .int p1, .int p2] (XPre D (TY cs) (RW cs bd u b bw) A)) (va_Qi (fun (r : Int32) (z : Int32 × (Nat → Int32)) => (z.1.toInt = (u 64).toInt + 5) ∧ (z.2 = TRW (b 65) (u 64).toInt.toNat [2, 30, 10, 1, 11]) ∧ (r = ((-((p2 + p1) * 2)) - ((1 : Int32) ^^^ p1))) ∧ (0 ≤ z.1.toInt) ∧ (z.1.toInt ≤ 1000)) (XPo D (fun (z : Int32 × (Nat → Int32)) => RW cs bd (va_up u 64 z.1) (va_up b 65 z.2) bw) A) A) 0 0 A := by
  refine Met.ofW (cc := cX12_plainTells) (maxL := 4) (ret := (some .int)) (by decide) rfl ?_
  intro p e s m args below meth c s₁ B hml hv
  obtain ⟨rfl, hP, hK, hD, hZ⟩ := hv
  have hx := B.exec
  have hb := B.bytes
  have hr := B.returns
  have hts := atoms_spec (ws := (Cond.code yX12_plainTells cX12_plainTells 4 (some .int) :: gw)) B.pre
  have hg : ∀ w ∈ gw, w.before ([.ref (bd 0), .int p1, .int p2] : List Value).toArray s = true := fun w h => hts w (List.mem_cons_of_mem _ h)
  have hown : s.vm.findClass RX12 = some m.cls := findClass_of_methodNamed B.named
  have hlocks := B.notSynchronized
  have hS : va_S A s.heap s.heap [] := va_S.rf
  have hP : va_P D vwCl (RW cs bd u b bw) s.heap := hP
  have hl := lv_entry ([.ref (bd 0), .int p1, .int p2]) (n := 4) (Nat.le_of_ble_eq_true rfl)
  rw [lg_entry_eq]
  generalize (lg_sl ([.ref (bd 0), .int p1, .int p2]) ++ List.replicate (4 - (lg_sl ([.ref (bd 0), .int p1, .int p2])).length) Slot.unset).toArray = ls at hl ⊢
  have hl : lv_has ls 4 [(0, .ref (bd 0)), (1, .int p1), (2, .int p2)] := hl
  refine lv_aload_n hx hb dX12_plainTells_0 rfl (lv_at hl 0 rfl) ?_
  refine lv_iconst (v := 2) hx hb dX12_plainTells_1 (by decide) ?_
  refine cV_v (As := [.int 2]) (rest := []) ⟨hx, hb, hml, hown, hg⟩ (k_X12_ran l D cs A bd u b bw  2 (show 0 ≤ (u 64).toInt by first | omega | decide) (show (u 64).toInt ≤ 23 by first | omega | decide) (show 0 ≤ (u 64).toInt by first | omega | decide) (show (u 64).toInt ≤ 1000 by first | omega | decide)) ca_X12_ran q7_55 ⟨rfl, rfl⟩ ⟨Nat.le_of_ble_eq_true rfl, Nat.le_of_ble_eq_true rfl⟩ (rc_model hK hP) hK hP hD hS hZ rfl hl.1 rfl (Nat.le_of_ble_eq_true rfl) ⟨Nat.zero_le _, Nat.zero_le _⟩ dX12_plainTells_2 (fun z_4 H locs wr_1 hP hD hS => ?_)
  obtain ⟨o_u64_2, o_b65_3⟩ := z_4
  have hP : va_P D vwCl (RW cs bd (va_up u 64 o_u64_2) (va_up b 65 o_b65_3) bw) H := hP
  have hD : va_D A (RW cs bd (va_up u 64 o_u64_2) (va_up b 65 o_b65_3) bw) := hD
  obtain ⟨wr_1_0, wr_1_1, wr_1_2, wr_1_3⟩ : (o_u64_2.toInt = (u 64).toInt + 1) ∧ (o_b65_3 = TRW (b 65) (u 64).toInt.toNat [(2 : Int32)]) ∧ (0 ≤ o_u64_2.toInt) ∧ (o_u64_2.toInt ≤ 1000) := wr_1
  have kt_5 : o_b65_3 = TRW (b 65) (u 64).toInt.toNat [2] := by rw [wr_1_1]
  refine lv_aload_n hx hb dX12_plainTells_5 rfl (lv_at hl 0 rfl) ?_
  refine lv_iload_n hx hb dX12_plainTells_6 rfl (lv_at hl 1 rfl) ?_
  refine lv_iload_n hx hb dX12_plainTells_7 rfl (lv_at hl 2 rfl) ?_
  refine cV_i (As := [.int p1, .int p2]) (rest := []) ⟨hx, hb, hml, hown, hg⟩ (k_X12_stinging_2 l D cs A bd (va_up u 64 o_u64_2) (va_up b 65 o_b65_3) bw  p1 p2 hkn (show 0 ≤ p1.toInt by first | omega | decide) (show p1.toInt < 50 by first | omega | decide) (show 0 ≤ o_u64_2.toInt by first | omega | decide) (show o_u64_2.toInt ≤ 21 by first | omega | decide) ib63_0 (show 0 ≤ o_u64_2.toInt by first | omega | decide) (show o_u64_2.toInt ≤ 1000 by first | omega | decide)) ca_X12_stinging q7_67 ⟨rfl, rfl⟩ ⟨Nat.le_of_ble_eq_true rfl, Nat.le_of_ble_eq_true rfl⟩ (rc_model hK hP) hK hP hD hS hZ rfl hl.1 rfl (Nat.le_of_ble_eq_true rfl) ⟨Nat.zero_le _, Nat.zero_le _⟩ dX12_plainTells_8 (fun r_6 z_9 H locs wr_6 hP hD hS => ?_)
  obtain ⟨o_u64_7, o_b65_8⟩ := z_9
  have hP : va_P D vwCl (RW cs bd (va_up u 64 o_u64_7) (va_up b 65 o_b65_8) bw) H := hP
  have hD : va_D A (RW cs bd (va_up u 64 o_u64_7) (va_up b 65 o_b65_8) bw) := hD
  obtain ⟨wr_6_0, wr_6_1, wr_6_2, wr_6_3, wr_6_4⟩ : (o_u64_7.toInt = o_u64_2.toInt + 3) ∧ (o_b65_8 = TRW o_b65_3 o_u64_2.toInt.toNat [30, 10, 1]) ∧ (r_6 = (-((p2 + p1) * 2))) ∧ (0 ≤ o_u64_7.toInt) ∧ (o_u64_7.toInt ≤ 1000) := wr_6
  have kt_10 : o_b65_8 = TRW (b 65) (u 64).toInt.toNat [2, 30, 10, 1] := by rw [wr_6_1, kt_5, show (o_u64_2).toInt.toNat = (u 64).toInt.toNat + 1 from by omega]; rfl
  refine lv_istore_n (lv' := [(3, .int r_6), (0, .ref (bd 0)), (1, .int p1), (2, .int p2)]) hx hb dX12_plainTells_11 rfl hl (by decide) rfl (fun ls hl => ?_)
  refine lv_iload_n hx hb dX12_plainTells_12 rfl (lv_at hl 0 rfl) ?_
  refine lv_aload_n hx hb dX12_plainTells_13 rfl (lv_at hl 1 rfl) ?_
  refine lv_iload_n hx hb dX12_plainTells_14 rfl (lv_at hl 2 rfl) ?_
  refine lv_iconst (v := 1) hx hb dX12_plainTells_15 (by decide) ?_
  refine cV_i (As := [.int p1, .int 1]) (rest := [.int r_6]) ⟨hx, hb, hml, hown, hg⟩ (k_X12_settling_2 l D cs A bd (va_up u 64 o_u64_7) (va_up b 65 o_b65_8) bw  p1 1 hkn (show 0 ≤ p1.toInt by first | omega | decide) (show p1.toInt < 50 by first | omega | decide) (show 0 ≤ o_u64_7.toInt by first | omega | decide) (show o_u64_7.toInt ≤ 23 by first | omega | decide) ib63_0 (show 0 ≤ o_u64_7.toInt by first | omega | decide) (show o_u64_7.toInt ≤ 1000 by first | omega | decide)) ca_X12_settling q7_79 ⟨rfl, rfl⟩ ⟨Nat.le_of_ble_eq_true rfl, Nat.le_of_ble_eq_true rfl⟩ (rc_model hK hP) hK hP hD hS hZ rfl hl.1 rfl (Nat.le_of_ble_eq_true rfl) ⟨Nat.zero_le _, Nat.zero_le _⟩ dX12_plainTells_16 (fun r_11 z_14 H locs wr_11 hP hD hS => ?_)
  obtain ⟨o_u64_12, o_b65_13⟩ := z_14
  have hP : va_P D vwCl (RW cs bd (va_up u 64 o_u64_12) (va_up b 65 o_b65_13) bw) H := hP
  have hD : va_D A (RW cs bd (va_up u 64 o_u64_12) (va_up b 65 o_b65_13) bw) := hD
  obtain ⟨wr_11_0, wr_11_1, wr_11_2, wr_11_3, wr_11_4⟩ : (o_u64_12.toInt = o_u64_7.toInt + 1) ∧ (o_b65_13 = TRW o_b65_8 o_u64_7.toInt.toNat [11]) ∧ (r_11 = ((1 : Int32) ^^^ p1)) ∧ (0 ≤ o_u64_12.toInt) ∧ (o_u64_12.toInt ≤ 1000) := wr_11
  have kt_15 : o_b65_13 = TRW (b 65) (u 64).toInt.toNat [2, 30, 10, 1, 11] := by rw [wr_11_1, kt_10, show (o_u64_7).toInt.toNat = (u 64).toInt.toNat + 4 from by omega]; rfl
  refine lv_isub hx hb dX12_plainTells_19 ?_
  refine lv_topi (fun x_16 ex_16 => ?_)
  exact W.iret (v := x_16) hx hb hr (fun tt ht hW => ⟨⟨x_16, ⟨o_u64_12, o_b65_13⟩, rfl, ⟨(by first | rfl | omega | trivial | assumption | (dsimp only; first | omega | assumption)), (by (try dsimp only); first | assumption | rfl), (by simp only [ex_16, wr_11_2, wr_6_2]), (show 0 ≤ o_u64_12.toInt by first | omega | assumption), (show o_u64_12.toInt ≤ 1000 by first | omega | assumption)⟩, by rw [ht]; exact hP, hD⟩, hS.F ht⟩) hS.2.2 dX12_plainTells_20
set_option maxHeartbeats 4000000 in
set_option maxRecDepth 100000 in
theorem k_X12_telling_2 (l : Launch) (D : va_G) (cs : Nat → ClassId) (A : Nat → Prop) (bd : Nat → Nat) (u : Nat → Int32) (b : Nat → Nat → Int32) (bw : Nat → Nat → Int64)  (p1 : Int32) (p2 : Int32) (hkn : (b 63) p1.toNatClampNeg = 2) (h1 : 0 ≤ p1.toInt) (h2 : p1.toInt < 50) (hr0 : 0 ≤ (u 64).toInt) (hr1 : (u 64).toInt ≤ 19) (ib63_0 : AB 0 7 (b 63)) (iu64_0 : 0 ≤ (u 64).toInt) (iu64_1 : (u 64).toInt ≤ 1000) : Met l yX12_telling (Cond.code yX12_telling cX12_telling 3 (some .int) :: gw) ({ frames := 7, cells := 0, slots := 0, locals := 155 }) (va_Pc [.ref (bd 0), .int p1, .int p2] (XPre D (TY cs) (RW cs bd u b bw) A)) (va_Qi (fun (r : Int32) (z : Int32 × (Nat → Int32)) => (z.1.toInt = (u 64).toInt + 5) ∧ (z.2 = TRW (b 65) (u 64).toInt.toNat [2, 30, 10, 1, 11]) ∧ (r = ((-((p2 + p1) * 2)) - ((1 : Int32) ^^^ p1))) ∧ (0 ≤ z.1.toInt) ∧ (z.1.toInt ≤ 1000)) (XPo D (fun (z : Int32 × (Nat → Int32)) => RW cs bd (va_up u 64 z.1) (va_up b 65 z.2) bw) A) A) 0 0 A := by
  refine Met.ofW (cc := cX12_telling) (maxL := 3) (ret := (some .int)) (by decide) rfl ?_
  intro p e s m args below meth c s₁ B hml hv
  obtain ⟨rfl, hP, hK, hD, hZ⟩ := hv
  have hx := B.exec
  have hb := B.bytes
  have hr := B.returns
  have hts := atoms_spec (ws := (Cond.code yX12_telling cX12_telling 3 (some .int) :: gw)) B.pre
  have hg : ∀ w ∈ gw, w.before ([.ref (bd 0), .int p1, .int p2] : List Value).toArray s = true := fun w h => hts w (List.mem_cons_of_mem _ h)
  have hown : s.vm.findClass RX12 = some m.cls := findClass_of_methodNamed B.named
  have hlocks := B.notSynchronized
  have hS : va_S A s.heap s.heap [] := va_S.rf
  have hP : va_P D vwCl (RW cs bd u b bw) s.heap := hP
  have hl := lv_entry ([.ref (bd 0), .int p1, .int p2]) (n := 3) (Nat.le_of_ble_eq_true rfl)
  rw [lg_entry_eq]
  generalize (lg_sl ([.ref (bd 0), .int p1, .int p2]) ++ List.replicate (3 - (lg_sl ([.ref (bd 0), .int p1, .int p2])).length) Slot.unset).toArray = ls at hl ⊢
  have hl : lv_has ls 3 [(0, .ref (bd 0)), (1, .int p1), (2, .int p2)] := hl
  refine lv_aload_n hx hb dX12_telling_0 rfl (lv_at hl 0 rfl) ?_
  refine gr_kind hx hb hg hown hK hP (hg _ q5_55) dX12_telling_1 ?_
  refine lv_iload_n hx hb dX12_telling_4 rfl (lv_at hl 1 rfl) ?_
  refine lr_kind hx hb hK hP (i_in (by omega) (by omega)) dX12_telling_5 ?_
  refine lv_topi (fun x_1 ex_1 => ?_)
  have ex_1 : x_1 = (b 63) p1.toNatClampNeg := ex_1
  have hx_1 : x_1.toInt = ((b 63) p1.toNatClampNeg).toInt := by rw [ex_1]
  have bx_1 := ib63_0 p1.toNatClampNeg
  rw [← ex_1] at bx_1
  have fx_1 : x_1 = 2 := by rw [ex_1]; exact hkn
  subst fx_1
  refine lv_iconst (v := 4) hx hb dX12_telling_6 (by decide) ?_
  refine lv_icmp_ne (tgt := 25) hx hb dX12_telling_7 (by decide) (fun c_2 => ?_) (fun c_2 => absurd c_2 (by decide))
  refine lv_aload_n hx hb dX12_telling_25 rfl (lv_at hl 0 rfl) ?_
  refine gr_kind hx hb hg hown hK hP (hg _ q5_55) dX12_telling_26 ?_
  refine lv_iload_n hx hb dX12_telling_29 rfl (lv_at hl 1 rfl) ?_
  refine lr_kind hx hb hK hP (i_in (by omega) (by omega)) dX12_telling_30 ?_
  refine lv_topi (fun x_3 ex_3 => ?_)
  have ex_3 : x_3 = (b 63) p1.toNatClampNeg := ex_3
  have hx_3 : x_3.toInt = ((b 63) p1.toNatClampNeg).toInt := by rw [ex_3]
  have bx_3 := ib63_0 p1.toNatClampNeg
  rw [← ex_3] at bx_3
  have fx_3 : x_3 = 2 := by rw [ex_3]; exact hkn
  subst fx_3
  refine lv_iconst (v := 5) hx hb dX12_telling_31 (by decide) ?_
  refine lv_icmp_ne (tgt := 50) hx hb dX12_telling_32 (by decide) (fun c_4 => ?_) (fun c_4 => absurd c_4 (by decide))
  refine lv_aload_n hx hb dX12_telling_50 rfl (lv_at hl 0 rfl) ?_
  refine lv_iload_n hx hb dX12_telling_51 rfl (lv_at hl 1 rfl) ?_
  refine lv_iload_n hx hb dX12_telling_52 rfl (lv_at hl 2 rfl) ?_
  refine cV_i (As := [.int p1, .int p2]) (rest := []) ⟨hx, hb, hml, hown, hg⟩ (k_X12_plainTells_2 l D cs A bd u b bw  p1 p2 hkn (show 0 ≤ p1.toInt by first | omega | decide) (show p1.toInt < 50 by first | omega | decide) (show 0 ≤ (u 64).toInt by first | omega | decide) (show (u 64).toInt ≤ 19 by first | omega | decide) (show 0 ≤ (u 64).toInt by first | omega | decide) (show (u 64).toInt ≤ 1000 by first | omega | decide) ib63_0) ca_X12_plainTells q7_95 ⟨rfl, rfl⟩ ⟨Nat.le_of_ble_eq_true rfl, Nat.le_of_ble_eq_true rfl⟩ (rc_model hK hP) hK hP hD hS hZ rfl hl.1 rfl (Nat.le_of_ble_eq_true rfl) ⟨Nat.zero_le _, Nat.zero_le _⟩ dX12_telling_53 (fun r_5 z_8 H locs wr_5 hP hD hS => ?_)
  obtain ⟨o_u64_6, o_b65_7⟩ := z_8
  have hP : va_P D vwCl (RW cs bd (va_up u 64 o_u64_6) (va_up b 65 o_b65_7) bw) H := hP
  have hD : va_D A (RW cs bd (va_up u 64 o_u64_6) (va_up b 65 o_b65_7) bw) := hD
  obtain ⟨wr_5_0, wr_5_1, wr_5_2, wr_5_3, wr_5_4⟩ : (o_u64_6.toInt = (u 64).toInt + 5) ∧ (o_b65_7 = TRW (b 65) (u 64).toInt.toNat [2, 30, 10, 1, 11]) ∧ (r_5 = ((-((p2 + p1) * 2)) - ((1 : Int32) ^^^ p1))) ∧ (0 ≤ o_u64_6.toInt) ∧ (o_u64_6.toInt ≤ 1000) := wr_5
  have kt_9 : o_b65_7 = TRW (b 65) (u 64).toInt.toNat [2, 30, 10, 1, 11] := by rw [wr_5_1]
  exact W.iret (v := r_5) hx hb hr (fun tt ht hW => ⟨⟨r_5, ⟨o_u64_6, o_b65_7⟩, rfl, ⟨(by first | rfl | omega | trivial | assumption | (dsimp only; first | omega | assumption)), (by (try dsimp only); first | assumption | rfl), (by simp only [wr_5_2]), (show 0 ≤ o_u64_6.toInt by first | omega | assumption), (show o_u64_6.toInt ≤ 1000 by first | omega | assumption)⟩, by rw [ht]; exact hP, hD⟩, hS.F ht⟩) hS.2.2 dX12_telling_56
set_option maxHeartbeats 4000000 in
set_option maxRecDepth 100000 in
theorem k_RU_3_1 (l : Launch)     : Met l yX12_isUnder (Cond.code yX12_isUnder cX12_isUnder 2 (some .boolean) :: gw) ({ frames := 0, cells := 0, slots := 0, locals := 0 }) (fun v _ => v = ([.int 3, .int 1] : List Value).toArray) (vp_Si (fun (r : Int32) => r.toInt = 0)) 0 0 (fun _ => False) := by
  refine Met.ofW (cc := cX12_isUnder) (maxL := 2) (ret := (some .boolean)) (by decide) rfl ?_
  intro p e s m args below meth c s₁ B hml hv
  subst hv
  have hx := B.exec
  have hb := B.bytes
  have hr := B.returns
  have hts := atoms_spec (ws := (Cond.code yX12_isUnder cX12_isUnder 2 (some .boolean) :: gw)) B.pre
  have hg : ∀ w ∈ gw, w.before ([.int 3, .int 1] : List Value).toArray s = true := fun w h => hts w (List.mem_cons_of_mem _ h)
  have hown : s.vm.findClass RX12 = some m.cls := findClass_of_methodNamed B.named
  have hlocks := B.notSynchronized
  have hl := lv_entry ([.int 3, .int 1]) (n := 2) (Nat.le_of_ble_eq_true rfl)
  rw [lg_entry_eq]
  generalize (lg_sl ([.int 3, .int 1]) ++ List.replicate (2 - (lg_sl ([.int 3, .int 1])).length) Slot.unset).toArray = ls at hl ⊢
  have hl : lv_has ls 2 [(0, .int 3), (1, .int 1)] := hl
  refine lv_iload_n hx hb dX12_isUnder_0 rfl (lv_at hl 1 rfl) ?_
  refine lv_if_eq (tgt := 56) hx hb dX12_isUnder_1 (by decide) (fun c_1 => absurd c_1 (by decide)) (fun c_1 => ?_)
  refine lv_iload_n hx hb dX12_isUnder_4 rfl (lv_at hl 0 rfl) ?_
  refine lv_iload_n hx hb dX12_isUnder_5 rfl (lv_at hl 1 rfl) ?_
  refine lv_icmp_eq (tgt := 56) hx hb dX12_isUnder_6 (by decide) (fun c_2 => absurd c_2 (by decide)) (fun c_2 => ?_)
  refine lv_iload_n hx hb dX12_isUnder_9 rfl (lv_at hl 1 rfl) ?_
  refine lv_iconst (v := 1) hx hb dX12_isUnder_10 (by decide) ?_
  refine lv_icmp_ne (tgt := 19) hx hb dX12_isUnder_11 (by decide) (fun c_3 => absurd c_3 (by decide)) (fun c_3 => ?_)
  refine lv_iload_n hx hb dX12_isUnder_14 rfl (lv_at hl 0 rfl) ?_
  refine lv_iconst (v := 4) hx hb dX12_isUnder_15 (by decide) ?_
  refine lv_icmp_eq (tgt := 56) hx hb dX12_isUnder_16 (by decide) (fun c_4 => absurd c_4 (by decide)) (fun c_4 => ?_)
  refine lv_iload_n hx hb dX12_isUnder_19 rfl (lv_at hl 1 rfl) ?_
  refine lv_iconst (v := 2) hx hb dX12_isUnder_20 (by decide) ?_
  refine lv_icmp_ne (tgt := 34) hx hb dX12_isUnder_21 (by decide) (fun c_5 => ?_) (fun c_5 => absurd c_5 (by decide))
  refine lv_iload_n hx hb dX12_isUnder_34 rfl (lv_at hl 1 rfl) ?_
  refine lv_iconst (v := 3) hx hb dX12_isUnder_35 (by decide) ?_
  refine lv_icmp_ne (tgt := 44) hx hb dX12_isUnder_36 (by decide) (fun c_6 => ?_) (fun c_6 => absurd c_6 (by decide))
  refine lv_iload_n hx hb dX12_isUnder_44 rfl (lv_at hl 1 rfl) ?_
  refine lv_bipush (v := 6) hx hb dX12_isUnder_45 (by decide) ?_
  refine lv_icmp_ne (tgt := 60) hx hb dX12_isUnder_47 (by decide) (fun c_7 => ?_) (fun c_7 => absurd c_7 (by decide))
  refine lv_iconst (v := 0) hx hb dX12_isUnder_60 (by decide) ?_
  have q0_0 : (0 : Int32).toInt = 0 := rfl
  exact W.zret (v := 0) hx hb hr rfl (fun tt ht hW => ⟨0, rfl, (by first | rfl | omega | trivial | assumption | (dsimp only; first | omega | assumption)), ht⟩) (fun _ h => by cases h) dX12_isUnder_61
set_option maxHeartbeats 4000000 in
set_option maxRecDepth 100000 in
theorem k_RU_3_3 (l : Launch)     : Met l yX12_isUnder (Cond.code yX12_isUnder cX12_isUnder 2 (some .boolean) :: gw) ({ frames := 0, cells := 0, slots := 0, locals := 0 }) (fun v _ => v = ([.int 3, .int 3] : List Value).toArray) (vp_Si (fun (r : Int32) => r.toInt = 1)) 0 0 (fun _ => False) := by
  refine Met.ofW (cc := cX12_isUnder) (maxL := 2) (ret := (some .boolean)) (by decide) rfl ?_
  intro p e s m args below meth c s₁ B hml hv
  subst hv
  have hx := B.exec
  have hb := B.bytes
  have hr := B.returns
  have hts := atoms_spec (ws := (Cond.code yX12_isUnder cX12_isUnder 2 (some .boolean) :: gw)) B.pre
  have hg : ∀ w ∈ gw, w.before ([.int 3, .int 3] : List Value).toArray s = true := fun w h => hts w (List.mem_cons_of_mem _ h)
  have hown : s.vm.findClass RX12 = some m.cls := findClass_of_methodNamed B.named
  have hlocks := B.notSynchronized
  have hl := lv_entry ([.int 3, .int 3]) (n := 2) (Nat.le_of_ble_eq_true rfl)
  rw [lg_entry_eq]
  generalize (lg_sl ([.int 3, .int 3]) ++ List.replicate (2 - (lg_sl ([.int 3, .int 3])).length) Slot.unset).toArray = ls at hl ⊢
  have hl : lv_has ls 2 [(0, .int 3), (1, .int 3)] := hl
  refine lv_iload_n hx hb dX12_isUnder_0 rfl (lv_at hl 1 rfl) ?_
  refine lv_if_eq (tgt := 56) hx hb dX12_isUnder_1 (by decide) (fun c_1 => absurd c_1 (by decide)) (fun c_1 => ?_)
  refine lv_iload_n hx hb dX12_isUnder_4 rfl (lv_at hl 0 rfl) ?_
  refine lv_iload_n hx hb dX12_isUnder_5 rfl (lv_at hl 1 rfl) ?_
  refine lv_icmp_eq (tgt := 56) hx hb dX12_isUnder_6 (by decide) (fun c_2 => ?_) (fun c_2 => absurd c_2 (by decide))
  refine lv_iconst (v := 1) hx hb dX12_isUnder_56 (by decide) ?_
  refine lv_goto (tgt := 61) hx hb dX12_isUnder_57 (by decide) ?_
  have q0_1 : (1 : Int32).toInt = 1 := rfl
  exact W.zret (v := 1) hx hb hr rfl (fun tt ht hW => ⟨1, rfl, (by first | rfl | omega | trivial | assumption | (dsimp only; first | omega | assumption)), ht⟩) (fun _ h => by cases h) dX12_isUnder_61
set_option maxHeartbeats 4000000 in
set_option maxRecDepth 100000 in
theorem k_X12_flying_3 (l : Launch) (D : va_G) (cs : Nat → ClassId) (A : Nat → Prop) (bd : Nat → Nat) (u : Nat → Int32) (b : Nat → Nat → Int32) (bw : Nat → Nat → Int64)  (p1 : Int32) (p2 : Int32) (hkn : (b 63) p1.toNatClampNeg = 3) (h1 : 0 ≤ p1.toInt) (h2 : p1.toInt < 50) (hr0 : 0 ≤ (u 64).toInt) (hr1 : (u 64).toInt ≤ 23) (ib63_0 : AB 0 7 (b 63)) (iu64_0 : 0 ≤ (u 64).toInt) (iu64_1 : (u 64).toInt ≤ 1000) : Met l yX12_flying (Cond.code yX12_flying cX12_flying 3 (some .int) :: gw) ({ frames := 2, cells := 0, slots := 0, locals := 43 }) (va_Pc [.ref (bd 0), .int p1, .int p2] (XPre D (TY cs) (RW cs bd u b bw) A)) (va_Qi (fun (r : Int32) (z : Int32 × (Nat → Int32)) => (z.1.toInt = (u 64).toInt + 1) ∧ (z.2 = TRW (b 65) (u 64).toInt.toNat [1]) ∧ (r = (p2 + p1)) ∧ (0 ≤ z.1.toInt) ∧ (z.1.toInt ≤ 1000)) (XPo D (fun (z : Int32 × (Nat → Int32)) => RW cs bd (va_up u 64 z.1) (va_up b 65 z.2) bw) A) A) 0 0 A := by
  refine Met.ofW (cc := cX12_flying) (maxL := 3) (ret := (some .int)) (by decide) rfl ?_
  intro p e s m args below meth c s₁ B hml hv
  obtain ⟨rfl, hP, hK, hD, hZ⟩ := hv
  have hx := B.exec
  have hb := B.bytes
  have hr := B.returns
  have hts := atoms_spec (ws := (Cond.code yX12_flying cX12_flying 3 (some .int) :: gw)) B.pre
  have hg : ∀ w ∈ gw, w.before ([.ref (bd 0), .int p1, .int p2] : List Value).toArray s = true := fun w h => hts w (List.mem_cons_of_mem _ h)
  have hown : s.vm.findClass RX12 = some m.cls := findClass_of_methodNamed B.named
  have hlocks := B.notSynchronized
  have hS : va_S A s.heap s.heap [] := va_S.rf
  have hP : va_P D vwCl (RW cs bd u b bw) s.heap := hP
  have hl := lv_entry ([.ref (bd 0), .int p1, .int p2]) (n := 3) (Nat.le_of_ble_eq_true rfl)
  rw [lg_entry_eq]
  generalize (lg_sl ([.ref (bd 0), .int p1, .int p2]) ++ List.replicate (3 - (lg_sl ([.ref (bd 0), .int p1, .int p2])).length) Slot.unset).toArray = ls at hl ⊢
  have hl : lv_has ls 3 [(0, .ref (bd 0)), (1, .int p1), (2, .int p2)] := hl
  refine lv_aload_n hx hb dX12_flying_0 rfl (lv_at hl 0 rfl) ?_
  refine gr_kind hx hb hg hown hK hP (hg _ q5_55) dX12_flying_1 ?_
  refine lv_iload_n hx hb dX12_flying_4 rfl (lv_at hl 1 rfl) ?_
  refine lr_kind hx hb hK hP (i_in (by omega) (by omega)) dX12_flying_5 ?_
  refine lv_topi (fun x_1 ex_1 => ?_)
  have ex_1 : x_1 = (b 63) p1.toNatClampNeg := ex_1
  have hx_1 : x_1.toInt = ((b 63) p1.toNatClampNeg).toInt := by rw [ex_1]
  have bx_1 := ib63_0 p1.toNatClampNeg
  rw [← ex_1] at bx_1
  have fx_1 : x_1 = 3 := by rw [ex_1]; exact hkn
  subst fx_1
  refine lv_iconst (v := 1) hx hb dX12_flying_6 (by decide) ?_
  refine cS_p (As := [.int 3, .int 1]) (rest := []) ⟨hx, hb, hml, hown, hg⟩ (k_RU_3_1 l    ) ca_X12_isUnder q7_52 ⟨rfl, rfl⟩ ⟨Nat.le_of_ble_eq_true rfl, Nat.le_of_ble_eq_true rfl⟩ rfl hl.1 rfl (Nat.le_of_ble_eq_true rfl) ⟨Nat.zero_le _, Nat.zero_le _⟩ dX12_flying_7 (fun r_2 wr_2 => ?_)
  have wr_2 : r_2.toInt = 0 := wr_2
  refine lv_if_eq (tgt := 28) hx hb dX12_flying_10 (by decide) (fun c_3 => ?_) (fun c_3 => ?_)
  ·
    have kc_3 : r_2.toInt = (0 : Int) := i_eq c_3
    refine lv_aload_n hx hb dX12_flying_28 rfl (lv_at hl 0 rfl) ?_
    refine gr_kind hx hb hg hown hK hP (hg _ q5_55) dX12_flying_29 ?_
    refine lv_iload_n hx hb dX12_flying_32 rfl (lv_at hl 1 rfl) ?_
    refine lr_kind hx hb hK hP (i_in (by omega) (by omega)) dX12_flying_33 ?_
    refine lv_topi (fun x_4 ex_4 => ?_)
    have ex_4 : x_4 = (b 63) p1.toNatClampNeg := ex_4
    have hx_4 : x_4.toInt = ((b 63) p1.toNatClampNeg).toInt := by rw [ex_4]
    have bx_4 := ib63_0 p1.toNatClampNeg
    rw [← ex_4] at bx_4
    have fx_4 : x_4 = 3 := by rw [ex_4]; exact hkn
    subst fx_4
    refine lv_bipush (v := 7) hx hb dX12_flying_34 (by decide) ?_
    refine lv_icmp_ne (tgt := 54) hx hb dX12_flying_36 (by decide) (fun c_5 => ?_) (fun c_5 => absurd c_5 (by decide))
    refine lv_aload_n hx hb dX12_flying_54 rfl (lv_at hl 0 rfl) ?_
    refine gr_kind hx hb hg hown hK hP (hg _ q5_55) dX12_flying_55 ?_
    refine lv_iload_n hx hb dX12_flying_58 rfl (lv_at hl 1 rfl) ?_
    refine lr_kind hx hb hK hP (i_in (by omega) (by omega)) dX12_flying_59 ?_
    refine lv_topi (fun x_6 ex_6 => ?_)
    have ex_6 : x_6 = (b 63) p1.toNatClampNeg := ex_6
    have hx_6 : x_6.toInt = ((b 63) p1.toNatClampNeg).toInt := by rw [ex_6]
    have bx_6 := ib63_0 p1.toNatClampNeg
    rw [← ex_6] at bx_6
    have fx_6 : x_6 = 3 := by rw [ex_6]; exact hkn
    subst fx_6
    refine lv_bipush (v := 6) hx hb dX12_flying_60 (by decide) ?_
    refine lv_icmp_ne (tgt := 74) hx hb dX12_flying_62 (by decide) (fun c_7 => ?_) (fun c_7 => absurd c_7 (by decide))
    refine lv_aload_n hx hb dX12_flying_74 rfl (lv_at hl 0 rfl) ?_
    refine lv_iload_n hx hb dX12_flying_75 rfl (lv_at hl 1 rfl) ?_
    refine lv_iload_n hx hb dX12_flying_76 rfl (lv_at hl 2 rfl) ?_
    refine cV_i (As := [.int p1, .int p2]) (rest := []) ⟨hx, hb, hml, hown, hg⟩ (k_X12_plainFlies l D cs A bd u b bw  p1 p2 (show 0 ≤ (u 64).toInt by first | omega | decide) (show (u 64).toInt ≤ 23 by first | omega | decide) (show 0 ≤ (u 64).toInt by first | omega | decide) (show (u 64).toInt ≤ 1000 by first | omega | decide)) ca_X12_plainFlies q7_59 ⟨rfl, rfl⟩ ⟨Nat.le_of_ble_eq_true rfl, Nat.le_of_ble_eq_true rfl⟩ (rc_model hK hP) hK hP hD hS hZ rfl hl.1 rfl (Nat.le_of_ble_eq_true rfl) ⟨Nat.zero_le _, Nat.zero_le _⟩ dX12_flying_77 (fun r_8 z_11 H locs wr_8 hP hD hS => ?_)
    obtain ⟨o_u64_9, o_b65_10⟩ := z_11
    have hP : va_P D vwCl (RW cs bd (va_up u 64 o_u64_9) (va_up b 65 o_b65_10) bw) H := hP
    have hD : va_D A (RW cs bd (va_up u 64 o_u64_9) (va_up b 65 o_b65_10) bw) := hD
    obtain ⟨wr_8_0, wr_8_1, wr_8_2, wr_8_3, wr_8_4⟩ : (o_u64_9.toInt = (u 64).toInt + 1) ∧ (o_b65_10 = TRW (b 65) (u 64).toInt.toNat [1]) ∧ (r_8 = (p2 + p1)) ∧ (0 ≤ o_u64_9.toInt) ∧ (o_u64_9.toInt ≤ 1000) := wr_8
    have kt_12 : o_b65_10 = TRW (b 65) (u 64).toInt.toNat [1] := by rw [wr_8_1]
    exact W.iret (v := r_8) hx hb hr (fun tt ht hW => ⟨⟨r_8, ⟨o_u64_9, o_b65_10⟩, rfl, ⟨(by first | rfl | omega | trivial | assumption | (dsimp only; first | omega | assumption)), (by (try dsimp only); first | assumption | rfl), (by simp only [wr_8_2]), (show 0 ≤ o_u64_9.toInt by first | omega | assumption), (show o_u64_9.toInt ≤ 1000 by first | omega | assumption)⟩, by rw [ht]; exact hP, hD⟩, hS.F ht⟩) hS.2.2 dX12_flying_80
  ·
    have kc_3 : r_2.toInt ≠ (0 : Int) := i_ne c_3
    exfalso; omega
set_option maxHeartbeats 4000000 in
set_option maxRecDepth 100000 in
theorem k_X12_plainStings_3 (l : Launch) (D : va_G) (cs : Nat → ClassId) (A : Nat → Prop) (bd : Nat → Nat) (u : Nat → Int32) (b : Nat → Nat → Int32) (bw : Nat → Nat → Int64)  (p1 : Int32) (p2 : Int32) (hkn : (b 63) p1.toNatClampNeg = 3) (h1 : 0 ≤ p1.toInt) (h2 : p1.toInt < 50) (hr0 : 0 ≤ (u 64).toInt) (hr1 : (u 64).toInt ≤ 22) (iu64_0 : 0 ≤ (u 64).toInt) (iu64_1 : (u 64).toInt ≤ 1000) (ib63_0 : AB 0 7 (b 63)) : Met l yX12_plainStings (Cond.code yX12_plainStings cX12_plainStings 3 (some .int) :: gw) ({ frames := 3, cells := 0, slots := 0, locals := 65 }) (va_Pc [.ref (bd 0), .int p1, .int p2] (XPre D (TY cs) (RW cs bd u b bw) A)) (va_Qi (fun (r : Int32) (z : Int32 × (Nat → Int32)) => (z.1.toInt = (u 64).toInt + 2) ∧ (z.2 = TRW (b 65) (u 64).toInt.toNat [10, 1]) ∧ (r = ((p2 + p1) * 2)) ∧ (0 ≤ z.1.toInt) ∧ (z.1.toInt ≤ 1000)) (XPo D (fun (z : Int32 × (Nat → Int32)) => RW cs bd (va_up u 64 z.1) (va_up b 65 z.2) bw) A) A) 0 0 A := by
  refine Met.ofW (cc := cX12_plainStings) (maxL := 3) (ret := (some .int)) (by decide) rfl ?_
  intro p e s m args below meth c s₁ B hml hv
  obtain ⟨rfl, hP, hK, hD, hZ⟩ := hv
  have hx := B.exec
  have hb := B.bytes
  have hr := B.returns
  have hts := atoms_spec (ws := (Cond.code yX12_plainStings cX12_plainStings 3 (some .int) :: gw)) B.pre
  have hg : ∀ w ∈ gw, w.before ([.ref (bd 0), .int p1, .int p2] : List Value).toArray s = true := fun w h => hts w (List.mem_cons_of_mem _ h)
  have hown : s.vm.findClass RX12 = some m.cls := findClass_of_methodNamed B.named
  have hlocks := B.notSynchronized
  have hS : va_S A s.heap s.heap [] := va_S.rf
  have hP : va_P D vwCl (RW cs bd u b bw) s.heap := hP
  have hl := lv_entry ([.ref (bd 0), .int p1, .int p2]) (n := 3) (Nat.le_of_ble_eq_true rfl)
  rw [lg_entry_eq]
  generalize (lg_sl ([.ref (bd 0), .int p1, .int p2]) ++ List.replicate (3 - (lg_sl ([.ref (bd 0), .int p1, .int p2])).length) Slot.unset).toArray = ls at hl ⊢
  have hl : lv_has ls 3 [(0, .ref (bd 0)), (1, .int p1), (2, .int p2)] := hl
  refine lv_aload_n hx hb dX12_plainStings_0 rfl (lv_at hl 0 rfl) ?_
  refine lv_bipush (v := 10) hx hb dX12_plainStings_1 (by decide) ?_
  refine cV_v (As := [.int 10]) (rest := []) ⟨hx, hb, hml, hown, hg⟩ (k_X12_ran l D cs A bd u b bw  10 (show 0 ≤ (u 64).toInt by first | omega | decide) (show (u 64).toInt ≤ 23 by first | omega | decide) (show 0 ≤ (u 64).toInt by first | omega | decide) (show (u 64).toInt ≤ 1000 by first | omega | decide)) ca_X12_ran q7_55 ⟨rfl, rfl⟩ ⟨Nat.le_of_ble_eq_true rfl, Nat.le_of_ble_eq_true rfl⟩ (rc_model hK hP) hK hP hD hS hZ rfl hl.1 rfl (Nat.le_of_ble_eq_true rfl) ⟨Nat.zero_le _, Nat.zero_le _⟩ dX12_plainStings_3 (fun z_4 H locs wr_1 hP hD hS => ?_)
  obtain ⟨o_u64_2, o_b65_3⟩ := z_4
  have hP : va_P D vwCl (RW cs bd (va_up u 64 o_u64_2) (va_up b 65 o_b65_3) bw) H := hP
  have hD : va_D A (RW cs bd (va_up u 64 o_u64_2) (va_up b 65 o_b65_3) bw) := hD
  obtain ⟨wr_1_0, wr_1_1, wr_1_2, wr_1_3⟩ : (o_u64_2.toInt = (u 64).toInt + 1) ∧ (o_b65_3 = TRW (b 65) (u 64).toInt.toNat [(10 : Int32)]) ∧ (0 ≤ o_u64_2.toInt) ∧ (o_u64_2.toInt ≤ 1000) := wr_1
  have kt_5 : o_b65_3 = TRW (b 65) (u 64).toInt.toNat [10] := by rw [wr_1_1]
  refine lv_aload_n hx hb dX12_plainStings_6 rfl (lv_at hl 0 rfl) ?_
  refine lv_iload_n hx hb dX12_plainStings_7 rfl (lv_at hl 1 rfl) ?_
  refine lv_iload_n hx hb dX12_plainStings_8 rfl (lv_at hl 2 rfl) ?_
  refine cV_i (As := [.int p1, .int p2]) (rest := []) ⟨hx, hb, hml, hown, hg⟩ (k_X12_flying_3 l D cs A bd (va_up u 64 o_u64_2) (va_up b 65 o_b65_3) bw  p1 p2 hkn (show 0 ≤ p1.toInt by first | omega | decide) (show p1.toInt < 50 by first | omega | decide) (show 0 ≤ o_u64_2.toInt by first | omega | decide) (show o_u64_2.toInt ≤ 23 by first | omega | decide) ib63_0 (show 0 ≤ o_u64_2.toInt by first | omega | decide) (show o_u64_2.toInt ≤ 1000 by first | omega | decide)) ca_X12_flying q7_48 ⟨rfl, rfl⟩ ⟨Nat.le_of_ble_eq_true rfl, Nat.le_of_ble_eq_true rfl⟩ (rc_model hK hP) hK hP hD hS hZ rfl hl.1 rfl (Nat.le_of_ble_eq_true rfl) ⟨Nat.zero_le _, Nat.zero_le _⟩ dX12_plainStings_9 (fun r_6 z_9 H locs wr_6 hP hD hS => ?_)
  obtain ⟨o_u64_7, o_b65_8⟩ := z_9
  have hP : va_P D vwCl (RW cs bd (va_up u 64 o_u64_7) (va_up b 65 o_b65_8) bw) H := hP
  have hD : va_D A (RW cs bd (va_up u 64 o_u64_7) (va_up b 65 o_b65_8) bw) := hD
  obtain ⟨wr_6_0, wr_6_1, wr_6_2, wr_6_3, wr_6_4⟩ : (o_u64_7.toInt = o_u64_2.toInt + 1) ∧ (o_b65_8 = TRW o_b65_3 o_u64_2.toInt.toNat [1]) ∧ (r_6 = (p2 + p1)) ∧ (0 ≤ o_u64_7.toInt) ∧ (o_u64_7.toInt ≤ 1000) := wr_6
  have kt_10 : o_b65_8 = TRW (b 65) (u 64).toInt.toNat [10, 1] := by rw [wr_6_1, kt_5, show (o_u64_2).toInt.toNat = (u 64).toInt.toNat + 1 from by omega]; rfl
  refine lv_iconst (v := 2) hx hb dX12_plainStings_12 (by decide) ?_
  refine lv_imul hx hb dX12_plainStings_13 ?_
  refine lv_topi (fun x_11 ex_11 => ?_)
  exact W.iret (v := x_11) hx hb hr (fun tt ht hW => ⟨⟨x_11, ⟨o_u64_7, o_b65_8⟩, rfl, ⟨(by first | rfl | omega | trivial | assumption | (dsimp only; first | omega | assumption)), (by (try dsimp only); first | assumption | rfl), (by simp only [ex_11, wr_6_2]), (show 0 ≤ o_u64_7.toInt by first | omega | assumption), (show o_u64_7.toInt ≤ 1000 by first | omega | assumption)⟩, by rw [ht]; exact hP, hD⟩, hS.F ht⟩) hS.2.2 dX12_plainStings_14
set_option maxHeartbeats 4000000 in
set_option maxRecDepth 100000 in
theorem k_X12_brookStings_3 (l : Launch) (D : va_G) (cs : Nat → ClassId) (A : Nat → Prop) (bd : Nat → Nat) (u : Nat → Int32) (b : Nat → Nat → Int32) (bw : Nat → Nat → Int64)  (p1 : Int32) (p2 : Int32) (hkn : (b 63) p1.toNatClampNeg = 3) (h1 : 0 ≤ p1.toInt) (h2 : p1.toInt < 50) (hr0 : 0 ≤ (u 64).toInt) (hr1 : (u 64).toInt ≤ 21) (iu64_0 : 0 ≤ (u 64).toInt) (iu64_1 : (u 64).toInt ≤ 1000) (ib63_0 : AB 0 7 (b 63)) : Met l yX12_brookStings (Cond.code yX12_brookStings cX12_brookStings 3 (some .int) :: gw) ({ frames := 4, cells := 0, slots := 0, locals := 87 }) (va_Pc [.ref (bd 0), .int p1, .int p2] (XPre D (TY cs) (RW cs bd u b bw) A)) (va_Qi (fun (r : Int32) (z : Int32 × (Nat → Int32)) => (z.1.toInt = (u 64).toInt + 3) ∧ (z.2 = TRW (b 65) (u 64).toInt.toNat [30, 10, 1]) ∧ (r = (-((p2 + p1) * 2))) ∧ (0 ≤ z.1.toInt) ∧ (z.1.toInt ≤ 1000)) (XPo D (fun (z : Int32 × (Nat → Int32)) => RW cs bd (va_up u 64 z.1) (va_up b 65 z.2) bw) A) A) 0 0 A := by
  refine Met.ofW (cc := cX12_brookStings) (maxL := 3) (ret := (some .int)) (by decide) rfl ?_
  intro p e s m args below meth c s₁ B hml hv
  obtain ⟨rfl, hP, hK, hD, hZ⟩ := hv
  have hx := B.exec
  have hb := B.bytes
  have hr := B.returns
  have hts := atoms_spec (ws := (Cond.code yX12_brookStings cX12_brookStings 3 (some .int) :: gw)) B.pre
  have hg : ∀ w ∈ gw, w.before ([.ref (bd 0), .int p1, .int p2] : List Value).toArray s = true := fun w h => hts w (List.mem_cons_of_mem _ h)
  have hown : s.vm.findClass RX12 = some m.cls := findClass_of_methodNamed B.named
  have hlocks := B.notSynchronized
  have hS : va_S A s.heap s.heap [] := va_S.rf
  have hP : va_P D vwCl (RW cs bd u b bw) s.heap := hP
  have hl := lv_entry ([.ref (bd 0), .int p1, .int p2]) (n := 3) (Nat.le_of_ble_eq_true rfl)
  rw [lg_entry_eq]
  generalize (lg_sl ([.ref (bd 0), .int p1, .int p2]) ++ List.replicate (3 - (lg_sl ([.ref (bd 0), .int p1, .int p2])).length) Slot.unset).toArray = ls at hl ⊢
  have hl : lv_has ls 3 [(0, .ref (bd 0)), (1, .int p1), (2, .int p2)] := hl
  refine lv_aload_n hx hb dX12_brookStings_0 rfl (lv_at hl 0 rfl) ?_
  refine lv_bipush (v := 30) hx hb dX12_brookStings_1 (by decide) ?_
  refine cV_v (As := [.int 30]) (rest := []) ⟨hx, hb, hml, hown, hg⟩ (k_X12_ran l D cs A bd u b bw  30 (show 0 ≤ (u 64).toInt by first | omega | decide) (show (u 64).toInt ≤ 23 by first | omega | decide) (show 0 ≤ (u 64).toInt by first | omega | decide) (show (u 64).toInt ≤ 1000 by first | omega | decide)) ca_X12_ran q7_55 ⟨rfl, rfl⟩ ⟨Nat.le_of_ble_eq_true rfl, Nat.le_of_ble_eq_true rfl⟩ (rc_model hK hP) hK hP hD hS hZ rfl hl.1 rfl (Nat.le_of_ble_eq_true rfl) ⟨Nat.zero_le _, Nat.zero_le _⟩ dX12_brookStings_3 (fun z_4 H locs wr_1 hP hD hS => ?_)
  obtain ⟨o_u64_2, o_b65_3⟩ := z_4
  have hP : va_P D vwCl (RW cs bd (va_up u 64 o_u64_2) (va_up b 65 o_b65_3) bw) H := hP
  have hD : va_D A (RW cs bd (va_up u 64 o_u64_2) (va_up b 65 o_b65_3) bw) := hD
  obtain ⟨wr_1_0, wr_1_1, wr_1_2, wr_1_3⟩ : (o_u64_2.toInt = (u 64).toInt + 1) ∧ (o_b65_3 = TRW (b 65) (u 64).toInt.toNat [(30 : Int32)]) ∧ (0 ≤ o_u64_2.toInt) ∧ (o_u64_2.toInt ≤ 1000) := wr_1
  have kt_5 : o_b65_3 = TRW (b 65) (u 64).toInt.toNat [30] := by rw [wr_1_1]
  refine lv_aload_n hx hb dX12_brookStings_6 rfl (lv_at hl 0 rfl) ?_
  refine lv_iload_n hx hb dX12_brookStings_7 rfl (lv_at hl 1 rfl) ?_
  refine lv_iload_n hx hb dX12_brookStings_8 rfl (lv_at hl 2 rfl) ?_
  refine cV_i (As := [.int p1, .int p2]) (rest := []) ⟨hx, hb, hml, hown, hg⟩ (k_X12_plainStings_3 l D cs A bd (va_up u 64 o_u64_2) (va_up b 65 o_b65_3) bw  p1 p2 hkn (show 0 ≤ p1.toInt by first | omega | decide) (show p1.toInt < 50 by first | omega | decide) (show 0 ≤ o_u64_2.toInt by first | omega | decide) (show o_u64_2.toInt ≤ 22 by first | omega | decide) (show 0 ≤ o_u64_2.toInt by first | omega | decide) (show o_u64_2.toInt ≤ 1000 by first | omega | decide) ib63_0) ca_X12_plainStings q7_75 ⟨rfl, rfl⟩ ⟨Nat.le_of_ble_eq_true rfl, Nat.le_of_ble_eq_true rfl⟩ (rc_model hK hP) hK hP hD hS hZ rfl hl.1 rfl (Nat.le_of_ble_eq_true rfl) ⟨Nat.zero_le _, Nat.zero_le _⟩ dX12_brookStings_9 (fun r_6 z_9 H locs wr_6 hP hD hS => ?_)
  obtain ⟨o_u64_7, o_b65_8⟩ := z_9
  have hP : va_P D vwCl (RW cs bd (va_up u 64 o_u64_7) (va_up b 65 o_b65_8) bw) H := hP
  have hD : va_D A (RW cs bd (va_up u 64 o_u64_7) (va_up b 65 o_b65_8) bw) := hD
  obtain ⟨wr_6_0, wr_6_1, wr_6_2, wr_6_3, wr_6_4⟩ : (o_u64_7.toInt = o_u64_2.toInt + 2) ∧ (o_b65_8 = TRW o_b65_3 o_u64_2.toInt.toNat [10, 1]) ∧ (r_6 = ((p2 + p1) * 2)) ∧ (0 ≤ o_u64_7.toInt) ∧ (o_u64_7.toInt ≤ 1000) := wr_6
  have kt_10 : o_b65_8 = TRW (b 65) (u 64).toInt.toNat [30, 10, 1] := by rw [wr_6_1, kt_5, show (o_u64_2).toInt.toNat = (u 64).toInt.toNat + 1 from by omega]; rfl
  refine lv_ineg hx hb dX12_brookStings_12 ?_
  refine lv_topi (fun x_11 ex_11 => ?_)
  exact W.iret (v := x_11) hx hb hr (fun tt ht hW => ⟨⟨x_11, ⟨o_u64_7, o_b65_8⟩, rfl, ⟨(by first | rfl | omega | trivial | assumption | (dsimp only; first | omega | assumption)), (by (try dsimp only); first | assumption | rfl), (by simp only [ex_11, wr_6_2]), (show 0 ≤ o_u64_7.toInt by first | omega | assumption), (show o_u64_7.toInt ≤ 1000 by first | omega | assumption)⟩, by rw [ht]; exact hP, hD⟩, hS.F ht⟩) hS.2.2 dX12_brookStings_13
set_option maxHeartbeats 4000000 in
set_option maxRecDepth 100000 in
theorem k_X12_settling_3 (l : Launch) (D : va_G) (cs : Nat → ClassId) (A : Nat → Prop) (bd : Nat → Nat) (u : Nat → Int32) (b : Nat → Nat → Int32) (bw : Nat → Nat → Int64)  (p1 : Int32) (p2 : Int32) (hkn : (b 63) p1.toNatClampNeg = 3) (h1 : 0 ≤ p1.toInt) (h2 : p1.toInt < 50) (hr0 : 0 ≤ (u 64).toInt) (hr1 : (u 64).toInt ≤ 22) (ib63_0 : AB 0 7 (b 63)) (iu64_0 : 0 ≤ (u 64).toInt) (iu64_1 : (u 64).toInt ≤ 1000) : Met l yX12_settling (Cond.code yX12_settling cX12_settling 4 (some .int) :: gw) ({ frames := 3, cells := 0, slots := 0, locals := 65 }) (va_Pc [.ref (bd 0), .int p1, .int p2] (XPre D (TY cs) (RW cs bd u b bw) A)) (va_Qi (fun (r : Int32) (z : Int32 × (Nat → Int32)) => (z.1.toInt = (u 64).toInt + 2) ∧ (z.2 = TRW (b 65) (u 64).toInt.toNat [40, 11]) ∧ (r = ((p2 ^^^ p1) * 3)) ∧ (0 ≤ z.1.toInt) ∧ (z.1.toInt ≤ 1000)) (XPo D (fun (z : Int32 × (Nat → Int32)) => RW cs bd (va_up u 64 z.1) (va_up b 65 z.2) bw) A) A) 0 0 A := by
  refine Met.ofW (cc := cX12_settling) (maxL := 4) (ret := (some .int)) (by decide) rfl ?_
  intro p e s m args below meth c s₁ B hml hv
  obtain ⟨rfl, hP, hK, hD, hZ⟩ := hv
  have hx := B.exec
  have hb := B.bytes
  have hr := B.returns
  have hts := atoms_spec (ws := (Cond.code yX12_settling cX12_settling 4 (some .int) :: gw)) B.pre
  have hg : ∀ w ∈ gw, w.before ([.ref (bd 0), .int p1, .int p2] : List Value).toArray s = true := fun w h => hts w (List.mem_cons_of_mem _ h)
  have hown : s.vm.findClass RX12 = some m.cls := findClass_of_methodNamed B.named
  have hlocks := B.notSynchronized
  have hS : va_S A s.heap s.heap [] := va_S.rf
  have hP : va_P D vwCl (RW cs bd u b bw) s.heap := hP
  have hl := lv_entry ([.ref (bd 0), .int p1, .int p2]) (n := 4) (Nat.le_of_ble_eq_true rfl)
  rw [lg_entry_eq]
  generalize (lg_sl ([.ref (bd 0), .int p1, .int p2]) ++ List.replicate (4 - (lg_sl ([.ref (bd 0), .int p1, .int p2])).length) Slot.unset).toArray = ls at hl ⊢
  have hl : lv_has ls 4 [(0, .ref (bd 0)), (1, .int p1), (2, .int p2)] := hl
  refine lv_aload_n hx hb dX12_settling_0 rfl (lv_at hl 0 rfl) ?_
  refine gr_kind hx hb hg hown hK hP (hg _ q5_55) dX12_settling_1 ?_
  refine lv_iload_n hx hb dX12_settling_4 rfl (lv_at hl 1 rfl) ?_
  refine lr_kind hx hb hK hP (i_in (by omega) (by omega)) dX12_settling_5 ?_
  refine lv_topi (fun x_1 ex_1 => ?_)
  have ex_1 : x_1 = (b 63) p1.toNatClampNeg := ex_1
  have hx_1 : x_1.toInt = ((b 63) p1.toNatClampNeg).toInt := by rw [ex_1]
  have bx_1 := ib63_0 p1.toNatClampNeg
  rw [← ex_1] at bx_1
  have fx_1 : x_1 = 3 := by rw [ex_1]; exact hkn
  subst fx_1
  refine lv_iconst (v := 5) hx hb dX12_settling_6 (by decide) ?_
  refine lv_icmp_ne (tgt := 32) hx hb dX12_settling_7 (by decide) (fun c_2 => ?_) (fun c_2 => absurd c_2 (by decide))
  refine lv_aload_n hx hb dX12_settling_32 rfl (lv_at hl 0 rfl) ?_
  refine gr_kind hx hb hg hown hK hP (hg _ q5_55) dX12_settling_33 ?_
  refine lv_iload_n hx hb dX12_settling_36 rfl (lv_at hl 1 rfl) ?_
  refine lr_kind hx hb hK hP (i_in (by omega) (by omega)) dX12_settling_37 ?_
  refine lv_topi (fun x_3 ex_3 => ?_)
  have ex_3 : x_3 = (b 63) p1.toNatClampNeg := ex_3
  have hx_3 : x_3.toInt = ((b 63) p1.toNatClampNeg).toInt := by rw [ex_3]
  have bx_3 := ib63_0 p1.toNatClampNeg
  rw [← ex_3] at bx_3
  have fx_3 : x_3 = 3 := by rw [ex_3]; exact hkn
  subst fx_3
  refine lv_iconst (v := 3) hx hb dX12_settling_38 (by decide) ?_
  refine lv_icmp_ne (tgt := 51) hx hb dX12_settling_39 (by decide) (fun c_4 => absurd c_4 (by decide)) (fun c_4 => ?_)
  refine lv_aload_n hx hb dX12_settling_42 rfl (lv_at hl 0 rfl) ?_
  refine lv_iload_n hx hb dX12_settling_43 rfl (lv_at hl 1 rfl) ?_
  refine lv_iload_n hx hb dX12_settling_44 rfl (lv_at hl 2 rfl) ?_
  refine cV_i (As := [.int p1, .int p2]) (rest := []) ⟨hx, hb, hml, hown, hg⟩ (k_X12_courtSettles l D cs A bd u b bw  p1 p2 (show 0 ≤ (u 64).toInt by first | omega | decide) (show (u 64).toInt ≤ 22 by first | omega | decide) (show 0 ≤ (u 64).toInt by first | omega | decide) (show (u 64).toInt ≤ 1000 by first | omega | decide)) ca_X12_courtSettles q7_83 ⟨rfl, rfl⟩ ⟨Nat.le_of_ble_eq_true rfl, Nat.le_of_ble_eq_true rfl⟩ (rc_model hK hP) hK hP hD hS hZ rfl hl.1 rfl (Nat.le_of_ble_eq_true rfl) ⟨Nat.zero_le _, Nat.zero_le _⟩ dX12_settling_45 (fun r_5 z_8 H locs wr_5 hP hD hS => ?_)
  obtain ⟨o_u64_6, o_b65_7⟩ := z_8
  have hP : va_P D vwCl (RW cs bd (va_up u 64 o_u64_6) (va_up b 65 o_b65_7) bw) H := hP
  have hD : va_D A (RW cs bd (va_up u 64 o_u64_6) (va_up b 65 o_b65_7) bw) := hD
  obtain ⟨wr_5_0, wr_5_1, wr_5_2, wr_5_3, wr_5_4⟩ : (o_u64_6.toInt = (u 64).toInt + 2) ∧ (o_b65_7 = TRW (b 65) (u 64).toInt.toNat [40, 11]) ∧ (r_5 = ((p2 ^^^ p1) * 3)) ∧ (0 ≤ o_u64_6.toInt) ∧ (o_u64_6.toInt ≤ 1000) := wr_5
  have kt_9 : o_b65_7 = TRW (b 65) (u 64).toInt.toNat [40, 11] := by rw [wr_5_1]
  refine lv_goto (tgt := 57) hx hb dX12_settling_48 (by decide) ?_
  exact W.iret (v := r_5) hx hb hr (fun tt ht hW => ⟨⟨r_5, ⟨o_u64_6, o_b65_7⟩, rfl, ⟨(by first | rfl | omega | trivial | assumption | (dsimp only; first | omega | assumption)), (by (try dsimp only); first | assumption | rfl), (by simp only [wr_5_2]), (show 0 ≤ o_u64_6.toInt by first | omega | assumption), (show o_u64_6.toInt ≤ 1000 by first | omega | assumption)⟩, by rw [ht]; exact hP, hD⟩, hS.F ht⟩) hS.2.2 dX12_settling_57
set_option maxHeartbeats 4000000 in
set_option maxRecDepth 100000 in
theorem k_X12_stinging_3 (l : Launch) (D : va_G) (cs : Nat → ClassId) (A : Nat → Prop) (bd : Nat → Nat) (u : Nat → Int32) (b : Nat → Nat → Int32) (bw : Nat → Nat → Int64)  (p1 : Int32) (p2 : Int32) (hkn : (b 63) p1.toNatClampNeg = 3) (h1 : 0 ≤ p1.toInt) (h2 : p1.toInt < 50) (hr0 : 0 ≤ (u 64).toInt) (hr1 : (u 64).toInt ≤ 20) (ib63_0 : AB 0 7 (b 63)) (iu64_0 : 0 ≤ (u 64).toInt) (iu64_1 : (u 64).toInt ≤ 1000) : Met l yX12_stinging (Cond.code yX12_stinging cX12_stinging 4 (some .int) :: gw) ({ frames := 5, cells := 0, slots := 0, locals := 109 }) (va_Pc [.ref (bd 0), .int p1, .int p2] (XPre D (TY cs) (RW cs bd u b bw) A)) (va_Qi (fun (r : Int32) (z : Int32 × (Nat → Int32)) => (z.1.toInt = (u 64).toInt + 4) ∧ (z.2 = TRW (b 65) (u 64).toInt.toNat [41, 30, 10, 1]) ∧ (r = (-(((p2 + 1) + p1) * 2))) ∧ (0 ≤ z.1.toInt) ∧ (z.1.toInt ≤ 1000)) (XPo D (fun (z : Int32 × (Nat → Int32)) => RW cs bd (va_up u 64 z.1) (va_up b 65 z.2) bw) A) A) 0 0 A := by
  refine Met.ofW (cc := cX12_stinging) (maxL := 4) (ret := (some .int)) (by decide) rfl ?_
  intro p e s m args below meth c s₁ B hml hv
  obtain ⟨rfl, hP, hK, hD, hZ⟩ := hv
  have hx := B.exec
  have hb := B.bytes
  have hr := B.returns
  have hts := atoms_spec (ws := (Cond.code yX12_stinging cX12_stinging 4 (some .int) :: gw)) B.pre
  have hg : ∀ w ∈ gw, w.before ([.ref (bd 0), .int p1, .int p2] : List Value).toArray s = true := fun w h => hts w (List.mem_cons_of_mem _ h)
  have hown : s.vm.findClass RX12 = some m.cls := findClass_of_methodNamed B.named
  have hlocks := B.notSynchronized
  have hS : va_S A s.heap s.heap [] := va_S.rf
  have hP : va_P D vwCl (RW cs bd u b bw) s.heap := hP
  have hl := lv_entry ([.ref (bd 0), .int p1, .int p2]) (n := 4) (Nat.le_of_ble_eq_true rfl)
  rw [lg_entry_eq]
  generalize (lg_sl ([.ref (bd 0), .int p1, .int p2]) ++ List.replicate (4 - (lg_sl ([.ref (bd 0), .int p1, .int p2])).length) Slot.unset).toArray = ls at hl ⊢
  have hl : lv_has ls 4 [(0, .ref (bd 0)), (1, .int p1), (2, .int p2)] := hl
  refine lv_aload_n hx hb dX12_stinging_0 rfl (lv_at hl 0 rfl) ?_
  refine gr_kind hx hb hg hown hK hP (hg _ q5_55) dX12_stinging_1 ?_
  refine lv_iload_n hx hb dX12_stinging_4 rfl (lv_at hl 1 rfl) ?_
  refine lr_kind hx hb hK hP (i_in (by omega) (by omega)) dX12_stinging_5 ?_
  refine lv_topi (fun x_1 ex_1 => ?_)
  have ex_1 : x_1 = (b 63) p1.toNatClampNeg := ex_1
  have hx_1 : x_1.toInt = ((b 63) p1.toNatClampNeg).toInt := by rw [ex_1]
  have bx_1 := ib63_0 p1.toNatClampNeg
  rw [← ex_1] at bx_1
  have fx_1 : x_1 = 3 := by rw [ex_1]; exact hkn
  subst fx_1
  refine lv_iconst (v := 3) hx hb dX12_stinging_6 (by decide) ?_
  refine cS_p (As := [.int 3, .int 3]) (rest := []) ⟨hx, hb, hml, hown, hg⟩ (k_RU_3_3 l    ) ca_X12_isUnder q7_52 ⟨rfl, rfl⟩ ⟨Nat.le_of_ble_eq_true rfl, Nat.le_of_ble_eq_true rfl⟩ rfl hl.1 rfl (Nat.le_of_ble_eq_true rfl) ⟨Nat.zero_le _, Nat.zero_le _⟩ dX12_stinging_7 (fun r_2 wr_2 => ?_)
  have wr_2 : r_2.toInt = 1 := wr_2
  refine lv_if_eq (tgt := 28) hx hb dX12_stinging_10 (by decide) (fun c_3 => ?_) (fun c_3 => ?_)
  ·
    have kc_3 : r_2.toInt = (0 : Int) := i_eq c_3
    exfalso; omega
  ·
    have kc_3 : r_2.toInt ≠ (0 : Int) := i_ne c_3
    refine lv_aload_n hx hb dX12_stinging_13 rfl (lv_at hl 0 rfl) ?_
    refine lv_bipush (v := 41) hx hb dX12_stinging_14 (by decide) ?_
    refine cV_v (As := [.int 41]) (rest := []) ⟨hx, hb, hml, hown, hg⟩ (k_X12_ran l D cs A bd u b bw  41 (show 0 ≤ (u 64).toInt by first | omega | decide) (show (u 64).toInt ≤ 23 by first | omega | decide) (show 0 ≤ (u 64).toInt by first | omega | decide) (show (u 64).toInt ≤ 1000 by first | omega | decide)) ca_X12_ran q7_55 ⟨rfl, rfl⟩ ⟨Nat.le_of_ble_eq_true rfl, Nat.le_of_ble_eq_true rfl⟩ (rc_model hK hP) hK hP hD hS hZ rfl hl.1 rfl (Nat.le_of_ble_eq_true rfl) ⟨Nat.zero_le _, Nat.zero_le _⟩ dX12_stinging_16 (fun z_7 H locs wr_4 hP hD hS => ?_)
    obtain ⟨o_u64_5, o_b65_6⟩ := z_7
    have hP : va_P D vwCl (RW cs bd (va_up u 64 o_u64_5) (va_up b 65 o_b65_6) bw) H := hP
    have hD : va_D A (RW cs bd (va_up u 64 o_u64_5) (va_up b 65 o_b65_6) bw) := hD
    obtain ⟨wr_4_0, wr_4_1, wr_4_2, wr_4_3⟩ : (o_u64_5.toInt = (u 64).toInt + 1) ∧ (o_b65_6 = TRW (b 65) (u 64).toInt.toNat [(41 : Int32)]) ∧ (0 ≤ o_u64_5.toInt) ∧ (o_u64_5.toInt ≤ 1000) := wr_4
    have kt_8 : o_b65_6 = TRW (b 65) (u 64).toInt.toNat [41] := by rw [wr_4_1]
    refine lv_aload_n hx hb dX12_stinging_19 rfl (lv_at hl 0 rfl) ?_
    refine lv_iload_n hx hb dX12_stinging_20 rfl (lv_at hl 1 rfl) ?_
    refine lv_iload_n hx hb dX12_stinging_21 rfl (lv_at hl 2 rfl) ?_
    refine lv_iconst (v := 1) hx hb dX12_stinging_22 (by decide) ?_
    refine lv_iadd hx hb dX12_stinging_23 ?_
    refine lv_topi (fun x_9 ex_9 => ?_)
    refine cV_i (As := [.int p1, .int x_9]) (rest := []) ⟨hx, hb, hml, hown, hg⟩ (k_X12_brookStings_3 l D cs A bd (va_up u 64 o_u64_5) (va_up b 65 o_b65_6) bw  p1 x_9 hkn (show 0 ≤ p1.toInt by first | omega | decide) (show p1.toInt < 50 by first | omega | decide) (show 0 ≤ o_u64_5.toInt by first | omega | decide) (show o_u64_5.toInt ≤ 21 by first | omega | decide) (show 0 ≤ o_u64_5.toInt by first | omega | decide) (show o_u64_5.toInt ≤ 1000 by first | omega | decide) ib63_0) ca_X12_brookStings q7_71 ⟨rfl, rfl⟩ ⟨Nat.le_of_ble_eq_true rfl, Nat.le_of_ble_eq_true rfl⟩ (rc_model hK hP) hK hP hD hS hZ rfl hl.1 rfl (Nat.le_of_ble_eq_true rfl) ⟨Nat.zero_le _, Nat.zero_le _⟩ dX12_stinging_24 (fun r_10 z_13 H locs wr_10 hP hD hS => ?_)
    obtain ⟨o_u64_11, o_b65_12⟩ := z_13
    have hP : va_P D vwCl (RW cs bd (va_up u 64 o_u64_11) (va_up b 65 o_b65_12) bw) H := hP
    have hD : va_D A (RW cs bd (va_up u 64 o_u64_11) (va_up b 65 o_b65_12) bw) := hD
    obtain ⟨wr_10_0, wr_10_1, wr_10_2, wr_10_3, wr_10_4⟩ : (o_u64_11.toInt = o_u64_5.toInt + 3) ∧ (o_b65_12 = TRW o_b65_6 o_u64_5.toInt.toNat [30, 10, 1]) ∧ (r_10 = (-((x_9 + p1) * 2))) ∧ (0 ≤ o_u64_11.toInt) ∧ (o_u64_11.toInt ≤ 1000) := wr_10
    have kt_14 : o_b65_12 = TRW (b 65) (u 64).toInt.toNat [41, 30, 10, 1] := by rw [wr_10_1, kt_8, show (o_u64_5).toInt.toNat = (u 64).toInt.toNat + 1 from by omega]; rfl
    exact W.iret (v := r_10) hx hb hr (fun tt ht hW => ⟨⟨r_10, ⟨o_u64_11, o_b65_12⟩, rfl, ⟨(by first | rfl | omega | trivial | assumption | (dsimp only; first | omega | assumption)), (by (try dsimp only); first | assumption | rfl), (by simp only [wr_10_2, ex_9]), (show 0 ≤ o_u64_11.toInt by first | omega | assumption), (show o_u64_11.toInt ≤ 1000 by first | omega | assumption)⟩, by rw [ht]; exact hP, hD⟩, hS.F ht⟩) hS.2.2 dX12_stinging_27
set_option maxHeartbeats 4000000 in
set_option maxRecDepth 100000 in
theorem k_X12_plainTells_3 (l : Launch) (D : va_G) (cs : Nat → ClassId) (A : Nat → Prop) (bd : Nat → Nat) (u : Nat → Int32) (b : Nat → Nat → Int32) (bw : Nat → Nat → Int64)  (p1 : Int32) (p2 : Int32) (hkn : (b 63) p1.toNatClampNeg = 3) (h1 : 0 ≤ p1.toInt) (h2 : p1.toInt < 50) (hr0 : 0 ≤ (u 64).toInt) (hr1 : (u 64).toInt ≤ 17) (iu64_0 : 0 ≤ (u 64).toInt) (iu64_1 : (u 64).toInt ≤ 1000) (ib63_0 : AB 0 7 (b 63)) : Met l yX12_plainTells (Cond.code yX12_plainTells cX12_plainTells 4 (some .int) :: gw) ({ frames := 6, cells := 0, slots := 0, locals := 132 }) (va_Pc [.ref (bd 0), .int p1, .int p2] (XPre D (TY cs) (RW cs bd u b bw) A)) (va_Qi (fun (r : Int32) (z : Int32 × (Nat → Int32)) => (z.1.toInt = (u 64).toInt + 7) ∧ (z.2 = TRW (b 65) (u 64).toInt.toNat [2, 41, 30, 10, 1, 40, 11]) ∧ (r = ((-(((p2 + 1) + p1) * 2)) - (((1 : Int32) ^^^ p1) * 3))) ∧ (0 ≤ z.1.toInt) ∧ (z.1.toInt ≤ 1000)) (XPo D (fun (z : Int32 × (Nat → Int32)) => RW cs bd (va_up u 64 z.1) (va_up b 65 z.2) bw) A) A) 0 0 A := by
  refine Met.ofW (cc := cX12_plainTells) (maxL := 4) (ret := (some .int)) (by decide) rfl ?_
  intro p e s m args below meth c s₁ B hml hv
  obtain ⟨rfl, hP, hK, hD, hZ⟩ := hv
  have hx := B.exec
  have hb := B.bytes
  have hr := B.returns
  have hts := atoms_spec (ws := (Cond.code yX12_plainTells cX12_plainTells 4 (some .int) :: gw)) B.pre
  have hg : ∀ w ∈ gw, w.before ([.ref (bd 0), .int p1, .int p2] : List Value).toArray s = true := fun w h => hts w (List.mem_cons_of_mem _ h)
  have hown : s.vm.findClass RX12 = some m.cls := findClass_of_methodNamed B.named
  have hlocks := B.notSynchronized
  have hS : va_S A s.heap s.heap [] := va_S.rf
  have hP : va_P D vwCl (RW cs bd u b bw) s.heap := hP
  have hl := lv_entry ([.ref (bd 0), .int p1, .int p2]) (n := 4) (Nat.le_of_ble_eq_true rfl)
  rw [lg_entry_eq]
  generalize (lg_sl ([.ref (bd 0), .int p1, .int p2]) ++ List.replicate (4 - (lg_sl ([.ref (bd 0), .int p1, .int p2])).length) Slot.unset).toArray = ls at hl ⊢
  have hl : lv_has ls 4 [(0, .ref (bd 0)), (1, .int p1), (2, .int p2)] := hl
  refine lv_aload_n hx hb dX12_plainTells_0 rfl (lv_at hl 0 rfl) ?_
  refine lv_iconst (v := 2) hx hb dX12_plainTells_1 (by decide) ?_
  refine cV_v (As := [.int 2]) (rest := []) ⟨hx, hb, hml, hown, hg⟩ (k_X12_ran l D cs A bd u b bw  2 (show 0 ≤ (u 64).toInt by first | omega | decide) (show (u 64).toInt ≤ 23 by first | omega | decide) (show 0 ≤ (u 64).toInt by first | omega | decide) (show (u 64).toInt ≤ 1000 by first | omega | decide)) ca_X12_ran q7_55 ⟨rfl, rfl⟩ ⟨Nat.le_of_ble_eq_true rfl, Nat.le_of_ble_eq_true rfl⟩ (rc_model hK hP) hK hP hD hS hZ rfl hl.1 rfl (Nat.le_of_ble_eq_true rfl) ⟨Nat.zero_le _, Nat.zero_le _⟩ dX12_plainTells_2 (fun z_4 H locs wr_1 hP hD hS => ?_)
  obtain ⟨o_u64_2, o_b65_3⟩ := z_4
  have hP : va_P D vwCl (RW cs bd (va_up u 64 o_u64_2) (va_up b 65 o_b65_3) bw) H := hP
  have hD : va_D A (RW cs bd (va_up u 64 o_u64_2) (va_up b 65 o_b65_3) bw) := hD
  obtain ⟨wr_1_0, wr_1_1, wr_1_2, wr_1_3⟩ : (o_u64_2.toInt = (u 64).toInt + 1) ∧ (o_b65_3 = TRW (b 65) (u 64).toInt.toNat [(2 : Int32)]) ∧ (0 ≤ o_u64_2.toInt) ∧ (o_u64_2.toInt ≤ 1000) := wr_1
  have kt_5 : o_b65_3 = TRW (b 65) (u 64).toInt.toNat [2] := by rw [wr_1_1]
  refine lv_aload_n hx hb dX12_plainTells_5 rfl (lv_at hl 0 rfl) ?_
  refine lv_iload_n hx hb dX12_plainTells_6 rfl (lv_at hl 1 rfl) ?_
  refine lv_iload_n hx hb dX12_plainTells_7 rfl (lv_at hl 2 rfl) ?_
  refine cV_i (As := [.int p1, .int p2]) (rest := []) ⟨hx, hb, hml, hown, hg⟩ (k_X12_stinging_3 l D cs A bd (va_up u 64 o_u64_2) (va_up b 65 o_b65_3) bw  p1 p2 hkn (show 0 ≤ p1.toInt by first | omega | decide) (show p1.toInt < 50 by first | omega | decide) (show 0 ≤ o_u64_2.toInt by first | omega | decide) (show o_u64_2.toInt ≤ 20 by first | omega | decide) ib63_0 (show 0 ≤ o_u64_2.toInt by first | omega | decide) (show o_u64_2.toInt ≤ 1000 by first | omega | decide)) ca_X12_stinging q7_67 ⟨rfl, rfl⟩ ⟨Nat.le_of_ble_eq_true rfl, Nat.le_of_ble_eq_true rfl⟩ (rc_model hK hP) hK hP hD hS hZ rfl hl.1 rfl (Nat.le_of_ble_eq_true rfl) ⟨Nat.zero_le _, Nat.zero_le _⟩ dX12_plainTells_8 (fun r_6 z_9 H locs wr_6 hP hD hS => ?_)
  obtain ⟨o_u64_7, o_b65_8⟩ := z_9
  have hP : va_P D vwCl (RW cs bd (va_up u 64 o_u64_7) (va_up b 65 o_b65_8) bw) H := hP
  have hD : va_D A (RW cs bd (va_up u 64 o_u64_7) (va_up b 65 o_b65_8) bw) := hD
  obtain ⟨wr_6_0, wr_6_1, wr_6_2, wr_6_3, wr_6_4⟩ : (o_u64_7.toInt = o_u64_2.toInt + 4) ∧ (o_b65_8 = TRW o_b65_3 o_u64_2.toInt.toNat [41, 30, 10, 1]) ∧ (r_6 = (-(((p2 + 1) + p1) * 2))) ∧ (0 ≤ o_u64_7.toInt) ∧ (o_u64_7.toInt ≤ 1000) := wr_6
  have kt_10 : o_b65_8 = TRW (b 65) (u 64).toInt.toNat [2, 41, 30, 10, 1] := by rw [wr_6_1, kt_5, show (o_u64_2).toInt.toNat = (u 64).toInt.toNat + 1 from by omega]; rfl
  refine lv_istore_n (lv' := [(3, .int r_6), (0, .ref (bd 0)), (1, .int p1), (2, .int p2)]) hx hb dX12_plainTells_11 rfl hl (by decide) rfl (fun ls hl => ?_)
  refine lv_iload_n hx hb dX12_plainTells_12 rfl (lv_at hl 0 rfl) ?_
  refine lv_aload_n hx hb dX12_plainTells_13 rfl (lv_at hl 1 rfl) ?_
  refine lv_iload_n hx hb dX12_plainTells_14 rfl (lv_at hl 2 rfl) ?_
  refine lv_iconst (v := 1) hx hb dX12_plainTells_15 (by decide) ?_
  refine cV_i (As := [.int p1, .int 1]) (rest := [.int r_6]) ⟨hx, hb, hml, hown, hg⟩ (k_X12_settling_3 l D cs A bd (va_up u 64 o_u64_7) (va_up b 65 o_b65_8) bw  p1 1 hkn (show 0 ≤ p1.toInt by first | omega | decide) (show p1.toInt < 50 by first | omega | decide) (show 0 ≤ o_u64_7.toInt by first | omega | decide) (show o_u64_7.toInt ≤ 22 by first | omega | decide) ib63_0 (show 0 ≤ o_u64_7.toInt by first | omega | decide) (show o_u64_7.toInt ≤ 1000 by first | omega | decide)) ca_X12_settling q7_79 ⟨rfl, rfl⟩ ⟨Nat.le_of_ble_eq_true rfl, Nat.le_of_ble_eq_true rfl⟩ (rc_model hK hP) hK hP hD hS hZ rfl hl.1 rfl (Nat.le_of_ble_eq_true rfl) ⟨Nat.zero_le _, Nat.zero_le _⟩ dX12_plainTells_16 (fun r_11 z_14 H locs wr_11 hP hD hS => ?_)
  obtain ⟨o_u64_12, o_b65_13⟩ := z_14
  have hP : va_P D vwCl (RW cs bd (va_up u 64 o_u64_12) (va_up b 65 o_b65_13) bw) H := hP
  have hD : va_D A (RW cs bd (va_up u 64 o_u64_12) (va_up b 65 o_b65_13) bw) := hD
  obtain ⟨wr_11_0, wr_11_1, wr_11_2, wr_11_3, wr_11_4⟩ : (o_u64_12.toInt = o_u64_7.toInt + 2) ∧ (o_b65_13 = TRW o_b65_8 o_u64_7.toInt.toNat [40, 11]) ∧ (r_11 = (((1 : Int32) ^^^ p1) * 3)) ∧ (0 ≤ o_u64_12.toInt) ∧ (o_u64_12.toInt ≤ 1000) := wr_11
  have kt_15 : o_b65_13 = TRW (b 65) (u 64).toInt.toNat [2, 41, 30, 10, 1, 40, 11] := by rw [wr_11_1, kt_10, show (o_u64_7).toInt.toNat = (u 64).toInt.toNat + 5 from by omega]; rfl
  refine lv_isub hx hb dX12_plainTells_19 ?_
  refine lv_topi (fun x_16 ex_16 => ?_)
  exact W.iret (v := x_16) hx hb hr (fun tt ht hW => ⟨⟨x_16, ⟨o_u64_12, o_b65_13⟩, rfl, ⟨(by first | rfl | omega | trivial | assumption | (dsimp only; first | omega | assumption)), (by (try dsimp only); first | assumption | rfl), (by simp only [ex_16, wr_11_2, wr_6_2]), (show 0 ≤ o_u64_12.toInt by first | omega | assumption), (show o_u64_12.toInt ≤ 1000 by first | omega | assumption)⟩, by rw [ht]; exact hP, hD⟩, hS.F ht⟩) hS.2.2 dX12_plainTells_20
set_option maxHeartbeats 4000000 in
set_option maxRecDepth 100000 in
theorem k_X12_telling_3 (l : Launch) (D : va_G) (cs : Nat → ClassId) (A : Nat → Prop) (bd : Nat → Nat) (u : Nat → Int32) (b : Nat → Nat → Int32) (bw : Nat → Nat → Int64)  (p1 : Int32) (p2 : Int32) (hkn : (b 63) p1.toNatClampNeg = 3) (h1 : 0 ≤ p1.toInt) (h2 : p1.toInt < 50) (hr0 : 0 ≤ (u 64).toInt) (hr1 : (u 64).toInt ≤ 17) (ib63_0 : AB 0 7 (b 63)) (iu64_0 : 0 ≤ (u 64).toInt) (iu64_1 : (u 64).toInt ≤ 1000) : Met l yX12_telling (Cond.code yX12_telling cX12_telling 3 (some .int) :: gw) ({ frames := 7, cells := 0, slots := 0, locals := 155 }) (va_Pc [.ref (bd 0), .int p1, .int p2] (XPre D (TY cs) (RW cs bd u b bw) A)) (va_Qi (fun (r : Int32) (z : Int32 × (Nat → Int32)) => (z.1.toInt = (u 64).toInt + 7) ∧ (z.2 = TRW (b 65) (u 64).toInt.toNat [2, 41, 30, 10, 1, 40, 11]) ∧ (r = ((-(((p2 + 1) + p1) * 2)) - (((1 : Int32) ^^^ p1) * 3))) ∧ (0 ≤ z.1.toInt) ∧ (z.1.toInt ≤ 1000)) (XPo D (fun (z : Int32 × (Nat → Int32)) => RW cs bd (va_up u 64 z.1) (va_up b 65 z.2) bw) A) A) 0 0 A := by
  refine Met.ofW (cc := cX12_telling) (maxL := 3) (ret := (some .int)) (by decide) rfl ?_
  intro p e s m args below meth c s₁ B hml hv
  obtain ⟨rfl, hP, hK, hD, hZ⟩ := hv
  have hx := B.exec
  have hb := B.bytes
  have hr := B.returns
  have hts := atoms_spec (ws := (Cond.code yX12_telling cX12_telling 3 (some .int) :: gw)) B.pre
  have hg : ∀ w ∈ gw, w.before ([.ref (bd 0), .int p1, .int p2] : List Value).toArray s = true := fun w h => hts w (List.mem_cons_of_mem _ h)
  have hown : s.vm.findClass RX12 = some m.cls := findClass_of_methodNamed B.named
  have hlocks := B.notSynchronized
  have hS : va_S A s.heap s.heap [] := va_S.rf
  have hP : va_P D vwCl (RW cs bd u b bw) s.heap := hP
  have hl := lv_entry ([.ref (bd 0), .int p1, .int p2]) (n := 3) (Nat.le_of_ble_eq_true rfl)
  rw [lg_entry_eq]
  generalize (lg_sl ([.ref (bd 0), .int p1, .int p2]) ++ List.replicate (3 - (lg_sl ([.ref (bd 0), .int p1, .int p2])).length) Slot.unset).toArray = ls at hl ⊢
  have hl : lv_has ls 3 [(0, .ref (bd 0)), (1, .int p1), (2, .int p2)] := hl
  refine lv_aload_n hx hb dX12_telling_0 rfl (lv_at hl 0 rfl) ?_
  refine gr_kind hx hb hg hown hK hP (hg _ q5_55) dX12_telling_1 ?_
  refine lv_iload_n hx hb dX12_telling_4 rfl (lv_at hl 1 rfl) ?_
  refine lr_kind hx hb hK hP (i_in (by omega) (by omega)) dX12_telling_5 ?_
  refine lv_topi (fun x_1 ex_1 => ?_)
  have ex_1 : x_1 = (b 63) p1.toNatClampNeg := ex_1
  have hx_1 : x_1.toInt = ((b 63) p1.toNatClampNeg).toInt := by rw [ex_1]
  have bx_1 := ib63_0 p1.toNatClampNeg
  rw [← ex_1] at bx_1
  have fx_1 : x_1 = 3 := by rw [ex_1]; exact hkn
  subst fx_1
  refine lv_iconst (v := 4) hx hb dX12_telling_6 (by decide) ?_
  refine lv_icmp_ne (tgt := 25) hx hb dX12_telling_7 (by decide) (fun c_2 => ?_) (fun c_2 => absurd c_2 (by decide))
  refine lv_aload_n hx hb dX12_telling_25 rfl (lv_at hl 0 rfl) ?_
  refine gr_kind hx hb hg hown hK hP (hg _ q5_55) dX12_telling_26 ?_
  refine lv_iload_n hx hb dX12_telling_29 rfl (lv_at hl 1 rfl) ?_
  refine lr_kind hx hb hK hP (i_in (by omega) (by omega)) dX12_telling_30 ?_
  refine lv_topi (fun x_3 ex_3 => ?_)
  have ex_3 : x_3 = (b 63) p1.toNatClampNeg := ex_3
  have hx_3 : x_3.toInt = ((b 63) p1.toNatClampNeg).toInt := by rw [ex_3]
  have bx_3 := ib63_0 p1.toNatClampNeg
  rw [← ex_3] at bx_3
  have fx_3 : x_3 = 3 := by rw [ex_3]; exact hkn
  subst fx_3
  refine lv_iconst (v := 5) hx hb dX12_telling_31 (by decide) ?_
  refine lv_icmp_ne (tgt := 50) hx hb dX12_telling_32 (by decide) (fun c_4 => ?_) (fun c_4 => absurd c_4 (by decide))
  refine lv_aload_n hx hb dX12_telling_50 rfl (lv_at hl 0 rfl) ?_
  refine lv_iload_n hx hb dX12_telling_51 rfl (lv_at hl 1 rfl) ?_
  refine lv_iload_n hx hb dX12_telling_52 rfl (lv_at hl 2 rfl) ?_
  refine cV_i (As := [.int p1, .int p2]) (rest := []) ⟨hx, hb, hml, hown, hg⟩ (k_X12_plainTells_3 l D cs A bd u b bw  p1 p2 hkn (show 0 ≤ p1.toInt by first | omega | decide) (show p1.toInt < 50 by first | omega | decide) (show 0 ≤ (u 64).toInt by first | omega | decide) (show (u 64).toInt ≤ 17 by first | omega | decide) (show 0 ≤ (u 64).toInt by first | omega | decide) (show (u 64).toInt ≤ 1000 by first | omega | decide) ib63_0) ca_X12_plainTells q7_95 ⟨rfl, rfl⟩ ⟨Nat.le_of_ble_eq_true rfl, Nat.le_of_ble_eq_true rfl⟩ (rc_model hK hP) hK hP hD hS hZ rfl hl.1 rfl (Nat.le_of_ble_eq_true rfl) ⟨Nat.zero_le _, Nat.zero_le _⟩ dX12_telling_53 (fun r_5 z_8 H locs wr_5 hP hD hS => ?_)
  obtain ⟨o_u64_6, o_b65_7⟩ := z_8
  have hP : va_P D vwCl (RW cs bd (va_up u 64 o_u64_6) (va_up b 65 o_b65_7) bw) H := hP
  have hD : va_D A (RW cs bd (va_up u 64 o_u64_6) (va_up b 65 o_b65_7) bw) := hD
  obtain ⟨wr_5_0, wr_5_1, wr_5_2, wr_5_3, wr_5_4⟩ : (o_u64_6.toInt = (u 64).toInt + 7) ∧ (o_b65_7 = TRW (b 65) (u 64).toInt.toNat [2, 41, 30, 10, 1, 40, 11]) ∧ (r_5 = ((-(((p2 + 1) + p1) * 2)) - (((1 : Int32) ^^^ p1) * 3))) ∧ (0 ≤ o_u64_6.toInt) ∧ (o_u64_6.toInt ≤ 1000) := wr_5
  have kt_9 : o_b65_7 = TRW (b 65) (u 64).toInt.toNat [2, 41, 30, 10, 1, 40, 11] := by rw [wr_5_1]
  exact W.iret (v := r_5) hx hb hr (fun tt ht hW => ⟨⟨r_5, ⟨o_u64_6, o_b65_7⟩, rfl, ⟨(by first | rfl | omega | trivial | assumption | (dsimp only; first | omega | assumption)), (by (try dsimp only); first | assumption | rfl), (by simp only [wr_5_2]), (show 0 ≤ o_u64_6.toInt by first | omega | assumption), (show o_u64_6.toInt ≤ 1000 by first | omega | assumption)⟩, by rw [ht]; exact hP, hD⟩, hS.F ht⟩) hS.2.2 dX12_telling_56
set_option maxHeartbeats 4000000 in
set_option maxRecDepth 100000 in
theorem k_RU_4_1 (l : Launch)     : Met l yX12_isUnder (Cond.code yX12_isUnder cX12_isUnder 2 (some .boolean) :: gw) ({ frames := 0, cells := 0, slots := 0, locals := 0 }) (fun v _ => v = ([.int 4, .int 1] : List Value).toArray) (vp_Si (fun (r : Int32) => r.toInt = 1)) 0 0 (fun _ => False) := by
  refine Met.ofW (cc := cX12_isUnder) (maxL := 2) (ret := (some .boolean)) (by decide) rfl ?_
  intro p e s m args below meth c s₁ B hml hv
  subst hv
  have hx := B.exec
  have hb := B.bytes
  have hr := B.returns
  have hts := atoms_spec (ws := (Cond.code yX12_isUnder cX12_isUnder 2 (some .boolean) :: gw)) B.pre
  have hg : ∀ w ∈ gw, w.before ([.int 4, .int 1] : List Value).toArray s = true := fun w h => hts w (List.mem_cons_of_mem _ h)
  have hown : s.vm.findClass RX12 = some m.cls := findClass_of_methodNamed B.named
  have hlocks := B.notSynchronized
  have hl := lv_entry ([.int 4, .int 1]) (n := 2) (Nat.le_of_ble_eq_true rfl)
  rw [lg_entry_eq]
  generalize (lg_sl ([.int 4, .int 1]) ++ List.replicate (2 - (lg_sl ([.int 4, .int 1])).length) Slot.unset).toArray = ls at hl ⊢
  have hl : lv_has ls 2 [(0, .int 4), (1, .int 1)] := hl
  refine lv_iload_n hx hb dX12_isUnder_0 rfl (lv_at hl 1 rfl) ?_
  refine lv_if_eq (tgt := 56) hx hb dX12_isUnder_1 (by decide) (fun c_1 => absurd c_1 (by decide)) (fun c_1 => ?_)
  refine lv_iload_n hx hb dX12_isUnder_4 rfl (lv_at hl 0 rfl) ?_
  refine lv_iload_n hx hb dX12_isUnder_5 rfl (lv_at hl 1 rfl) ?_
  refine lv_icmp_eq (tgt := 56) hx hb dX12_isUnder_6 (by decide) (fun c_2 => absurd c_2 (by decide)) (fun c_2 => ?_)
  refine lv_iload_n hx hb dX12_isUnder_9 rfl (lv_at hl 1 rfl) ?_
  refine lv_iconst (v := 1) hx hb dX12_isUnder_10 (by decide) ?_
  refine lv_icmp_ne (tgt := 19) hx hb dX12_isUnder_11 (by decide) (fun c_3 => absurd c_3 (by decide)) (fun c_3 => ?_)
  refine lv_iload_n hx hb dX12_isUnder_14 rfl (lv_at hl 0 rfl) ?_
  refine lv_iconst (v := 4) hx hb dX12_isUnder_15 (by decide) ?_
  refine lv_icmp_eq (tgt := 56) hx hb dX12_isUnder_16 (by decide) (fun c_4 => ?_) (fun c_4 => absurd c_4 (by decide))
  refine lv_iconst (v := 1) hx hb dX12_isUnder_56 (by decide) ?_
  refine lv_goto (tgt := 61) hx hb dX12_isUnder_57 (by decide) ?_
  have q0_1 : (1 : Int32).toInt = 1 := rfl
  exact W.zret (v := 1) hx hb hr rfl (fun tt ht hW => ⟨1, rfl, (by first | rfl | omega | trivial | assumption | (dsimp only; first | omega | assumption)), ht⟩) (fun _ h => by cases h) dX12_isUnder_61
set_option maxHeartbeats 4000000 in
set_option maxRecDepth 100000 in
theorem k_RU_4_3 (l : Launch)     : Met l yX12_isUnder (Cond.code yX12_isUnder cX12_isUnder 2 (some .boolean) :: gw) ({ frames := 0, cells := 0, slots := 0, locals := 0 }) (fun v _ => v = ([.int 4, .int 3] : List Value).toArray) (vp_Si (fun (r : Int32) => r.toInt = 0)) 0 0 (fun _ => False) := by
  refine Met.ofW (cc := cX12_isUnder) (maxL := 2) (ret := (some .boolean)) (by decide) rfl ?_
  intro p e s m args below meth c s₁ B hml hv
  subst hv
  have hx := B.exec
  have hb := B.bytes
  have hr := B.returns
  have hts := atoms_spec (ws := (Cond.code yX12_isUnder cX12_isUnder 2 (some .boolean) :: gw)) B.pre
  have hg : ∀ w ∈ gw, w.before ([.int 4, .int 3] : List Value).toArray s = true := fun w h => hts w (List.mem_cons_of_mem _ h)
  have hown : s.vm.findClass RX12 = some m.cls := findClass_of_methodNamed B.named
  have hlocks := B.notSynchronized
  have hl := lv_entry ([.int 4, .int 3]) (n := 2) (Nat.le_of_ble_eq_true rfl)
  rw [lg_entry_eq]
  generalize (lg_sl ([.int 4, .int 3]) ++ List.replicate (2 - (lg_sl ([.int 4, .int 3])).length) Slot.unset).toArray = ls at hl ⊢
  have hl : lv_has ls 2 [(0, .int 4), (1, .int 3)] := hl
  refine lv_iload_n hx hb dX12_isUnder_0 rfl (lv_at hl 1 rfl) ?_
  refine lv_if_eq (tgt := 56) hx hb dX12_isUnder_1 (by decide) (fun c_1 => absurd c_1 (by decide)) (fun c_1 => ?_)
  refine lv_iload_n hx hb dX12_isUnder_4 rfl (lv_at hl 0 rfl) ?_
  refine lv_iload_n hx hb dX12_isUnder_5 rfl (lv_at hl 1 rfl) ?_
  refine lv_icmp_eq (tgt := 56) hx hb dX12_isUnder_6 (by decide) (fun c_2 => absurd c_2 (by decide)) (fun c_2 => ?_)
  refine lv_iload_n hx hb dX12_isUnder_9 rfl (lv_at hl 1 rfl) ?_
  refine lv_iconst (v := 1) hx hb dX12_isUnder_10 (by decide) ?_
  refine lv_icmp_ne (tgt := 19) hx hb dX12_isUnder_11 (by decide) (fun c_3 => ?_) (fun c_3 => absurd c_3 (by decide))
  refine lv_iload_n hx hb dX12_isUnder_19 rfl (lv_at hl 1 rfl) ?_
  refine lv_iconst (v := 2) hx hb dX12_isUnder_20 (by decide) ?_
  refine lv_icmp_ne (tgt := 34) hx hb dX12_isUnder_21 (by decide) (fun c_4 => ?_) (fun c_4 => absurd c_4 (by decide))
  refine lv_iload_n hx hb dX12_isUnder_34 rfl (lv_at hl 1 rfl) ?_
  refine lv_iconst (v := 3) hx hb dX12_isUnder_35 (by decide) ?_
  refine lv_icmp_ne (tgt := 44) hx hb dX12_isUnder_36 (by decide) (fun c_5 => absurd c_5 (by decide)) (fun c_5 => ?_)
  refine lv_iload_n hx hb dX12_isUnder_39 rfl (lv_at hl 0 rfl) ?_
  refine lv_iconst (v := 5) hx hb dX12_isUnder_40 (by decide) ?_
  refine lv_icmp_eq (tgt := 56) hx hb dX12_isUnder_41 (by decide) (fun c_6 => absurd c_6 (by decide)) (fun c_6 => ?_)
  refine lv_iload_n hx hb dX12_isUnder_44 rfl (lv_at hl 1 rfl) ?_
  refine lv_bipush (v := 6) hx hb dX12_isUnder_45 (by decide) ?_
  refine lv_icmp_ne (tgt := 60) hx hb dX12_isUnder_47 (by decide) (fun c_7 => ?_) (fun c_7 => absurd c_7 (by decide))
  refine lv_iconst (v := 0) hx hb dX12_isUnder_60 (by decide) ?_
  have q0_0 : (0 : Int32).toInt = 0 := rfl
  exact W.zret (v := 0) hx hb hr rfl (fun tt ht hW => ⟨0, rfl, (by first | rfl | omega | trivial | assumption | (dsimp only; first | omega | assumption)), ht⟩) (fun _ h => by cases h) dX12_isUnder_61
set_option maxHeartbeats 4000000 in
set_option maxRecDepth 100000 in
theorem k_X12_flying_4 (l : Launch) (D : va_G) (cs : Nat → ClassId) (A : Nat → Prop) (bd : Nat → Nat) (u : Nat → Int32) (b : Nat → Nat → Int32) (bw : Nat → Nat → Int64)  (p1 : Int32) (p2 : Int32) (hkn : (b 63) p1.toNatClampNeg = 4) (h1 : 0 ≤ p1.toInt) (h2 : p1.toInt < 50) (hr0 : 0 ≤ (u 64).toInt) (hr1 : (u 64).toInt ≤ 22) (ib63_0 : AB 0 7 (b 63)) (iu64_0 : 0 ≤ (u 64).toInt) (iu64_1 : (u 64).toInt ≤ 1000) : Met l yX12_flying (Cond.code yX12_flying cX12_flying 3 (some .int) :: gw) ({ frames := 2, cells := 0, slots := 0, locals := 43 }) (va_Pc [.ref (bd 0), .int p1, .int p2] (XPre D (TY cs) (RW cs bd u b bw) A)) (va_Qi (fun (r : Int32) (z : Int32 × (Nat → Int32)) => (z.1.toInt = (u 64).toInt + 2) ∧ (z.2 = TRW (b 65) (u 64).toInt.toNat [20, 1]) ∧ (r = ((p2 + p1) + 3)) ∧ (0 ≤ z.1.toInt) ∧ (z.1.toInt ≤ 1000)) (XPo D (fun (z : Int32 × (Nat → Int32)) => RW cs bd (va_up u 64 z.1) (va_up b 65 z.2) bw) A) A) 0 0 A := by
  refine Met.ofW (cc := cX12_flying) (maxL := 3) (ret := (some .int)) (by decide) rfl ?_
  intro p e s m args below meth c s₁ B hml hv
  obtain ⟨rfl, hP, hK, hD, hZ⟩ := hv
  have hx := B.exec
  have hb := B.bytes
  have hr := B.returns
  have hts := atoms_spec (ws := (Cond.code yX12_flying cX12_flying 3 (some .int) :: gw)) B.pre
  have hg : ∀ w ∈ gw, w.before ([.ref (bd 0), .int p1, .int p2] : List Value).toArray s = true := fun w h => hts w (List.mem_cons_of_mem _ h)
  have hown : s.vm.findClass RX12 = some m.cls := findClass_of_methodNamed B.named
  have hlocks := B.notSynchronized
  have hS : va_S A s.heap s.heap [] := va_S.rf
  have hP : va_P D vwCl (RW cs bd u b bw) s.heap := hP
  have hl := lv_entry ([.ref (bd 0), .int p1, .int p2]) (n := 3) (Nat.le_of_ble_eq_true rfl)
  rw [lg_entry_eq]
  generalize (lg_sl ([.ref (bd 0), .int p1, .int p2]) ++ List.replicate (3 - (lg_sl ([.ref (bd 0), .int p1, .int p2])).length) Slot.unset).toArray = ls at hl ⊢
  have hl : lv_has ls 3 [(0, .ref (bd 0)), (1, .int p1), (2, .int p2)] := hl
  refine lv_aload_n hx hb dX12_flying_0 rfl (lv_at hl 0 rfl) ?_
  refine gr_kind hx hb hg hown hK hP (hg _ q5_55) dX12_flying_1 ?_
  refine lv_iload_n hx hb dX12_flying_4 rfl (lv_at hl 1 rfl) ?_
  refine lr_kind hx hb hK hP (i_in (by omega) (by omega)) dX12_flying_5 ?_
  refine lv_topi (fun x_1 ex_1 => ?_)
  have ex_1 : x_1 = (b 63) p1.toNatClampNeg := ex_1
  have hx_1 : x_1.toInt = ((b 63) p1.toNatClampNeg).toInt := by rw [ex_1]
  have bx_1 := ib63_0 p1.toNatClampNeg
  rw [← ex_1] at bx_1
  have fx_1 : x_1 = 4 := by rw [ex_1]; exact hkn
  subst fx_1
  refine lv_iconst (v := 1) hx hb dX12_flying_6 (by decide) ?_
  refine cS_p (As := [.int 4, .int 1]) (rest := []) ⟨hx, hb, hml, hown, hg⟩ (k_RU_4_1 l    ) ca_X12_isUnder q7_52 ⟨rfl, rfl⟩ ⟨Nat.le_of_ble_eq_true rfl, Nat.le_of_ble_eq_true rfl⟩ rfl hl.1 rfl (Nat.le_of_ble_eq_true rfl) ⟨Nat.zero_le _, Nat.zero_le _⟩ dX12_flying_7 (fun r_2 wr_2 => ?_)
  have wr_2 : r_2.toInt = 1 := wr_2
  refine lv_if_eq (tgt := 28) hx hb dX12_flying_10 (by decide) (fun c_3 => ?_) (fun c_3 => ?_)
  ·
    have kc_3 : r_2.toInt = (0 : Int) := i_eq c_3
    exfalso; omega
  ·
    have kc_3 : r_2.toInt ≠ (0 : Int) := i_ne c_3
    refine lv_aload_n hx hb dX12_flying_13 rfl (lv_at hl 0 rfl) ?_
    refine lv_bipush (v := 20) hx hb dX12_flying_14 (by decide) ?_
    refine cV_v (As := [.int 20]) (rest := []) ⟨hx, hb, hml, hown, hg⟩ (k_X12_ran l D cs A bd u b bw  20 (show 0 ≤ (u 64).toInt by first | omega | decide) (show (u 64).toInt ≤ 23 by first | omega | decide) (show 0 ≤ (u 64).toInt by first | omega | decide) (show (u 64).toInt ≤ 1000 by first | omega | decide)) ca_X12_ran q7_55 ⟨rfl, rfl⟩ ⟨Nat.le_of_ble_eq_true rfl, Nat.le_of_ble_eq_true rfl⟩ (rc_model hK hP) hK hP hD hS hZ rfl hl.1 rfl (Nat.le_of_ble_eq_true rfl) ⟨Nat.zero_le _, Nat.zero_le _⟩ dX12_flying_16 (fun z_7 H locs wr_4 hP hD hS => ?_)
    obtain ⟨o_u64_5, o_b65_6⟩ := z_7
    have hP : va_P D vwCl (RW cs bd (va_up u 64 o_u64_5) (va_up b 65 o_b65_6) bw) H := hP
    have hD : va_D A (RW cs bd (va_up u 64 o_u64_5) (va_up b 65 o_b65_6) bw) := hD
    obtain ⟨wr_4_0, wr_4_1, wr_4_2, wr_4_3⟩ : (o_u64_5.toInt = (u 64).toInt + 1) ∧ (o_b65_6 = TRW (b 65) (u 64).toInt.toNat [(20 : Int32)]) ∧ (0 ≤ o_u64_5.toInt) ∧ (o_u64_5.toInt ≤ 1000) := wr_4
    have kt_8 : o_b65_6 = TRW (b 65) (u 64).toInt.toNat [20] := by rw [wr_4_1]
    refine lv_aload_n hx hb dX12_flying_19 rfl (lv_at hl 0 rfl) ?_
    refine lv_iload_n hx hb dX12_flying_20 rfl (lv_at hl 1 rfl) ?_
    refine lv_iload_n hx hb dX12_flying_21 rfl (lv_at hl 2 rfl) ?_
    refine cV_i (As := [.int p1, .int p2]) (rest := []) ⟨hx, hb, hml, hown, hg⟩ (k_X12_plainFlies l D cs A bd (va_up u 64 o_u64_5) (va_up b 65 o_b65_6) bw  p1 p2 (show 0 ≤ o_u64_5.toInt by first | omega | decide) (show o_u64_5.toInt ≤ 23 by first | omega | decide) (show 0 ≤ o_u64_5.toInt by first | omega | decide) (show o_u64_5.toInt ≤ 1000 by first | omega | decide)) ca_X12_plainFlies q7_59 ⟨rfl, rfl⟩ ⟨Nat.le_of_ble_eq_true rfl, Nat.le_of_ble_eq_true rfl⟩ (rc_model hK hP) hK hP hD hS hZ rfl hl.1 rfl (Nat.le_of_ble_eq_true rfl) ⟨Nat.zero_le _, Nat.zero_le _⟩ dX12_flying_22 (fun r_9 z_12 H locs wr_9 hP hD hS => ?_)
    obtain ⟨o_u64_10, o_b65_11⟩ := z_12
    have hP : va_P D vwCl (RW cs bd (va_up u 64 o_u64_10) (va_up b 65 o_b65_11) bw) H := hP
    have hD : va_D A (RW cs bd (va_up u 64 o_u64_10) (va_up b 65 o_b65_11) bw) := hD
    obtain ⟨wr_9_0, wr_9_1, wr_9_2, wr_9_3, wr_9_4⟩ : (o_u64_10.toInt = o_u64_5.toInt + 1) ∧ (o_b65_11 = TRW o_b65_6 o_u64_5.toInt.toNat [1]) ∧ (r_9 = (p2 + p1)) ∧ (0 ≤ o_u64_10.toInt) ∧ (o_u64_10.toInt ≤ 1000) := wr_9
    have kt_13 : o_b65_11 = TRW (b 65) (u 64).toInt.toNat [20, 1] := by rw [wr_9_1, kt_8, show (o_u64_5).toInt.toNat = (u 64).toInt.toNat + 1 from by omega]; rfl
    refine lv_iconst (v := 3) hx hb dX12_flying_25 (by decide) ?_
    refine lv_iadd hx hb dX12_flying_26 ?_
    refine lv_topi (fun x_14 ex_14 => ?_)
    exact W.iret (v := x_14) hx hb hr (fun tt ht hW => ⟨⟨x_14, ⟨o_u64_10, o_b65_11⟩, rfl, ⟨(by first | rfl | omega | trivial | assumption | (dsimp only; first | omega | assumption)), (by (try dsimp only); first | assumption | rfl), (by simp only [ex_14, wr_9_2]), (show 0 ≤ o_u64_10.toInt by first | omega | assumption), (show o_u64_10.toInt ≤ 1000 by first | omega | assumption)⟩, by rw [ht]; exact hP, hD⟩, hS.F ht⟩) hS.2.2 dX12_flying_27
set_option maxHeartbeats 4000000 in
set_option maxRecDepth 100000 in
theorem k_X12_plainStings_4 (l : Launch) (D : va_G) (cs : Nat → ClassId) (A : Nat → Prop) (bd : Nat → Nat) (u : Nat → Int32) (b : Nat → Nat → Int32) (bw : Nat → Nat → Int64)  (p1 : Int32) (p2 : Int32) (hkn : (b 63) p1.toNatClampNeg = 4) (h1 : 0 ≤ p1.toInt) (h2 : p1.toInt < 50) (hr0 : 0 ≤ (u 64).toInt) (hr1 : (u 64).toInt ≤ 21) (iu64_0 : 0 ≤ (u 64).toInt) (iu64_1 : (u 64).toInt ≤ 1000) (ib63_0 : AB 0 7 (b 63)) : Met l yX12_plainStings (Cond.code yX12_plainStings cX12_plainStings 3 (some .int) :: gw) ({ frames := 3, cells := 0, slots := 0, locals := 65 }) (va_Pc [.ref (bd 0), .int p1, .int p2] (XPre D (TY cs) (RW cs bd u b bw) A)) (va_Qi (fun (r : Int32) (z : Int32 × (Nat → Int32)) => (z.1.toInt = (u 64).toInt + 3) ∧ (z.2 = TRW (b 65) (u 64).toInt.toNat [10, 20, 1]) ∧ (r = (((p2 + p1) + 3) * 2)) ∧ (0 ≤ z.1.toInt) ∧ (z.1.toInt ≤ 1000)) (XPo D (fun (z : Int32 × (Nat → Int32)) => RW cs bd (va_up u 64 z.1) (va_up b 65 z.2) bw) A) A) 0 0 A := by
  refine Met.ofW (cc := cX12_plainStings) (maxL := 3) (ret := (some .int)) (by decide) rfl ?_
  intro p e s m args below meth c s₁ B hml hv
  obtain ⟨rfl, hP, hK, hD, hZ⟩ := hv
  have hx := B.exec
  have hb := B.bytes
  have hr := B.returns
  have hts := atoms_spec (ws := (Cond.code yX12_plainStings cX12_plainStings 3 (some .int) :: gw)) B.pre
  have hg : ∀ w ∈ gw, w.before ([.ref (bd 0), .int p1, .int p2] : List Value).toArray s = true := fun w h => hts w (List.mem_cons_of_mem _ h)
  have hown : s.vm.findClass RX12 = some m.cls := findClass_of_methodNamed B.named
  have hlocks := B.notSynchronized
  have hS : va_S A s.heap s.heap [] := va_S.rf
  have hP : va_P D vwCl (RW cs bd u b bw) s.heap := hP
  have hl := lv_entry ([.ref (bd 0), .int p1, .int p2]) (n := 3) (Nat.le_of_ble_eq_true rfl)
  rw [lg_entry_eq]
  generalize (lg_sl ([.ref (bd 0), .int p1, .int p2]) ++ List.replicate (3 - (lg_sl ([.ref (bd 0), .int p1, .int p2])).length) Slot.unset).toArray = ls at hl ⊢
  have hl : lv_has ls 3 [(0, .ref (bd 0)), (1, .int p1), (2, .int p2)] := hl
  refine lv_aload_n hx hb dX12_plainStings_0 rfl (lv_at hl 0 rfl) ?_
  refine lv_bipush (v := 10) hx hb dX12_plainStings_1 (by decide) ?_
  refine cV_v (As := [.int 10]) (rest := []) ⟨hx, hb, hml, hown, hg⟩ (k_X12_ran l D cs A bd u b bw  10 (show 0 ≤ (u 64).toInt by first | omega | decide) (show (u 64).toInt ≤ 23 by first | omega | decide) (show 0 ≤ (u 64).toInt by first | omega | decide) (show (u 64).toInt ≤ 1000 by first | omega | decide)) ca_X12_ran q7_55 ⟨rfl, rfl⟩ ⟨Nat.le_of_ble_eq_true rfl, Nat.le_of_ble_eq_true rfl⟩ (rc_model hK hP) hK hP hD hS hZ rfl hl.1 rfl (Nat.le_of_ble_eq_true rfl) ⟨Nat.zero_le _, Nat.zero_le _⟩ dX12_plainStings_3 (fun z_4 H locs wr_1 hP hD hS => ?_)
  obtain ⟨o_u64_2, o_b65_3⟩ := z_4
  have hP : va_P D vwCl (RW cs bd (va_up u 64 o_u64_2) (va_up b 65 o_b65_3) bw) H := hP
  have hD : va_D A (RW cs bd (va_up u 64 o_u64_2) (va_up b 65 o_b65_3) bw) := hD
  obtain ⟨wr_1_0, wr_1_1, wr_1_2, wr_1_3⟩ : (o_u64_2.toInt = (u 64).toInt + 1) ∧ (o_b65_3 = TRW (b 65) (u 64).toInt.toNat [(10 : Int32)]) ∧ (0 ≤ o_u64_2.toInt) ∧ (o_u64_2.toInt ≤ 1000) := wr_1
  have kt_5 : o_b65_3 = TRW (b 65) (u 64).toInt.toNat [10] := by rw [wr_1_1]
  refine lv_aload_n hx hb dX12_plainStings_6 rfl (lv_at hl 0 rfl) ?_
  refine lv_iload_n hx hb dX12_plainStings_7 rfl (lv_at hl 1 rfl) ?_
  refine lv_iload_n hx hb dX12_plainStings_8 rfl (lv_at hl 2 rfl) ?_
  refine cV_i (As := [.int p1, .int p2]) (rest := []) ⟨hx, hb, hml, hown, hg⟩ (k_X12_flying_4 l D cs A bd (va_up u 64 o_u64_2) (va_up b 65 o_b65_3) bw  p1 p2 hkn (show 0 ≤ p1.toInt by first | omega | decide) (show p1.toInt < 50 by first | omega | decide) (show 0 ≤ o_u64_2.toInt by first | omega | decide) (show o_u64_2.toInt ≤ 22 by first | omega | decide) ib63_0 (show 0 ≤ o_u64_2.toInt by first | omega | decide) (show o_u64_2.toInt ≤ 1000 by first | omega | decide)) ca_X12_flying q7_48 ⟨rfl, rfl⟩ ⟨Nat.le_of_ble_eq_true rfl, Nat.le_of_ble_eq_true rfl⟩ (rc_model hK hP) hK hP hD hS hZ rfl hl.1 rfl (Nat.le_of_ble_eq_true rfl) ⟨Nat.zero_le _, Nat.zero_le _⟩ dX12_plainStings_9 (fun r_6 z_9 H locs wr_6 hP hD hS => ?_)
  obtain ⟨o_u64_7, o_b65_8⟩ := z_9
  have hP : va_P D vwCl (RW cs bd (va_up u 64 o_u64_7) (va_up b 65 o_b65_8) bw) H := hP
  have hD : va_D A (RW cs bd (va_up u 64 o_u64_7) (va_up b 65 o_b65_8) bw) := hD
  obtain ⟨wr_6_0, wr_6_1, wr_6_2, wr_6_3, wr_6_4⟩ : (o_u64_7.toInt = o_u64_2.toInt + 2) ∧ (o_b65_8 = TRW o_b65_3 o_u64_2.toInt.toNat [20, 1]) ∧ (r_6 = ((p2 + p1) + 3)) ∧ (0 ≤ o_u64_7.toInt) ∧ (o_u64_7.toInt ≤ 1000) := wr_6
  have kt_10 : o_b65_8 = TRW (b 65) (u 64).toInt.toNat [10, 20, 1] := by rw [wr_6_1, kt_5, show (o_u64_2).toInt.toNat = (u 64).toInt.toNat + 1 from by omega]; rfl
  refine lv_iconst (v := 2) hx hb dX12_plainStings_12 (by decide) ?_
  refine lv_imul hx hb dX12_plainStings_13 ?_
  refine lv_topi (fun x_11 ex_11 => ?_)
  exact W.iret (v := x_11) hx hb hr (fun tt ht hW => ⟨⟨x_11, ⟨o_u64_7, o_b65_8⟩, rfl, ⟨(by first | rfl | omega | trivial | assumption | (dsimp only; first | omega | assumption)), (by (try dsimp only); first | assumption | rfl), (by simp only [ex_11, wr_6_2]), (show 0 ≤ o_u64_7.toInt by first | omega | assumption), (show o_u64_7.toInt ≤ 1000 by first | omega | assumption)⟩, by rw [ht]; exact hP, hD⟩, hS.F ht⟩) hS.2.2 dX12_plainStings_14
set_option maxHeartbeats 4000000 in
set_option maxRecDepth 100000 in
theorem k_X12_brookStings_4 (l : Launch) (D : va_G) (cs : Nat → ClassId) (A : Nat → Prop) (bd : Nat → Nat) (u : Nat → Int32) (b : Nat → Nat → Int32) (bw : Nat → Nat → Int64)  (p1 : Int32) (p2 : Int32) (hkn : (b 63) p1.toNatClampNeg = 4) (h1 : 0 ≤ p1.toInt) (h2 : p1.toInt < 50) (hr0 : 0 ≤ (u 64).toInt) (hr1 : (u 64).toInt ≤ 20) (iu64_0 : 0 ≤ (u 64).toInt) (iu64_1 : (u 64).toInt ≤ 1000) (ib63_0 : AB 0 7 (b 63)) : Met l yX12_brookStings (Cond.code yX12_brookStings cX12_brookStings 3 (some .int) :: gw) ({ frames := 4, cells := 0, slots := 0, locals := 87 }) (va_Pc [.ref (bd 0), .int p1, .int p2] (XPre D (TY cs) (RW cs bd u b bw) A)) (va_Qi (fun (r : Int32) (z : Int32 × (Nat → Int32)) => (z.1.toInt = (u 64).toInt + 4) ∧ (z.2 = TRW (b 65) (u 64).toInt.toNat [30, 10, 20, 1]) ∧ (r = (-(((p2 + p1) + 3) * 2))) ∧ (0 ≤ z.1.toInt) ∧ (z.1.toInt ≤ 1000)) (XPo D (fun (z : Int32 × (Nat → Int32)) => RW cs bd (va_up u 64 z.1) (va_up b 65 z.2) bw) A) A) 0 0 A := by
  refine Met.ofW (cc := cX12_brookStings) (maxL := 3) (ret := (some .int)) (by decide) rfl ?_
  intro p e s m args below meth c s₁ B hml hv
  obtain ⟨rfl, hP, hK, hD, hZ⟩ := hv
  have hx := B.exec
  have hb := B.bytes
  have hr := B.returns
  have hts := atoms_spec (ws := (Cond.code yX12_brookStings cX12_brookStings 3 (some .int) :: gw)) B.pre
  have hg : ∀ w ∈ gw, w.before ([.ref (bd 0), .int p1, .int p2] : List Value).toArray s = true := fun w h => hts w (List.mem_cons_of_mem _ h)
  have hown : s.vm.findClass RX12 = some m.cls := findClass_of_methodNamed B.named
  have hlocks := B.notSynchronized
  have hS : va_S A s.heap s.heap [] := va_S.rf
  have hP : va_P D vwCl (RW cs bd u b bw) s.heap := hP
  have hl := lv_entry ([.ref (bd 0), .int p1, .int p2]) (n := 3) (Nat.le_of_ble_eq_true rfl)
  rw [lg_entry_eq]
  generalize (lg_sl ([.ref (bd 0), .int p1, .int p2]) ++ List.replicate (3 - (lg_sl ([.ref (bd 0), .int p1, .int p2])).length) Slot.unset).toArray = ls at hl ⊢
  have hl : lv_has ls 3 [(0, .ref (bd 0)), (1, .int p1), (2, .int p2)] := hl
  refine lv_aload_n hx hb dX12_brookStings_0 rfl (lv_at hl 0 rfl) ?_
  refine lv_bipush (v := 30) hx hb dX12_brookStings_1 (by decide) ?_
  refine cV_v (As := [.int 30]) (rest := []) ⟨hx, hb, hml, hown, hg⟩ (k_X12_ran l D cs A bd u b bw  30 (show 0 ≤ (u 64).toInt by first | omega | decide) (show (u 64).toInt ≤ 23 by first | omega | decide) (show 0 ≤ (u 64).toInt by first | omega | decide) (show (u 64).toInt ≤ 1000 by first | omega | decide)) ca_X12_ran q7_55 ⟨rfl, rfl⟩ ⟨Nat.le_of_ble_eq_true rfl, Nat.le_of_ble_eq_true rfl⟩ (rc_model hK hP) hK hP hD hS hZ rfl hl.1 rfl (Nat.le_of_ble_eq_true rfl) ⟨Nat.zero_le _, Nat.zero_le _⟩ dX12_brookStings_3 (fun z_4 H locs wr_1 hP hD hS => ?_)
  obtain ⟨o_u64_2, o_b65_3⟩ := z_4
  have hP : va_P D vwCl (RW cs bd (va_up u 64 o_u64_2) (va_up b 65 o_b65_3) bw) H := hP
  have hD : va_D A (RW cs bd (va_up u 64 o_u64_2) (va_up b 65 o_b65_3) bw) := hD
  obtain ⟨wr_1_0, wr_1_1, wr_1_2, wr_1_3⟩ : (o_u64_2.toInt = (u 64).toInt + 1) ∧ (o_b65_3 = TRW (b 65) (u 64).toInt.toNat [(30 : Int32)]) ∧ (0 ≤ o_u64_2.toInt) ∧ (o_u64_2.toInt ≤ 1000) := wr_1
  have kt_5 : o_b65_3 = TRW (b 65) (u 64).toInt.toNat [30] := by rw [wr_1_1]
  refine lv_aload_n hx hb dX12_brookStings_6 rfl (lv_at hl 0 rfl) ?_
  refine lv_iload_n hx hb dX12_brookStings_7 rfl (lv_at hl 1 rfl) ?_
  refine lv_iload_n hx hb dX12_brookStings_8 rfl (lv_at hl 2 rfl) ?_
  refine cV_i (As := [.int p1, .int p2]) (rest := []) ⟨hx, hb, hml, hown, hg⟩ (k_X12_plainStings_4 l D cs A bd (va_up u 64 o_u64_2) (va_up b 65 o_b65_3) bw  p1 p2 hkn (show 0 ≤ p1.toInt by first | omega | decide) (show p1.toInt < 50 by first | omega | decide) (show 0 ≤ o_u64_2.toInt by first | omega | decide) (show o_u64_2.toInt ≤ 21 by first | omega | decide) (show 0 ≤ o_u64_2.toInt by first | omega | decide) (show o_u64_2.toInt ≤ 1000 by first | omega | decide) ib63_0) ca_X12_plainStings q7_75 ⟨rfl, rfl⟩ ⟨Nat.le_of_ble_eq_true rfl, Nat.le_of_ble_eq_true rfl⟩ (rc_model hK hP) hK hP hD hS hZ rfl hl.1 rfl (Nat.le_of_ble_eq_true rfl) ⟨Nat.zero_le _, Nat.zero_le _⟩ dX12_brookStings_9 (fun r_6 z_9 H locs wr_6 hP hD hS => ?_)
  obtain ⟨o_u64_7, o_b65_8⟩ := z_9
  have hP : va_P D vwCl (RW cs bd (va_up u 64 o_u64_7) (va_up b 65 o_b65_8) bw) H := hP
  have hD : va_D A (RW cs bd (va_up u 64 o_u64_7) (va_up b 65 o_b65_8) bw) := hD
  obtain ⟨wr_6_0, wr_6_1, wr_6_2, wr_6_3, wr_6_4⟩ : (o_u64_7.toInt = o_u64_2.toInt + 3) ∧ (o_b65_8 = TRW o_b65_3 o_u64_2.toInt.toNat [10, 20, 1]) ∧ (r_6 = (((p2 + p1) + 3) * 2)) ∧ (0 ≤ o_u64_7.toInt) ∧ (o_u64_7.toInt ≤ 1000) := wr_6
  have kt_10 : o_b65_8 = TRW (b 65) (u 64).toInt.toNat [30, 10, 20, 1] := by rw [wr_6_1, kt_5, show (o_u64_2).toInt.toNat = (u 64).toInt.toNat + 1 from by omega]; rfl
  refine lv_ineg hx hb dX12_brookStings_12 ?_
  refine lv_topi (fun x_11 ex_11 => ?_)
  exact W.iret (v := x_11) hx hb hr (fun tt ht hW => ⟨⟨x_11, ⟨o_u64_7, o_b65_8⟩, rfl, ⟨(by first | rfl | omega | trivial | assumption | (dsimp only; first | omega | assumption)), (by (try dsimp only); first | assumption | rfl), (by simp only [ex_11, wr_6_2]), (show 0 ≤ o_u64_7.toInt by first | omega | assumption), (show o_u64_7.toInt ≤ 1000 by first | omega | assumption)⟩, by rw [ht]; exact hP, hD⟩, hS.F ht⟩) hS.2.2 dX12_brookStings_13
set_option maxHeartbeats 4000000 in
set_option maxRecDepth 100000 in
theorem k_X12_settling_4 (l : Launch) (D : va_G) (cs : Nat → ClassId) (A : Nat → Prop) (bd : Nat → Nat) (u : Nat → Int32) (b : Nat → Nat → Int32) (bw : Nat → Nat → Int64)  (p1 : Int32) (p2 : Int32) (hkn : (b 63) p1.toNatClampNeg = 4) (h1 : 0 ≤ p1.toInt) (h2 : p1.toInt < 50) (hr0 : 0 ≤ (u 64).toInt) (hr1 : (u 64).toInt ≤ 23) (ib63_0 : AB 0 7 (b 63)) (iu64_0 : 0 ≤ (u 64).toInt) (iu64_1 : (u 64).toInt ≤ 1000) : Met l yX12_settling (Cond.code yX12_settling cX12_settling 4 (some .int) :: gw) ({ frames := 2, cells := 0, slots := 0, locals := 43 }) (va_Pc [.ref (bd 0), .int p1, .int p2] (XPre D (TY cs) (RW cs bd u b bw) A)) (va_Qi (fun (r : Int32) (z : Int32 × (Nat → Int32)) => (z.1.toInt = (u 64).toInt + 1) ∧ (z.2 = TRW (b 65) (u 64).toInt.toNat [11]) ∧ (r = (p2 ^^^ p1)) ∧ (0 ≤ z.1.toInt) ∧ (z.1.toInt ≤ 1000)) (XPo D (fun (z : Int32 × (Nat → Int32)) => RW cs bd (va_up u 64 z.1) (va_up b 65 z.2) bw) A) A) 0 0 A := by
  refine Met.ofW (cc := cX12_settling) (maxL := 4) (ret := (some .int)) (by decide) rfl ?_
  intro p e s m args below meth c s₁ B hml hv
  obtain ⟨rfl, hP, hK, hD, hZ⟩ := hv
  have hx := B.exec
  have hb := B.bytes
  have hr := B.returns
  have hts := atoms_spec (ws := (Cond.code yX12_settling cX12_settling 4 (some .int) :: gw)) B.pre
  have hg : ∀ w ∈ gw, w.before ([.ref (bd 0), .int p1, .int p2] : List Value).toArray s = true := fun w h => hts w (List.mem_cons_of_mem _ h)
  have hown : s.vm.findClass RX12 = some m.cls := findClass_of_methodNamed B.named
  have hlocks := B.notSynchronized
  have hS : va_S A s.heap s.heap [] := va_S.rf
  have hP : va_P D vwCl (RW cs bd u b bw) s.heap := hP
  have hl := lv_entry ([.ref (bd 0), .int p1, .int p2]) (n := 4) (Nat.le_of_ble_eq_true rfl)
  rw [lg_entry_eq]
  generalize (lg_sl ([.ref (bd 0), .int p1, .int p2]) ++ List.replicate (4 - (lg_sl ([.ref (bd 0), .int p1, .int p2])).length) Slot.unset).toArray = ls at hl ⊢
  have hl : lv_has ls 4 [(0, .ref (bd 0)), (1, .int p1), (2, .int p2)] := hl
  refine lv_aload_n hx hb dX12_settling_0 rfl (lv_at hl 0 rfl) ?_
  refine gr_kind hx hb hg hown hK hP (hg _ q5_55) dX12_settling_1 ?_
  refine lv_iload_n hx hb dX12_settling_4 rfl (lv_at hl 1 rfl) ?_
  refine lr_kind hx hb hK hP (i_in (by omega) (by omega)) dX12_settling_5 ?_
  refine lv_topi (fun x_1 ex_1 => ?_)
  have ex_1 : x_1 = (b 63) p1.toNatClampNeg := ex_1
  have hx_1 : x_1.toInt = ((b 63) p1.toNatClampNeg).toInt := by rw [ex_1]
  have bx_1 := ib63_0 p1.toNatClampNeg
  rw [← ex_1] at bx_1
  have fx_1 : x_1 = 4 := by rw [ex_1]; exact hkn
  subst fx_1
  refine lv_iconst (v := 5) hx hb dX12_settling_6 (by decide) ?_
  refine lv_icmp_ne (tgt := 32) hx hb dX12_settling_7 (by decide) (fun c_2 => ?_) (fun c_2 => absurd c_2 (by decide))
  refine lv_aload_n hx hb dX12_settling_32 rfl (lv_at hl 0 rfl) ?_
  refine gr_kind hx hb hg hown hK hP (hg _ q5_55) dX12_settling_33 ?_
  refine lv_iload_n hx hb dX12_settling_36 rfl (lv_at hl 1 rfl) ?_
  refine lr_kind hx hb hK hP (i_in (by omega) (by omega)) dX12_settling_37 ?_
  refine lv_topi (fun x_3 ex_3 => ?_)
  have ex_3 : x_3 = (b 63) p1.toNatClampNeg := ex_3
  have hx_3 : x_3.toInt = ((b 63) p1.toNatClampNeg).toInt := by rw [ex_3]
  have bx_3 := ib63_0 p1.toNatClampNeg
  rw [← ex_3] at bx_3
  have fx_3 : x_3 = 4 := by rw [ex_3]; exact hkn
  subst fx_3
  refine lv_iconst (v := 3) hx hb dX12_settling_38 (by decide) ?_
  refine lv_icmp_ne (tgt := 51) hx hb dX12_settling_39 (by decide) (fun c_4 => ?_) (fun c_4 => absurd c_4 (by decide))
  refine lv_aload_n hx hb dX12_settling_51 rfl (lv_at hl 0 rfl) ?_
  refine lv_iload_n hx hb dX12_settling_52 rfl (lv_at hl 1 rfl) ?_
  refine lv_iload_n hx hb dX12_settling_53 rfl (lv_at hl 2 rfl) ?_
  refine cV_i (As := [.int p1, .int p2]) (rest := []) ⟨hx, hb, hml, hown, hg⟩ (k_X12_plainSettles l D cs A bd u b bw  p1 p2 (show 0 ≤ (u 64).toInt by first | omega | decide) (show (u 64).toInt ≤ 23 by first | omega | decide) (show 0 ≤ (u 64).toInt by first | omega | decide) (show (u 64).toInt ≤ 1000 by first | omega | decide)) ca_X12_plainSettles q7_87 ⟨rfl, rfl⟩ ⟨Nat.le_of_ble_eq_true rfl, Nat.le_of_ble_eq_true rfl⟩ (rc_model hK hP) hK hP hD hS hZ rfl hl.1 rfl (Nat.le_of_ble_eq_true rfl) ⟨Nat.zero_le _, Nat.zero_le _⟩ dX12_settling_54 (fun r_5 z_8 H locs wr_5 hP hD hS => ?_)
  obtain ⟨o_u64_6, o_b65_7⟩ := z_8
  have hP : va_P D vwCl (RW cs bd (va_up u 64 o_u64_6) (va_up b 65 o_b65_7) bw) H := hP
  have hD : va_D A (RW cs bd (va_up u 64 o_u64_6) (va_up b 65 o_b65_7) bw) := hD
  obtain ⟨wr_5_0, wr_5_1, wr_5_2, wr_5_3, wr_5_4⟩ : (o_u64_6.toInt = (u 64).toInt + 1) ∧ (o_b65_7 = TRW (b 65) (u 64).toInt.toNat [11]) ∧ (r_5 = (p2 ^^^ p1)) ∧ (0 ≤ o_u64_6.toInt) ∧ (o_u64_6.toInt ≤ 1000) := wr_5
  have kt_9 : o_b65_7 = TRW (b 65) (u 64).toInt.toNat [11] := by rw [wr_5_1]
  exact W.iret (v := r_5) hx hb hr (fun tt ht hW => ⟨⟨r_5, ⟨o_u64_6, o_b65_7⟩, rfl, ⟨(by first | rfl | omega | trivial | assumption | (dsimp only; first | omega | assumption)), (by (try dsimp only); first | assumption | rfl), (by simp only [wr_5_2]), (show 0 ≤ o_u64_6.toInt by first | omega | assumption), (show o_u64_6.toInt ≤ 1000 by first | omega | assumption)⟩, by rw [ht]; exact hP, hD⟩, hS.F ht⟩) hS.2.2 dX12_settling_57
set_option maxHeartbeats 4000000 in
set_option maxRecDepth 100000 in
theorem k_X12_stinging_4 (l : Launch) (D : va_G) (cs : Nat → ClassId) (A : Nat → Prop) (bd : Nat → Nat) (u : Nat → Int32) (b : Nat → Nat → Int32) (bw : Nat → Nat → Int64)  (p1 : Int32) (p2 : Int32) (hkn : (b 63) p1.toNatClampNeg = 4) (h1 : 0 ≤ p1.toInt) (h2 : p1.toInt < 50) (hr0 : 0 ≤ (u 64).toInt) (hr1 : (u 64).toInt ≤ 21) (ib63_0 : AB 0 7 (b 63)) (iu64_0 : 0 ≤ (u 64).toInt) (iu64_1 : (u 64).toInt ≤ 1000) : Met l yX12_stinging (Cond.code yX12_stinging cX12_stinging 4 (some .int) :: gw) ({ frames := 4, cells := 0, slots := 0, locals := 87 }) (va_Pc [.ref (bd 0), .int p1, .int p2] (XPre D (TY cs) (RW cs bd u b bw) A)) (va_Qi (fun (r : Int32) (z : Int32 × (Nat → Int32)) => (z.1.toInt = (u 64).toInt + 3) ∧ (z.2 = TRW (b 65) (u 64).toInt.toNat [10, 20, 1]) ∧ (r = (((p2 + p1) + 3) * 2)) ∧ (0 ≤ z.1.toInt) ∧ (z.1.toInt ≤ 1000)) (XPo D (fun (z : Int32 × (Nat → Int32)) => RW cs bd (va_up u 64 z.1) (va_up b 65 z.2) bw) A) A) 0 0 A := by
  refine Met.ofW (cc := cX12_stinging) (maxL := 4) (ret := (some .int)) (by decide) rfl ?_
  intro p e s m args below meth c s₁ B hml hv
  obtain ⟨rfl, hP, hK, hD, hZ⟩ := hv
  have hx := B.exec
  have hb := B.bytes
  have hr := B.returns
  have hts := atoms_spec (ws := (Cond.code yX12_stinging cX12_stinging 4 (some .int) :: gw)) B.pre
  have hg : ∀ w ∈ gw, w.before ([.ref (bd 0), .int p1, .int p2] : List Value).toArray s = true := fun w h => hts w (List.mem_cons_of_mem _ h)
  have hown : s.vm.findClass RX12 = some m.cls := findClass_of_methodNamed B.named
  have hlocks := B.notSynchronized
  have hS : va_S A s.heap s.heap [] := va_S.rf
  have hP : va_P D vwCl (RW cs bd u b bw) s.heap := hP
  have hl := lv_entry ([.ref (bd 0), .int p1, .int p2]) (n := 4) (Nat.le_of_ble_eq_true rfl)
  rw [lg_entry_eq]
  generalize (lg_sl ([.ref (bd 0), .int p1, .int p2]) ++ List.replicate (4 - (lg_sl ([.ref (bd 0), .int p1, .int p2])).length) Slot.unset).toArray = ls at hl ⊢
  have hl : lv_has ls 4 [(0, .ref (bd 0)), (1, .int p1), (2, .int p2)] := hl
  refine lv_aload_n hx hb dX12_stinging_0 rfl (lv_at hl 0 rfl) ?_
  refine gr_kind hx hb hg hown hK hP (hg _ q5_55) dX12_stinging_1 ?_
  refine lv_iload_n hx hb dX12_stinging_4 rfl (lv_at hl 1 rfl) ?_
  refine lr_kind hx hb hK hP (i_in (by omega) (by omega)) dX12_stinging_5 ?_
  refine lv_topi (fun x_1 ex_1 => ?_)
  have ex_1 : x_1 = (b 63) p1.toNatClampNeg := ex_1
  have hx_1 : x_1.toInt = ((b 63) p1.toNatClampNeg).toInt := by rw [ex_1]
  have bx_1 := ib63_0 p1.toNatClampNeg
  rw [← ex_1] at bx_1
  have fx_1 : x_1 = 4 := by rw [ex_1]; exact hkn
  subst fx_1
  refine lv_iconst (v := 3) hx hb dX12_stinging_6 (by decide) ?_
  refine cS_p (As := [.int 4, .int 3]) (rest := []) ⟨hx, hb, hml, hown, hg⟩ (k_RU_4_3 l    ) ca_X12_isUnder q7_52 ⟨rfl, rfl⟩ ⟨Nat.le_of_ble_eq_true rfl, Nat.le_of_ble_eq_true rfl⟩ rfl hl.1 rfl (Nat.le_of_ble_eq_true rfl) ⟨Nat.zero_le _, Nat.zero_le _⟩ dX12_stinging_7 (fun r_2 wr_2 => ?_)
  have wr_2 : r_2.toInt = 0 := wr_2
  refine lv_if_eq (tgt := 28) hx hb dX12_stinging_10 (by decide) (fun c_3 => ?_) (fun c_3 => ?_)
  ·
    have kc_3 : r_2.toInt = (0 : Int) := i_eq c_3
    refine lv_aload_n hx hb dX12_stinging_28 rfl (lv_at hl 0 rfl) ?_
    refine gr_kind hx hb hg hown hK hP (hg _ q5_55) dX12_stinging_29 ?_
    refine lv_iload_n hx hb dX12_stinging_32 rfl (lv_at hl 1 rfl) ?_
    refine lr_kind hx hb hK hP (i_in (by omega) (by omega)) dX12_stinging_33 ?_
    refine lv_topi (fun x_4 ex_4 => ?_)
    have ex_4 : x_4 = (b 63) p1.toNatClampNeg := ex_4
    have hx_4 : x_4.toInt = ((b 63) p1.toNatClampNeg).toInt := by rw [ex_4]
    have bx_4 := ib63_0 p1.toNatClampNeg
    rw [← ex_4] at bx_4
    have fx_4 : x_4 = 4 := by rw [ex_4]; exact hkn
    subst fx_4
    refine lv_bipush (v := 7) hx hb dX12_stinging_34 (by decide) ?_
    refine lv_icmp_ne (tgt := 61) hx hb dX12_stinging_36 (by decide) (fun c_5 => ?_) (fun c_5 => absurd c_5 (by decide))
    refine lv_aload_n hx hb dX12_stinging_61 rfl (lv_at hl 0 rfl) ?_
    refine gr_kind hx hb hg hown hK hP (hg _ q5_55) dX12_stinging_62 ?_
    refine lv_iload_n hx hb dX12_stinging_65 rfl (lv_at hl 1 rfl) ?_
    refine lr_kind hx hb hK hP (i_in (by omega) (by omega)) dX12_stinging_66 ?_
    refine lv_topi (fun x_6 ex_6 => ?_)
    have ex_6 : x_6 = (b 63) p1.toNatClampNeg := ex_6
    have hx_6 : x_6.toInt = ((b 63) p1.toNatClampNeg).toInt := by rw [ex_6]
    have bx_6 := ib63_0 p1.toNatClampNeg
    rw [← ex_6] at bx_6
    have fx_6 : x_6 = 4 := by rw [ex_6]; exact hkn
    subst fx_6
    refine lv_iconst (v := 2) hx hb dX12_stinging_67 (by decide) ?_
    refine lv_icmp_ne (tgt := 80) hx hb dX12_stinging_68 (by decide) (fun c_7 => ?_) (fun c_7 => absurd c_7 (by decide))
    refine lv_aload_n hx hb dX12_stinging_80 rfl (lv_at hl 0 rfl) ?_
    refine lv_iload_n hx hb dX12_stinging_81 rfl (lv_at hl 1 rfl) ?_
    refine lv_iload_n hx hb dX12_stinging_82 rfl (lv_at hl 2 rfl) ?_
    refine cV_i (As := [.int p1, .int p2]) (rest := []) ⟨hx, hb, hml, hown, hg⟩ (k_X12_plainStings_4 l D cs A bd u b bw  p1 p2 hkn (show 0 ≤ p1.toInt by first | omega | decide) (show p1.toInt < 50 by first | omega | decide) (show 0 ≤ (u 64).toInt by first | omega | decide) (show (u 64).toInt ≤ 21 by first | omega | decide) (show 0 ≤ (u 64).toInt by first | omega | decide) (show (u 64).toInt ≤ 1000 by first | omega | decide) ib63_0) ca_X12_plainStings q7_75 ⟨rfl, rfl⟩ ⟨Nat.le_of_ble_eq_true rfl, Nat.le_of_ble_eq_true rfl⟩ (rc_model hK hP) hK hP hD hS hZ rfl hl.1 rfl (Nat.le_of_ble_eq_true rfl) ⟨Nat.zero_le _, Nat.zero_le _⟩ dX12_stinging_83 (fun r_8 z_11 H locs wr_8 hP hD hS => ?_)
    obtain ⟨o_u64_9, o_b65_10⟩ := z_11
    have hP : va_P D vwCl (RW cs bd (va_up u 64 o_u64_9) (va_up b 65 o_b65_10) bw) H := hP
    have hD : va_D A (RW cs bd (va_up u 64 o_u64_9) (va_up b 65 o_b65_10) bw) := hD
    obtain ⟨wr_8_0, wr_8_1, wr_8_2, wr_8_3, wr_8_4⟩ : (o_u64_9.toInt = (u 64).toInt + 3) ∧ (o_b65_10 = TRW (b 65) (u 64).toInt.toNat [10, 20, 1]) ∧ (r_8 = (((p2 + p1) + 3) * 2)) ∧ (0 ≤ o_u64_9.toInt) ∧ (o_u64_9.toInt ≤ 1000) := wr_8
    have kt_12 : o_b65_10 = TRW (b 65) (u 64).toInt.toNat [10, 20, 1] := by rw [wr_8_1]
    exact W.iret (v := r_8) hx hb hr (fun tt ht hW => ⟨⟨r_8, ⟨o_u64_9, o_b65_10⟩, rfl, ⟨(by first | rfl | omega | trivial | assumption | (dsimp only; first | omega | assumption)), (by (try dsimp only); first | assumption | rfl), (by simp only [wr_8_2]), (show 0 ≤ o_u64_9.toInt by first | omega | assumption), (show o_u64_9.toInt ≤ 1000 by first | omega | assumption)⟩, by rw [ht]; exact hP, hD⟩, hS.F ht⟩) hS.2.2 dX12_stinging_86
  ·
    have kc_3 : r_2.toInt ≠ (0 : Int) := i_ne c_3
    exfalso; omega
set_option maxHeartbeats 4000000 in
set_option maxRecDepth 100000 in
theorem k_X12_plainTells_4 (l : Launch) (D : va_G) (cs : Nat → ClassId) (A : Nat → Prop) (bd : Nat → Nat) (u : Nat → Int32) (b : Nat → Nat → Int32) (bw : Nat → Nat → Int64)  (p1 : Int32) (p2 : Int32) (hkn : (b 63) p1.toNatClampNeg = 4) (h1 : 0 ≤ p1.toInt) (h2 : p1.toInt < 50) (hr0 : 0 ≤ (u 64).toInt) (hr1 : (u 64).toInt ≤ 19) (iu64_0 : 0 ≤ (u 64).toInt) (iu64_1 : (u 64).toInt ≤ 1000) (ib63_0 : AB 0 7 (b 63)) : Met l yX12_plainTells (Cond.code yX12_plainTells cX12_plainTells 4 (some .int) :: gw) ({ frames := 5, cells := 0, slots := 0, locals := 110 }) (va_Pc [.ref (bd 0), .int p1, .int p2] (XPre D (TY cs) (RW cs bd u b bw) A)) (va_Qi (fun (r : Int32) (z : Int32 × (Nat → Int32)) => (z.1.toInt = (u 64).toInt + 5) ∧ (z.2 = TRW (b 65) (u 64).toInt.toNat [2, 10, 20, 1, 11]) ∧ (r = ((((p2 + p1) + 3) * 2) - ((1 : Int32) ^^^ p1))) ∧ (0 ≤ z.1.toInt) ∧ (z.1.toInt ≤ 1000)) (XPo D (fun (z : Int32 × (Nat → Int32)) => RW cs bd (va_up u 64 z.1) (va_up b 65 z.2) bw) A) A) 0 0 A := by
  refine Met.ofW (cc := cX12_plainTells) (maxL := 4) (ret := (some .int)) (by decide) rfl ?_
  intro p e s m args below meth c s₁ B hml hv
  obtain ⟨rfl, hP, hK, hD, hZ⟩ := hv
  have hx := B.exec
  have hb := B.bytes
  have hr := B.returns
  have hts := atoms_spec (ws := (Cond.code yX12_plainTells cX12_plainTells 4 (some .int) :: gw)) B.pre
  have hg : ∀ w ∈ gw, w.before ([.ref (bd 0), .int p1, .int p2] : List Value).toArray s = true := fun w h => hts w (List.mem_cons_of_mem _ h)
  have hown : s.vm.findClass RX12 = some m.cls := findClass_of_methodNamed B.named
  have hlocks := B.notSynchronized
  have hS : va_S A s.heap s.heap [] := va_S.rf
  have hP : va_P D vwCl (RW cs bd u b bw) s.heap := hP
  have hl := lv_entry ([.ref (bd 0), .int p1, .int p2]) (n := 4) (Nat.le_of_ble_eq_true rfl)
  rw [lg_entry_eq]
  generalize (lg_sl ([.ref (bd 0), .int p1, .int p2]) ++ List.replicate (4 - (lg_sl ([.ref (bd 0), .int p1, .int p2])).length) Slot.unset).toArray = ls at hl ⊢
  have hl : lv_has ls 4 [(0, .ref (bd 0)), (1, .int p1), (2, .int p2)] := hl
  refine lv_aload_n hx hb dX12_plainTells_0 rfl (lv_at hl 0 rfl) ?_
  refine lv_iconst (v := 2) hx hb dX12_plainTells_1 (by decide) ?_
  refine cV_v (As := [.int 2]) (rest := []) ⟨hx, hb, hml, hown, hg⟩ (k_X12_ran l D cs A bd u b bw  2 (show 0 ≤ (u 64).toInt by first | omega | decide) (show (u 64).toInt ≤ 23 by first | omega | decide) (show 0 ≤ (u 64).toInt by first | omega | decide) (show (u 64).toInt ≤ 1000 by first | omega | decide)) ca_X12_ran q7_55 ⟨rfl, rfl⟩ ⟨Nat.le_of_ble_eq_true rfl, Nat.le_of_ble_eq_true rfl⟩ (rc_model hK hP) hK hP hD hS hZ rfl hl.1 rfl (Nat.le_of_ble_eq_true rfl) ⟨Nat.zero_le _, Nat.zero_le _⟩ dX12_plainTells_2 (fun z_4 H locs wr_1 hP hD hS => ?_)
  obtain ⟨o_u64_2, o_b65_3⟩ := z_4
  have hP : va_P D vwCl (RW cs bd (va_up u 64 o_u64_2) (va_up b 65 o_b65_3) bw) H := hP
  have hD : va_D A (RW cs bd (va_up u 64 o_u64_2) (va_up b 65 o_b65_3) bw) := hD
  obtain ⟨wr_1_0, wr_1_1, wr_1_2, wr_1_3⟩ : (o_u64_2.toInt = (u 64).toInt + 1) ∧ (o_b65_3 = TRW (b 65) (u 64).toInt.toNat [(2 : Int32)]) ∧ (0 ≤ o_u64_2.toInt) ∧ (o_u64_2.toInt ≤ 1000) := wr_1
  have kt_5 : o_b65_3 = TRW (b 65) (u 64).toInt.toNat [2] := by rw [wr_1_1]
  refine lv_aload_n hx hb dX12_plainTells_5 rfl (lv_at hl 0 rfl) ?_
  refine lv_iload_n hx hb dX12_plainTells_6 rfl (lv_at hl 1 rfl) ?_
  refine lv_iload_n hx hb dX12_plainTells_7 rfl (lv_at hl 2 rfl) ?_
  refine cV_i (As := [.int p1, .int p2]) (rest := []) ⟨hx, hb, hml, hown, hg⟩ (k_X12_stinging_4 l D cs A bd (va_up u 64 o_u64_2) (va_up b 65 o_b65_3) bw  p1 p2 hkn (show 0 ≤ p1.toInt by first | omega | decide) (show p1.toInt < 50 by first | omega | decide) (show 0 ≤ o_u64_2.toInt by first | omega | decide) (show o_u64_2.toInt ≤ 21 by first | omega | decide) ib63_0 (show 0 ≤ o_u64_2.toInt by first | omega | decide) (show o_u64_2.toInt ≤ 1000 by first | omega | decide)) ca_X12_stinging q7_67 ⟨rfl, rfl⟩ ⟨Nat.le_of_ble_eq_true rfl, Nat.le_of_ble_eq_true rfl⟩ (rc_model hK hP) hK hP hD hS hZ rfl hl.1 rfl (Nat.le_of_ble_eq_true rfl) ⟨Nat.zero_le _, Nat.zero_le _⟩ dX12_plainTells_8 (fun r_6 z_9 H locs wr_6 hP hD hS => ?_)
  obtain ⟨o_u64_7, o_b65_8⟩ := z_9
  have hP : va_P D vwCl (RW cs bd (va_up u 64 o_u64_7) (va_up b 65 o_b65_8) bw) H := hP
  have hD : va_D A (RW cs bd (va_up u 64 o_u64_7) (va_up b 65 o_b65_8) bw) := hD
  obtain ⟨wr_6_0, wr_6_1, wr_6_2, wr_6_3, wr_6_4⟩ : (o_u64_7.toInt = o_u64_2.toInt + 3) ∧ (o_b65_8 = TRW o_b65_3 o_u64_2.toInt.toNat [10, 20, 1]) ∧ (r_6 = (((p2 + p1) + 3) * 2)) ∧ (0 ≤ o_u64_7.toInt) ∧ (o_u64_7.toInt ≤ 1000) := wr_6
  have kt_10 : o_b65_8 = TRW (b 65) (u 64).toInt.toNat [2, 10, 20, 1] := by rw [wr_6_1, kt_5, show (o_u64_2).toInt.toNat = (u 64).toInt.toNat + 1 from by omega]; rfl
  refine lv_istore_n (lv' := [(3, .int r_6), (0, .ref (bd 0)), (1, .int p1), (2, .int p2)]) hx hb dX12_plainTells_11 rfl hl (by decide) rfl (fun ls hl => ?_)
  refine lv_iload_n hx hb dX12_plainTells_12 rfl (lv_at hl 0 rfl) ?_
  refine lv_aload_n hx hb dX12_plainTells_13 rfl (lv_at hl 1 rfl) ?_
  refine lv_iload_n hx hb dX12_plainTells_14 rfl (lv_at hl 2 rfl) ?_
  refine lv_iconst (v := 1) hx hb dX12_plainTells_15 (by decide) ?_
  refine cV_i (As := [.int p1, .int 1]) (rest := [.int r_6]) ⟨hx, hb, hml, hown, hg⟩ (k_X12_settling_4 l D cs A bd (va_up u 64 o_u64_7) (va_up b 65 o_b65_8) bw  p1 1 hkn (show 0 ≤ p1.toInt by first | omega | decide) (show p1.toInt < 50 by first | omega | decide) (show 0 ≤ o_u64_7.toInt by first | omega | decide) (show o_u64_7.toInt ≤ 23 by first | omega | decide) ib63_0 (show 0 ≤ o_u64_7.toInt by first | omega | decide) (show o_u64_7.toInt ≤ 1000 by first | omega | decide)) ca_X12_settling q7_79 ⟨rfl, rfl⟩ ⟨Nat.le_of_ble_eq_true rfl, Nat.le_of_ble_eq_true rfl⟩ (rc_model hK hP) hK hP hD hS hZ rfl hl.1 rfl (Nat.le_of_ble_eq_true rfl) ⟨Nat.zero_le _, Nat.zero_le _⟩ dX12_plainTells_16 (fun r_11 z_14 H locs wr_11 hP hD hS => ?_)
  obtain ⟨o_u64_12, o_b65_13⟩ := z_14
  have hP : va_P D vwCl (RW cs bd (va_up u 64 o_u64_12) (va_up b 65 o_b65_13) bw) H := hP
  have hD : va_D A (RW cs bd (va_up u 64 o_u64_12) (va_up b 65 o_b65_13) bw) := hD
  obtain ⟨wr_11_0, wr_11_1, wr_11_2, wr_11_3, wr_11_4⟩ : (o_u64_12.toInt = o_u64_7.toInt + 1) ∧ (o_b65_13 = TRW o_b65_8 o_u64_7.toInt.toNat [11]) ∧ (r_11 = ((1 : Int32) ^^^ p1)) ∧ (0 ≤ o_u64_12.toInt) ∧ (o_u64_12.toInt ≤ 1000) := wr_11
  have kt_15 : o_b65_13 = TRW (b 65) (u 64).toInt.toNat [2, 10, 20, 1, 11] := by rw [wr_11_1, kt_10, show (o_u64_7).toInt.toNat = (u 64).toInt.toNat + 4 from by omega]; rfl
  refine lv_isub hx hb dX12_plainTells_19 ?_
  refine lv_topi (fun x_16 ex_16 => ?_)
  exact W.iret (v := x_16) hx hb hr (fun tt ht hW => ⟨⟨x_16, ⟨o_u64_12, o_b65_13⟩, rfl, ⟨(by first | rfl | omega | trivial | assumption | (dsimp only; first | omega | assumption)), (by (try dsimp only); first | assumption | rfl), (by simp only [ex_16, wr_11_2, wr_6_2]), (show 0 ≤ o_u64_12.toInt by first | omega | assumption), (show o_u64_12.toInt ≤ 1000 by first | omega | assumption)⟩, by rw [ht]; exact hP, hD⟩, hS.F ht⟩) hS.2.2 dX12_plainTells_20
set_option maxHeartbeats 4000000 in
set_option maxRecDepth 100000 in
theorem k_X12_telling_4 (l : Launch) (D : va_G) (cs : Nat → ClassId) (A : Nat → Prop) (bd : Nat → Nat) (u : Nat → Int32) (b : Nat → Nat → Int32) (bw : Nat → Nat → Int64)  (p1 : Int32) (p2 : Int32) (hkn : (b 63) p1.toNatClampNeg = 4) (h1 : 0 ≤ p1.toInt) (h2 : p1.toInt < 50) (hr0 : 0 ≤ (u 64).toInt) (hr1 : (u 64).toInt ≤ 18) (ib63_0 : AB 0 7 (b 63)) (iu64_0 : 0 ≤ (u 64).toInt) (iu64_1 : (u 64).toInt ≤ 1000) : Met l yX12_telling (Cond.code yX12_telling cX12_telling 3 (some .int) :: gw) ({ frames := 6, cells := 0, slots := 0, locals := 133 }) (va_Pc [.ref (bd 0), .int p1, .int p2] (XPre D (TY cs) (RW cs bd u b bw) A)) (va_Qi (fun (r : Int32) (z : Int32 × (Nat → Int32)) => (z.1.toInt = (u 64).toInt + 6) ∧ (z.2 = TRW (b 65) (u 64).toInt.toNat [50, 2, 10, 20, 1, 11]) ∧ (r = (((((p2 + p1) + 3) * 2) - ((1 : Int32) ^^^ p1)) ^^^ 5)) ∧ (0 ≤ z.1.toInt) ∧ (z.1.toInt ≤ 1000)) (XPo D (fun (z : Int32 × (Nat → Int32)) => RW cs bd (va_up u 64 z.1) (va_up b 65 z.2) bw) A) A) 0 0 A := by
  refine Met.ofW (cc := cX12_telling) (maxL := 3) (ret := (some .int)) (by decide) rfl ?_
  intro p e s m args below meth c s₁ B hml hv
  obtain ⟨rfl, hP, hK, hD, hZ⟩ := hv
  have hx := B.exec
  have hb := B.bytes
  have hr := B.returns
  have hts := atoms_spec (ws := (Cond.code yX12_telling cX12_telling 3 (some .int) :: gw)) B.pre
  have hg : ∀ w ∈ gw, w.before ([.ref (bd 0), .int p1, .int p2] : List Value).toArray s = true := fun w h => hts w (List.mem_cons_of_mem _ h)
  have hown : s.vm.findClass RX12 = some m.cls := findClass_of_methodNamed B.named
  have hlocks := B.notSynchronized
  have hS : va_S A s.heap s.heap [] := va_S.rf
  have hP : va_P D vwCl (RW cs bd u b bw) s.heap := hP
  have hl := lv_entry ([.ref (bd 0), .int p1, .int p2]) (n := 3) (Nat.le_of_ble_eq_true rfl)
  rw [lg_entry_eq]
  generalize (lg_sl ([.ref (bd 0), .int p1, .int p2]) ++ List.replicate (3 - (lg_sl ([.ref (bd 0), .int p1, .int p2])).length) Slot.unset).toArray = ls at hl ⊢
  have hl : lv_has ls 3 [(0, .ref (bd 0)), (1, .int p1), (2, .int p2)] := hl
  refine lv_aload_n hx hb dX12_telling_0 rfl (lv_at hl 0 rfl) ?_
  refine gr_kind hx hb hg hown hK hP (hg _ q5_55) dX12_telling_1 ?_
  refine lv_iload_n hx hb dX12_telling_4 rfl (lv_at hl 1 rfl) ?_
  refine lr_kind hx hb hK hP (i_in (by omega) (by omega)) dX12_telling_5 ?_
  refine lv_topi (fun x_1 ex_1 => ?_)
  have ex_1 : x_1 = (b 63) p1.toNatClampNeg := ex_1
  have hx_1 : x_1.toInt = ((b 63) p1.toNatClampNeg).toInt := by rw [ex_1]
  have bx_1 := ib63_0 p1.toNatClampNeg
  rw [← ex_1] at bx_1
  have fx_1 : x_1 = 4 := by rw [ex_1]; exact hkn
  subst fx_1
  refine lv_iconst (v := 4) hx hb dX12_telling_6 (by decide) ?_
  refine lv_icmp_ne (tgt := 25) hx hb dX12_telling_7 (by decide) (fun c_2 => absurd c_2 (by decide)) (fun c_2 => ?_)
  refine lv_aload_n hx hb dX12_telling_10 rfl (lv_at hl 0 rfl) ?_
  refine lv_bipush (v := 50) hx hb dX12_telling_11 (by decide) ?_
  refine cV_v (As := [.int 50]) (rest := []) ⟨hx, hb, hml, hown, hg⟩ (k_X12_ran l D cs A bd u b bw  50 (show 0 ≤ (u 64).toInt by first | omega | decide) (show (u 64).toInt ≤ 23 by first | omega | decide) (show 0 ≤ (u 64).toInt by first | omega | decide) (show (u 64).toInt ≤ 1000 by first | omega | decide)) ca_X12_ran q7_55 ⟨rfl, rfl⟩ ⟨Nat.le_of_ble_eq_true rfl, Nat.le_of_ble_eq_true rfl⟩ (rc_model hK hP) hK hP hD hS hZ rfl hl.1 rfl (Nat.le_of_ble_eq_true rfl) ⟨Nat.zero_le _, Nat.zero_le _⟩ dX12_telling_13 (fun z_6 H locs wr_3 hP hD hS => ?_)
  obtain ⟨o_u64_4, o_b65_5⟩ := z_6
  have hP : va_P D vwCl (RW cs bd (va_up u 64 o_u64_4) (va_up b 65 o_b65_5) bw) H := hP
  have hD : va_D A (RW cs bd (va_up u 64 o_u64_4) (va_up b 65 o_b65_5) bw) := hD
  obtain ⟨wr_3_0, wr_3_1, wr_3_2, wr_3_3⟩ : (o_u64_4.toInt = (u 64).toInt + 1) ∧ (o_b65_5 = TRW (b 65) (u 64).toInt.toNat [(50 : Int32)]) ∧ (0 ≤ o_u64_4.toInt) ∧ (o_u64_4.toInt ≤ 1000) := wr_3
  have kt_7 : o_b65_5 = TRW (b 65) (u 64).toInt.toNat [50] := by rw [wr_3_1]
  refine lv_aload_n hx hb dX12_telling_16 rfl (lv_at hl 0 rfl) ?_
  refine lv_iload_n hx hb dX12_telling_17 rfl (lv_at hl 1 rfl) ?_
  refine lv_iload_n hx hb dX12_telling_18 rfl (lv_at hl 2 rfl) ?_
  refine cV_i (As := [.int p1, .int p2]) (rest := []) ⟨hx, hb, hml, hown, hg⟩ (k_X12_plainTells_4 l D cs A bd (va_up u 64 o_u64_4) (va_up b 65 o_b65_5) bw  p1 p2 hkn (show 0 ≤ p1.toInt by first | omega | decide) (show p1.toInt < 50 by first | omega | decide) (show 0 ≤ o_u64_4.toInt by first | omega | decide) (show o_u64_4.toInt ≤ 19 by first | omega | decide) (show 0 ≤ o_u64_4.toInt by first | omega | decide) (show o_u64_4.toInt ≤ 1000 by first | omega | decide) ib63_0) ca_X12_plainTells q7_95 ⟨rfl, rfl⟩ ⟨Nat.le_of_ble_eq_true rfl, Nat.le_of_ble_eq_true rfl⟩ (rc_model hK hP) hK hP hD hS hZ rfl hl.1 rfl (Nat.le_of_ble_eq_true rfl) ⟨Nat.zero_le _, Nat.zero_le _⟩ dX12_telling_19 (fun r_8 z_11 H locs wr_8 hP hD hS => ?_)
  obtain ⟨o_u64_9, o_b65_10⟩ := z_11
  have hP : va_P D vwCl (RW cs bd (va_up u 64 o_u64_9) (va_up b 65 o_b65_10) bw) H := hP
  have hD : va_D A (RW cs bd (va_up u 64 o_u64_9) (va_up b 65 o_b65_10) bw) := hD
  obtain ⟨wr_8_0, wr_8_1, wr_8_2, wr_8_3, wr_8_4⟩ : (o_u64_9.toInt = o_u64_4.toInt + 5) ∧ (o_b65_10 = TRW o_b65_5 o_u64_4.toInt.toNat [2, 10, 20, 1, 11]) ∧ (r_8 = ((((p2 + p1) + 3) * 2) - ((1 : Int32) ^^^ p1))) ∧ (0 ≤ o_u64_9.toInt) ∧ (o_u64_9.toInt ≤ 1000) := wr_8
  have kt_12 : o_b65_10 = TRW (b 65) (u 64).toInt.toNat [50, 2, 10, 20, 1, 11] := by rw [wr_8_1, kt_7, show (o_u64_4).toInt.toNat = (u 64).toInt.toNat + 1 from by omega]; rfl
  refine lv_iconst (v := 5) hx hb dX12_telling_22 (by decide) ?_
  refine lv_ixor hx hb dX12_telling_23 ?_
  refine lv_topi (fun x_13 ex_13 => ?_)
  exact W.iret (v := x_13) hx hb hr (fun tt ht hW => ⟨⟨x_13, ⟨o_u64_9, o_b65_10⟩, rfl, ⟨(by first | rfl | omega | trivial | assumption | (dsimp only; first | omega | assumption)), (by (try dsimp only); first | assumption | rfl), (by simp only [ex_13, wr_8_2]), (show 0 ≤ o_u64_9.toInt by first | omega | assumption), (show o_u64_9.toInt ≤ 1000 by first | omega | assumption)⟩, by rw [ht]; exact hP, hD⟩, hS.F ht⟩) hS.2.2 dX12_telling_24
set_option maxHeartbeats 4000000 in
set_option maxRecDepth 100000 in
theorem k_RU_5_1 (l : Launch)     : Met l yX12_isUnder (Cond.code yX12_isUnder cX12_isUnder 2 (some .boolean) :: gw) ({ frames := 0, cells := 0, slots := 0, locals := 0 }) (fun v _ => v = ([.int 5, .int 1] : List Value).toArray) (vp_Si (fun (r : Int32) => r.toInt = 0)) 0 0 (fun _ => False) := by
  refine Met.ofW (cc := cX12_isUnder) (maxL := 2) (ret := (some .boolean)) (by decide) rfl ?_
  intro p e s m args below meth c s₁ B hml hv
  subst hv
  have hx := B.exec
  have hb := B.bytes
  have hr := B.returns
  have hts := atoms_spec (ws := (Cond.code yX12_isUnder cX12_isUnder 2 (some .boolean) :: gw)) B.pre
  have hg : ∀ w ∈ gw, w.before ([.int 5, .int 1] : List Value).toArray s = true := fun w h => hts w (List.mem_cons_of_mem _ h)
  have hown : s.vm.findClass RX12 = some m.cls := findClass_of_methodNamed B.named
  have hlocks := B.notSynchronized
  have hl := lv_entry ([.int 5, .int 1]) (n := 2) (Nat.le_of_ble_eq_true rfl)
  rw [lg_entry_eq]
  generalize (lg_sl ([.int 5, .int 1]) ++ List.replicate (2 - (lg_sl ([.int 5, .int 1])).length) Slot.unset).toArray = ls at hl ⊢
  have hl : lv_has ls 2 [(0, .int 5), (1, .int 1)] := hl
  refine lv_iload_n hx hb dX12_isUnder_0 rfl (lv_at hl 1 rfl) ?_
  refine lv_if_eq (tgt := 56) hx hb dX12_isUnder_1 (by decide) (fun c_1 => absurd c_1 (by decide)) (fun c_1 => ?_)
  refine lv_iload_n hx hb dX12_isUnder_4 rfl (lv_at hl 0 rfl) ?_
  refine lv_iload_n hx hb dX12_isUnder_5 rfl (lv_at hl 1 rfl) ?_
  refine lv_icmp_eq (tgt := 56) hx hb dX12_isUnder_6 (by decide) (fun c_2 => absurd c_2 (by decide)) (fun c_2 => ?_)
  refine lv_iload_n hx hb dX12_isUnder_9 rfl (lv_at hl 1 rfl) ?_
  refine lv_iconst (v := 1) hx hb dX12_isUnder_10 (by decide) ?_
  refine lv_icmp_ne (tgt := 19) hx hb dX12_isUnder_11 (by decide) (fun c_3 => absurd c_3 (by decide)) (fun c_3 => ?_)
  refine lv_iload_n hx hb dX12_isUnder_14 rfl (lv_at hl 0 rfl) ?_
  refine lv_iconst (v := 4) hx hb dX12_isUnder_15 (by decide) ?_
  refine lv_icmp_eq (tgt := 56) hx hb dX12_isUnder_16 (by decide) (fun c_4 => absurd c_4 (by decide)) (fun c_4 => ?_)
  refine lv_iload_n hx hb dX12_isUnder_19 rfl (lv_at hl 1 rfl) ?_
  refine lv_iconst (v := 2) hx hb dX12_isUnder_20 (by decide) ?_
  refine lv_icmp_ne (tgt := 34) hx hb dX12_isUnder_21 (by decide) (fun c_5 => ?_) (fun c_5 => absurd c_5 (by decide))
  refine lv_iload_n hx hb dX12_isUnder_34 rfl (lv_at hl 1 rfl) ?_
  refine lv_iconst (v := 3) hx hb dX12_isUnder_35 (by decide) ?_
  refine lv_icmp_ne (tgt := 44) hx hb dX12_isUnder_36 (by decide) (fun c_6 => ?_) (fun c_6 => absurd c_6 (by decide))
  refine lv_iload_n hx hb dX12_isUnder_44 rfl (lv_at hl 1 rfl) ?_
  refine lv_bipush (v := 6) hx hb dX12_isUnder_45 (by decide) ?_
  refine lv_icmp_ne (tgt := 60) hx hb dX12_isUnder_47 (by decide) (fun c_7 => ?_) (fun c_7 => absurd c_7 (by decide))
  refine lv_iconst (v := 0) hx hb dX12_isUnder_60 (by decide) ?_
  have q0_0 : (0 : Int32).toInt = 0 := rfl
  exact W.zret (v := 0) hx hb hr rfl (fun tt ht hW => ⟨0, rfl, (by first | rfl | omega | trivial | assumption | (dsimp only; first | omega | assumption)), ht⟩) (fun _ h => by cases h) dX12_isUnder_61
set_option maxHeartbeats 4000000 in
set_option maxRecDepth 100000 in
theorem k_RU_5_3 (l : Launch)     : Met l yX12_isUnder (Cond.code yX12_isUnder cX12_isUnder 2 (some .boolean) :: gw) ({ frames := 0, cells := 0, slots := 0, locals := 0 }) (fun v _ => v = ([.int 5, .int 3] : List Value).toArray) (vp_Si (fun (r : Int32) => r.toInt = 1)) 0 0 (fun _ => False) := by
  refine Met.ofW (cc := cX12_isUnder) (maxL := 2) (ret := (some .boolean)) (by decide) rfl ?_
  intro p e s m args below meth c s₁ B hml hv
  subst hv
  have hx := B.exec
  have hb := B.bytes
  have hr := B.returns
  have hts := atoms_spec (ws := (Cond.code yX12_isUnder cX12_isUnder 2 (some .boolean) :: gw)) B.pre
  have hg : ∀ w ∈ gw, w.before ([.int 5, .int 3] : List Value).toArray s = true := fun w h => hts w (List.mem_cons_of_mem _ h)
  have hown : s.vm.findClass RX12 = some m.cls := findClass_of_methodNamed B.named
  have hlocks := B.notSynchronized
  have hl := lv_entry ([.int 5, .int 3]) (n := 2) (Nat.le_of_ble_eq_true rfl)
  rw [lg_entry_eq]
  generalize (lg_sl ([.int 5, .int 3]) ++ List.replicate (2 - (lg_sl ([.int 5, .int 3])).length) Slot.unset).toArray = ls at hl ⊢
  have hl : lv_has ls 2 [(0, .int 5), (1, .int 3)] := hl
  refine lv_iload_n hx hb dX12_isUnder_0 rfl (lv_at hl 1 rfl) ?_
  refine lv_if_eq (tgt := 56) hx hb dX12_isUnder_1 (by decide) (fun c_1 => absurd c_1 (by decide)) (fun c_1 => ?_)
  refine lv_iload_n hx hb dX12_isUnder_4 rfl (lv_at hl 0 rfl) ?_
  refine lv_iload_n hx hb dX12_isUnder_5 rfl (lv_at hl 1 rfl) ?_
  refine lv_icmp_eq (tgt := 56) hx hb dX12_isUnder_6 (by decide) (fun c_2 => absurd c_2 (by decide)) (fun c_2 => ?_)
  refine lv_iload_n hx hb dX12_isUnder_9 rfl (lv_at hl 1 rfl) ?_
  refine lv_iconst (v := 1) hx hb dX12_isUnder_10 (by decide) ?_
  refine lv_icmp_ne (tgt := 19) hx hb dX12_isUnder_11 (by decide) (fun c_3 => ?_) (fun c_3 => absurd c_3 (by decide))
  refine lv_iload_n hx hb dX12_isUnder_19 rfl (lv_at hl 1 rfl) ?_
  refine lv_iconst (v := 2) hx hb dX12_isUnder_20 (by decide) ?_
  refine lv_icmp_ne (tgt := 34) hx hb dX12_isUnder_21 (by decide) (fun c_4 => ?_) (fun c_4 => absurd c_4 (by decide))
  refine lv_iload_n hx hb dX12_isUnder_34 rfl (lv_at hl 1 rfl) ?_
  refine lv_iconst (v := 3) hx hb dX12_isUnder_35 (by decide) ?_
  refine lv_icmp_ne (tgt := 44) hx hb dX12_isUnder_36 (by decide) (fun c_5 => absurd c_5 (by decide)) (fun c_5 => ?_)
  refine lv_iload_n hx hb dX12_isUnder_39 rfl (lv_at hl 0 rfl) ?_
  refine lv_iconst (v := 5) hx hb dX12_isUnder_40 (by decide) ?_
  refine lv_icmp_eq (tgt := 56) hx hb dX12_isUnder_41 (by decide) (fun c_6 => ?_) (fun c_6 => absurd c_6 (by decide))
  refine lv_iconst (v := 1) hx hb dX12_isUnder_56 (by decide) ?_
  refine lv_goto (tgt := 61) hx hb dX12_isUnder_57 (by decide) ?_
  have q0_1 : (1 : Int32).toInt = 1 := rfl
  exact W.zret (v := 1) hx hb hr rfl (fun tt ht hW => ⟨1, rfl, (by first | rfl | omega | trivial | assumption | (dsimp only; first | omega | assumption)), ht⟩) (fun _ h => by cases h) dX12_isUnder_61
set_option maxHeartbeats 4000000 in
set_option maxRecDepth 100000 in
theorem k_X12_flying_5 (l : Launch) (D : va_G) (cs : Nat → ClassId) (A : Nat → Prop) (bd : Nat → Nat) (u : Nat → Int32) (b : Nat → Nat → Int32) (bw : Nat → Nat → Int64)  (p1 : Int32) (p2 : Int32) (hkn : (b 63) p1.toNatClampNeg = 5) (h1 : 0 ≤ p1.toInt) (h2 : p1.toInt < 50) (hr0 : 0 ≤ (u 64).toInt) (hr1 : (u 64).toInt ≤ 23) (ib63_0 : AB 0 7 (b 63)) (iu64_0 : 0 ≤ (u 64).toInt) (iu64_1 : (u 64).toInt ≤ 1000) : Met l yX12_flying (Cond.code yX12_flying cX12_flying 3 (some .int) :: gw) ({ frames := 2, cells := 0, slots := 0, locals := 43 }) (va_Pc [.ref (bd 0), .int p1, .int p2] (XPre D (TY cs) (RW cs bd u b bw) A)) (va_Qi (fun (r : Int32) (z : Int32 × (Nat → Int32)) => (z.1.toInt = (u 64).toInt + 1) ∧ (z.2 = TRW (b 65) (u 64).toInt.toNat [1]) ∧ (r = (p2 + p1)) ∧ (0 ≤ z.1.toInt) ∧ (z.1.toInt ≤ 1000)) (XPo D (fun (z : Int32 × (Nat → Int32)) => RW cs bd (va_up u 64 z.1) (va_up b 65 z.2) bw) A) A) 0 0 A := by
  refine Met.ofW (cc := cX12_flying) (maxL := 3) (ret := (some .int)) (by decide) rfl ?_
  intro p e s m args below meth c s₁ B hml hv
  obtain ⟨rfl, hP, hK, hD, hZ⟩ := hv
  have hx := B.exec
  have hb := B.bytes
  have hr := B.returns
  have hts := atoms_spec (ws := (Cond.code yX12_flying cX12_flying 3 (some .int) :: gw)) B.pre
  have hg : ∀ w ∈ gw, w.before ([.ref (bd 0), .int p1, .int p2] : List Value).toArray s = true := fun w h => hts w (List.mem_cons_of_mem _ h)
  have hown : s.vm.findClass RX12 = some m.cls := findClass_of_methodNamed B.named
  have hlocks := B.notSynchronized
  have hS : va_S A s.heap s.heap [] := va_S.rf
  have hP : va_P D vwCl (RW cs bd u b bw) s.heap := hP
  have hl := lv_entry ([.ref (bd 0), .int p1, .int p2]) (n := 3) (Nat.le_of_ble_eq_true rfl)
  rw [lg_entry_eq]
  generalize (lg_sl ([.ref (bd 0), .int p1, .int p2]) ++ List.replicate (3 - (lg_sl ([.ref (bd 0), .int p1, .int p2])).length) Slot.unset).toArray = ls at hl ⊢
  have hl : lv_has ls 3 [(0, .ref (bd 0)), (1, .int p1), (2, .int p2)] := hl
  refine lv_aload_n hx hb dX12_flying_0 rfl (lv_at hl 0 rfl) ?_
  refine gr_kind hx hb hg hown hK hP (hg _ q5_55) dX12_flying_1 ?_
  refine lv_iload_n hx hb dX12_flying_4 rfl (lv_at hl 1 rfl) ?_
  refine lr_kind hx hb hK hP (i_in (by omega) (by omega)) dX12_flying_5 ?_
  refine lv_topi (fun x_1 ex_1 => ?_)
  have ex_1 : x_1 = (b 63) p1.toNatClampNeg := ex_1
  have hx_1 : x_1.toInt = ((b 63) p1.toNatClampNeg).toInt := by rw [ex_1]
  have bx_1 := ib63_0 p1.toNatClampNeg
  rw [← ex_1] at bx_1
  have fx_1 : x_1 = 5 := by rw [ex_1]; exact hkn
  subst fx_1
  refine lv_iconst (v := 1) hx hb dX12_flying_6 (by decide) ?_
  refine cS_p (As := [.int 5, .int 1]) (rest := []) ⟨hx, hb, hml, hown, hg⟩ (k_RU_5_1 l    ) ca_X12_isUnder q7_52 ⟨rfl, rfl⟩ ⟨Nat.le_of_ble_eq_true rfl, Nat.le_of_ble_eq_true rfl⟩ rfl hl.1 rfl (Nat.le_of_ble_eq_true rfl) ⟨Nat.zero_le _, Nat.zero_le _⟩ dX12_flying_7 (fun r_2 wr_2 => ?_)
  have wr_2 : r_2.toInt = 0 := wr_2
  refine lv_if_eq (tgt := 28) hx hb dX12_flying_10 (by decide) (fun c_3 => ?_) (fun c_3 => ?_)
  ·
    have kc_3 : r_2.toInt = (0 : Int) := i_eq c_3
    refine lv_aload_n hx hb dX12_flying_28 rfl (lv_at hl 0 rfl) ?_
    refine gr_kind hx hb hg hown hK hP (hg _ q5_55) dX12_flying_29 ?_
    refine lv_iload_n hx hb dX12_flying_32 rfl (lv_at hl 1 rfl) ?_
    refine lr_kind hx hb hK hP (i_in (by omega) (by omega)) dX12_flying_33 ?_
    refine lv_topi (fun x_4 ex_4 => ?_)
    have ex_4 : x_4 = (b 63) p1.toNatClampNeg := ex_4
    have hx_4 : x_4.toInt = ((b 63) p1.toNatClampNeg).toInt := by rw [ex_4]
    have bx_4 := ib63_0 p1.toNatClampNeg
    rw [← ex_4] at bx_4
    have fx_4 : x_4 = 5 := by rw [ex_4]; exact hkn
    subst fx_4
    refine lv_bipush (v := 7) hx hb dX12_flying_34 (by decide) ?_
    refine lv_icmp_ne (tgt := 54) hx hb dX12_flying_36 (by decide) (fun c_5 => ?_) (fun c_5 => absurd c_5 (by decide))
    refine lv_aload_n hx hb dX12_flying_54 rfl (lv_at hl 0 rfl) ?_
    refine gr_kind hx hb hg hown hK hP (hg _ q5_55) dX12_flying_55 ?_
    refine lv_iload_n hx hb dX12_flying_58 rfl (lv_at hl 1 rfl) ?_
    refine lr_kind hx hb hK hP (i_in (by omega) (by omega)) dX12_flying_59 ?_
    refine lv_topi (fun x_6 ex_6 => ?_)
    have ex_6 : x_6 = (b 63) p1.toNatClampNeg := ex_6
    have hx_6 : x_6.toInt = ((b 63) p1.toNatClampNeg).toInt := by rw [ex_6]
    have bx_6 := ib63_0 p1.toNatClampNeg
    rw [← ex_6] at bx_6
    have fx_6 : x_6 = 5 := by rw [ex_6]; exact hkn
    subst fx_6
    refine lv_bipush (v := 6) hx hb dX12_flying_60 (by decide) ?_
    refine lv_icmp_ne (tgt := 74) hx hb dX12_flying_62 (by decide) (fun c_7 => ?_) (fun c_7 => absurd c_7 (by decide))
    refine lv_aload_n hx hb dX12_flying_74 rfl (lv_at hl 0 rfl) ?_
    refine lv_iload_n hx hb dX12_flying_75 rfl (lv_at hl 1 rfl) ?_
    refine lv_iload_n hx hb dX12_flying_76 rfl (lv_at hl 2 rfl) ?_
    refine cV_i (As := [.int p1, .int p2]) (rest := []) ⟨hx, hb, hml, hown, hg⟩ (k_X12_plainFlies l D cs A bd u b bw  p1 p2 (show 0 ≤ (u 64).toInt by first | omega | decide) (show (u 64).toInt ≤ 23 by first | omega | decide) (show 0 ≤ (u 64).toInt by first | omega | decide) (show (u 64).toInt ≤ 1000 by first | omega | decide)) ca_X12_plainFlies q7_59 ⟨rfl, rfl⟩ ⟨Nat.le_of_ble_eq_true rfl, Nat.le_of_ble_eq_true rfl⟩ (rc_model hK hP) hK hP hD hS hZ rfl hl.1 rfl (Nat.le_of_ble_eq_true rfl) ⟨Nat.zero_le _, Nat.zero_le _⟩ dX12_flying_77 (fun r_8 z_11 H locs wr_8 hP hD hS => ?_)
    obtain ⟨o_u64_9, o_b65_10⟩ := z_11
    have hP : va_P D vwCl (RW cs bd (va_up u 64 o_u64_9) (va_up b 65 o_b65_10) bw) H := hP
    have hD : va_D A (RW cs bd (va_up u 64 o_u64_9) (va_up b 65 o_b65_10) bw) := hD
    obtain ⟨wr_8_0, wr_8_1, wr_8_2, wr_8_3, wr_8_4⟩ : (o_u64_9.toInt = (u 64).toInt + 1) ∧ (o_b65_10 = TRW (b 65) (u 64).toInt.toNat [1]) ∧ (r_8 = (p2 + p1)) ∧ (0 ≤ o_u64_9.toInt) ∧ (o_u64_9.toInt ≤ 1000) := wr_8
    have kt_12 : o_b65_10 = TRW (b 65) (u 64).toInt.toNat [1] := by rw [wr_8_1]
    exact W.iret (v := r_8) hx hb hr (fun tt ht hW => ⟨⟨r_8, ⟨o_u64_9, o_b65_10⟩, rfl, ⟨(by first | rfl | omega | trivial | assumption | (dsimp only; first | omega | assumption)), (by (try dsimp only); first | assumption | rfl), (by simp only [wr_8_2]), (show 0 ≤ o_u64_9.toInt by first | omega | assumption), (show o_u64_9.toInt ≤ 1000 by first | omega | assumption)⟩, by rw [ht]; exact hP, hD⟩, hS.F ht⟩) hS.2.2 dX12_flying_80
  ·
    have kc_3 : r_2.toInt ≠ (0 : Int) := i_ne c_3
    exfalso; omega
set_option maxHeartbeats 4000000 in
set_option maxRecDepth 100000 in
theorem k_X12_plainStings_5 (l : Launch) (D : va_G) (cs : Nat → ClassId) (A : Nat → Prop) (bd : Nat → Nat) (u : Nat → Int32) (b : Nat → Nat → Int32) (bw : Nat → Nat → Int64)  (p1 : Int32) (p2 : Int32) (hkn : (b 63) p1.toNatClampNeg = 5) (h1 : 0 ≤ p1.toInt) (h2 : p1.toInt < 50) (hr0 : 0 ≤ (u 64).toInt) (hr1 : (u 64).toInt ≤ 22) (iu64_0 : 0 ≤ (u 64).toInt) (iu64_1 : (u 64).toInt ≤ 1000) (ib63_0 : AB 0 7 (b 63)) : Met l yX12_plainStings (Cond.code yX12_plainStings cX12_plainStings 3 (some .int) :: gw) ({ frames := 3, cells := 0, slots := 0, locals := 65 }) (va_Pc [.ref (bd 0), .int p1, .int p2] (XPre D (TY cs) (RW cs bd u b bw) A)) (va_Qi (fun (r : Int32) (z : Int32 × (Nat → Int32)) => (z.1.toInt = (u 64).toInt + 2) ∧ (z.2 = TRW (b 65) (u 64).toInt.toNat [10, 1]) ∧ (r = ((p2 + p1) * 2)) ∧ (0 ≤ z.1.toInt) ∧ (z.1.toInt ≤ 1000)) (XPo D (fun (z : Int32 × (Nat → Int32)) => RW cs bd (va_up u 64 z.1) (va_up b 65 z.2) bw) A) A) 0 0 A := by
  refine Met.ofW (cc := cX12_plainStings) (maxL := 3) (ret := (some .int)) (by decide) rfl ?_
  intro p e s m args below meth c s₁ B hml hv
  obtain ⟨rfl, hP, hK, hD, hZ⟩ := hv
  have hx := B.exec
  have hb := B.bytes
  have hr := B.returns
  have hts := atoms_spec (ws := (Cond.code yX12_plainStings cX12_plainStings 3 (some .int) :: gw)) B.pre
  have hg : ∀ w ∈ gw, w.before ([.ref (bd 0), .int p1, .int p2] : List Value).toArray s = true := fun w h => hts w (List.mem_cons_of_mem _ h)
  have hown : s.vm.findClass RX12 = some m.cls := findClass_of_methodNamed B.named
  have hlocks := B.notSynchronized
  have hS : va_S A s.heap s.heap [] := va_S.rf
  have hP : va_P D vwCl (RW cs bd u b bw) s.heap := hP
  have hl := lv_entry ([.ref (bd 0), .int p1, .int p2]) (n := 3) (Nat.le_of_ble_eq_true rfl)
  rw [lg_entry_eq]
  generalize (lg_sl ([.ref (bd 0), .int p1, .int p2]) ++ List.replicate (3 - (lg_sl ([.ref (bd 0), .int p1, .int p2])).length) Slot.unset).toArray = ls at hl ⊢
  have hl : lv_has ls 3 [(0, .ref (bd 0)), (1, .int p1), (2, .int p2)] := hl
  refine lv_aload_n hx hb dX12_plainStings_0 rfl (lv_at hl 0 rfl) ?_
  refine lv_bipush (v := 10) hx hb dX12_plainStings_1 (by decide) ?_
  refine cV_v (As := [.int 10]) (rest := []) ⟨hx, hb, hml, hown, hg⟩ (k_X12_ran l D cs A bd u b bw  10 (show 0 ≤ (u 64).toInt by first | omega | decide) (show (u 64).toInt ≤ 23 by first | omega | decide) (show 0 ≤ (u 64).toInt by first | omega | decide) (show (u 64).toInt ≤ 1000 by first | omega | decide)) ca_X12_ran q7_55 ⟨rfl, rfl⟩ ⟨Nat.le_of_ble_eq_true rfl, Nat.le_of_ble_eq_true rfl⟩ (rc_model hK hP) hK hP hD hS hZ rfl hl.1 rfl (Nat.le_of_ble_eq_true rfl) ⟨Nat.zero_le _, Nat.zero_le _⟩ dX12_plainStings_3 (fun z_4 H locs wr_1 hP hD hS => ?_)
  obtain ⟨o_u64_2, o_b65_3⟩ := z_4
  have hP : va_P D vwCl (RW cs bd (va_up u 64 o_u64_2) (va_up b 65 o_b65_3) bw) H := hP
  have hD : va_D A (RW cs bd (va_up u 64 o_u64_2) (va_up b 65 o_b65_3) bw) := hD
  obtain ⟨wr_1_0, wr_1_1, wr_1_2, wr_1_3⟩ : (o_u64_2.toInt = (u 64).toInt + 1) ∧ (o_b65_3 = TRW (b 65) (u 64).toInt.toNat [(10 : Int32)]) ∧ (0 ≤ o_u64_2.toInt) ∧ (o_u64_2.toInt ≤ 1000) := wr_1
  have kt_5 : o_b65_3 = TRW (b 65) (u 64).toInt.toNat [10] := by rw [wr_1_1]
  refine lv_aload_n hx hb dX12_plainStings_6 rfl (lv_at hl 0 rfl) ?_
  refine lv_iload_n hx hb dX12_plainStings_7 rfl (lv_at hl 1 rfl) ?_
  refine lv_iload_n hx hb dX12_plainStings_8 rfl (lv_at hl 2 rfl) ?_
  refine cV_i (As := [.int p1, .int p2]) (rest := []) ⟨hx, hb, hml, hown, hg⟩ (k_X12_flying_5 l D cs A bd (va_up u 64 o_u64_2) (va_up b 65 o_b65_3) bw  p1 p2 hkn (show 0 ≤ p1.toInt by first | omega | decide) (show p1.toInt < 50 by first | omega | decide) (show 0 ≤ o_u64_2.toInt by first | omega | decide) (show o_u64_2.toInt ≤ 23 by first | omega | decide) ib63_0 (show 0 ≤ o_u64_2.toInt by first | omega | decide) (show o_u64_2.toInt ≤ 1000 by first | omega | decide)) ca_X12_flying q7_48 ⟨rfl, rfl⟩ ⟨Nat.le_of_ble_eq_true rfl, Nat.le_of_ble_eq_true rfl⟩ (rc_model hK hP) hK hP hD hS hZ rfl hl.1 rfl (Nat.le_of_ble_eq_true rfl) ⟨Nat.zero_le _, Nat.zero_le _⟩ dX12_plainStings_9 (fun r_6 z_9 H locs wr_6 hP hD hS => ?_)
  obtain ⟨o_u64_7, o_b65_8⟩ := z_9
  have hP : va_P D vwCl (RW cs bd (va_up u 64 o_u64_7) (va_up b 65 o_b65_8) bw) H := hP
  have hD : va_D A (RW cs bd (va_up u 64 o_u64_7) (va_up b 65 o_b65_8) bw) := hD
  obtain ⟨wr_6_0, wr_6_1, wr_6_2, wr_6_3, wr_6_4⟩ : (o_u64_7.toInt = o_u64_2.toInt + 1) ∧ (o_b65_8 = TRW o_b65_3 o_u64_2.toInt.toNat [1]) ∧ (r_6 = (p2 + p1)) ∧ (0 ≤ o_u64_7.toInt) ∧ (o_u64_7.toInt ≤ 1000) := wr_6
  have kt_10 : o_b65_8 = TRW (b 65) (u 64).toInt.toNat [10, 1] := by rw [wr_6_1, kt_5, show (o_u64_2).toInt.toNat = (u 64).toInt.toNat + 1 from by omega]; rfl
  refine lv_iconst (v := 2) hx hb dX12_plainStings_12 (by decide) ?_
  refine lv_imul hx hb dX12_plainStings_13 ?_
  refine lv_topi (fun x_11 ex_11 => ?_)
  exact W.iret (v := x_11) hx hb hr (fun tt ht hW => ⟨⟨x_11, ⟨o_u64_7, o_b65_8⟩, rfl, ⟨(by first | rfl | omega | trivial | assumption | (dsimp only; first | omega | assumption)), (by (try dsimp only); first | assumption | rfl), (by simp only [ex_11, wr_6_2]), (show 0 ≤ o_u64_7.toInt by first | omega | assumption), (show o_u64_7.toInt ≤ 1000 by first | omega | assumption)⟩, by rw [ht]; exact hP, hD⟩, hS.F ht⟩) hS.2.2 dX12_plainStings_14
set_option maxHeartbeats 4000000 in
set_option maxRecDepth 100000 in
theorem k_X12_brookStings_5 (l : Launch) (D : va_G) (cs : Nat → ClassId) (A : Nat → Prop) (bd : Nat → Nat) (u : Nat → Int32) (b : Nat → Nat → Int32) (bw : Nat → Nat → Int64)  (p1 : Int32) (p2 : Int32) (hkn : (b 63) p1.toNatClampNeg = 5) (h1 : 0 ≤ p1.toInt) (h2 : p1.toInt < 50) (hr0 : 0 ≤ (u 64).toInt) (hr1 : (u 64).toInt ≤ 21) (iu64_0 : 0 ≤ (u 64).toInt) (iu64_1 : (u 64).toInt ≤ 1000) (ib63_0 : AB 0 7 (b 63)) : Met l yX12_brookStings (Cond.code yX12_brookStings cX12_brookStings 3 (some .int) :: gw) ({ frames := 4, cells := 0, slots := 0, locals := 87 }) (va_Pc [.ref (bd 0), .int p1, .int p2] (XPre D (TY cs) (RW cs bd u b bw) A)) (va_Qi (fun (r : Int32) (z : Int32 × (Nat → Int32)) => (z.1.toInt = (u 64).toInt + 3) ∧ (z.2 = TRW (b 65) (u 64).toInt.toNat [30, 10, 1]) ∧ (r = (-((p2 + p1) * 2))) ∧ (0 ≤ z.1.toInt) ∧ (z.1.toInt ≤ 1000)) (XPo D (fun (z : Int32 × (Nat → Int32)) => RW cs bd (va_up u 64 z.1) (va_up b 65 z.2) bw) A) A) 0 0 A := by
  refine Met.ofW (cc := cX12_brookStings) (maxL := 3) (ret := (some .int)) (by decide) rfl ?_
  intro p e s m args below meth c s₁ B hml hv
  obtain ⟨rfl, hP, hK, hD, hZ⟩ := hv
  have hx := B.exec
  have hb := B.bytes
  have hr := B.returns
  have hts := atoms_spec (ws := (Cond.code yX12_brookStings cX12_brookStings 3 (some .int) :: gw)) B.pre
  have hg : ∀ w ∈ gw, w.before ([.ref (bd 0), .int p1, .int p2] : List Value).toArray s = true := fun w h => hts w (List.mem_cons_of_mem _ h)
  have hown : s.vm.findClass RX12 = some m.cls := findClass_of_methodNamed B.named
  have hlocks := B.notSynchronized
  have hS : va_S A s.heap s.heap [] := va_S.rf
  have hP : va_P D vwCl (RW cs bd u b bw) s.heap := hP
  have hl := lv_entry ([.ref (bd 0), .int p1, .int p2]) (n := 3) (Nat.le_of_ble_eq_true rfl)
  rw [lg_entry_eq]
  generalize (lg_sl ([.ref (bd 0), .int p1, .int p2]) ++ List.replicate (3 - (lg_sl ([.ref (bd 0), .int p1, .int p2])).length) Slot.unset).toArray = ls at hl ⊢
  have hl : lv_has ls 3 [(0, .ref (bd 0)), (1, .int p1), (2, .int p2)] := hl
  refine lv_aload_n hx hb dX12_brookStings_0 rfl (lv_at hl 0 rfl) ?_
  refine lv_bipush (v := 30) hx hb dX12_brookStings_1 (by decide) ?_
  refine cV_v (As := [.int 30]) (rest := []) ⟨hx, hb, hml, hown, hg⟩ (k_X12_ran l D cs A bd u b bw  30 (show 0 ≤ (u 64).toInt by first | omega | decide) (show (u 64).toInt ≤ 23 by first | omega | decide) (show 0 ≤ (u 64).toInt by first | omega | decide) (show (u 64).toInt ≤ 1000 by first | omega | decide)) ca_X12_ran q7_55 ⟨rfl, rfl⟩ ⟨Nat.le_of_ble_eq_true rfl, Nat.le_of_ble_eq_true rfl⟩ (rc_model hK hP) hK hP hD hS hZ rfl hl.1 rfl (Nat.le_of_ble_eq_true rfl) ⟨Nat.zero_le _, Nat.zero_le _⟩ dX12_brookStings_3 (fun z_4 H locs wr_1 hP hD hS => ?_)
  obtain ⟨o_u64_2, o_b65_3⟩ := z_4
  have hP : va_P D vwCl (RW cs bd (va_up u 64 o_u64_2) (va_up b 65 o_b65_3) bw) H := hP
  have hD : va_D A (RW cs bd (va_up u 64 o_u64_2) (va_up b 65 o_b65_3) bw) := hD
  obtain ⟨wr_1_0, wr_1_1, wr_1_2, wr_1_3⟩ : (o_u64_2.toInt = (u 64).toInt + 1) ∧ (o_b65_3 = TRW (b 65) (u 64).toInt.toNat [(30 : Int32)]) ∧ (0 ≤ o_u64_2.toInt) ∧ (o_u64_2.toInt ≤ 1000) := wr_1
  have kt_5 : o_b65_3 = TRW (b 65) (u 64).toInt.toNat [30] := by rw [wr_1_1]
  refine lv_aload_n hx hb dX12_brookStings_6 rfl (lv_at hl 0 rfl) ?_
  refine lv_iload_n hx hb dX12_brookStings_7 rfl (lv_at hl 1 rfl) ?_
  refine lv_iload_n hx hb dX12_brookStings_8 rfl (lv_at hl 2 rfl) ?_
  refine cV_i (As := [.int p1, .int p2]) (rest := []) ⟨hx, hb, hml, hown, hg⟩ (k_X12_plainStings_5 l D cs A bd (va_up u 64 o_u64_2) (va_up b 65 o_b65_3) bw  p1 p2 hkn (show 0 ≤ p1.toInt by first | omega | decide) (show p1.toInt < 50 by first | omega | decide) (show 0 ≤ o_u64_2.toInt by first | omega | decide) (show o_u64_2.toInt ≤ 22 by first | omega | decide) (show 0 ≤ o_u64_2.toInt by first | omega | decide) (show o_u64_2.toInt ≤ 1000 by first | omega | decide) ib63_0) ca_X12_plainStings q7_75 ⟨rfl, rfl⟩ ⟨Nat.le_of_ble_eq_true rfl, Nat.le_of_ble_eq_true rfl⟩ (rc_model hK hP) hK hP hD hS hZ rfl hl.1 rfl (Nat.le_of_ble_eq_true rfl) ⟨Nat.zero_le _, Nat.zero_le _⟩ dX12_brookStings_9 (fun r_6 z_9 H locs wr_6 hP hD hS => ?_)
  obtain ⟨o_u64_7, o_b65_8⟩ := z_9
  have hP : va_P D vwCl (RW cs bd (va_up u 64 o_u64_7) (va_up b 65 o_b65_8) bw) H := hP
  have hD : va_D A (RW cs bd (va_up u 64 o_u64_7) (va_up b 65 o_b65_8) bw) := hD
  obtain ⟨wr_6_0, wr_6_1, wr_6_2, wr_6_3, wr_6_4⟩ : (o_u64_7.toInt = o_u64_2.toInt + 2) ∧ (o_b65_8 = TRW o_b65_3 o_u64_2.toInt.toNat [10, 1]) ∧ (r_6 = ((p2 + p1) * 2)) ∧ (0 ≤ o_u64_7.toInt) ∧ (o_u64_7.toInt ≤ 1000) := wr_6
  have kt_10 : o_b65_8 = TRW (b 65) (u 64).toInt.toNat [30, 10, 1] := by rw [wr_6_1, kt_5, show (o_u64_2).toInt.toNat = (u 64).toInt.toNat + 1 from by omega]; rfl
  refine lv_ineg hx hb dX12_brookStings_12 ?_
  refine lv_topi (fun x_11 ex_11 => ?_)
  exact W.iret (v := x_11) hx hb hr (fun tt ht hW => ⟨⟨x_11, ⟨o_u64_7, o_b65_8⟩, rfl, ⟨(by first | rfl | omega | trivial | assumption | (dsimp only; first | omega | assumption)), (by (try dsimp only); first | assumption | rfl), (by simp only [ex_11, wr_6_2]), (show 0 ≤ o_u64_7.toInt by first | omega | assumption), (show o_u64_7.toInt ≤ 1000 by first | omega | assumption)⟩, by rw [ht]; exact hP, hD⟩, hS.F ht⟩) hS.2.2 dX12_brookStings_13
set_option maxHeartbeats 4000000 in
set_option maxRecDepth 100000 in
theorem k_X12_settling_5 (l : Launch) (D : va_G) (cs : Nat → ClassId) (A : Nat → Prop) (bd : Nat → Nat) (u : Nat → Int32) (b : Nat → Nat → Int32) (bw : Nat → Nat → Int64)  (p1 : Int32) (p2 : Int32) (hkn : (b 63) p1.toNatClampNeg = 5) (h1 : 0 ≤ p1.toInt) (h2 : p1.toInt < 50) (hr0 : 0 ≤ (u 64).toInt) (hr1 : (u 64).toInt ≤ 20) (ib63_0 : AB 0 7 (b 63)) (iu64_0 : 0 ≤ (u 64).toInt) (iu64_1 : (u 64).toInt ≤ 1000) : Met l yX12_settling (Cond.code yX12_settling cX12_settling 4 (some .int) :: gw) ({ frames := 3, cells := 0, slots := 0, locals := 65 }) (va_Pc [.ref (bd 0), .int p1, .int p2] (XPre D (TY cs) (RW cs bd u b bw) A)) (va_Qi (fun (r : Int32) (z : Int32 × (Nat → Int32)) => (z.1.toInt = (u 64).toInt + 4) ∧ (z.2 = TRW (b 65) (u 64).toInt.toNat [60, 40, 11, 1]) ∧ (r = (((p2 ^^^ p1) * 3) - ((2 : Int32) + p1))) ∧ (0 ≤ z.1.toInt) ∧ (z.1.toInt ≤ 1000)) (XPo D (fun (z : Int32 × (Nat → Int32)) => RW cs bd (va_up u 64 z.1) (va_up b 65 z.2) bw) A) A) 0 0 A := by
  refine Met.ofW (cc := cX12_settling) (maxL := 4) (ret := (some .int)) (by decide) rfl ?_
  intro p e s m args below meth c s₁ B hml hv
  obtain ⟨rfl, hP, hK, hD, hZ⟩ := hv
  have hx := B.exec
  have hb := B.bytes
  have hr := B.returns
  have hts := atoms_spec (ws := (Cond.code yX12_settling cX12_settling 4 (some .int) :: gw)) B.pre
  have hg : ∀ w ∈ gw, w.before ([.ref (bd 0), .int p1, .int p2] : List Value).toArray s = true := fun w h => hts w (List.mem_cons_of_mem _ h)
  have hown : s.vm.findClass RX12 = some m.cls := findClass_of_methodNamed B.named
  have hlocks := B.notSynchronized
  have hS : va_S A s.heap s.heap [] := va_S.rf
  have hP : va_P D vwCl (RW cs bd u b bw) s.heap := hP
  have hl := lv_entry ([.ref (bd 0), .int p1, .int p2]) (n := 4) (Nat.le_of_ble_eq_true rfl)
  rw [lg_entry_eq]
  generalize (lg_sl ([.ref (bd 0), .int p1, .int p2]) ++ List.replicate (4 - (lg_sl ([.ref (bd 0), .int p1, .int p2])).length) Slot.unset).toArray = ls at hl ⊢
  have hl : lv_has ls 4 [(0, .ref (bd 0)), (1, .int p1), (2, .int p2)] := hl
  refine lv_aload_n hx hb dX12_settling_0 rfl (lv_at hl 0 rfl) ?_
  refine gr_kind hx hb hg hown hK hP (hg _ q5_55) dX12_settling_1 ?_
  refine lv_iload_n hx hb dX12_settling_4 rfl (lv_at hl 1 rfl) ?_
  refine lr_kind hx hb hK hP (i_in (by omega) (by omega)) dX12_settling_5 ?_
  refine lv_topi (fun x_1 ex_1 => ?_)
  have ex_1 : x_1 = (b 63) p1.toNatClampNeg := ex_1
  have hx_1 : x_1.toInt = ((b 63) p1.toNatClampNeg).toInt := by rw [ex_1]
  have bx_1 := ib63_0 p1.toNatClampNeg
  rw [← ex_1] at bx_1
  have fx_1 : x_1 = 5 := by rw [ex_1]; exact hkn
  subst fx_1
  refine lv_iconst (v := 5) hx hb dX12_settling_6 (by decide) ?_
  refine lv_icmp_ne (tgt := 32) hx hb dX12_settling_7 (by decide) (fun c_2 => absurd c_2 (by decide)) (fun c_2 => ?_)
  refine lv_aload_n hx hb dX12_settling_10 rfl (lv_at hl 0 rfl) ?_
  refine lv_bipush (v := 60) hx hb dX12_settling_11 (by decide) ?_
  refine cV_v (As := [.int 60]) (rest := []) ⟨hx, hb, hml, hown, hg⟩ (k_X12_ran l D cs A bd u b bw  60 (show 0 ≤ (u 64).toInt by first | omega | decide) (show (u 64).toInt ≤ 23 by first | omega | decide) (show 0 ≤ (u 64).toInt by first | omega | decide) (show (u 64).toInt ≤ 1000 by first | omega | decide)) ca_X12_ran q7_55 ⟨rfl, rfl⟩ ⟨Nat.le_of_ble_eq_true rfl, Nat.le_of_ble_eq_true rfl⟩ (rc_model hK hP) hK hP hD hS hZ rfl hl.1 rfl (Nat.le_of_ble_eq_true rfl) ⟨Nat.zero_le _, Nat.zero_le _⟩ dX12_settling_13 (fun z_6 H locs wr_3 hP hD hS => ?_)
  obtain ⟨o_u64_4, o_b65_5⟩ := z_6
  have hP : va_P D vwCl (RW cs bd (va_up u 64 o_u64_4) (va_up b 65 o_b65_5) bw) H := hP
  have hD : va_D A (RW cs bd (va_up u 64 o_u64_4) (va_up b 65 o_b65_5) bw) := hD
  obtain ⟨wr_3_0, wr_3_1, wr_3_2, wr_3_3⟩ : (o_u64_4.toInt = (u 64).toInt + 1) ∧ (o_b65_5 = TRW (b 65) (u 64).toInt.toNat [(60 : Int32)]) ∧ (0 ≤ o_u64_4.toInt) ∧ (o_u64_4.toInt ≤ 1000) := wr_3
  have kt_7 : o_b65_5 = TRW (b 65) (u 64).toInt.toNat [60] := by rw [wr_3_1]
  refine lv_aload_n hx hb dX12_settling_16 rfl (lv_at hl 0 rfl) ?_
  refine lv_iload_n hx hb dX12_settling_17 rfl (lv_at hl 1 rfl) ?_
  refine lv_iload_n hx hb dX12_settling_18 rfl (lv_at hl 2 rfl) ?_
  refine cV_i (As := [.int p1, .int p2]) (rest := []) ⟨hx, hb, hml, hown, hg⟩ (k_X12_courtSettles l D cs A bd (va_up u 64 o_u64_4) (va_up b 65 o_b65_5) bw  p1 p2 (show 0 ≤ o_u64_4.toInt by first | omega | decide) (show o_u64_4.toInt ≤ 22 by first | omega | decide) (show 0 ≤ o_u64_4.toInt by first | omega | decide) (show o_u64_4.toInt ≤ 1000 by first | omega | decide)) ca_X12_courtSettles q7_83 ⟨rfl, rfl⟩ ⟨Nat.le_of_ble_eq_true rfl, Nat.le_of_ble_eq_true rfl⟩ (rc_model hK hP) hK hP hD hS hZ rfl hl.1 rfl (Nat.le_of_ble_eq_true rfl) ⟨Nat.zero_le _, Nat.zero_le _⟩ dX12_settling_19 (fun r_8 z_11 H locs wr_8 hP hD hS => ?_)
  obtain ⟨o_u64_9, o_b65_10⟩ := z_11
  have hP : va_P D vwCl (RW cs bd (va_up u 64 o_u64_9) (va_up b 65 o_b65_10) bw) H := hP
  have hD : va_D A (RW cs bd (va_up u 64 o_u64_9) (va_up b 65 o_b65_10) bw) := hD
  obtain ⟨wr_8_0, wr_8_1, wr_8_2, wr_8_3, wr_8_4⟩ : (o_u64_9.toInt = o_u64_4.toInt + 2) ∧ (o_b65_10 = TRW o_b65_5 o_u64_4.toInt.toNat [40, 11]) ∧ (r_8 = ((p2 ^^^ p1) * 3)) ∧ (0 ≤ o_u64_9.toInt) ∧ (o_u64_9.toInt ≤ 1000) := wr_8
  have kt_12 : o_b65_10 = TRW (b 65) (u 64).toInt.toNat [60, 40, 11] := by rw [wr_8_1, kt_7, show (o_u64_4).toInt.toNat = (u 64).toInt.toNat + 1 from by omega]; rfl
  refine lv_istore_n (lv' := [(3, .int r_8), (0, .ref (bd 0)), (1, .int p1), (2, .int p2)]) hx hb dX12_settling_22 rfl hl (by decide) rfl (fun ls hl => ?_)
  refine lv_iload_n hx hb dX12_settling_23 rfl (lv_at hl 0 rfl) ?_
  refine lv_aload_n hx hb dX12_settling_24 rfl (lv_at hl 1 rfl) ?_
  refine lv_iload_n hx hb dX12_settling_25 rfl (lv_at hl 2 rfl) ?_
  refine lv_iconst (v := 2) hx hb dX12_settling_26 (by decide) ?_
  refine cV_i (As := [.int p1, .int 2]) (rest := [.int r_8]) ⟨hx, hb, hml, hown, hg⟩ (k_X12_flying_5 l D cs A bd (va_up u 64 o_u64_9) (va_up b 65 o_b65_10) bw  p1 2 hkn (show 0 ≤ p1.toInt by first | omega | decide) (show p1.toInt < 50 by first | omega | decide) (show 0 ≤ o_u64_9.toInt by first | omega | decide) (show o_u64_9.toInt ≤ 23 by first | omega | decide) ib63_0 (show 0 ≤ o_u64_9.toInt by first | omega | decide) (show o_u64_9.toInt ≤ 1000 by first | omega | decide)) ca_X12_flying q7_48 ⟨rfl, rfl⟩ ⟨Nat.le_of_ble_eq_true rfl, Nat.le_of_ble_eq_true rfl⟩ (rc_model hK hP) hK hP hD hS hZ rfl hl.1 rfl (Nat.le_of_ble_eq_true rfl) ⟨Nat.zero_le _, Nat.zero_le _⟩ dX12_settling_27 (fun r_13 z_16 H locs wr_13 hP hD hS => ?_)
  obtain ⟨o_u64_14, o_b65_15⟩ := z_16
  have hP : va_P D vwCl (RW cs bd (va_up u 64 o_u64_14) (va_up b 65 o_b65_15) bw) H := hP
  have hD : va_D A (RW cs bd (va_up u 64 o_u64_14) (va_up b 65 o_b65_15) bw) := hD
  obtain ⟨wr_13_0, wr_13_1, wr_13_2, wr_13_3, wr_13_4⟩ : (o_u64_14.toInt = o_u64_9.toInt + 1) ∧ (o_b65_15 = TRW o_b65_10 o_u64_9.toInt.toNat [1]) ∧ (r_13 = ((2 : Int32) + p1)) ∧ (0 ≤ o_u64_14.toInt) ∧ (o_u64_14.toInt ≤ 1000) := wr_13
  have kt_17 : o_b65_15 = TRW (b 65) (u 64).toInt.toNat [60, 40, 11, 1] := by rw [wr_13_1, kt_12, show (o_u64_9).toInt.toNat = (u 64).toInt.toNat + 3 from by omega]; rfl
  refine lv_isub hx hb dX12_settling_30 ?_
  refine lv_topi (fun x_18 ex_18 => ?_)
  exact W.iret (v := x_18) hx hb hr (fun tt ht hW => ⟨⟨x_18, ⟨o_u64_14, o_b65_15⟩, rfl, ⟨(by first | rfl | omega | trivial | assumption | (dsimp only; first | omega | assumption)), (by (try dsimp only); first | assumption | rfl), (by simp only [ex_18, wr_13_2, wr_8_2]), (show 0 ≤ o_u64_14.toInt by first | omega | assumption), (show o_u64_14.toInt ≤ 1000 by first | omega | assumption)⟩, by rw [ht]; exact hP, hD⟩, hS.F ht⟩) hS.2.2 dX12_settling_31
set_option maxHeartbeats 4000000 in
set_option maxRecDepth 100000 in
theorem k_X12_stinging_5 (l : Launch) (D : va_G) (cs : Nat → ClassId) (A : Nat → Prop) (bd : Nat → Nat) (u : Nat → Int32) (b : Nat → Nat → Int32) (bw : Nat → Nat → Int64)  (p1 : Int32) (p2 : Int32) (hkn : (b 63) p1.toNatClampNeg = 5) (h1 : 0 ≤ p1.toInt) (h2 : p1.toInt < 50) (hr0 : 0 ≤ (u 64).toInt) (hr1 : (u 64).toInt ≤ 20) (ib63_0 : AB 0 7 (b 63)) (iu64_0 : 0 ≤ (u 64).toInt) (iu64_1 : (u 64).toInt ≤ 1000) : Met l yX12_stinging (Cond.code yX12_stinging cX12_stinging 4 (some .int) :: gw) ({ frames := 5, cells := 0, slots := 0, locals := 109 }) (va_Pc [.ref (bd 0), .int p1, .int p2] (XPre D (TY cs) (RW cs bd u b bw) A)) (va_Qi (fun (r : Int32) (z : Int32 × (Nat → Int32)) => (z.1.toInt = (u 64).toInt + 4) ∧ (z.2 = TRW (b 65) (u 64).toInt.toNat [41, 30, 10, 1]) ∧ (r = (-(((p2 + 1) + p1) * 2))) ∧ (0 ≤ z.1.toInt) ∧ (z.1.toInt ≤ 1000)) (XPo D (fun (z : Int32 × (Nat → Int32)) => RW cs bd (va_up u 64 z.1) (va_up b 65 z.2) bw) A) A) 0 0 A := by
  refine Met.ofW (cc := cX12_stinging) (maxL := 4) (ret := (some .int)) (by decide) rfl ?_
  intro p e s m args below meth c s₁ B hml hv
  obtain ⟨rfl, hP, hK, hD, hZ⟩ := hv
  have hx := B.exec
  have hb := B.bytes
  have hr := B.returns
  have hts := atoms_spec (ws := (Cond.code yX12_stinging cX12_stinging 4 (some .int) :: gw)) B.pre
  have hg : ∀ w ∈ gw, w.before ([.ref (bd 0), .int p1, .int p2] : List Value).toArray s = true := fun w h => hts w (List.mem_cons_of_mem _ h)
  have hown : s.vm.findClass RX12 = some m.cls := findClass_of_methodNamed B.named
  have hlocks := B.notSynchronized
  have hS : va_S A s.heap s.heap [] := va_S.rf
  have hP : va_P D vwCl (RW cs bd u b bw) s.heap := hP
  have hl := lv_entry ([.ref (bd 0), .int p1, .int p2]) (n := 4) (Nat.le_of_ble_eq_true rfl)
  rw [lg_entry_eq]
  generalize (lg_sl ([.ref (bd 0), .int p1, .int p2]) ++ List.replicate (4 - (lg_sl ([.ref (bd 0), .int p1, .int p2])).length) Slot.unset).toArray = ls at hl ⊢
  have hl : lv_has ls 4 [(0, .ref (bd 0)), (1, .int p1), (2, .int p2)] := hl
  refine lv_aload_n hx hb dX12_stinging_0 rfl (lv_at hl 0 rfl) ?_
  refine gr_kind hx hb hg hown hK hP (hg _ q5_55) dX12_stinging_1 ?_
  refine lv_iload_n hx hb dX12_stinging_4 rfl (lv_at hl 1 rfl) ?_
  refine lr_kind hx hb hK hP (i_in (by omega) (by omega)) dX12_stinging_5 ?_
  refine lv_topi (fun x_1 ex_1 => ?_)
  have ex_1 : x_1 = (b 63) p1.toNatClampNeg := ex_1
  have hx_1 : x_1.toInt = ((b 63) p1.toNatClampNeg).toInt := by rw [ex_1]
  have bx_1 := ib63_0 p1.toNatClampNeg
  rw [← ex_1] at bx_1
  have fx_1 : x_1 = 5 := by rw [ex_1]; exact hkn
  subst fx_1
  refine lv_iconst (v := 3) hx hb dX12_stinging_6 (by decide) ?_
  refine cS_p (As := [.int 5, .int 3]) (rest := []) ⟨hx, hb, hml, hown, hg⟩ (k_RU_5_3 l    ) ca_X12_isUnder q7_52 ⟨rfl, rfl⟩ ⟨Nat.le_of_ble_eq_true rfl, Nat.le_of_ble_eq_true rfl⟩ rfl hl.1 rfl (Nat.le_of_ble_eq_true rfl) ⟨Nat.zero_le _, Nat.zero_le _⟩ dX12_stinging_7 (fun r_2 wr_2 => ?_)
  have wr_2 : r_2.toInt = 1 := wr_2
  refine lv_if_eq (tgt := 28) hx hb dX12_stinging_10 (by decide) (fun c_3 => ?_) (fun c_3 => ?_)
  ·
    have kc_3 : r_2.toInt = (0 : Int) := i_eq c_3
    exfalso; omega
  ·
    have kc_3 : r_2.toInt ≠ (0 : Int) := i_ne c_3
    refine lv_aload_n hx hb dX12_stinging_13 rfl (lv_at hl 0 rfl) ?_
    refine lv_bipush (v := 41) hx hb dX12_stinging_14 (by decide) ?_
    refine cV_v (As := [.int 41]) (rest := []) ⟨hx, hb, hml, hown, hg⟩ (k_X12_ran l D cs A bd u b bw  41 (show 0 ≤ (u 64).toInt by first | omega | decide) (show (u 64).toInt ≤ 23 by first | omega | decide) (show 0 ≤ (u 64).toInt by first | omega | decide) (show (u 64).toInt ≤ 1000 by first | omega | decide)) ca_X12_ran q7_55 ⟨rfl, rfl⟩ ⟨Nat.le_of_ble_eq_true rfl, Nat.le_of_ble_eq_true rfl⟩ (rc_model hK hP) hK hP hD hS hZ rfl hl.1 rfl (Nat.le_of_ble_eq_true rfl) ⟨Nat.zero_le _, Nat.zero_le _⟩ dX12_stinging_16 (fun z_7 H locs wr_4 hP hD hS => ?_)
    obtain ⟨o_u64_5, o_b65_6⟩ := z_7
    have hP : va_P D vwCl (RW cs bd (va_up u 64 o_u64_5) (va_up b 65 o_b65_6) bw) H := hP
    have hD : va_D A (RW cs bd (va_up u 64 o_u64_5) (va_up b 65 o_b65_6) bw) := hD
    obtain ⟨wr_4_0, wr_4_1, wr_4_2, wr_4_3⟩ : (o_u64_5.toInt = (u 64).toInt + 1) ∧ (o_b65_6 = TRW (b 65) (u 64).toInt.toNat [(41 : Int32)]) ∧ (0 ≤ o_u64_5.toInt) ∧ (o_u64_5.toInt ≤ 1000) := wr_4
    have kt_8 : o_b65_6 = TRW (b 65) (u 64).toInt.toNat [41] := by rw [wr_4_1]
    refine lv_aload_n hx hb dX12_stinging_19 rfl (lv_at hl 0 rfl) ?_
    refine lv_iload_n hx hb dX12_stinging_20 rfl (lv_at hl 1 rfl) ?_
    refine lv_iload_n hx hb dX12_stinging_21 rfl (lv_at hl 2 rfl) ?_
    refine lv_iconst (v := 1) hx hb dX12_stinging_22 (by decide) ?_
    refine lv_iadd hx hb dX12_stinging_23 ?_
    refine lv_topi (fun x_9 ex_9 => ?_)
    refine cV_i (As := [.int p1, .int x_9]) (rest := []) ⟨hx, hb, hml, hown, hg⟩ (k_X12_brookStings_5 l D cs A bd (va_up u 64 o_u64_5) (va_up b 65 o_b65_6) bw  p1 x_9 hkn (show 0 ≤ p1.toInt by first | omega | decide) (show p1.toInt < 50 by first | omega | decide) (show 0 ≤ o_u64_5.toInt by first | omega | decide) (show o_u64_5.toInt ≤ 21 by first | omega | decide) (show 0 ≤ o_u64_5.toInt by first | omega | decide) (show o_u64_5.toInt ≤ 1000 by first | omega | decide) ib63_0) ca_X12_brookStings q7_71 ⟨rfl, rfl⟩ ⟨Nat.le_of_ble_eq_true rfl, Nat.le_of_ble_eq_true rfl⟩ (rc_model hK hP) hK hP hD hS hZ rfl hl.1 rfl (Nat.le_of_ble_eq_true rfl) ⟨Nat.zero_le _, Nat.zero_le _⟩ dX12_stinging_24 (fun r_10 z_13 H locs wr_10 hP hD hS => ?_)
    obtain ⟨o_u64_11, o_b65_12⟩ := z_13
    have hP : va_P D vwCl (RW cs bd (va_up u 64 o_u64_11) (va_up b 65 o_b65_12) bw) H := hP
    have hD : va_D A (RW cs bd (va_up u 64 o_u64_11) (va_up b 65 o_b65_12) bw) := hD
    obtain ⟨wr_10_0, wr_10_1, wr_10_2, wr_10_3, wr_10_4⟩ : (o_u64_11.toInt = o_u64_5.toInt + 3) ∧ (o_b65_12 = TRW o_b65_6 o_u64_5.toInt.toNat [30, 10, 1]) ∧ (r_10 = (-((x_9 + p1) * 2))) ∧ (0 ≤ o_u64_11.toInt) ∧ (o_u64_11.toInt ≤ 1000) := wr_10
    have kt_14 : o_b65_12 = TRW (b 65) (u 64).toInt.toNat [41, 30, 10, 1] := by rw [wr_10_1, kt_8, show (o_u64_5).toInt.toNat = (u 64).toInt.toNat + 1 from by omega]; rfl
    exact W.iret (v := r_10) hx hb hr (fun tt ht hW => ⟨⟨r_10, ⟨o_u64_11, o_b65_12⟩, rfl, ⟨(by first | rfl | omega | trivial | assumption | (dsimp only; first | omega | assumption)), (by (try dsimp only); first | assumption | rfl), (by simp only [wr_10_2, ex_9]), (show 0 ≤ o_u64_11.toInt by first | omega | assumption), (show o_u64_11.toInt ≤ 1000 by first | omega | assumption)⟩, by rw [ht]; exact hP, hD⟩, hS.F ht⟩) hS.2.2 dX12_stinging_27
set_option maxHeartbeats 4000000 in
set_option maxRecDepth 100000 in
theorem k_X12_plainTells_5 (l : Launch) (D : va_G) (cs : Nat → ClassId) (A : Nat → Prop) (bd : Nat → Nat) (u : Nat → Int32) (b : Nat → Nat → Int32) (bw : Nat → Nat → Int64)  (p1 : Int32) (p2 : Int32) (hkn : (b 63) p1.toNatClampNeg = 5) (h1 : 0 ≤ p1.toInt) (h2 : p1.toInt < 50) (hr0 : 0 ≤ (u 64).toInt) (hr1 : (u 64).toInt ≤ 15) (iu64_0 : 0 ≤ (u 64).toInt) (iu64_1 : (u 64).toInt ≤ 1000) (ib63_0 : AB 0 7 (b 63)) : Met l yX12_plainTells (Cond.code yX12_plainTells cX12_plainTells 4 (some .int) :: gw) ({ frames := 6, cells := 0, slots := 0, locals := 132 }) (va_Pc [.ref (bd 0), .int p1, .int p2] (XPre D (TY cs) (RW cs bd u b bw) A)) (va_Qi (fun (r : Int32) (z : Int32 × (Nat → Int32)) => (z.1.toInt = (u 64).toInt + 9) ∧ (z.2 = TRW (b 65) (u 64).toInt.toNat [2, 41, 30, 10, 1, 60, 40, 11, 1]) ∧ (r = ((-(((p2 + 1) + p1) * 2)) - ((((1 : Int32) ^^^ p1) * 3) - ((2 : Int32) + p1)))) ∧ (0 ≤ z.1.toInt) ∧ (z.1.toInt ≤ 1000)) (XPo D (fun (z : Int32 × (Nat → Int32)) => RW cs bd (va_up u 64 z.1) (va_up b 65 z.2) bw) A) A) 0 0 A := by
  refine Met.ofW (cc := cX12_plainTells) (maxL := 4) (ret := (some .int)) (by decide) rfl ?_
  intro p e s m args below meth c s₁ B hml hv
  obtain ⟨rfl, hP, hK, hD, hZ⟩ := hv
  have hx := B.exec
  have hb := B.bytes
  have hr := B.returns
  have hts := atoms_spec (ws := (Cond.code yX12_plainTells cX12_plainTells 4 (some .int) :: gw)) B.pre
  have hg : ∀ w ∈ gw, w.before ([.ref (bd 0), .int p1, .int p2] : List Value).toArray s = true := fun w h => hts w (List.mem_cons_of_mem _ h)
  have hown : s.vm.findClass RX12 = some m.cls := findClass_of_methodNamed B.named
  have hlocks := B.notSynchronized
  have hS : va_S A s.heap s.heap [] := va_S.rf
  have hP : va_P D vwCl (RW cs bd u b bw) s.heap := hP
  have hl := lv_entry ([.ref (bd 0), .int p1, .int p2]) (n := 4) (Nat.le_of_ble_eq_true rfl)
  rw [lg_entry_eq]
  generalize (lg_sl ([.ref (bd 0), .int p1, .int p2]) ++ List.replicate (4 - (lg_sl ([.ref (bd 0), .int p1, .int p2])).length) Slot.unset).toArray = ls at hl ⊢
  have hl : lv_has ls 4 [(0, .ref (bd 0)), (1, .int p1), (2, .int p2)] := hl
  refine lv_aload_n hx hb dX12_plainTells_0 rfl (lv_at hl 0 rfl) ?_
  refine lv_iconst (v := 2) hx hb dX12_plainTells_1 (by decide) ?_
  refine cV_v (As := [.int 2]) (rest := []) ⟨hx, hb, hml, hown, hg⟩ (k_X12_ran l D cs A bd u b bw  2 (show 0 ≤ (u 64).toInt by first | omega | decide) (show (u 64).toInt ≤ 23 by first | omega | decide) (show 0 ≤ (u 64).toInt by first | omega | decide) (show (u 64).toInt ≤ 1000 by first | omega | decide)) ca_X12_ran q7_55 ⟨rfl, rfl⟩ ⟨Nat.le_of_ble_eq_true rfl, Nat.le_of_ble_eq_true rfl⟩ (rc_model hK hP) hK hP hD hS hZ rfl hl.1 rfl (Nat.le_of_ble_eq_true rfl) ⟨Nat.zero_le _, Nat.zero_le _⟩ dX12_plainTells_2 (fun z_4 H locs wr_1 hP hD hS => ?_)
  obtain ⟨o_u64_2, o_b65_3⟩ := z_4
  have hP : va_P D vwCl (RW cs bd (va_up u 64 o_u64_2) (va_up b 65 o_b65_3) bw) H := hP
  have hD : va_D A (RW cs bd (va_up u 64 o_u64_2) (va_up b 65 o_b65_3) bw) := hD
  obtain ⟨wr_1_0, wr_1_1, wr_1_2, wr_1_3⟩ : (o_u64_2.toInt = (u 64).toInt + 1) ∧ (o_b65_3 = TRW (b 65) (u 64).toInt.toNat [(2 : Int32)]) ∧ (0 ≤ o_u64_2.toInt) ∧ (o_u64_2.toInt ≤ 1000) := wr_1
  have kt_5 : o_b65_3 = TRW (b 65) (u 64).toInt.toNat [2] := by rw [wr_1_1]
  refine lv_aload_n hx hb dX12_plainTells_5 rfl (lv_at hl 0 rfl) ?_
  refine lv_iload_n hx hb dX12_plainTells_6 rfl (lv_at hl 1 rfl) ?_
  refine lv_iload_n hx hb dX12_plainTells_7 rfl (lv_at hl 2 rfl) ?_
  refine cV_i (As := [.int p1, .int p2]) (rest := []) ⟨hx, hb, hml, hown, hg⟩ (k_X12_stinging_5 l D cs A bd (va_up u 64 o_u64_2) (va_up b 65 o_b65_3) bw  p1 p2 hkn (show 0 ≤ p1.toInt by first | omega | decide) (show p1.toInt < 50 by first | omega | decide) (show 0 ≤ o_u64_2.toInt by first | omega | decide) (show o_u64_2.toInt ≤ 20 by first | omega | decide) ib63_0 (show 0 ≤ o_u64_2.toInt by first | omega | decide) (show o_u64_2.toInt ≤ 1000 by first | omega | decide)) ca_X12_stinging q7_67 ⟨rfl, rfl⟩ ⟨Nat.le_of_ble_eq_true rfl, Nat.le_of_ble_eq_true rfl⟩ (rc_model hK hP) hK hP hD hS hZ rfl hl.1 rfl (Nat.le_of_ble_eq_true rfl) ⟨Nat.zero_le _, Nat.zero_le _⟩ dX12_plainTells_8 (fun r_6 z_9 H locs wr_6 hP hD hS => ?_)
  obtain ⟨o_u64_7, o_b65_8⟩ := z_9
  have hP : va_P D vwCl (RW cs bd (va_up u 64 o_u64_7) (va_up b 65 o_b65_8) bw) H := hP
  have hD : va_D A (RW cs bd (va_up u 64 o_u64_7) (va_up b 65 o_b65_8) bw) := hD
  obtain ⟨wr_6_0, wr_6_1, wr_6_2, wr_6_3, wr_6_4⟩ : (o_u64_7.toInt = o_u64_2.toInt + 4) ∧ (o_b65_8 = TRW o_b65_3 o_u64_2.toInt.toNat [41, 30, 10, 1]) ∧ (r_6 = (-(((p2 + 1) + p1) * 2))) ∧ (0 ≤ o_u64_7.toInt) ∧ (o_u64_7.toInt ≤ 1000) := wr_6
  have kt_10 : o_b65_8 = TRW (b 65) (u 64).toInt.toNat [2, 41, 30, 10, 1] := by rw [wr_6_1, kt_5, show (o_u64_2).toInt.toNat = (u 64).toInt.toNat + 1 from by omega]; rfl
  refine lv_istore_n (lv' := [(3, .int r_6), (0, .ref (bd 0)), (1, .int p1), (2, .int p2)]) hx hb dX12_plainTells_11 rfl hl (by decide) rfl (fun ls hl => ?_)
  refine lv_iload_n hx hb dX12_plainTells_12 rfl (lv_at hl 0 rfl) ?_
  refine lv_aload_n hx hb dX12_plainTells_13 rfl (lv_at hl 1 rfl) ?_
  refine lv_iload_n hx hb dX12_plainTells_14 rfl (lv_at hl 2 rfl) ?_
  refine lv_iconst (v := 1) hx hb dX12_plainTells_15 (by decide) ?_
  refine cV_i (As := [.int p1, .int 1]) (rest := [.int r_6]) ⟨hx, hb, hml, hown, hg⟩ (k_X12_settling_5 l D cs A bd (va_up u 64 o_u64_7) (va_up b 65 o_b65_8) bw  p1 1 hkn (show 0 ≤ p1.toInt by first | omega | decide) (show p1.toInt < 50 by first | omega | decide) (show 0 ≤ o_u64_7.toInt by first | omega | decide) (show o_u64_7.toInt ≤ 20 by first | omega | decide) ib63_0 (show 0 ≤ o_u64_7.toInt by first | omega | decide) (show o_u64_7.toInt ≤ 1000 by first | omega | decide)) ca_X12_settling q7_79 ⟨rfl, rfl⟩ ⟨Nat.le_of_ble_eq_true rfl, Nat.le_of_ble_eq_true rfl⟩ (rc_model hK hP) hK hP hD hS hZ rfl hl.1 rfl (Nat.le_of_ble_eq_true rfl) ⟨Nat.zero_le _, Nat.zero_le _⟩ dX12_plainTells_16 (fun r_11 z_14 H locs wr_11 hP hD hS => ?_)
  obtain ⟨o_u64_12, o_b65_13⟩ := z_14
  have hP : va_P D vwCl (RW cs bd (va_up u 64 o_u64_12) (va_up b 65 o_b65_13) bw) H := hP
  have hD : va_D A (RW cs bd (va_up u 64 o_u64_12) (va_up b 65 o_b65_13) bw) := hD
  obtain ⟨wr_11_0, wr_11_1, wr_11_2, wr_11_3, wr_11_4⟩ : (o_u64_12.toInt = o_u64_7.toInt + 4) ∧ (o_b65_13 = TRW o_b65_8 o_u64_7.toInt.toNat [60, 40, 11, 1]) ∧ (r_11 = ((((1 : Int32) ^^^ p1) * 3) - ((2 : Int32) + p1))) ∧ (0 ≤ o_u64_12.toInt) ∧ (o_u64_12.toInt ≤ 1000) := wr_11
  have kt_15 : o_b65_13 = TRW (b 65) (u 64).toInt.toNat [2, 41, 30, 10, 1, 60, 40, 11, 1] := by rw [wr_11_1, kt_10, show (o_u64_7).toInt.toNat = (u 64).toInt.toNat + 5 from by omega]; rfl
  refine lv_isub hx hb dX12_plainTells_19 ?_
  refine lv_topi (fun x_16 ex_16 => ?_)
  exact W.iret (v := x_16) hx hb hr (fun tt ht hW => ⟨⟨x_16, ⟨o_u64_12, o_b65_13⟩, rfl, ⟨(by first | rfl | omega | trivial | assumption | (dsimp only; first | omega | assumption)), (by (try dsimp only); first | assumption | rfl), (by simp only [ex_16, wr_11_2, wr_6_2]), (show 0 ≤ o_u64_12.toInt by first | omega | assumption), (show o_u64_12.toInt ≤ 1000 by first | omega | assumption)⟩, by rw [ht]; exact hP, hD⟩, hS.F ht⟩) hS.2.2 dX12_plainTells_20
set_option maxHeartbeats 4000000 in
set_option maxRecDepth 100000 in
theorem k_X12_telling_5 (l : Launch) (D : va_G) (cs : Nat → ClassId) (A : Nat → Prop) (bd : Nat → Nat) (u : Nat → Int32) (b : Nat → Nat → Int32) (bw : Nat → Nat → Int64)  (p1 : Int32) (p2 : Int32) (hkn : (b 63) p1.toNatClampNeg = 5) (h1 : 0 ≤ p1.toInt) (h2 : p1.toInt < 50) (hr0 : 0 ≤ (u 64).toInt) (hr1 : (u 64).toInt ≤ 14) (ib63_0 : AB 0 7 (b 63)) (iu64_0 : 0 ≤ (u 64).toInt) (iu64_1 : (u 64).toInt ≤ 1000) : Met l yX12_telling (Cond.code yX12_telling cX12_telling 3 (some .int) :: gw) ({ frames := 7, cells := 0, slots := 0, locals := 155 }) (va_Pc [.ref (bd 0), .int p1, .int p2] (XPre D (TY cs) (RW cs bd u b bw) A)) (va_Qi (fun (r : Int32) (z : Int32 × (Nat → Int32)) => (z.1.toInt = (u 64).toInt + 10) ∧ (z.2 = TRW (b 65) (u 64).toInt.toNat [61, 2, 41, 30, 10, 1, 60, 40, 11, 1]) ∧ (r = (((-(((p2 + 1) + p1) * 2)) - ((((1 : Int32) ^^^ p1) * 3) - ((2 : Int32) + p1))) + 1)) ∧ (0 ≤ z.1.toInt) ∧ (z.1.toInt ≤ 1000)) (XPo D (fun (z : Int32 × (Nat → Int32)) => RW cs bd (va_up u 64 z.1) (va_up b 65 z.2) bw) A) A) 0 0 A := by
  refine Met.ofW (cc := cX12_telling) (maxL := 3) (ret := (some .int)) (by decide) rfl ?_
  intro p e s m args below meth c s₁ B hml hv
  obtain ⟨rfl, hP, hK, hD, hZ⟩ := hv
  have hx := B.exec
  have hb := B.bytes
  have hr := B.returns
  have hts := atoms_spec (ws := (Cond.code yX12_telling cX12_telling 3 (some .int) :: gw)) B.pre
  have hg : ∀ w ∈ gw, w.before ([.ref (bd 0), .int p1, .int p2] : List Value).toArray s = true := fun w h => hts w (List.mem_cons_of_mem _ h)
  have hown : s.vm.findClass RX12 = some m.cls := findClass_of_methodNamed B.named
  have hlocks := B.notSynchronized
  have hS : va_S A s.heap s.heap [] := va_S.rf
  have hP : va_P D vwCl (RW cs bd u b bw) s.heap := hP
  have hl := lv_entry ([.ref (bd 0), .int p1, .int p2]) (n := 3) (Nat.le_of_ble_eq_true rfl)
  rw [lg_entry_eq]
  generalize (lg_sl ([.ref (bd 0), .int p1, .int p2]) ++ List.replicate (3 - (lg_sl ([.ref (bd 0), .int p1, .int p2])).length) Slot.unset).toArray = ls at hl ⊢
  have hl : lv_has ls 3 [(0, .ref (bd 0)), (1, .int p1), (2, .int p2)] := hl
  refine lv_aload_n hx hb dX12_telling_0 rfl (lv_at hl 0 rfl) ?_
  refine gr_kind hx hb hg hown hK hP (hg _ q5_55) dX12_telling_1 ?_
  refine lv_iload_n hx hb dX12_telling_4 rfl (lv_at hl 1 rfl) ?_
  refine lr_kind hx hb hK hP (i_in (by omega) (by omega)) dX12_telling_5 ?_
  refine lv_topi (fun x_1 ex_1 => ?_)
  have ex_1 : x_1 = (b 63) p1.toNatClampNeg := ex_1
  have hx_1 : x_1.toInt = ((b 63) p1.toNatClampNeg).toInt := by rw [ex_1]
  have bx_1 := ib63_0 p1.toNatClampNeg
  rw [← ex_1] at bx_1
  have fx_1 : x_1 = 5 := by rw [ex_1]; exact hkn
  subst fx_1
  refine lv_iconst (v := 4) hx hb dX12_telling_6 (by decide) ?_
  refine lv_icmp_ne (tgt := 25) hx hb dX12_telling_7 (by decide) (fun c_2 => ?_) (fun c_2 => absurd c_2 (by decide))
  refine lv_aload_n hx hb dX12_telling_25 rfl (lv_at hl 0 rfl) ?_
  refine gr_kind hx hb hg hown hK hP (hg _ q5_55) dX12_telling_26 ?_
  refine lv_iload_n hx hb dX12_telling_29 rfl (lv_at hl 1 rfl) ?_
  refine lr_kind hx hb hK hP (i_in (by omega) (by omega)) dX12_telling_30 ?_
  refine lv_topi (fun x_3 ex_3 => ?_)
  have ex_3 : x_3 = (b 63) p1.toNatClampNeg := ex_3
  have hx_3 : x_3.toInt = ((b 63) p1.toNatClampNeg).toInt := by rw [ex_3]
  have bx_3 := ib63_0 p1.toNatClampNeg
  rw [← ex_3] at bx_3
  have fx_3 : x_3 = 5 := by rw [ex_3]; exact hkn
  subst fx_3
  refine lv_iconst (v := 5) hx hb dX12_telling_31 (by decide) ?_
  refine lv_icmp_ne (tgt := 50) hx hb dX12_telling_32 (by decide) (fun c_4 => absurd c_4 (by decide)) (fun c_4 => ?_)
  refine lv_aload_n hx hb dX12_telling_35 rfl (lv_at hl 0 rfl) ?_
  refine lv_bipush (v := 61) hx hb dX12_telling_36 (by decide) ?_
  refine cV_v (As := [.int 61]) (rest := []) ⟨hx, hb, hml, hown, hg⟩ (k_X12_ran l D cs A bd u b bw  61 (show 0 ≤ (u 64).toInt by first | omega | decide) (show (u 64).toInt ≤ 23 by first | omega | decide) (show 0 ≤ (u 64).toInt by first | omega | decide) (show (u 64).toInt ≤ 1000 by first | omega | decide)) ca_X12_ran q7_55 ⟨rfl, rfl⟩ ⟨Nat.le_of_ble_eq_true rfl, Nat.le_of_ble_eq_true rfl⟩ (rc_model hK hP) hK hP hD hS hZ rfl hl.1 rfl (Nat.le_of_ble_eq_true rfl) ⟨Nat.zero_le _, Nat.zero_le _⟩ dX12_telling_38 (fun z_8 H locs wr_5 hP hD hS => ?_)
  obtain ⟨o_u64_6, o_b65_7⟩ := z_8
  have hP : va_P D vwCl (RW cs bd (va_up u 64 o_u64_6) (va_up b 65 o_b65_7) bw) H := hP
  have hD : va_D A (RW cs bd (va_up u 64 o_u64_6) (va_up b 65 o_b65_7) bw) := hD
  obtain ⟨wr_5_0, wr_5_1, wr_5_2, wr_5_3⟩ : (o_u64_6.toInt = (u 64).toInt + 1) ∧ (o_b65_7 = TRW (b 65) (u 64).toInt.toNat [(61 : Int32)]) ∧ (0 ≤ o_u64_6.toInt) ∧ (o_u64_6.toInt ≤ 1000) := wr_5
  have kt_9 : o_b65_7 = TRW (b 65) (u 64).toInt.toNat [61] := by rw [wr_5_1]
  refine lv_aload_n hx hb dX12_telling_41 rfl (lv_at hl 0 rfl) ?_
  refine lv_iload_n hx hb dX12_telling_42 rfl (lv_at hl 1 rfl) ?_
  refine lv_iload_n hx hb dX12_telling_43 rfl (lv_at hl 2 rfl) ?_
  refine cV_i (As := [.int p1, .int p2]) (rest := []) ⟨hx, hb, hml, hown, hg⟩ (k_X12_plainTells_5 l D cs A bd (va_up u 64 o_u64_6) (va_up b 65 o_b65_7) bw  p1 p2 hkn (show 0 ≤ p1.toInt by first | omega | decide) (show p1.toInt < 50 by first | omega | decide) (show 0 ≤ o_u64_6.toInt by first | omega | decide) (show o_u64_6.toInt ≤ 15 by first | omega | decide) (show 0 ≤ o_u64_6.toInt by first | omega | decide) (show o_u64_6.toInt ≤ 1000 by first | omega | decide) ib63_0) ca_X12_plainTells q7_95 ⟨rfl, rfl⟩ ⟨Nat.le_of_ble_eq_true rfl, Nat.le_of_ble_eq_true rfl⟩ (rc_model hK hP) hK hP hD hS hZ rfl hl.1 rfl (Nat.le_of_ble_eq_true rfl) ⟨Nat.zero_le _, Nat.zero_le _⟩ dX12_telling_44 (fun r_10 z_13 H locs wr_10 hP hD hS => ?_)
  obtain ⟨o_u64_11, o_b65_12⟩ := z_13
  have hP : va_P D vwCl (RW cs bd (va_up u 64 o_u64_11) (va_up b 65 o_b65_12) bw) H := hP
  have hD : va_D A (RW cs bd (va_up u 64 o_u64_11) (va_up b 65 o_b65_12) bw) := hD
  obtain ⟨wr_10_0, wr_10_1, wr_10_2, wr_10_3, wr_10_4⟩ : (o_u64_11.toInt = o_u64_6.toInt + 9) ∧ (o_b65_12 = TRW o_b65_7 o_u64_6.toInt.toNat [2, 41, 30, 10, 1, 60, 40, 11, 1]) ∧ (r_10 = ((-(((p2 + 1) + p1) * 2)) - ((((1 : Int32) ^^^ p1) * 3) - ((2 : Int32) + p1)))) ∧ (0 ≤ o_u64_11.toInt) ∧ (o_u64_11.toInt ≤ 1000) := wr_10
  have kt_14 : o_b65_12 = TRW (b 65) (u 64).toInt.toNat [61, 2, 41, 30, 10, 1, 60, 40, 11, 1] := by rw [wr_10_1, kt_9, show (o_u64_6).toInt.toNat = (u 64).toInt.toNat + 1 from by omega]; rfl
  refine lv_iconst (v := 1) hx hb dX12_telling_47 (by decide) ?_
  refine lv_iadd hx hb dX12_telling_48 ?_
  refine lv_topi (fun x_15 ex_15 => ?_)
  exact W.iret (v := x_15) hx hb hr (fun tt ht hW => ⟨⟨x_15, ⟨o_u64_11, o_b65_12⟩, rfl, ⟨(by first | rfl | omega | trivial | assumption | (dsimp only; first | omega | assumption)), (by (try dsimp only); first | assumption | rfl), (by simp only [ex_15, wr_10_2]), (show 0 ≤ o_u64_11.toInt by first | omega | assumption), (show o_u64_11.toInt ≤ 1000 by first | omega | assumption)⟩, by rw [ht]; exact hP, hD⟩, hS.F ht⟩) hS.2.2 dX12_telling_49
set_option maxHeartbeats 4000000 in
set_option maxRecDepth 100000 in
theorem k_RU_6_1 (l : Launch)     : Met l yX12_isUnder (Cond.code yX12_isUnder cX12_isUnder 2 (some .boolean) :: gw) ({ frames := 0, cells := 0, slots := 0, locals := 0 }) (fun v _ => v = ([.int 6, .int 1] : List Value).toArray) (vp_Si (fun (r : Int32) => r.toInt = 0)) 0 0 (fun _ => False) := by
  refine Met.ofW (cc := cX12_isUnder) (maxL := 2) (ret := (some .boolean)) (by decide) rfl ?_
  intro p e s m args below meth c s₁ B hml hv
  subst hv
  have hx := B.exec
  have hb := B.bytes
  have hr := B.returns
  have hts := atoms_spec (ws := (Cond.code yX12_isUnder cX12_isUnder 2 (some .boolean) :: gw)) B.pre
  have hg : ∀ w ∈ gw, w.before ([.int 6, .int 1] : List Value).toArray s = true := fun w h => hts w (List.mem_cons_of_mem _ h)
  have hown : s.vm.findClass RX12 = some m.cls := findClass_of_methodNamed B.named
  have hlocks := B.notSynchronized
  have hl := lv_entry ([.int 6, .int 1]) (n := 2) (Nat.le_of_ble_eq_true rfl)
  rw [lg_entry_eq]
  generalize (lg_sl ([.int 6, .int 1]) ++ List.replicate (2 - (lg_sl ([.int 6, .int 1])).length) Slot.unset).toArray = ls at hl ⊢
  have hl : lv_has ls 2 [(0, .int 6), (1, .int 1)] := hl
  refine lv_iload_n hx hb dX12_isUnder_0 rfl (lv_at hl 1 rfl) ?_
  refine lv_if_eq (tgt := 56) hx hb dX12_isUnder_1 (by decide) (fun c_1 => absurd c_1 (by decide)) (fun c_1 => ?_)
  refine lv_iload_n hx hb dX12_isUnder_4 rfl (lv_at hl 0 rfl) ?_
  refine lv_iload_n hx hb dX12_isUnder_5 rfl (lv_at hl 1 rfl) ?_
  refine lv_icmp_eq (tgt := 56) hx hb dX12_isUnder_6 (by decide) (fun c_2 => absurd c_2 (by decide)) (fun c_2 => ?_)
  refine lv_iload_n hx hb dX12_isUnder_9 rfl (lv_at hl 1 rfl) ?_
  refine lv_iconst (v := 1) hx hb dX12_isUnder_10 (by decide) ?_
  refine lv_icmp_ne (tgt := 19) hx hb dX12_isUnder_11 (by decide) (fun c_3 => absurd c_3 (by decide)) (fun c_3 => ?_)
  refine lv_iload_n hx hb dX12_isUnder_14 rfl (lv_at hl 0 rfl) ?_
  refine lv_iconst (v := 4) hx hb dX12_isUnder_15 (by decide) ?_
  refine lv_icmp_eq (tgt := 56) hx hb dX12_isUnder_16 (by decide) (fun c_4 => absurd c_4 (by decide)) (fun c_4 => ?_)
  refine lv_iload_n hx hb dX12_isUnder_19 rfl (lv_at hl 1 rfl) ?_
  refine lv_iconst (v := 2) hx hb dX12_isUnder_20 (by decide) ?_
  refine lv_icmp_ne (tgt := 34) hx hb dX12_isUnder_21 (by decide) (fun c_5 => ?_) (fun c_5 => absurd c_5 (by decide))
  refine lv_iload_n hx hb dX12_isUnder_34 rfl (lv_at hl 1 rfl) ?_
  refine lv_iconst (v := 3) hx hb dX12_isUnder_35 (by decide) ?_
  refine lv_icmp_ne (tgt := 44) hx hb dX12_isUnder_36 (by decide) (fun c_6 => ?_) (fun c_6 => absurd c_6 (by decide))
  refine lv_iload_n hx hb dX12_isUnder_44 rfl (lv_at hl 1 rfl) ?_
  refine lv_bipush (v := 6) hx hb dX12_isUnder_45 (by decide) ?_
  refine lv_icmp_ne (tgt := 60) hx hb dX12_isUnder_47 (by decide) (fun c_7 => ?_) (fun c_7 => absurd c_7 (by decide))
  refine lv_iconst (v := 0) hx hb dX12_isUnder_60 (by decide) ?_
  have q0_0 : (0 : Int32).toInt = 0 := rfl
  exact W.zret (v := 0) hx hb hr rfl (fun tt ht hW => ⟨0, rfl, (by first | rfl | omega | trivial | assumption | (dsimp only; first | omega | assumption)), ht⟩) (fun _ h => by cases h) dX12_isUnder_61
set_option maxHeartbeats 4000000 in
set_option maxRecDepth 100000 in
theorem k_RU_6_3 (l : Launch)     : Met l yX12_isUnder (Cond.code yX12_isUnder cX12_isUnder 2 (some .boolean) :: gw) ({ frames := 0, cells := 0, slots := 0, locals := 0 }) (fun v _ => v = ([.int 6, .int 3] : List Value).toArray) (vp_Si (fun (r : Int32) => r.toInt = 0)) 0 0 (fun _ => False) := by
  refine Met.ofW (cc := cX12_isUnder) (maxL := 2) (ret := (some .boolean)) (by decide) rfl ?_
  intro p e s m args below meth c s₁ B hml hv
  subst hv
  have hx := B.exec
  have hb := B.bytes
  have hr := B.returns
  have hts := atoms_spec (ws := (Cond.code yX12_isUnder cX12_isUnder 2 (some .boolean) :: gw)) B.pre
  have hg : ∀ w ∈ gw, w.before ([.int 6, .int 3] : List Value).toArray s = true := fun w h => hts w (List.mem_cons_of_mem _ h)
  have hown : s.vm.findClass RX12 = some m.cls := findClass_of_methodNamed B.named
  have hlocks := B.notSynchronized
  have hl := lv_entry ([.int 6, .int 3]) (n := 2) (Nat.le_of_ble_eq_true rfl)
  rw [lg_entry_eq]
  generalize (lg_sl ([.int 6, .int 3]) ++ List.replicate (2 - (lg_sl ([.int 6, .int 3])).length) Slot.unset).toArray = ls at hl ⊢
  have hl : lv_has ls 2 [(0, .int 6), (1, .int 3)] := hl
  refine lv_iload_n hx hb dX12_isUnder_0 rfl (lv_at hl 1 rfl) ?_
  refine lv_if_eq (tgt := 56) hx hb dX12_isUnder_1 (by decide) (fun c_1 => absurd c_1 (by decide)) (fun c_1 => ?_)
  refine lv_iload_n hx hb dX12_isUnder_4 rfl (lv_at hl 0 rfl) ?_
  refine lv_iload_n hx hb dX12_isUnder_5 rfl (lv_at hl 1 rfl) ?_
  refine lv_icmp_eq (tgt := 56) hx hb dX12_isUnder_6 (by decide) (fun c_2 => absurd c_2 (by decide)) (fun c_2 => ?_)
  refine lv_iload_n hx hb dX12_isUnder_9 rfl (lv_at hl 1 rfl) ?_
  refine lv_iconst (v := 1) hx hb dX12_isUnder_10 (by decide) ?_
  refine lv_icmp_ne (tgt := 19) hx hb dX12_isUnder_11 (by decide) (fun c_3 => ?_) (fun c_3 => absurd c_3 (by decide))
  refine lv_iload_n hx hb dX12_isUnder_19 rfl (lv_at hl 1 rfl) ?_
  refine lv_iconst (v := 2) hx hb dX12_isUnder_20 (by decide) ?_
  refine lv_icmp_ne (tgt := 34) hx hb dX12_isUnder_21 (by decide) (fun c_4 => ?_) (fun c_4 => absurd c_4 (by decide))
  refine lv_iload_n hx hb dX12_isUnder_34 rfl (lv_at hl 1 rfl) ?_
  refine lv_iconst (v := 3) hx hb dX12_isUnder_35 (by decide) ?_
  refine lv_icmp_ne (tgt := 44) hx hb dX12_isUnder_36 (by decide) (fun c_5 => absurd c_5 (by decide)) (fun c_5 => ?_)
  refine lv_iload_n hx hb dX12_isUnder_39 rfl (lv_at hl 0 rfl) ?_
  refine lv_iconst (v := 5) hx hb dX12_isUnder_40 (by decide) ?_
  refine lv_icmp_eq (tgt := 56) hx hb dX12_isUnder_41 (by decide) (fun c_6 => absurd c_6 (by decide)) (fun c_6 => ?_)
  refine lv_iload_n hx hb dX12_isUnder_44 rfl (lv_at hl 1 rfl) ?_
  refine lv_bipush (v := 6) hx hb dX12_isUnder_45 (by decide) ?_
  refine lv_icmp_ne (tgt := 60) hx hb dX12_isUnder_47 (by decide) (fun c_7 => ?_) (fun c_7 => absurd c_7 (by decide))
  refine lv_iconst (v := 0) hx hb dX12_isUnder_60 (by decide) ?_
  have q0_0 : (0 : Int32).toInt = 0 := rfl
  exact W.zret (v := 0) hx hb hr rfl (fun tt ht hW => ⟨0, rfl, (by first | rfl | omega | trivial | assumption | (dsimp only; first | omega | assumption)), ht⟩) (fun _ h => by cases h) dX12_isUnder_61
set_option maxHeartbeats 4000000 in
set_option maxRecDepth 100000 in
theorem k_X12_flying_6 (l : Launch) (D : va_G) (cs : Nat → ClassId) (A : Nat → Prop) (bd : Nat → Nat) (u : Nat → Int32) (b : Nat → Nat → Int32) (bw : Nat → Nat → Int64)  (p1 : Int32) (p2 : Int32) (hkn : (b 63) p1.toNatClampNeg = 6) (h1 : 0 ≤ p1.toInt) (h2 : p1.toInt < 50) (hr0 : 0 ≤ (u 64).toInt) (hr1 : (u 64).toInt ≤ 22) (ib63_0 : AB 0 7 (b 63)) (iu64_0 : 0 ≤ (u 64).toInt) (iu64_1 : (u 64).toInt ≤ 1000) : Met l yX12_flying (Cond.code yX12_flying cX12_flying 3 (some .int) :: gw) ({ frames := 3, cells := 0, slots := 0, locals := 65 }) (va_Pc [.ref (bd 0), .int p1, .int p2] (XPre D (TY cs) (RW cs bd u b bw) A)) (va_Qi (fun (r : Int32) (z : Int32 × (Nat → Int32)) => (z.1.toInt = (u 64).toInt + 2) ∧ (z.2 = TRW (b 65) (u 64).toInt.toNat [70, 1]) ∧ (r = ((p2 + p1) * 2)) ∧ (0 ≤ z.1.toInt) ∧ (z.1.toInt ≤ 1000)) (XPo D (fun (z : Int32 × (Nat → Int32)) => RW cs bd (va_up u 64 z.1) (va_up b 65 z.2) bw) A) A) 0 0 A := by
  refine Met.ofW (cc := cX12_flying) (maxL := 3) (ret := (some .int)) (by decide) rfl ?_
  intro p e s m args below meth c s₁ B hml hv
  obtain ⟨rfl, hP, hK, hD, hZ⟩ := hv
  have hx := B.exec
  have hb := B.bytes
  have hr := B.returns
  have hts := atoms_spec (ws := (Cond.code yX12_flying cX12_flying 3 (some .int) :: gw)) B.pre
  have hg : ∀ w ∈ gw, w.before ([.ref (bd 0), .int p1, .int p2] : List Value).toArray s = true := fun w h => hts w (List.mem_cons_of_mem _ h)
  have hown : s.vm.findClass RX12 = some m.cls := findClass_of_methodNamed B.named
  have hlocks := B.notSynchronized
  have hS : va_S A s.heap s.heap [] := va_S.rf
  have hP : va_P D vwCl (RW cs bd u b bw) s.heap := hP
  have hl := lv_entry ([.ref (bd 0), .int p1, .int p2]) (n := 3) (Nat.le_of_ble_eq_true rfl)
  rw [lg_entry_eq]
  generalize (lg_sl ([.ref (bd 0), .int p1, .int p2]) ++ List.replicate (3 - (lg_sl ([.ref (bd 0), .int p1, .int p2])).length) Slot.unset).toArray = ls at hl ⊢
  have hl : lv_has ls 3 [(0, .ref (bd 0)), (1, .int p1), (2, .int p2)] := hl
  refine lv_aload_n hx hb dX12_flying_0 rfl (lv_at hl 0 rfl) ?_
  refine gr_kind hx hb hg hown hK hP (hg _ q5_55) dX12_flying_1 ?_
  refine lv_iload_n hx hb dX12_flying_4 rfl (lv_at hl 1 rfl) ?_
  refine lr_kind hx hb hK hP (i_in (by omega) (by omega)) dX12_flying_5 ?_
  refine lv_topi (fun x_1 ex_1 => ?_)
  have ex_1 : x_1 = (b 63) p1.toNatClampNeg := ex_1
  have hx_1 : x_1.toInt = ((b 63) p1.toNatClampNeg).toInt := by rw [ex_1]
  have bx_1 := ib63_0 p1.toNatClampNeg
  rw [← ex_1] at bx_1
  have fx_1 : x_1 = 6 := by rw [ex_1]; exact hkn
  subst fx_1
  refine lv_iconst (v := 1) hx hb dX12_flying_6 (by decide) ?_
  refine cS_p (As := [.int 6, .int 1]) (rest := []) ⟨hx, hb, hml, hown, hg⟩ (k_RU_6_1 l    ) ca_X12_isUnder q7_52 ⟨rfl, rfl⟩ ⟨Nat.le_of_ble_eq_true rfl, Nat.le_of_ble_eq_true rfl⟩ rfl hl.1 rfl (Nat.le_of_ble_eq_true rfl) ⟨Nat.zero_le _, Nat.zero_le _⟩ dX12_flying_7 (fun r_2 wr_2 => ?_)
  have wr_2 : r_2.toInt = 0 := wr_2
  refine lv_if_eq (tgt := 28) hx hb dX12_flying_10 (by decide) (fun c_3 => ?_) (fun c_3 => ?_)
  ·
    have kc_3 : r_2.toInt = (0 : Int) := i_eq c_3
    refine lv_aload_n hx hb dX12_flying_28 rfl (lv_at hl 0 rfl) ?_
    refine gr_kind hx hb hg hown hK hP (hg _ q5_55) dX12_flying_29 ?_
    refine lv_iload_n hx hb dX12_flying_32 rfl (lv_at hl 1 rfl) ?_
    refine lr_kind hx hb hK hP (i_in (by omega) (by omega)) dX12_flying_33 ?_
    refine lv_topi (fun x_4 ex_4 => ?_)
    have ex_4 : x_4 = (b 63) p1.toNatClampNeg := ex_4
    have hx_4 : x_4.toInt = ((b 63) p1.toNatClampNeg).toInt := by rw [ex_4]
    have bx_4 := ib63_0 p1.toNatClampNeg
    rw [← ex_4] at bx_4
    have fx_4 : x_4 = 6 := by rw [ex_4]; exact hkn
    subst fx_4
    refine lv_bipush (v := 7) hx hb dX12_flying_34 (by decide) ?_
    refine lv_icmp_ne (tgt := 54) hx hb dX12_flying_36 (by decide) (fun c_5 => ?_) (fun c_5 => absurd c_5 (by decide))
    refine lv_aload_n hx hb dX12_flying_54 rfl (lv_at hl 0 rfl) ?_
    refine gr_kind hx hb hg hown hK hP (hg _ q5_55) dX12_flying_55 ?_
    refine lv_iload_n hx hb dX12_flying_58 rfl (lv_at hl 1 rfl) ?_
    refine lr_kind hx hb hK hP (i_in (by omega) (by omega)) dX12_flying_59 ?_
    refine lv_topi (fun x_6 ex_6 => ?_)
    have ex_6 : x_6 = (b 63) p1.toNatClampNeg := ex_6
    have hx_6 : x_6.toInt = ((b 63) p1.toNatClampNeg).toInt := by rw [ex_6]
    have bx_6 := ib63_0 p1.toNatClampNeg
    rw [← ex_6] at bx_6
    have fx_6 : x_6 = 6 := by rw [ex_6]; exact hkn
    subst fx_6
    refine lv_bipush (v := 6) hx hb dX12_flying_60 (by decide) ?_
    refine lv_icmp_ne (tgt := 74) hx hb dX12_flying_62 (by decide) (fun c_7 => absurd c_7 (by decide)) (fun c_7 => ?_)
    refine lv_aload_n hx hb dX12_flying_65 rfl (lv_at hl 0 rfl) ?_
    refine lv_iload_n hx hb dX12_flying_66 rfl (lv_at hl 1 rfl) ?_
    refine lv_iload_n hx hb dX12_flying_67 rfl (lv_at hl 2 rfl) ?_
    refine cV_i (As := [.int p1, .int p2]) (rest := []) ⟨hx, hb, hml, hown, hg⟩ (k_X12_coatFlies l D cs A bd u b bw  p1 p2 (show 0 ≤ (u 64).toInt by first | omega | decide) (show (u 64).toInt ≤ 22 by first | omega | decide) (show 0 ≤ (u 64).toInt by first | omega | decide) (show (u 64).toInt ≤ 1000 by first | omega | decide)) ca_X12_coatFlies q7_63 ⟨rfl, rfl⟩ ⟨Nat.le_of_ble_eq_true rfl, Nat.le_of_ble_eq_true rfl⟩ (rc_model hK hP) hK hP hD hS hZ rfl hl.1 rfl (Nat.le_of_ble_eq_true rfl) ⟨Nat.zero_le _, Nat.zero_le _⟩ dX12_flying_68 (fun r_8 z_11 H locs wr_8 hP hD hS => ?_)
    obtain ⟨o_u64_9, o_b65_10⟩ := z_11
    have hP : va_P D vwCl (RW cs bd (va_up u 64 o_u64_9) (va_up b 65 o_b65_10) bw) H := hP
    have hD : va_D A (RW cs bd (va_up u 64 o_u64_9) (va_up b 65 o_b65_10) bw) := hD
    obtain ⟨wr_8_0, wr_8_1, wr_8_2, wr_8_3, wr_8_4⟩ : (o_u64_9.toInt = (u 64).toInt + 2) ∧ (o_b65_10 = TRW (b 65) (u 64).toInt.toNat [70, 1]) ∧ (r_8 = ((p2 + p1) * 2)) ∧ (0 ≤ o_u64_9.toInt) ∧ (o_u64_9.toInt ≤ 1000) := wr_8
    have kt_12 : o_b65_10 = TRW (b 65) (u 64).toInt.toNat [70, 1] := by rw [wr_8_1]
    refine lv_goto (tgt := 80) hx hb dX12_flying_71 (by decide) ?_
    exact W.iret (v := r_8) hx hb hr (fun tt ht hW => ⟨⟨r_8, ⟨o_u64_9, o_b65_10⟩, rfl, ⟨(by first | rfl | omega | trivial | assumption | (dsimp only; first | omega | assumption)), (by (try dsimp only); first | assumption | rfl), (by simp only [wr_8_2]), (show 0 ≤ o_u64_9.toInt by first | omega | assumption), (show o_u64_9.toInt ≤ 1000 by first | omega | assumption)⟩, by rw [ht]; exact hP, hD⟩, hS.F ht⟩) hS.2.2 dX12_flying_80
  ·
    have kc_3 : r_2.toInt ≠ (0 : Int) := i_ne c_3
    exfalso; omega
set_option maxHeartbeats 4000000 in
set_option maxRecDepth 100000 in
theorem k_X12_plainStings_6 (l : Launch) (D : va_G) (cs : Nat → ClassId) (A : Nat → Prop) (bd : Nat → Nat) (u : Nat → Int32) (b : Nat → Nat → Int32) (bw : Nat → Nat → Int64)  (p1 : Int32) (p2 : Int32) (hkn : (b 63) p1.toNatClampNeg = 6) (h1 : 0 ≤ p1.toInt) (h2 : p1.toInt < 50) (hr0 : 0 ≤ (u 64).toInt) (hr1 : (u 64).toInt ≤ 21) (iu64_0 : 0 ≤ (u 64).toInt) (iu64_1 : (u 64).toInt ≤ 1000) (ib63_0 : AB 0 7 (b 63)) : Met l yX12_plainStings (Cond.code yX12_plainStings cX12_plainStings 3 (some .int) :: gw) ({ frames := 4, cells := 0, slots := 0, locals := 87 }) (va_Pc [.ref (bd 0), .int p1, .int p2] (XPre D (TY cs) (RW cs bd u b bw) A)) (va_Qi (fun (r : Int32) (z : Int32 × (Nat → Int32)) => (z.1.toInt = (u 64).toInt + 3) ∧ (z.2 = TRW (b 65) (u 64).toInt.toNat [10, 70, 1]) ∧ (r = (((p2 + p1) * 2) * 2)) ∧ (0 ≤ z.1.toInt) ∧ (z.1.toInt ≤ 1000)) (XPo D (fun (z : Int32 × (Nat → Int32)) => RW cs bd (va_up u 64 z.1) (va_up b 65 z.2) bw) A) A) 0 0 A := by
  refine Met.ofW (cc := cX12_plainStings) (maxL := 3) (ret := (some .int)) (by decide) rfl ?_
  intro p e s m args below meth c s₁ B hml hv
  obtain ⟨rfl, hP, hK, hD, hZ⟩ := hv
  have hx := B.exec
  have hb := B.bytes
  have hr := B.returns
  have hts := atoms_spec (ws := (Cond.code yX12_plainStings cX12_plainStings 3 (some .int) :: gw)) B.pre
  have hg : ∀ w ∈ gw, w.before ([.ref (bd 0), .int p1, .int p2] : List Value).toArray s = true := fun w h => hts w (List.mem_cons_of_mem _ h)
  have hown : s.vm.findClass RX12 = some m.cls := findClass_of_methodNamed B.named
  have hlocks := B.notSynchronized
  have hS : va_S A s.heap s.heap [] := va_S.rf
  have hP : va_P D vwCl (RW cs bd u b bw) s.heap := hP
  have hl := lv_entry ([.ref (bd 0), .int p1, .int p2]) (n := 3) (Nat.le_of_ble_eq_true rfl)
  rw [lg_entry_eq]
  generalize (lg_sl ([.ref (bd 0), .int p1, .int p2]) ++ List.replicate (3 - (lg_sl ([.ref (bd 0), .int p1, .int p2])).length) Slot.unset).toArray = ls at hl ⊢
  have hl : lv_has ls 3 [(0, .ref (bd 0)), (1, .int p1), (2, .int p2)] := hl
  refine lv_aload_n hx hb dX12_plainStings_0 rfl (lv_at hl 0 rfl) ?_
  refine lv_bipush (v := 10) hx hb dX12_plainStings_1 (by decide) ?_
  refine cV_v (As := [.int 10]) (rest := []) ⟨hx, hb, hml, hown, hg⟩ (k_X12_ran l D cs A bd u b bw  10 (show 0 ≤ (u 64).toInt by first | omega | decide) (show (u 64).toInt ≤ 23 by first | omega | decide) (show 0 ≤ (u 64).toInt by first | omega | decide) (show (u 64).toInt ≤ 1000 by first | omega | decide)) ca_X12_ran q7_55 ⟨rfl, rfl⟩ ⟨Nat.le_of_ble_eq_true rfl, Nat.le_of_ble_eq_true rfl⟩ (rc_model hK hP) hK hP hD hS hZ rfl hl.1 rfl (Nat.le_of_ble_eq_true rfl) ⟨Nat.zero_le _, Nat.zero_le _⟩ dX12_plainStings_3 (fun z_4 H locs wr_1 hP hD hS => ?_)
  obtain ⟨o_u64_2, o_b65_3⟩ := z_4
  have hP : va_P D vwCl (RW cs bd (va_up u 64 o_u64_2) (va_up b 65 o_b65_3) bw) H := hP
  have hD : va_D A (RW cs bd (va_up u 64 o_u64_2) (va_up b 65 o_b65_3) bw) := hD
  obtain ⟨wr_1_0, wr_1_1, wr_1_2, wr_1_3⟩ : (o_u64_2.toInt = (u 64).toInt + 1) ∧ (o_b65_3 = TRW (b 65) (u 64).toInt.toNat [(10 : Int32)]) ∧ (0 ≤ o_u64_2.toInt) ∧ (o_u64_2.toInt ≤ 1000) := wr_1
  have kt_5 : o_b65_3 = TRW (b 65) (u 64).toInt.toNat [10] := by rw [wr_1_1]
  refine lv_aload_n hx hb dX12_plainStings_6 rfl (lv_at hl 0 rfl) ?_
  refine lv_iload_n hx hb dX12_plainStings_7 rfl (lv_at hl 1 rfl) ?_
  refine lv_iload_n hx hb dX12_plainStings_8 rfl (lv_at hl 2 rfl) ?_
  refine cV_i (As := [.int p1, .int p2]) (rest := []) ⟨hx, hb, hml, hown, hg⟩ (k_X12_flying_6 l D cs A bd (va_up u 64 o_u64_2) (va_up b 65 o_b65_3) bw  p1 p2 hkn (show 0 ≤ p1.toInt by first | omega | decide) (show p1.toInt < 50 by first | omega | decide) (show 0 ≤ o_u64_2.toInt by first | omega | decide) (show o_u64_2.toInt ≤ 22 by first | omega | decide) ib63_0 (show 0 ≤ o_u64_2.toInt by first | omega | decide) (show o_u64_2.toInt ≤ 1000 by first | omega | decide)) ca_X12_flying q7_48 ⟨rfl, rfl⟩ ⟨Nat.le_of_ble_eq_true rfl, Nat.le_of_ble_eq_true rfl⟩ (rc_model hK hP) hK hP hD hS hZ rfl hl.1 rfl (Nat.le_of_ble_eq_true rfl) ⟨Nat.zero_le _, Nat.zero_le _⟩ dX12_plainStings_9 (fun r_6 z_9 H locs wr_6 hP hD hS => ?_)
  obtain ⟨o_u64_7, o_b65_8⟩ := z_9
  have hP : va_P D vwCl (RW cs bd (va_up u 64 o_u64_7) (va_up b 65 o_b65_8) bw) H := hP
  have hD : va_D A (RW cs bd (va_up u 64 o_u64_7) (va_up b 65 o_b65_8) bw) := hD
  obtain ⟨wr_6_0, wr_6_1, wr_6_2, wr_6_3, wr_6_4⟩ : (o_u64_7.toInt = o_u64_2.toInt + 2) ∧ (o_b65_8 = TRW o_b65_3 o_u64_2.toInt.toNat [70, 1]) ∧ (r_6 = ((p2 + p1) * 2)) ∧ (0 ≤ o_u64_7.toInt) ∧ (o_u64_7.toInt ≤ 1000) := wr_6
  have kt_10 : o_b65_8 = TRW (b 65) (u 64).toInt.toNat [10, 70, 1] := by rw [wr_6_1, kt_5, show (o_u64_2).toInt.toNat = (u 64).toInt.toNat + 1 from by omega]; rfl
  refine lv_iconst (v := 2) hx hb dX12_plainStings_12 (by decide) ?_
  refine lv_imul hx hb dX12_plainStings_13 ?_
  refine lv_topi (fun x_11 ex_11 => ?_)
  exact W.iret (v := x_11) hx hb hr (fun tt ht hW => ⟨⟨x_11, ⟨o_u64_7, o_b65_8⟩, rfl, ⟨(by first | rfl | omega | trivial | assumption | (dsimp only; first | omega | assumption)), (by (try dsimp only); first | assumption | rfl), (by simp only [ex_11, wr_6_2]), (show 0 ≤ o_u64_7.toInt by first | omega | assumption), (show o_u64_7.toInt ≤ 1000 by first | omega | assumption)⟩, by rw [ht]; exact hP, hD⟩, hS.F ht⟩) hS.2.2 dX12_plainStings_14
set_option maxHeartbeats 4000000 in
set_option maxRecDepth 100000 in
theorem k_X12_brookStings_6 (l : Launch) (D : va_G) (cs : Nat → ClassId) (A : Nat → Prop) (bd : Nat → Nat) (u : Nat → Int32) (b : Nat → Nat → Int32) (bw : Nat → Nat → Int64)  (p1 : Int32) (p2 : Int32) (hkn : (b 63) p1.toNatClampNeg = 6) (h1 : 0 ≤ p1.toInt) (h2 : p1.toInt < 50) (hr0 : 0 ≤ (u 64).toInt) (hr1 : (u 64).toInt ≤ 20) (iu64_0 : 0 ≤ (u 64).toInt) (iu64_1 : (u 64).toInt ≤ 1000) (ib63_0 : AB 0 7 (b 63)) : Met l yX12_brookStings (Cond.code yX12_brookStings cX12_brookStings 3 (some .int) :: gw) ({ frames := 5, cells := 0, slots := 0, locals := 109 }) (va_Pc [.ref (bd 0), .int p1, .int p2] (XPre D (TY cs) (RW cs bd u b bw) A)) (va_Qi (fun (r : Int32) (z : Int32 × (Nat → Int32)) => (z.1.toInt = (u 64).toInt + 4) ∧ (z.2 = TRW (b 65) (u 64).toInt.toNat [30, 10, 70, 1]) ∧ (r = (-(((p2 + p1) * 2) * 2))) ∧ (0 ≤ z.1.toInt) ∧ (z.1.toInt ≤ 1000)) (XPo D (fun (z : Int32 × (Nat → Int32)) => RW cs bd (va_up u 64 z.1) (va_up b 65 z.2) bw) A) A) 0 0 A := by
  refine Met.ofW (cc := cX12_brookStings) (maxL := 3) (ret := (some .int)) (by decide) rfl ?_
  intro p e s m args below meth c s₁ B hml hv
  obtain ⟨rfl, hP, hK, hD, hZ⟩ := hv
  have hx := B.exec
  have hb := B.bytes
  have hr := B.returns
  have hts := atoms_spec (ws := (Cond.code yX12_brookStings cX12_brookStings 3 (some .int) :: gw)) B.pre
  have hg : ∀ w ∈ gw, w.before ([.ref (bd 0), .int p1, .int p2] : List Value).toArray s = true := fun w h => hts w (List.mem_cons_of_mem _ h)
  have hown : s.vm.findClass RX12 = some m.cls := findClass_of_methodNamed B.named
  have hlocks := B.notSynchronized
  have hS : va_S A s.heap s.heap [] := va_S.rf
  have hP : va_P D vwCl (RW cs bd u b bw) s.heap := hP
  have hl := lv_entry ([.ref (bd 0), .int p1, .int p2]) (n := 3) (Nat.le_of_ble_eq_true rfl)
  rw [lg_entry_eq]
  generalize (lg_sl ([.ref (bd 0), .int p1, .int p2]) ++ List.replicate (3 - (lg_sl ([.ref (bd 0), .int p1, .int p2])).length) Slot.unset).toArray = ls at hl ⊢
  have hl : lv_has ls 3 [(0, .ref (bd 0)), (1, .int p1), (2, .int p2)] := hl
  refine lv_aload_n hx hb dX12_brookStings_0 rfl (lv_at hl 0 rfl) ?_
  refine lv_bipush (v := 30) hx hb dX12_brookStings_1 (by decide) ?_
  refine cV_v (As := [.int 30]) (rest := []) ⟨hx, hb, hml, hown, hg⟩ (k_X12_ran l D cs A bd u b bw  30 (show 0 ≤ (u 64).toInt by first | omega | decide) (show (u 64).toInt ≤ 23 by first | omega | decide) (show 0 ≤ (u 64).toInt by first | omega | decide) (show (u 64).toInt ≤ 1000 by first | omega | decide)) ca_X12_ran q7_55 ⟨rfl, rfl⟩ ⟨Nat.le_of_ble_eq_true rfl, Nat.le_of_ble_eq_true rfl⟩ (rc_model hK hP) hK hP hD hS hZ rfl hl.1 rfl (Nat.le_of_ble_eq_true rfl) ⟨Nat.zero_le _, Nat.zero_le _⟩ dX12_brookStings_3 (fun z_4 H locs wr_1 hP hD hS => ?_)
  obtain ⟨o_u64_2, o_b65_3⟩ := z_4
  have hP : va_P D vwCl (RW cs bd (va_up u 64 o_u64_2) (va_up b 65 o_b65_3) bw) H := hP
  have hD : va_D A (RW cs bd (va_up u 64 o_u64_2) (va_up b 65 o_b65_3) bw) := hD
  obtain ⟨wr_1_0, wr_1_1, wr_1_2, wr_1_3⟩ : (o_u64_2.toInt = (u 64).toInt + 1) ∧ (o_b65_3 = TRW (b 65) (u 64).toInt.toNat [(30 : Int32)]) ∧ (0 ≤ o_u64_2.toInt) ∧ (o_u64_2.toInt ≤ 1000) := wr_1
  have kt_5 : o_b65_3 = TRW (b 65) (u 64).toInt.toNat [30] := by rw [wr_1_1]
  refine lv_aload_n hx hb dX12_brookStings_6 rfl (lv_at hl 0 rfl) ?_
  refine lv_iload_n hx hb dX12_brookStings_7 rfl (lv_at hl 1 rfl) ?_
  refine lv_iload_n hx hb dX12_brookStings_8 rfl (lv_at hl 2 rfl) ?_
  refine cV_i (As := [.int p1, .int p2]) (rest := []) ⟨hx, hb, hml, hown, hg⟩ (k_X12_plainStings_6 l D cs A bd (va_up u 64 o_u64_2) (va_up b 65 o_b65_3) bw  p1 p2 hkn (show 0 ≤ p1.toInt by first | omega | decide) (show p1.toInt < 50 by first | omega | decide) (show 0 ≤ o_u64_2.toInt by first | omega | decide) (show o_u64_2.toInt ≤ 21 by first | omega | decide) (show 0 ≤ o_u64_2.toInt by first | omega | decide) (show o_u64_2.toInt ≤ 1000 by first | omega | decide) ib63_0) ca_X12_plainStings q7_75 ⟨rfl, rfl⟩ ⟨Nat.le_of_ble_eq_true rfl, Nat.le_of_ble_eq_true rfl⟩ (rc_model hK hP) hK hP hD hS hZ rfl hl.1 rfl (Nat.le_of_ble_eq_true rfl) ⟨Nat.zero_le _, Nat.zero_le _⟩ dX12_brookStings_9 (fun r_6 z_9 H locs wr_6 hP hD hS => ?_)
  obtain ⟨o_u64_7, o_b65_8⟩ := z_9
  have hP : va_P D vwCl (RW cs bd (va_up u 64 o_u64_7) (va_up b 65 o_b65_8) bw) H := hP
  have hD : va_D A (RW cs bd (va_up u 64 o_u64_7) (va_up b 65 o_b65_8) bw) := hD
  obtain ⟨wr_6_0, wr_6_1, wr_6_2, wr_6_3, wr_6_4⟩ : (o_u64_7.toInt = o_u64_2.toInt + 3) ∧ (o_b65_8 = TRW o_b65_3 o_u64_2.toInt.toNat [10, 70, 1]) ∧ (r_6 = (((p2 + p1) * 2) * 2)) ∧ (0 ≤ o_u64_7.toInt) ∧ (o_u64_7.toInt ≤ 1000) := wr_6
  have kt_10 : o_b65_8 = TRW (b 65) (u 64).toInt.toNat [30, 10, 70, 1] := by rw [wr_6_1, kt_5, show (o_u64_2).toInt.toNat = (u 64).toInt.toNat + 1 from by omega]; rfl
  refine lv_ineg hx hb dX12_brookStings_12 ?_
  refine lv_topi (fun x_11 ex_11 => ?_)
  exact W.iret (v := x_11) hx hb hr (fun tt ht hW => ⟨⟨x_11, ⟨o_u64_7, o_b65_8⟩, rfl, ⟨(by first | rfl | omega | trivial | assumption | (dsimp only; first | omega | assumption)), (by (try dsimp only); first | assumption | rfl), (by simp only [ex_11, wr_6_2]), (show 0 ≤ o_u64_7.toInt by first | omega | assumption), (show o_u64_7.toInt ≤ 1000 by first | omega | assumption)⟩, by rw [ht]; exact hP, hD⟩, hS.F ht⟩) hS.2.2 dX12_brookStings_13
set_option maxHeartbeats 4000000 in
set_option maxRecDepth 100000 in
theorem k_X12_settling_6 (l : Launch) (D : va_G) (cs : Nat → ClassId) (A : Nat → Prop) (bd : Nat → Nat) (u : Nat → Int32) (b : Nat → Nat → Int32) (bw : Nat → Nat → Int64)  (p1 : Int32) (p2 : Int32) (hkn : (b 63) p1.toNatClampNeg = 6) (h1 : 0 ≤ p1.toInt) (h2 : p1.toInt < 50) (hr0 : 0 ≤ (u 64).toInt) (hr1 : (u 64).toInt ≤ 23) (ib63_0 : AB 0 7 (b 63)) (iu64_0 : 0 ≤ (u 64).toInt) (iu64_1 : (u 64).toInt ≤ 1000) : Met l yX12_settling (Cond.code yX12_settling cX12_settling 4 (some .int) :: gw) ({ frames := 2, cells := 0, slots := 0, locals := 43 }) (va_Pc [.ref (bd 0), .int p1, .int p2] (XPre D (TY cs) (RW cs bd u b bw) A)) (va_Qi (fun (r : Int32) (z : Int32 × (Nat → Int32)) => (z.1.toInt = (u 64).toInt + 1) ∧ (z.2 = TRW (b 65) (u 64).toInt.toNat [11]) ∧ (r = (p2 ^^^ p1)) ∧ (0 ≤ z.1.toInt) ∧ (z.1.toInt ≤ 1000)) (XPo D (fun (z : Int32 × (Nat → Int32)) => RW cs bd (va_up u 64 z.1) (va_up b 65 z.2) bw) A) A) 0 0 A := by
  refine Met.ofW (cc := cX12_settling) (maxL := 4) (ret := (some .int)) (by decide) rfl ?_
  intro p e s m args below meth c s₁ B hml hv
  obtain ⟨rfl, hP, hK, hD, hZ⟩ := hv
  have hx := B.exec
  have hb := B.bytes
  have hr := B.returns
  have hts := atoms_spec (ws := (Cond.code yX12_settling cX12_settling 4 (some .int) :: gw)) B.pre
  have hg : ∀ w ∈ gw, w.before ([.ref (bd 0), .int p1, .int p2] : List Value).toArray s = true := fun w h => hts w (List.mem_cons_of_mem _ h)
  have hown : s.vm.findClass RX12 = some m.cls := findClass_of_methodNamed B.named
  have hlocks := B.notSynchronized
  have hS : va_S A s.heap s.heap [] := va_S.rf
  have hP : va_P D vwCl (RW cs bd u b bw) s.heap := hP
  have hl := lv_entry ([.ref (bd 0), .int p1, .int p2]) (n := 4) (Nat.le_of_ble_eq_true rfl)
  rw [lg_entry_eq]
  generalize (lg_sl ([.ref (bd 0), .int p1, .int p2]) ++ List.replicate (4 - (lg_sl ([.ref (bd 0), .int p1, .int p2])).length) Slot.unset).toArray = ls at hl ⊢
  have hl : lv_has ls 4 [(0, .ref (bd 0)), (1, .int p1), (2, .int p2)] := hl
  refine lv_aload_n hx hb dX12_settling_0 rfl (lv_at hl 0 rfl) ?_
  refine gr_kind hx hb hg hown hK hP (hg _ q5_55) dX12_settling_1 ?_
  refine lv_iload_n hx hb dX12_settling_4 rfl (lv_at hl 1 rfl) ?_
  refine lr_kind hx hb hK hP (i_in (by omega) (by omega)) dX12_settling_5 ?_
  refine lv_topi (fun x_1 ex_1 => ?_)
  have ex_1 : x_1 = (b 63) p1.toNatClampNeg := ex_1
  have hx_1 : x_1.toInt = ((b 63) p1.toNatClampNeg).toInt := by rw [ex_1]
  have bx_1 := ib63_0 p1.toNatClampNeg
  rw [← ex_1] at bx_1
  have fx_1 : x_1 = 6 := by rw [ex_1]; exact hkn
  subst fx_1
  refine lv_iconst (v := 5) hx hb dX12_settling_6 (by decide) ?_
  refine lv_icmp_ne (tgt := 32) hx hb dX12_settling_7 (by decide) (fun c_2 => ?_) (fun c_2 => absurd c_2 (by decide))
  refine lv_aload_n hx hb dX12_settling_32 rfl (lv_at hl 0 rfl) ?_
  refine gr_kind hx hb hg hown hK hP (hg _ q5_55) dX12_settling_33 ?_
  refine lv_iload_n hx hb dX12_settling_36 rfl (lv_at hl 1 rfl) ?_
  refine lr_kind hx hb hK hP (i_in (by omega) (by omega)) dX12_settling_37 ?_
  refine lv_topi (fun x_3 ex_3 => ?_)
  have ex_3 : x_3 = (b 63) p1.toNatClampNeg := ex_3
  have hx_3 : x_3.toInt = ((b 63) p1.toNatClampNeg).toInt := by rw [ex_3]
  have bx_3 := ib63_0 p1.toNatClampNeg
  rw [← ex_3] at bx_3
  have fx_3 : x_3 = 6 := by rw [ex_3]; exact hkn
  subst fx_3
  refine lv_iconst (v := 3) hx hb dX12_settling_38 (by decide) ?_
  refine lv_icmp_ne (tgt := 51) hx hb dX12_settling_39 (by decide) (fun c_4 => ?_) (fun c_4 => absurd c_4 (by decide))
  refine lv_aload_n hx hb dX12_settling_51 rfl (lv_at hl 0 rfl) ?_
  refine lv_iload_n hx hb dX12_settling_52 rfl (lv_at hl 1 rfl) ?_
  refine lv_iload_n hx hb dX12_settling_53 rfl (lv_at hl 2 rfl) ?_
  refine cV_i (As := [.int p1, .int p2]) (rest := []) ⟨hx, hb, hml, hown, hg⟩ (k_X12_plainSettles l D cs A bd u b bw  p1 p2 (show 0 ≤ (u 64).toInt by first | omega | decide) (show (u 64).toInt ≤ 23 by first | omega | decide) (show 0 ≤ (u 64).toInt by first | omega | decide) (show (u 64).toInt ≤ 1000 by first | omega | decide)) ca_X12_plainSettles q7_87 ⟨rfl, rfl⟩ ⟨Nat.le_of_ble_eq_true rfl, Nat.le_of_ble_eq_true rfl⟩ (rc_model hK hP) hK hP hD hS hZ rfl hl.1 rfl (Nat.le_of_ble_eq_true rfl) ⟨Nat.zero_le _, Nat.zero_le _⟩ dX12_settling_54 (fun r_5 z_8 H locs wr_5 hP hD hS => ?_)
  obtain ⟨o_u64_6, o_b65_7⟩ := z_8
  have hP : va_P D vwCl (RW cs bd (va_up u 64 o_u64_6) (va_up b 65 o_b65_7) bw) H := hP
  have hD : va_D A (RW cs bd (va_up u 64 o_u64_6) (va_up b 65 o_b65_7) bw) := hD
  obtain ⟨wr_5_0, wr_5_1, wr_5_2, wr_5_3, wr_5_4⟩ : (o_u64_6.toInt = (u 64).toInt + 1) ∧ (o_b65_7 = TRW (b 65) (u 64).toInt.toNat [11]) ∧ (r_5 = (p2 ^^^ p1)) ∧ (0 ≤ o_u64_6.toInt) ∧ (o_u64_6.toInt ≤ 1000) := wr_5
  have kt_9 : o_b65_7 = TRW (b 65) (u 64).toInt.toNat [11] := by rw [wr_5_1]
  exact W.iret (v := r_5) hx hb hr (fun tt ht hW => ⟨⟨r_5, ⟨o_u64_6, o_b65_7⟩, rfl, ⟨(by first | rfl | omega | trivial | assumption | (dsimp only; first | omega | assumption)), (by (try dsimp only); first | assumption | rfl), (by simp only [wr_5_2]), (show 0 ≤ o_u64_6.toInt by first | omega | assumption), (show o_u64_6.toInt ≤ 1000 by first | omega | assumption)⟩, by rw [ht]; exact hP, hD⟩, hS.F ht⟩) hS.2.2 dX12_settling_57
set_option maxHeartbeats 4000000 in
set_option maxRecDepth 100000 in
theorem k_X12_stinging_6 (l : Launch) (D : va_G) (cs : Nat → ClassId) (A : Nat → Prop) (bd : Nat → Nat) (u : Nat → Int32) (b : Nat → Nat → Int32) (bw : Nat → Nat → Int64)  (p1 : Int32) (p2 : Int32) (hkn : (b 63) p1.toNatClampNeg = 6) (h1 : 0 ≤ p1.toInt) (h2 : p1.toInt < 50) (hr0 : 0 ≤ (u 64).toInt) (hr1 : (u 64).toInt ≤ 21) (ib63_0 : AB 0 7 (b 63)) (iu64_0 : 0 ≤ (u 64).toInt) (iu64_1 : (u 64).toInt ≤ 1000) : Met l yX12_stinging (Cond.code yX12_stinging cX12_stinging 4 (some .int) :: gw) ({ frames := 5, cells := 0, slots := 0, locals := 109 }) (va_Pc [.ref (bd 0), .int p1, .int p2] (XPre D (TY cs) (RW cs bd u b bw) A)) (va_Qi (fun (r : Int32) (z : Int32 × (Nat → Int32)) => (z.1.toInt = (u 64).toInt + 3) ∧ (z.2 = TRW (b 65) (u 64).toInt.toNat [10, 70, 1]) ∧ (r = (((p2 + p1) * 2) * 2)) ∧ (0 ≤ z.1.toInt) ∧ (z.1.toInt ≤ 1000)) (XPo D (fun (z : Int32 × (Nat → Int32)) => RW cs bd (va_up u 64 z.1) (va_up b 65 z.2) bw) A) A) 0 0 A := by
  refine Met.ofW (cc := cX12_stinging) (maxL := 4) (ret := (some .int)) (by decide) rfl ?_
  intro p e s m args below meth c s₁ B hml hv
  obtain ⟨rfl, hP, hK, hD, hZ⟩ := hv
  have hx := B.exec
  have hb := B.bytes
  have hr := B.returns
  have hts := atoms_spec (ws := (Cond.code yX12_stinging cX12_stinging 4 (some .int) :: gw)) B.pre
  have hg : ∀ w ∈ gw, w.before ([.ref (bd 0), .int p1, .int p2] : List Value).toArray s = true := fun w h => hts w (List.mem_cons_of_mem _ h)
  have hown : s.vm.findClass RX12 = some m.cls := findClass_of_methodNamed B.named
  have hlocks := B.notSynchronized
  have hS : va_S A s.heap s.heap [] := va_S.rf
  have hP : va_P D vwCl (RW cs bd u b bw) s.heap := hP
  have hl := lv_entry ([.ref (bd 0), .int p1, .int p2]) (n := 4) (Nat.le_of_ble_eq_true rfl)
  rw [lg_entry_eq]
  generalize (lg_sl ([.ref (bd 0), .int p1, .int p2]) ++ List.replicate (4 - (lg_sl ([.ref (bd 0), .int p1, .int p2])).length) Slot.unset).toArray = ls at hl ⊢
  have hl : lv_has ls 4 [(0, .ref (bd 0)), (1, .int p1), (2, .int p2)] := hl
  refine lv_aload_n hx hb dX12_stinging_0 rfl (lv_at hl 0 rfl) ?_
  refine gr_kind hx hb hg hown hK hP (hg _ q5_55) dX12_stinging_1 ?_
  refine lv_iload_n hx hb dX12_stinging_4 rfl (lv_at hl 1 rfl) ?_
  refine lr_kind hx hb hK hP (i_in (by omega) (by omega)) dX12_stinging_5 ?_
  refine lv_topi (fun x_1 ex_1 => ?_)
  have ex_1 : x_1 = (b 63) p1.toNatClampNeg := ex_1
  have hx_1 : x_1.toInt = ((b 63) p1.toNatClampNeg).toInt := by rw [ex_1]
  have bx_1 := ib63_0 p1.toNatClampNeg
  rw [← ex_1] at bx_1
  have fx_1 : x_1 = 6 := by rw [ex_1]; exact hkn
  subst fx_1
  refine lv_iconst (v := 3) hx hb dX12_stinging_6 (by decide) ?_
  refine cS_p (As := [.int 6, .int 3]) (rest := []) ⟨hx, hb, hml, hown, hg⟩ (k_RU_6_3 l    ) ca_X12_isUnder q7_52 ⟨rfl, rfl⟩ ⟨Nat.le_of_ble_eq_true rfl, Nat.le_of_ble_eq_true rfl⟩ rfl hl.1 rfl (Nat.le_of_ble_eq_true rfl) ⟨Nat.zero_le _, Nat.zero_le _⟩ dX12_stinging_7 (fun r_2 wr_2 => ?_)
  have wr_2 : r_2.toInt = 0 := wr_2
  refine lv_if_eq (tgt := 28) hx hb dX12_stinging_10 (by decide) (fun c_3 => ?_) (fun c_3 => ?_)
  ·
    have kc_3 : r_2.toInt = (0 : Int) := i_eq c_3
    refine lv_aload_n hx hb dX12_stinging_28 rfl (lv_at hl 0 rfl) ?_
    refine gr_kind hx hb hg hown hK hP (hg _ q5_55) dX12_stinging_29 ?_
    refine lv_iload_n hx hb dX12_stinging_32 rfl (lv_at hl 1 rfl) ?_
    refine lr_kind hx hb hK hP (i_in (by omega) (by omega)) dX12_stinging_33 ?_
    refine lv_topi (fun x_4 ex_4 => ?_)
    have ex_4 : x_4 = (b 63) p1.toNatClampNeg := ex_4
    have hx_4 : x_4.toInt = ((b 63) p1.toNatClampNeg).toInt := by rw [ex_4]
    have bx_4 := ib63_0 p1.toNatClampNeg
    rw [← ex_4] at bx_4
    have fx_4 : x_4 = 6 := by rw [ex_4]; exact hkn
    subst fx_4
    refine lv_bipush (v := 7) hx hb dX12_stinging_34 (by decide) ?_
    refine lv_icmp_ne (tgt := 61) hx hb dX12_stinging_36 (by decide) (fun c_5 => ?_) (fun c_5 => absurd c_5 (by decide))
    refine lv_aload_n hx hb dX12_stinging_61 rfl (lv_at hl 0 rfl) ?_
    refine gr_kind hx hb hg hown hK hP (hg _ q5_55) dX12_stinging_62 ?_
    refine lv_iload_n hx hb dX12_stinging_65 rfl (lv_at hl 1 rfl) ?_
    refine lr_kind hx hb hK hP (i_in (by omega) (by omega)) dX12_stinging_66 ?_
    refine lv_topi (fun x_6 ex_6 => ?_)
    have ex_6 : x_6 = (b 63) p1.toNatClampNeg := ex_6
    have hx_6 : x_6.toInt = ((b 63) p1.toNatClampNeg).toInt := by rw [ex_6]
    have bx_6 := ib63_0 p1.toNatClampNeg
    rw [← ex_6] at bx_6
    have fx_6 : x_6 = 6 := by rw [ex_6]; exact hkn
    subst fx_6
    refine lv_iconst (v := 2) hx hb dX12_stinging_67 (by decide) ?_
    refine lv_icmp_ne (tgt := 80) hx hb dX12_stinging_68 (by decide) (fun c_7 => ?_) (fun c_7 => absurd c_7 (by decide))
    refine lv_aload_n hx hb dX12_stinging_80 rfl (lv_at hl 0 rfl) ?_
    refine lv_iload_n hx hb dX12_stinging_81 rfl (lv_at hl 1 rfl) ?_
    refine lv_iload_n hx hb dX12_stinging_82 rfl (lv_at hl 2 rfl) ?_
    refine cV_i (As := [.int p1, .int p2]) (rest := []) ⟨hx, hb, hml, hown, hg⟩ (k_X12_plainStings_6 l D cs A bd u b bw  p1 p2 hkn (show 0 ≤ p1.toInt by first | omega | decide) (show p1.toInt < 50 by first | omega | decide) (show 0 ≤ (u 64).toInt by first | omega | decide) (show (u 64).toInt ≤ 21 by first | omega | decide) (show 0 ≤ (u 64).toInt by first | omega | decide) (show (u 64).toInt ≤ 1000 by first | omega | decide) ib63_0) ca_X12_plainStings q7_75 ⟨rfl, rfl⟩ ⟨Nat.le_of_ble_eq_true rfl, Nat.le_of_ble_eq_true rfl⟩ (rc_model hK hP) hK hP hD hS hZ rfl hl.1 rfl (Nat.le_of_ble_eq_true rfl) ⟨Nat.zero_le _, Nat.zero_le _⟩ dX12_stinging_83 (fun r_8 z_11 H locs wr_8 hP hD hS => ?_)
    obtain ⟨o_u64_9, o_b65_10⟩ := z_11
    have hP : va_P D vwCl (RW cs bd (va_up u 64 o_u64_9) (va_up b 65 o_b65_10) bw) H := hP
    have hD : va_D A (RW cs bd (va_up u 64 o_u64_9) (va_up b 65 o_b65_10) bw) := hD
    obtain ⟨wr_8_0, wr_8_1, wr_8_2, wr_8_3, wr_8_4⟩ : (o_u64_9.toInt = (u 64).toInt + 3) ∧ (o_b65_10 = TRW (b 65) (u 64).toInt.toNat [10, 70, 1]) ∧ (r_8 = (((p2 + p1) * 2) * 2)) ∧ (0 ≤ o_u64_9.toInt) ∧ (o_u64_9.toInt ≤ 1000) := wr_8
    have kt_12 : o_b65_10 = TRW (b 65) (u 64).toInt.toNat [10, 70, 1] := by rw [wr_8_1]
    exact W.iret (v := r_8) hx hb hr (fun tt ht hW => ⟨⟨r_8, ⟨o_u64_9, o_b65_10⟩, rfl, ⟨(by first | rfl | omega | trivial | assumption | (dsimp only; first | omega | assumption)), (by (try dsimp only); first | assumption | rfl), (by simp only [wr_8_2]), (show 0 ≤ o_u64_9.toInt by first | omega | assumption), (show o_u64_9.toInt ≤ 1000 by first | omega | assumption)⟩, by rw [ht]; exact hP, hD⟩, hS.F ht⟩) hS.2.2 dX12_stinging_86
  ·
    have kc_3 : r_2.toInt ≠ (0 : Int) := i_ne c_3
    exfalso; omega
set_option maxHeartbeats 4000000 in
set_option maxRecDepth 100000 in
theorem k_X12_plainTells_6 (l : Launch) (D : va_G) (cs : Nat → ClassId) (A : Nat → Prop) (bd : Nat → Nat) (u : Nat → Int32) (b : Nat → Nat → Int32) (bw : Nat → Nat → Int64)  (p1 : Int32) (p2 : Int32) (hkn : (b 63) p1.toNatClampNeg = 6) (h1 : 0 ≤ p1.toInt) (h2 : p1.toInt < 50) (hr0 : 0 ≤ (u 64).toInt) (hr1 : (u 64).toInt ≤ 19) (iu64_0 : 0 ≤ (u 64).toInt) (iu64_1 : (u 64).toInt ≤ 1000) (ib63_0 : AB 0 7 (b 63)) : Met l yX12_plainTells (Cond.code yX12_plainTells cX12_plainTells 4 (some .int) :: gw) ({ frames := 6, cells := 0, slots := 0, locals := 132 }) (va_Pc [.ref (bd 0), .int p1, .int p2] (XPre D (TY cs) (RW cs bd u b bw) A)) (va_Qi (fun (r : Int32) (z : Int32 × (Nat → Int32)) => (z.1.toInt = (u 64).toInt + 5) ∧ (z.2 = TRW (b 65) (u 64).toInt.toNat [2, 10, 70, 1, 11]) ∧ (r = ((((p2 + p1) * 2) * 2) - ((1 : Int32) ^^^ p1))) ∧ (0 ≤ z.1.toInt) ∧ (z.1.toInt ≤ 1000)) (XPo D (fun (z : Int32 × (Nat → Int32)) => RW cs bd (va_up u 64 z.1) (va_up b 65 z.2) bw) A) A) 0 0 A := by
  refine Met.ofW (cc := cX12_plainTells) (maxL := 4) (ret := (some .int)) (by decide) rfl ?_
  intro p e s m args below meth c s₁ B hml hv
  obtain ⟨rfl, hP, hK, hD, hZ⟩ := hv
  have hx := B.exec
  have hb := B.bytes
  have hr := B.returns
  have hts := atoms_spec (ws := (Cond.code yX12_plainTells cX12_plainTells 4 (some .int) :: gw)) B.pre
  have hg : ∀ w ∈ gw, w.before ([.ref (bd 0), .int p1, .int p2] : List Value).toArray s = true := fun w h => hts w (List.mem_cons_of_mem _ h)
  have hown : s.vm.findClass RX12 = some m.cls := findClass_of_methodNamed B.named
  have hlocks := B.notSynchronized
  have hS : va_S A s.heap s.heap [] := va_S.rf
  have hP : va_P D vwCl (RW cs bd u b bw) s.heap := hP
  have hl := lv_entry ([.ref (bd 0), .int p1, .int p2]) (n := 4) (Nat.le_of_ble_eq_true rfl)
  rw [lg_entry_eq]
  generalize (lg_sl ([.ref (bd 0), .int p1, .int p2]) ++ List.replicate (4 - (lg_sl ([.ref (bd 0), .int p1, .int p2])).length) Slot.unset).toArray = ls at hl ⊢
  have hl : lv_has ls 4 [(0, .ref (bd 0)), (1, .int p1), (2, .int p2)] := hl
  refine lv_aload_n hx hb dX12_plainTells_0 rfl (lv_at hl 0 rfl) ?_
  refine lv_iconst (v := 2) hx hb dX12_plainTells_1 (by decide) ?_
  refine cV_v (As := [.int 2]) (rest := []) ⟨hx, hb, hml, hown, hg⟩ (k_X12_ran l D cs A bd u b bw  2 (show 0 ≤ (u 64).toInt by first | omega | decide) (show (u 64).toInt ≤ 23 by first | omega | decide) (show 0 ≤ (u 64).toInt by first | omega | decide) (show (u 64).toInt ≤ 1000 by first | omega | decide)) ca_X12_ran q7_55 ⟨rfl, rfl⟩ ⟨Nat.le_of_ble_eq_true rfl, Nat.le_of_ble_eq_true rfl⟩ (rc_model hK hP) hK hP hD hS hZ rfl hl.1 rfl (Nat.le_of_ble_eq_true rfl) ⟨Nat.zero_le _, Nat.zero_le _⟩ dX12_plainTells_2 (fun z_4 H locs wr_1 hP hD hS => ?_)
  obtain ⟨o_u64_2, o_b65_3⟩ := z_4
  have hP : va_P D vwCl (RW cs bd (va_up u 64 o_u64_2) (va_up b 65 o_b65_3) bw) H := hP
  have hD : va_D A (RW cs bd (va_up u 64 o_u64_2) (va_up b 65 o_b65_3) bw) := hD
  obtain ⟨wr_1_0, wr_1_1, wr_1_2, wr_1_3⟩ : (o_u64_2.toInt = (u 64).toInt + 1) ∧ (o_b65_3 = TRW (b 65) (u 64).toInt.toNat [(2 : Int32)]) ∧ (0 ≤ o_u64_2.toInt) ∧ (o_u64_2.toInt ≤ 1000) := wr_1
  have kt_5 : o_b65_3 = TRW (b 65) (u 64).toInt.toNat [2] := by rw [wr_1_1]
  refine lv_aload_n hx hb dX12_plainTells_5 rfl (lv_at hl 0 rfl) ?_
  refine lv_iload_n hx hb dX12_plainTells_6 rfl (lv_at hl 1 rfl) ?_
  refine lv_iload_n hx hb dX12_plainTells_7 rfl (lv_at hl 2 rfl) ?_
  refine cV_i (As := [.int p1, .int p2]) (rest := []) ⟨hx, hb, hml, hown, hg⟩ (k_X12_stinging_6 l D cs A bd (va_up u 64 o_u64_2) (va_up b 65 o_b65_3) bw  p1 p2 hkn (show 0 ≤ p1.toInt by first | omega | decide) (show p1.toInt < 50 by first | omega | decide) (show 0 ≤ o_u64_2.toInt by first | omega | decide) (show o_u64_2.toInt ≤ 21 by first | omega | decide) ib63_0 (show 0 ≤ o_u64_2.toInt by first | omega | decide) (show o_u64_2.toInt ≤ 1000 by first | omega | decide)) ca_X12_stinging q7_67 ⟨rfl, rfl⟩ ⟨Nat.le_of_ble_eq_true rfl, Nat.le_of_ble_eq_true rfl⟩ (rc_model hK hP) hK hP hD hS hZ rfl hl.1 rfl (Nat.le_of_ble_eq_true rfl) ⟨Nat.zero_le _, Nat.zero_le _⟩ dX12_plainTells_8 (fun r_6 z_9 H locs wr_6 hP hD hS => ?_)
  obtain ⟨o_u64_7, o_b65_8⟩ := z_9
  have hP : va_P D vwCl (RW cs bd (va_up u 64 o_u64_7) (va_up b 65 o_b65_8) bw) H := hP
  have hD : va_D A (RW cs bd (va_up u 64 o_u64_7) (va_up b 65 o_b65_8) bw) := hD
  obtain ⟨wr_6_0, wr_6_1, wr_6_2, wr_6_3, wr_6_4⟩ : (o_u64_7.toInt = o_u64_2.toInt + 3) ∧ (o_b65_8 = TRW o_b65_3 o_u64_2.toInt.toNat [10, 70, 1]) ∧ (r_6 = (((p2 + p1) * 2) * 2)) ∧ (0 ≤ o_u64_7.toInt) ∧ (o_u64_7.toInt ≤ 1000) := wr_6
  have kt_10 : o_b65_8 = TRW (b 65) (u 64).toInt.toNat [2, 10, 70, 1] := by rw [wr_6_1, kt_5, show (o_u64_2).toInt.toNat = (u 64).toInt.toNat + 1 from by omega]; rfl
  refine lv_istore_n (lv' := [(3, .int r_6), (0, .ref (bd 0)), (1, .int p1), (2, .int p2)]) hx hb dX12_plainTells_11 rfl hl (by decide) rfl (fun ls hl => ?_)
  refine lv_iload_n hx hb dX12_plainTells_12 rfl (lv_at hl 0 rfl) ?_
  refine lv_aload_n hx hb dX12_plainTells_13 rfl (lv_at hl 1 rfl) ?_
  refine lv_iload_n hx hb dX12_plainTells_14 rfl (lv_at hl 2 rfl) ?_
  refine lv_iconst (v := 1) hx hb dX12_plainTells_15 (by decide) ?_
  refine cV_i (As := [.int p1, .int 1]) (rest := [.int r_6]) ⟨hx, hb, hml, hown, hg⟩ (k_X12_settling_6 l D cs A bd (va_up u 64 o_u64_7) (va_up b 65 o_b65_8) bw  p1 1 hkn (show 0 ≤ p1.toInt by first | omega | decide) (show p1.toInt < 50 by first | omega | decide) (show 0 ≤ o_u64_7.toInt by first | omega | decide) (show o_u64_7.toInt ≤ 23 by first | omega | decide) ib63_0 (show 0 ≤ o_u64_7.toInt by first | omega | decide) (show o_u64_7.toInt ≤ 1000 by first | omega | decide)) ca_X12_settling q7_79 ⟨rfl, rfl⟩ ⟨Nat.le_of_ble_eq_true rfl, Nat.le_of_ble_eq_true rfl⟩ (rc_model hK hP) hK hP hD hS hZ rfl hl.1 rfl (Nat.le_of_ble_eq_true rfl) ⟨Nat.zero_le _, Nat.zero_le _⟩ dX12_plainTells_16 (fun r_11 z_14 H locs wr_11 hP hD hS => ?_)
  obtain ⟨o_u64_12, o_b65_13⟩ := z_14
  have hP : va_P D vwCl (RW cs bd (va_up u 64 o_u64_12) (va_up b 65 o_b65_13) bw) H := hP
  have hD : va_D A (RW cs bd (va_up u 64 o_u64_12) (va_up b 65 o_b65_13) bw) := hD
  obtain ⟨wr_11_0, wr_11_1, wr_11_2, wr_11_3, wr_11_4⟩ : (o_u64_12.toInt = o_u64_7.toInt + 1) ∧ (o_b65_13 = TRW o_b65_8 o_u64_7.toInt.toNat [11]) ∧ (r_11 = ((1 : Int32) ^^^ p1)) ∧ (0 ≤ o_u64_12.toInt) ∧ (o_u64_12.toInt ≤ 1000) := wr_11
  have kt_15 : o_b65_13 = TRW (b 65) (u 64).toInt.toNat [2, 10, 70, 1, 11] := by rw [wr_11_1, kt_10, show (o_u64_7).toInt.toNat = (u 64).toInt.toNat + 4 from by omega]; rfl
  refine lv_isub hx hb dX12_plainTells_19 ?_
  refine lv_topi (fun x_16 ex_16 => ?_)
  exact W.iret (v := x_16) hx hb hr (fun tt ht hW => ⟨⟨x_16, ⟨o_u64_12, o_b65_13⟩, rfl, ⟨(by first | rfl | omega | trivial | assumption | (dsimp only; first | omega | assumption)), (by (try dsimp only); first | assumption | rfl), (by simp only [ex_16, wr_11_2, wr_6_2]), (show 0 ≤ o_u64_12.toInt by first | omega | assumption), (show o_u64_12.toInt ≤ 1000 by first | omega | assumption)⟩, by rw [ht]; exact hP, hD⟩, hS.F ht⟩) hS.2.2 dX12_plainTells_20
set_option maxHeartbeats 4000000 in
set_option maxRecDepth 100000 in
theorem k_X12_telling_6 (l : Launch) (D : va_G) (cs : Nat → ClassId) (A : Nat → Prop) (bd : Nat → Nat) (u : Nat → Int32) (b : Nat → Nat → Int32) (bw : Nat → Nat → Int64)  (p1 : Int32) (p2 : Int32) (hkn : (b 63) p1.toNatClampNeg = 6) (h1 : 0 ≤ p1.toInt) (h2 : p1.toInt < 50) (hr0 : 0 ≤ (u 64).toInt) (hr1 : (u 64).toInt ≤ 19) (ib63_0 : AB 0 7 (b 63)) (iu64_0 : 0 ≤ (u 64).toInt) (iu64_1 : (u 64).toInt ≤ 1000) : Met l yX12_telling (Cond.code yX12_telling cX12_telling 3 (some .int) :: gw) ({ frames := 7, cells := 0, slots := 0, locals := 155 }) (va_Pc [.ref (bd 0), .int p1, .int p2] (XPre D (TY cs) (RW cs bd u b bw) A)) (va_Qi (fun (r : Int32) (z : Int32 × (Nat → Int32)) => (z.1.toInt = (u 64).toInt + 5) ∧ (z.2 = TRW (b 65) (u 64).toInt.toNat [2, 10, 70, 1, 11]) ∧ (r = ((((p2 + p1) * 2) * 2) - ((1 : Int32) ^^^ p1))) ∧ (0 ≤ z.1.toInt) ∧ (z.1.toInt ≤ 1000)) (XPo D (fun (z : Int32 × (Nat → Int32)) => RW cs bd (va_up u 64 z.1) (va_up b 65 z.2) bw) A) A) 0 0 A := by
  refine Met.ofW (cc := cX12_telling) (maxL := 3) (ret := (some .int)) (by decide) rfl ?_
  intro p e s m args below meth c s₁ B hml hv
  obtain ⟨rfl, hP, hK, hD, hZ⟩ := hv
  have hx := B.exec
  have hb := B.bytes
  have hr := B.returns
  have hts := atoms_spec (ws := (Cond.code yX12_telling cX12_telling 3 (some .int) :: gw)) B.pre
  have hg : ∀ w ∈ gw, w.before ([.ref (bd 0), .int p1, .int p2] : List Value).toArray s = true := fun w h => hts w (List.mem_cons_of_mem _ h)
  have hown : s.vm.findClass RX12 = some m.cls := findClass_of_methodNamed B.named
  have hlocks := B.notSynchronized
  have hS : va_S A s.heap s.heap [] := va_S.rf
  have hP : va_P D vwCl (RW cs bd u b bw) s.heap := hP
  have hl := lv_entry ([.ref (bd 0), .int p1, .int p2]) (n := 3) (Nat.le_of_ble_eq_true rfl)
  rw [lg_entry_eq]
  generalize (lg_sl ([.ref (bd 0), .int p1, .int p2]) ++ List.replicate (3 - (lg_sl ([.ref (bd 0), .int p1, .int p2])).length) Slot.unset).toArray = ls at hl ⊢
  have hl : lv_has ls 3 [(0, .ref (bd 0)), (1, .int p1), (2, .int p2)] := hl
  refine lv_aload_n hx hb dX12_telling_0 rfl (lv_at hl 0 rfl) ?_
  refine gr_kind hx hb hg hown hK hP (hg _ q5_55) dX12_telling_1 ?_
  refine lv_iload_n hx hb dX12_telling_4 rfl (lv_at hl 1 rfl) ?_
  refine lr_kind hx hb hK hP (i_in (by omega) (by omega)) dX12_telling_5 ?_
  refine lv_topi (fun x_1 ex_1 => ?_)
  have ex_1 : x_1 = (b 63) p1.toNatClampNeg := ex_1
  have hx_1 : x_1.toInt = ((b 63) p1.toNatClampNeg).toInt := by rw [ex_1]
  have bx_1 := ib63_0 p1.toNatClampNeg
  rw [← ex_1] at bx_1
  have fx_1 : x_1 = 6 := by rw [ex_1]; exact hkn
  subst fx_1
  refine lv_iconst (v := 4) hx hb dX12_telling_6 (by decide) ?_
  refine lv_icmp_ne (tgt := 25) hx hb dX12_telling_7 (by decide) (fun c_2 => ?_) (fun c_2 => absurd c_2 (by decide))
  refine lv_aload_n hx hb dX12_telling_25 rfl (lv_at hl 0 rfl) ?_
  refine gr_kind hx hb hg hown hK hP (hg _ q5_55) dX12_telling_26 ?_
  refine lv_iload_n hx hb dX12_telling_29 rfl (lv_at hl 1 rfl) ?_
  refine lr_kind hx hb hK hP (i_in (by omega) (by omega)) dX12_telling_30 ?_
  refine lv_topi (fun x_3 ex_3 => ?_)
  have ex_3 : x_3 = (b 63) p1.toNatClampNeg := ex_3
  have hx_3 : x_3.toInt = ((b 63) p1.toNatClampNeg).toInt := by rw [ex_3]
  have bx_3 := ib63_0 p1.toNatClampNeg
  rw [← ex_3] at bx_3
  have fx_3 : x_3 = 6 := by rw [ex_3]; exact hkn
  subst fx_3
  refine lv_iconst (v := 5) hx hb dX12_telling_31 (by decide) ?_
  refine lv_icmp_ne (tgt := 50) hx hb dX12_telling_32 (by decide) (fun c_4 => ?_) (fun c_4 => absurd c_4 (by decide))
  refine lv_aload_n hx hb dX12_telling_50 rfl (lv_at hl 0 rfl) ?_
  refine lv_iload_n hx hb dX12_telling_51 rfl (lv_at hl 1 rfl) ?_
  refine lv_iload_n hx hb dX12_telling_52 rfl (lv_at hl 2 rfl) ?_
  refine cV_i (As := [.int p1, .int p2]) (rest := []) ⟨hx, hb, hml, hown, hg⟩ (k_X12_plainTells_6 l D cs A bd u b bw  p1 p2 hkn (show 0 ≤ p1.toInt by first | omega | decide) (show p1.toInt < 50 by first | omega | decide) (show 0 ≤ (u 64).toInt by first | omega | decide) (show (u 64).toInt ≤ 19 by first | omega | decide) (show 0 ≤ (u 64).toInt by first | omega | decide) (show (u 64).toInt ≤ 1000 by first | omega | decide) ib63_0) ca_X12_plainTells q7_95 ⟨rfl, rfl⟩ ⟨Nat.le_of_ble_eq_true rfl, Nat.le_of_ble_eq_true rfl⟩ (rc_model hK hP) hK hP hD hS hZ rfl hl.1 rfl (Nat.le_of_ble_eq_true rfl) ⟨Nat.zero_le _, Nat.zero_le _⟩ dX12_telling_53 (fun r_5 z_8 H locs wr_5 hP hD hS => ?_)
  obtain ⟨o_u64_6, o_b65_7⟩ := z_8
  have hP : va_P D vwCl (RW cs bd (va_up u 64 o_u64_6) (va_up b 65 o_b65_7) bw) H := hP
  have hD : va_D A (RW cs bd (va_up u 64 o_u64_6) (va_up b 65 o_b65_7) bw) := hD
  obtain ⟨wr_5_0, wr_5_1, wr_5_2, wr_5_3, wr_5_4⟩ : (o_u64_6.toInt = (u 64).toInt + 5) ∧ (o_b65_7 = TRW (b 65) (u 64).toInt.toNat [2, 10, 70, 1, 11]) ∧ (r_5 = ((((p2 + p1) * 2) * 2) - ((1 : Int32) ^^^ p1))) ∧ (0 ≤ o_u64_6.toInt) ∧ (o_u64_6.toInt ≤ 1000) := wr_5
  have kt_9 : o_b65_7 = TRW (b 65) (u 64).toInt.toNat [2, 10, 70, 1, 11] := by rw [wr_5_1]
  exact W.iret (v := r_5) hx hb hr (fun tt ht hW => ⟨⟨r_5, ⟨o_u64_6, o_b65_7⟩, rfl, ⟨(by first | rfl | omega | trivial | assumption | (dsimp only; first | omega | assumption)), (by (try dsimp only); first | assumption | rfl), (by simp only [wr_5_2]), (show 0 ≤ o_u64_6.toInt by first | omega | assumption), (show o_u64_6.toInt ≤ 1000 by first | omega | assumption)⟩, by rw [ht]; exact hP, hD⟩, hS.F ht⟩) hS.2.2 dX12_telling_56
set_option maxHeartbeats 4000000 in
set_option maxRecDepth 100000 in
theorem k_RU_7_1 (l : Launch)     : Met l yX12_isUnder (Cond.code yX12_isUnder cX12_isUnder 2 (some .boolean) :: gw) ({ frames := 0, cells := 0, slots := 0, locals := 0 }) (fun v _ => v = ([.int 7, .int 1] : List Value).toArray) (vp_Si (fun (r : Int32) => r.toInt = 0)) 0 0 (fun _ => False) := by
  refine Met.ofW (cc := cX12_isUnder) (maxL := 2) (ret := (some .boolean)) (by decide) rfl ?_
  intro p e s m args below meth c s₁ B hml hv
  subst hv
  have hx := B.exec
  have hb := B.bytes
  have hr := B.returns
  have hts := atoms_spec (ws := (Cond.code yX12_isUnder cX12_isUnder 2 (some .boolean) :: gw)) B.pre
  have hg : ∀ w ∈ gw, w.before ([.int 7, .int 1] : List Value).toArray s = true := fun w h => hts w (List.mem_cons_of_mem _ h)
  have hown : s.vm.findClass RX12 = some m.cls := findClass_of_methodNamed B.named
  have hlocks := B.notSynchronized
  have hl := lv_entry ([.int 7, .int 1]) (n := 2) (Nat.le_of_ble_eq_true rfl)
  rw [lg_entry_eq]
  generalize (lg_sl ([.int 7, .int 1]) ++ List.replicate (2 - (lg_sl ([.int 7, .int 1])).length) Slot.unset).toArray = ls at hl ⊢
  have hl : lv_has ls 2 [(0, .int 7), (1, .int 1)] := hl
  refine lv_iload_n hx hb dX12_isUnder_0 rfl (lv_at hl 1 rfl) ?_
  refine lv_if_eq (tgt := 56) hx hb dX12_isUnder_1 (by decide) (fun c_1 => absurd c_1 (by decide)) (fun c_1 => ?_)
  refine lv_iload_n hx hb dX12_isUnder_4 rfl (lv_at hl 0 rfl) ?_
  refine lv_iload_n hx hb dX12_isUnder_5 rfl (lv_at hl 1 rfl) ?_
  refine lv_icmp_eq (tgt := 56) hx hb dX12_isUnder_6 (by decide) (fun c_2 => absurd c_2 (by decide)) (fun c_2 => ?_)
  refine lv_iload_n hx hb dX12_isUnder_9 rfl (lv_at hl 1 rfl) ?_
  refine lv_iconst (v := 1) hx hb dX12_isUnder_10 (by decide) ?_
  refine lv_icmp_ne (tgt := 19) hx hb dX12_isUnder_11 (by decide) (fun c_3 => absurd c_3 (by decide)) (fun c_3 => ?_)
  refine lv_iload_n hx hb dX12_isUnder_14 rfl (lv_at hl 0 rfl) ?_
  refine lv_iconst (v := 4) hx hb dX12_isUnder_15 (by decide) ?_
  refine lv_icmp_eq (tgt := 56) hx hb dX12_isUnder_16 (by decide) (fun c_4 => absurd c_4 (by decide)) (fun c_4 => ?_)
  refine lv_iload_n hx hb dX12_isUnder_19 rfl (lv_at hl 1 rfl) ?_
  refine lv_iconst (v := 2) hx hb dX12_isUnder_20 (by decide) ?_
  refine lv_icmp_ne (tgt := 34) hx hb dX12_isUnder_21 (by decide) (fun c_5 => ?_) (fun c_5 => absurd c_5 (by decide))
  refine lv_iload_n hx hb dX12_isUnder_34 rfl (lv_at hl 1 rfl) ?_
  refine lv_iconst (v := 3) hx hb dX12_isUnder_35 (by decide) ?_
  refine lv_icmp_ne (tgt := 44) hx hb dX12_isUnder_36 (by decide) (fun c_6 => ?_) (fun c_6 => absurd c_6 (by decide))
  refine lv_iload_n hx hb dX12_isUnder_44 rfl (lv_at hl 1 rfl) ?_
  refine lv_bipush (v := 6) hx hb dX12_isUnder_45 (by decide) ?_
  refine lv_icmp_ne (tgt := 60) hx hb dX12_isUnder_47 (by decide) (fun c_7 => ?_) (fun c_7 => absurd c_7 (by decide))
  refine lv_iconst (v := 0) hx hb dX12_isUnder_60 (by decide) ?_
  have q0_0 : (0 : Int32).toInt = 0 := rfl
  exact W.zret (v := 0) hx hb hr rfl (fun tt ht hW => ⟨0, rfl, (by first | rfl | omega | trivial | assumption | (dsimp only; first | omega | assumption)), ht⟩) (fun _ h => by cases h) dX12_isUnder_61
set_option maxHeartbeats 4000000 in
set_option maxRecDepth 100000 in
theorem k_RU_7_3 (l : Launch)     : Met l yX12_isUnder (Cond.code yX12_isUnder cX12_isUnder 2 (some .boolean) :: gw) ({ frames := 0, cells := 0, slots := 0, locals := 0 }) (fun v _ => v = ([.int 7, .int 3] : List Value).toArray) (vp_Si (fun (r : Int32) => r.toInt = 0)) 0 0 (fun _ => False) := by
  refine Met.ofW (cc := cX12_isUnder) (maxL := 2) (ret := (some .boolean)) (by decide) rfl ?_
  intro p e s m args below meth c s₁ B hml hv
  subst hv
  have hx := B.exec
  have hb := B.bytes
  have hr := B.returns
  have hts := atoms_spec (ws := (Cond.code yX12_isUnder cX12_isUnder 2 (some .boolean) :: gw)) B.pre
  have hg : ∀ w ∈ gw, w.before ([.int 7, .int 3] : List Value).toArray s = true := fun w h => hts w (List.mem_cons_of_mem _ h)
  have hown : s.vm.findClass RX12 = some m.cls := findClass_of_methodNamed B.named
  have hlocks := B.notSynchronized
  have hl := lv_entry ([.int 7, .int 3]) (n := 2) (Nat.le_of_ble_eq_true rfl)
  rw [lg_entry_eq]
  generalize (lg_sl ([.int 7, .int 3]) ++ List.replicate (2 - (lg_sl ([.int 7, .int 3])).length) Slot.unset).toArray = ls at hl ⊢
  have hl : lv_has ls 2 [(0, .int 7), (1, .int 3)] := hl
  refine lv_iload_n hx hb dX12_isUnder_0 rfl (lv_at hl 1 rfl) ?_
  refine lv_if_eq (tgt := 56) hx hb dX12_isUnder_1 (by decide) (fun c_1 => absurd c_1 (by decide)) (fun c_1 => ?_)
  refine lv_iload_n hx hb dX12_isUnder_4 rfl (lv_at hl 0 rfl) ?_
  refine lv_iload_n hx hb dX12_isUnder_5 rfl (lv_at hl 1 rfl) ?_
  refine lv_icmp_eq (tgt := 56) hx hb dX12_isUnder_6 (by decide) (fun c_2 => absurd c_2 (by decide)) (fun c_2 => ?_)
  refine lv_iload_n hx hb dX12_isUnder_9 rfl (lv_at hl 1 rfl) ?_
  refine lv_iconst (v := 1) hx hb dX12_isUnder_10 (by decide) ?_
  refine lv_icmp_ne (tgt := 19) hx hb dX12_isUnder_11 (by decide) (fun c_3 => ?_) (fun c_3 => absurd c_3 (by decide))
  refine lv_iload_n hx hb dX12_isUnder_19 rfl (lv_at hl 1 rfl) ?_
  refine lv_iconst (v := 2) hx hb dX12_isUnder_20 (by decide) ?_
  refine lv_icmp_ne (tgt := 34) hx hb dX12_isUnder_21 (by decide) (fun c_4 => ?_) (fun c_4 => absurd c_4 (by decide))
  refine lv_iload_n hx hb dX12_isUnder_34 rfl (lv_at hl 1 rfl) ?_
  refine lv_iconst (v := 3) hx hb dX12_isUnder_35 (by decide) ?_
  refine lv_icmp_ne (tgt := 44) hx hb dX12_isUnder_36 (by decide) (fun c_5 => absurd c_5 (by decide)) (fun c_5 => ?_)
  refine lv_iload_n hx hb dX12_isUnder_39 rfl (lv_at hl 0 rfl) ?_
  refine lv_iconst (v := 5) hx hb dX12_isUnder_40 (by decide) ?_
  refine lv_icmp_eq (tgt := 56) hx hb dX12_isUnder_41 (by decide) (fun c_6 => absurd c_6 (by decide)) (fun c_6 => ?_)
  refine lv_iload_n hx hb dX12_isUnder_44 rfl (lv_at hl 1 rfl) ?_
  refine lv_bipush (v := 6) hx hb dX12_isUnder_45 (by decide) ?_
  refine lv_icmp_ne (tgt := 60) hx hb dX12_isUnder_47 (by decide) (fun c_7 => ?_) (fun c_7 => absurd c_7 (by decide))
  refine lv_iconst (v := 0) hx hb dX12_isUnder_60 (by decide) ?_
  have q0_0 : (0 : Int32).toInt = 0 := rfl
  exact W.zret (v := 0) hx hb hr rfl (fun tt ht hW => ⟨0, rfl, (by first | rfl | omega | trivial | assumption | (dsimp only; first | omega | assumption)), ht⟩) (fun _ h => by cases h) dX12_isUnder_61
set_option maxHeartbeats 4000000 in
set_option maxRecDepth 100000 in
theorem k_X12_flying_7 (l : Launch) (D : va_G) (cs : Nat → ClassId) (A : Nat → Prop) (bd : Nat → Nat) (u : Nat → Int32) (b : Nat → Nat → Int32) (bw : Nat → Nat → Int64)  (p1 : Int32) (p2 : Int32) (hkn : (b 63) p1.toNatClampNeg = 7) (h1 : 0 ≤ p1.toInt) (h2 : p1.toInt < 50) (hr0 : 0 ≤ (u 64).toInt) (hr1 : (u 64).toInt ≤ 21) (ib63_0 : AB 0 7 (b 63)) (iu64_0 : 0 ≤ (u 64).toInt) (iu64_1 : (u 64).toInt ≤ 1000) : Met l yX12_flying (Cond.code yX12_flying cX12_flying 3 (some .int) :: gw) ({ frames := 3, cells := 0, slots := 0, locals := 65 }) (va_Pc [.ref (bd 0), .int p1, .int p2] (XPre D (TY cs) (RW cs bd u b bw) A)) (va_Qi (fun (r : Int32) (z : Int32 × (Nat → Int32)) => (z.1.toInt = (u 64).toInt + 3) ∧ (z.2 = TRW (b 65) (u 64).toInt.toNat [81, 70, 1]) ∧ (r = (((p2 + p1) * 2) - 1)) ∧ (0 ≤ z.1.toInt) ∧ (z.1.toInt ≤ 1000)) (XPo D (fun (z : Int32 × (Nat → Int32)) => RW cs bd (va_up u 64 z.1) (va_up b 65 z.2) bw) A) A) 0 0 A := by
  refine Met.ofW (cc := cX12_flying) (maxL := 3) (ret := (some .int)) (by decide) rfl ?_
  intro p e s m args below meth c s₁ B hml hv
  obtain ⟨rfl, hP, hK, hD, hZ⟩ := hv
  have hx := B.exec
  have hb := B.bytes
  have hr := B.returns
  have hts := atoms_spec (ws := (Cond.code yX12_flying cX12_flying 3 (some .int) :: gw)) B.pre
  have hg : ∀ w ∈ gw, w.before ([.ref (bd 0), .int p1, .int p2] : List Value).toArray s = true := fun w h => hts w (List.mem_cons_of_mem _ h)
  have hown : s.vm.findClass RX12 = some m.cls := findClass_of_methodNamed B.named
  have hlocks := B.notSynchronized
  have hS : va_S A s.heap s.heap [] := va_S.rf
  have hP : va_P D vwCl (RW cs bd u b bw) s.heap := hP
  have hl := lv_entry ([.ref (bd 0), .int p1, .int p2]) (n := 3) (Nat.le_of_ble_eq_true rfl)
  rw [lg_entry_eq]
  generalize (lg_sl ([.ref (bd 0), .int p1, .int p2]) ++ List.replicate (3 - (lg_sl ([.ref (bd 0), .int p1, .int p2])).length) Slot.unset).toArray = ls at hl ⊢
  have hl : lv_has ls 3 [(0, .ref (bd 0)), (1, .int p1), (2, .int p2)] := hl
  refine lv_aload_n hx hb dX12_flying_0 rfl (lv_at hl 0 rfl) ?_
  refine gr_kind hx hb hg hown hK hP (hg _ q5_55) dX12_flying_1 ?_
  refine lv_iload_n hx hb dX12_flying_4 rfl (lv_at hl 1 rfl) ?_
  refine lr_kind hx hb hK hP (i_in (by omega) (by omega)) dX12_flying_5 ?_
  refine lv_topi (fun x_1 ex_1 => ?_)
  have ex_1 : x_1 = (b 63) p1.toNatClampNeg := ex_1
  have hx_1 : x_1.toInt = ((b 63) p1.toNatClampNeg).toInt := by rw [ex_1]
  have bx_1 := ib63_0 p1.toNatClampNeg
  rw [← ex_1] at bx_1
  have fx_1 : x_1 = 7 := by rw [ex_1]; exact hkn
  subst fx_1
  refine lv_iconst (v := 1) hx hb dX12_flying_6 (by decide) ?_
  refine cS_p (As := [.int 7, .int 1]) (rest := []) ⟨hx, hb, hml, hown, hg⟩ (k_RU_7_1 l    ) ca_X12_isUnder q7_52 ⟨rfl, rfl⟩ ⟨Nat.le_of_ble_eq_true rfl, Nat.le_of_ble_eq_true rfl⟩ rfl hl.1 rfl (Nat.le_of_ble_eq_true rfl) ⟨Nat.zero_le _, Nat.zero_le _⟩ dX12_flying_7 (fun r_2 wr_2 => ?_)
  have wr_2 : r_2.toInt = 0 := wr_2
  refine lv_if_eq (tgt := 28) hx hb dX12_flying_10 (by decide) (fun c_3 => ?_) (fun c_3 => ?_)
  ·
    have kc_3 : r_2.toInt = (0 : Int) := i_eq c_3
    refine lv_aload_n hx hb dX12_flying_28 rfl (lv_at hl 0 rfl) ?_
    refine gr_kind hx hb hg hown hK hP (hg _ q5_55) dX12_flying_29 ?_
    refine lv_iload_n hx hb dX12_flying_32 rfl (lv_at hl 1 rfl) ?_
    refine lr_kind hx hb hK hP (i_in (by omega) (by omega)) dX12_flying_33 ?_
    refine lv_topi (fun x_4 ex_4 => ?_)
    have ex_4 : x_4 = (b 63) p1.toNatClampNeg := ex_4
    have hx_4 : x_4.toInt = ((b 63) p1.toNatClampNeg).toInt := by rw [ex_4]
    have bx_4 := ib63_0 p1.toNatClampNeg
    rw [← ex_4] at bx_4
    have fx_4 : x_4 = 7 := by rw [ex_4]; exact hkn
    subst fx_4
    refine lv_bipush (v := 7) hx hb dX12_flying_34 (by decide) ?_
    refine lv_icmp_ne (tgt := 54) hx hb dX12_flying_36 (by decide) (fun c_5 => absurd c_5 (by decide)) (fun c_5 => ?_)
    refine lv_aload_n hx hb dX12_flying_39 rfl (lv_at hl 0 rfl) ?_
    refine lv_bipush (v := 81) hx hb dX12_flying_40 (by decide) ?_
    refine cV_v (As := [.int 81]) (rest := []) ⟨hx, hb, hml, hown, hg⟩ (k_X12_ran l D cs A bd u b bw  81 (show 0 ≤ (u 64).toInt by first | omega | decide) (show (u 64).toInt ≤ 23 by first | omega | decide) (show 0 ≤ (u 64).toInt by first | omega | decide) (show (u 64).toInt ≤ 1000 by first | omega | decide)) ca_X12_ran q7_55 ⟨rfl, rfl⟩ ⟨Nat.le_of_ble_eq_true rfl, Nat.le_of_ble_eq_true rfl⟩ (rc_model hK hP) hK hP hD hS hZ rfl hl.1 rfl (Nat.le_of_ble_eq_true rfl) ⟨Nat.zero_le _, Nat.zero_le _⟩ dX12_flying_42 (fun z_9 H locs wr_6 hP hD hS => ?_)
    obtain ⟨o_u64_7, o_b65_8⟩ := z_9
    have hP : va_P D vwCl (RW cs bd (va_up u 64 o_u64_7) (va_up b 65 o_b65_8) bw) H := hP
    have hD : va_D A (RW cs bd (va_up u 64 o_u64_7) (va_up b 65 o_b65_8) bw) := hD
    obtain ⟨wr_6_0, wr_6_1, wr_6_2, wr_6_3⟩ : (o_u64_7.toInt = (u 64).toInt + 1) ∧ (o_b65_8 = TRW (b 65) (u 64).toInt.toNat [(81 : Int32)]) ∧ (0 ≤ o_u64_7.toInt) ∧ (o_u64_7.toInt ≤ 1000) := wr_6
    have kt_10 : o_b65_8 = TRW (b 65) (u 64).toInt.toNat [81] := by rw [wr_6_1]
    refine lv_aload_n hx hb dX12_flying_45 rfl (lv_at hl 0 rfl) ?_
    refine lv_iload_n hx hb dX12_flying_46 rfl (lv_at hl 1 rfl) ?_
    refine lv_iload_n hx hb dX12_flying_47 rfl (lv_at hl 2 rfl) ?_
    refine cV_i (As := [.int p1, .int p2]) (rest := []) ⟨hx, hb, hml, hown, hg⟩ (k_X12_coatFlies l D cs A bd (va_up u 64 o_u64_7) (va_up b 65 o_b65_8) bw  p1 p2 (show 0 ≤ o_u64_7.toInt by first | omega | decide) (show o_u64_7.toInt ≤ 22 by first | omega | decide) (show 0 ≤ o_u64_7.toInt by first | omega | decide) (show o_u64_7.toInt ≤ 1000 by first | omega | decide)) ca_X12_coatFlies q7_63 ⟨rfl, rfl⟩ ⟨Nat.le_of_ble_eq_true rfl, Nat.le_of_ble_eq_true rfl⟩ (rc_model hK hP) hK hP hD hS hZ rfl hl.1 rfl (Nat.le_of_ble_eq_true rfl) ⟨Nat.zero_le _, Nat.zero_le _⟩ dX12_flying_48 (fun r_11 z_14 H locs wr_11 hP hD hS => ?_)
    obtain ⟨o_u64_12, o_b65_13⟩ := z_14
    have hP : va_P D vwCl (RW cs bd (va_up u 64 o_u64_12) (va_up b 65 o_b65_13) bw) H := hP
    have hD : va_D A (RW cs bd (va_up u 64 o_u64_12) (va_up b 65 o_b65_13) bw) := hD
    obtain ⟨wr_11_0, wr_11_1, wr_11_2, wr_11_3, wr_11_4⟩ : (o_u64_12.toInt = o_u64_7.toInt + 2) ∧ (o_b65_13 = TRW o_b65_8 o_u64_7.toInt.toNat [70, 1]) ∧ (r_11 = ((p2 + p1) * 2)) ∧ (0 ≤ o_u64_12.toInt) ∧ (o_u64_12.toInt ≤ 1000) := wr_11
    have kt_15 : o_b65_13 = TRW (b 65) (u 64).toInt.toNat [81, 70, 1] := by rw [wr_11_1, kt_10, show (o_u64_7).toInt.toNat = (u 64).toInt.toNat + 1 from by omega]; rfl
    refine lv_iconst (v := 1) hx hb dX12_flying_51 (by decide) ?_
    refine lv_isub hx hb dX12_flying_52 ?_
    refine lv_topi (fun x_16 ex_16 => ?_)
    exact W.iret (v := x_16) hx hb hr (fun tt ht hW => ⟨⟨x_16, ⟨o_u64_12, o_b65_13⟩, rfl, ⟨(by first | rfl | omega | trivial | assumption | (dsimp only; first | omega | assumption)), (by (try dsimp only); first | assumption | rfl), (by simp only [ex_16, wr_11_2]), (show 0 ≤ o_u64_12.toInt by first | omega | assumption), (show o_u64_12.toInt ≤ 1000 by first | omega | assumption)⟩, by rw [ht]; exact hP, hD⟩, hS.F ht⟩) hS.2.2 dX12_flying_53
  ·
    have kc_3 : r_2.toInt ≠ (0 : Int) := i_ne c_3
    exfalso; omega
set_option maxHeartbeats 4000000 in
set_option maxRecDepth 100000 in
theorem k_X12_plainStings_7 (l : Launch) (D : va_G) (cs : Nat → ClassId) (A : Nat → Prop) (bd : Nat → Nat) (u : Nat → Int32) (b : Nat → Nat → Int32) (bw : Nat → Nat → Int64)  (p1 : Int32) (p2 : Int32) (hkn : (b 63) p1.toNatClampNeg = 7) (h1 : 0 ≤ p1.toInt) (h2 : p1.toInt < 50) (hr0 : 0 ≤ (u 64).toInt) (hr1 : (u 64).toInt ≤ 20) (iu64_0 : 0 ≤ (u 64).toInt) (iu64_1 : (u 64).toInt ≤ 1000) (ib63_0 : AB 0 7 (b 63)) : Met l yX12_plainStings (Cond.code yX12_plainStings cX12_plainStings 3 (some .int) :: gw) ({ frames := 4, cells := 0, slots := 0, locals := 87 }) (va_Pc [.ref (bd 0), .int p1, .int p2] (XPre D (TY cs) (RW cs bd u b bw) A)) (va_Qi (fun (r : Int32) (z : Int32 × (Nat → Int32)) => (z.1.toInt = (u 64).toInt + 4) ∧ (z.2 = TRW (b 65) (u 64).toInt.toNat [10, 81, 70, 1]) ∧ (r = ((((p2 + p1) * 2) - 1) * 2)) ∧ (0 ≤ z.1.toInt) ∧ (z.1.toInt ≤ 1000)) (XPo D (fun (z : Int32 × (Nat → Int32)) => RW cs bd (va_up u 64 z.1) (va_up b 65 z.2) bw) A) A) 0 0 A := by
  refine Met.ofW (cc := cX12_plainStings) (maxL := 3) (ret := (some .int)) (by decide) rfl ?_
  intro p e s m args below meth c s₁ B hml hv
  obtain ⟨rfl, hP, hK, hD, hZ⟩ := hv
  have hx := B.exec
  have hb := B.bytes
  have hr := B.returns
  have hts := atoms_spec (ws := (Cond.code yX12_plainStings cX12_plainStings 3 (some .int) :: gw)) B.pre
  have hg : ∀ w ∈ gw, w.before ([.ref (bd 0), .int p1, .int p2] : List Value).toArray s = true := fun w h => hts w (List.mem_cons_of_mem _ h)
  have hown : s.vm.findClass RX12 = some m.cls := findClass_of_methodNamed B.named
  have hlocks := B.notSynchronized
  have hS : va_S A s.heap s.heap [] := va_S.rf
  have hP : va_P D vwCl (RW cs bd u b bw) s.heap := hP
  have hl := lv_entry ([.ref (bd 0), .int p1, .int p2]) (n := 3) (Nat.le_of_ble_eq_true rfl)
  rw [lg_entry_eq]
  generalize (lg_sl ([.ref (bd 0), .int p1, .int p2]) ++ List.replicate (3 - (lg_sl ([.ref (bd 0), .int p1, .int p2])).length) Slot.unset).toArray = ls at hl ⊢
  have hl : lv_has ls 3 [(0, .ref (bd 0)), (1, .int p1), (2, .int p2)] := hl
  refine lv_aload_n hx hb dX12_plainStings_0 rfl (lv_at hl 0 rfl) ?_
  refine lv_bipush (v := 10) hx hb dX12_plainStings_1 (by decide) ?_
  refine cV_v (As := [.int 10]) (rest := []) ⟨hx, hb, hml, hown, hg⟩ (k_X12_ran l D cs A bd u b bw  10 (show 0 ≤ (u 64).toInt by first | omega | decide) (show (u 64).toInt ≤ 23 by first | omega | decide) (show 0 ≤ (u 64).toInt by first | omega | decide) (show (u 64).toInt ≤ 1000 by first | omega | decide)) ca_X12_ran q7_55 ⟨rfl, rfl⟩ ⟨Nat.le_of_ble_eq_true rfl, Nat.le_of_ble_eq_true rfl⟩ (rc_model hK hP) hK hP hD hS hZ rfl hl.1 rfl (Nat.le_of_ble_eq_true rfl) ⟨Nat.zero_le _, Nat.zero_le _⟩ dX12_plainStings_3 (fun z_4 H locs wr_1 hP hD hS => ?_)
  obtain ⟨o_u64_2, o_b65_3⟩ := z_4
  have hP : va_P D vwCl (RW cs bd (va_up u 64 o_u64_2) (va_up b 65 o_b65_3) bw) H := hP
  have hD : va_D A (RW cs bd (va_up u 64 o_u64_2) (va_up b 65 o_b65_3) bw) := hD
  obtain ⟨wr_1_0, wr_1_1, wr_1_2, wr_1_3⟩ : (o_u64_2.toInt = (u 64).toInt + 1) ∧ (o_b65_3 = TRW (b 65) (u 64).toInt.toNat [(10 : Int32)]) ∧ (0 ≤ o_u64_2.toInt) ∧ (o_u64_2.toInt ≤ 1000) := wr_1
  have kt_5 : o_b65_3 = TRW (b 65) (u 64).toInt.toNat [10] := by rw [wr_1_1]
  refine lv_aload_n hx hb dX12_plainStings_6 rfl (lv_at hl 0 rfl) ?_
  refine lv_iload_n hx hb dX12_plainStings_7 rfl (lv_at hl 1 rfl) ?_
  refine lv_iload_n hx hb dX12_plainStings_8 rfl (lv_at hl 2 rfl) ?_
  refine cV_i (As := [.int p1, .int p2]) (rest := []) ⟨hx, hb, hml, hown, hg⟩ (k_X12_flying_7 l D cs A bd (va_up u 64 o_u64_2) (va_up b 65 o_b65_3) bw  p1 p2 hkn (show 0 ≤ p1.toInt by first | omega | decide) (show p1.toInt < 50 by first | omega | decide) (show 0 ≤ o_u64_2.toInt by first | omega | decide) (show o_u64_2.toInt ≤ 21 by first | omega | decide) ib63_0 (show 0 ≤ o_u64_2.toInt by first | omega | decide) (show o_u64_2.toInt ≤ 1000 by first | omega | decide)) ca_X12_flying q7_48 ⟨rfl, rfl⟩ ⟨Nat.le_of_ble_eq_true rfl, Nat.le_of_ble_eq_true rfl⟩ (rc_model hK hP) hK hP hD hS hZ rfl hl.1 rfl (Nat.le_of_ble_eq_true rfl) ⟨Nat.zero_le _, Nat.zero_le _⟩ dX12_plainStings_9 (fun r_6 z_9 H locs wr_6 hP hD hS => ?_)
  obtain ⟨o_u64_7, o_b65_8⟩ := z_9
  have hP : va_P D vwCl (RW cs bd (va_up u 64 o_u64_7) (va_up b 65 o_b65_8) bw) H := hP
  have hD : va_D A (RW cs bd (va_up u 64 o_u64_7) (va_up b 65 o_b65_8) bw) := hD
  obtain ⟨wr_6_0, wr_6_1, wr_6_2, wr_6_3, wr_6_4⟩ : (o_u64_7.toInt = o_u64_2.toInt + 3) ∧ (o_b65_8 = TRW o_b65_3 o_u64_2.toInt.toNat [81, 70, 1]) ∧ (r_6 = (((p2 + p1) * 2) - 1)) ∧ (0 ≤ o_u64_7.toInt) ∧ (o_u64_7.toInt ≤ 1000) := wr_6
  have kt_10 : o_b65_8 = TRW (b 65) (u 64).toInt.toNat [10, 81, 70, 1] := by rw [wr_6_1, kt_5, show (o_u64_2).toInt.toNat = (u 64).toInt.toNat + 1 from by omega]; rfl
  refine lv_iconst (v := 2) hx hb dX12_plainStings_12 (by decide) ?_
  refine lv_imul hx hb dX12_plainStings_13 ?_
  refine lv_topi (fun x_11 ex_11 => ?_)
  exact W.iret (v := x_11) hx hb hr (fun tt ht hW => ⟨⟨x_11, ⟨o_u64_7, o_b65_8⟩, rfl, ⟨(by first | rfl | omega | trivial | assumption | (dsimp only; first | omega | assumption)), (by (try dsimp only); first | assumption | rfl), (by simp only [ex_11, wr_6_2]), (show 0 ≤ o_u64_7.toInt by first | omega | assumption), (show o_u64_7.toInt ≤ 1000 by first | omega | assumption)⟩, by rw [ht]; exact hP, hD⟩, hS.F ht⟩) hS.2.2 dX12_plainStings_14
set_option maxHeartbeats 4000000 in
set_option maxRecDepth 100000 in
theorem k_X12_brookStings_7 (l : Launch) (D : va_G) (cs : Nat → ClassId) (A : Nat → Prop) (bd : Nat → Nat) (u : Nat → Int32) (b : Nat → Nat → Int32) (bw : Nat → Nat → Int64)  (p1 : Int32) (p2 : Int32) (hkn : (b 63) p1.toNatClampNeg = 7) (h1 : 0 ≤ p1.toInt) (h2 : p1.toInt < 50) (hr0 : 0 ≤ (u 64).toInt) (hr1 : (u 64).toInt ≤ 19) (iu64_0 : 0 ≤ (u 64).toInt) (iu64_1 : (u 64).toInt ≤ 1000) (ib63_0 : AB 0 7 (b 63)) : Met l yX12_brookStings (Cond.code yX12_brookStings cX12_brookStings 3 (some .int) :: gw) ({ frames := 5, cells := 0, slots := 0, locals := 109 }) (va_Pc [.ref (bd 0), .int p1, .int p2] (XPre D (TY cs) (RW cs bd u b bw) A)) (va_Qi (fun (r : Int32) (z : Int32 × (Nat → Int32)) => (z.1.toInt = (u 64).toInt + 5) ∧ (z.2 = TRW (b 65) (u 64).toInt.toNat [30, 10, 81, 70, 1]) ∧ (r = (-((((p2 + p1) * 2) - 1) * 2))) ∧ (0 ≤ z.1.toInt) ∧ (z.1.toInt ≤ 1000)) (XPo D (fun (z : Int32 × (Nat → Int32)) => RW cs bd (va_up u 64 z.1) (va_up b 65 z.2) bw) A) A) 0 0 A := by
  refine Met.ofW (cc := cX12_brookStings) (maxL := 3) (ret := (some .int)) (by decide) rfl ?_
  intro p e s m args below meth c s₁ B hml hv
  obtain ⟨rfl, hP, hK, hD, hZ⟩ := hv
  have hx := B.exec
  have hb := B.bytes
  have hr := B.returns
  have hts := atoms_spec (ws := (Cond.code yX12_brookStings cX12_brookStings 3 (some .int) :: gw)) B.pre
  have hg : ∀ w ∈ gw, w.before ([.ref (bd 0), .int p1, .int p2] : List Value).toArray s = true := fun w h => hts w (List.mem_cons_of_mem _ h)
  have hown : s.vm.findClass RX12 = some m.cls := findClass_of_methodNamed B.named
  have hlocks := B.notSynchronized
  have hS : va_S A s.heap s.heap [] := va_S.rf
  have hP : va_P D vwCl (RW cs bd u b bw) s.heap := hP
  have hl := lv_entry ([.ref (bd 0), .int p1, .int p2]) (n := 3) (Nat.le_of_ble_eq_true rfl)
  rw [lg_entry_eq]
  generalize (lg_sl ([.ref (bd 0), .int p1, .int p2]) ++ List.replicate (3 - (lg_sl ([.ref (bd 0), .int p1, .int p2])).length) Slot.unset).toArray = ls at hl ⊢
  have hl : lv_has ls 3 [(0, .ref (bd 0)), (1, .int p1), (2, .int p2)] := hl
  refine lv_aload_n hx hb dX12_brookStings_0 rfl (lv_at hl 0 rfl) ?_
  refine lv_bipush (v := 30) hx hb dX12_brookStings_1 (by decide) ?_
  refine cV_v (As := [.int 30]) (rest := []) ⟨hx, hb, hml, hown, hg⟩ (k_X12_ran l D cs A bd u b bw  30 (show 0 ≤ (u 64).toInt by first | omega | decide) (show (u 64).toInt ≤ 23 by first | omega | decide) (show 0 ≤ (u 64).toInt by first | omega | decide) (show (u 64).toInt ≤ 1000 by first | omega | decide)) ca_X12_ran q7_55 ⟨rfl, rfl⟩ ⟨Nat.le_of_ble_eq_true rfl, Nat.le_of_ble_eq_true rfl⟩ (rc_model hK hP) hK hP hD hS hZ rfl hl.1 rfl (Nat.le_of_ble_eq_true rfl) ⟨Nat.zero_le _, Nat.zero_le _⟩ dX12_brookStings_3 (fun z_4 H locs wr_1 hP hD hS => ?_)
  obtain ⟨o_u64_2, o_b65_3⟩ := z_4
  have hP : va_P D vwCl (RW cs bd (va_up u 64 o_u64_2) (va_up b 65 o_b65_3) bw) H := hP
  have hD : va_D A (RW cs bd (va_up u 64 o_u64_2) (va_up b 65 o_b65_3) bw) := hD
  obtain ⟨wr_1_0, wr_1_1, wr_1_2, wr_1_3⟩ : (o_u64_2.toInt = (u 64).toInt + 1) ∧ (o_b65_3 = TRW (b 65) (u 64).toInt.toNat [(30 : Int32)]) ∧ (0 ≤ o_u64_2.toInt) ∧ (o_u64_2.toInt ≤ 1000) := wr_1
  have kt_5 : o_b65_3 = TRW (b 65) (u 64).toInt.toNat [30] := by rw [wr_1_1]
  refine lv_aload_n hx hb dX12_brookStings_6 rfl (lv_at hl 0 rfl) ?_
  refine lv_iload_n hx hb dX12_brookStings_7 rfl (lv_at hl 1 rfl) ?_
  refine lv_iload_n hx hb dX12_brookStings_8 rfl (lv_at hl 2 rfl) ?_
  refine cV_i (As := [.int p1, .int p2]) (rest := []) ⟨hx, hb, hml, hown, hg⟩ (k_X12_plainStings_7 l D cs A bd (va_up u 64 o_u64_2) (va_up b 65 o_b65_3) bw  p1 p2 hkn (show 0 ≤ p1.toInt by first | omega | decide) (show p1.toInt < 50 by first | omega | decide) (show 0 ≤ o_u64_2.toInt by first | omega | decide) (show o_u64_2.toInt ≤ 20 by first | omega | decide) (show 0 ≤ o_u64_2.toInt by first | omega | decide) (show o_u64_2.toInt ≤ 1000 by first | omega | decide) ib63_0) ca_X12_plainStings q7_75 ⟨rfl, rfl⟩ ⟨Nat.le_of_ble_eq_true rfl, Nat.le_of_ble_eq_true rfl⟩ (rc_model hK hP) hK hP hD hS hZ rfl hl.1 rfl (Nat.le_of_ble_eq_true rfl) ⟨Nat.zero_le _, Nat.zero_le _⟩ dX12_brookStings_9 (fun r_6 z_9 H locs wr_6 hP hD hS => ?_)
  obtain ⟨o_u64_7, o_b65_8⟩ := z_9
  have hP : va_P D vwCl (RW cs bd (va_up u 64 o_u64_7) (va_up b 65 o_b65_8) bw) H := hP
  have hD : va_D A (RW cs bd (va_up u 64 o_u64_7) (va_up b 65 o_b65_8) bw) := hD
  obtain ⟨wr_6_0, wr_6_1, wr_6_2, wr_6_3, wr_6_4⟩ : (o_u64_7.toInt = o_u64_2.toInt + 4) ∧ (o_b65_8 = TRW o_b65_3 o_u64_2.toInt.toNat [10, 81, 70, 1]) ∧ (r_6 = ((((p2 + p1) * 2) - 1) * 2)) ∧ (0 ≤ o_u64_7.toInt) ∧ (o_u64_7.toInt ≤ 1000) := wr_6
  have kt_10 : o_b65_8 = TRW (b 65) (u 64).toInt.toNat [30, 10, 81, 70, 1] := by rw [wr_6_1, kt_5, show (o_u64_2).toInt.toNat = (u 64).toInt.toNat + 1 from by omega]; rfl
  refine lv_ineg hx hb dX12_brookStings_12 ?_
  refine lv_topi (fun x_11 ex_11 => ?_)
  exact W.iret (v := x_11) hx hb hr (fun tt ht hW => ⟨⟨x_11, ⟨o_u64_7, o_b65_8⟩, rfl, ⟨(by first | rfl | omega | trivial | assumption | (dsimp only; first | omega | assumption)), (by (try dsimp only); first | assumption | rfl), (by simp only [ex_11, wr_6_2]), (show 0 ≤ o_u64_7.toInt by first | omega | assumption), (show o_u64_7.toInt ≤ 1000 by first | omega | assumption)⟩, by rw [ht]; exact hP, hD⟩, hS.F ht⟩) hS.2.2 dX12_brookStings_13
set_option maxHeartbeats 4000000 in
set_option maxRecDepth 100000 in
theorem k_X12_settling_7 (l : Launch) (D : va_G) (cs : Nat → ClassId) (A : Nat → Prop) (bd : Nat → Nat) (u : Nat → Int32) (b : Nat → Nat → Int32) (bw : Nat → Nat → Int64)  (p1 : Int32) (p2 : Int32) (hkn : (b 63) p1.toNatClampNeg = 7) (h1 : 0 ≤ p1.toInt) (h2 : p1.toInt < 50) (hr0 : 0 ≤ (u 64).toInt) (hr1 : (u 64).toInt ≤ 23) (ib63_0 : AB 0 7 (b 63)) (iu64_0 : 0 ≤ (u 64).toInt) (iu64_1 : (u 64).toInt ≤ 1000) : Met l yX12_settling (Cond.code yX12_settling cX12_settling 4 (some .int) :: gw) ({ frames := 2, cells := 0, slots := 0, locals := 43 }) (va_Pc [.ref (bd 0), .int p1, .int p2] (XPre D (TY cs) (RW cs bd u b bw) A)) (va_Qi (fun (r : Int32) (z : Int32 × (Nat → Int32)) => (z.1.toInt = (u 64).toInt + 1) ∧ (z.2 = TRW (b 65) (u 64).toInt.toNat [11]) ∧ (r = (p2 ^^^ p1)) ∧ (0 ≤ z.1.toInt) ∧ (z.1.toInt ≤ 1000)) (XPo D (fun (z : Int32 × (Nat → Int32)) => RW cs bd (va_up u 64 z.1) (va_up b 65 z.2) bw) A) A) 0 0 A := by
  refine Met.ofW (cc := cX12_settling) (maxL := 4) (ret := (some .int)) (by decide) rfl ?_
  intro p e s m args below meth c s₁ B hml hv
  obtain ⟨rfl, hP, hK, hD, hZ⟩ := hv
  have hx := B.exec
  have hb := B.bytes
  have hr := B.returns
  have hts := atoms_spec (ws := (Cond.code yX12_settling cX12_settling 4 (some .int) :: gw)) B.pre
  have hg : ∀ w ∈ gw, w.before ([.ref (bd 0), .int p1, .int p2] : List Value).toArray s = true := fun w h => hts w (List.mem_cons_of_mem _ h)
  have hown : s.vm.findClass RX12 = some m.cls := findClass_of_methodNamed B.named
  have hlocks := B.notSynchronized
  have hS : va_S A s.heap s.heap [] := va_S.rf
  have hP : va_P D vwCl (RW cs bd u b bw) s.heap := hP
  have hl := lv_entry ([.ref (bd 0), .int p1, .int p2]) (n := 4) (Nat.le_of_ble_eq_true rfl)
  rw [lg_entry_eq]
  generalize (lg_sl ([.ref (bd 0), .int p1, .int p2]) ++ List.replicate (4 - (lg_sl ([.ref (bd 0), .int p1, .int p2])).length) Slot.unset).toArray = ls at hl ⊢
  have hl : lv_has ls 4 [(0, .ref (bd 0)), (1, .int p1), (2, .int p2)] := hl
  refine lv_aload_n hx hb dX12_settling_0 rfl (lv_at hl 0 rfl) ?_
  refine gr_kind hx hb hg hown hK hP (hg _ q5_55) dX12_settling_1 ?_
  refine lv_iload_n hx hb dX12_settling_4 rfl (lv_at hl 1 rfl) ?_
  refine lr_kind hx hb hK hP (i_in (by omega) (by omega)) dX12_settling_5 ?_
  refine lv_topi (fun x_1 ex_1 => ?_)
  have ex_1 : x_1 = (b 63) p1.toNatClampNeg := ex_1
  have hx_1 : x_1.toInt = ((b 63) p1.toNatClampNeg).toInt := by rw [ex_1]
  have bx_1 := ib63_0 p1.toNatClampNeg
  rw [← ex_1] at bx_1
  have fx_1 : x_1 = 7 := by rw [ex_1]; exact hkn
  subst fx_1
  refine lv_iconst (v := 5) hx hb dX12_settling_6 (by decide) ?_
  refine lv_icmp_ne (tgt := 32) hx hb dX12_settling_7 (by decide) (fun c_2 => ?_) (fun c_2 => absurd c_2 (by decide))
  refine lv_aload_n hx hb dX12_settling_32 rfl (lv_at hl 0 rfl) ?_
  refine gr_kind hx hb hg hown hK hP (hg _ q5_55) dX12_settling_33 ?_
  refine lv_iload_n hx hb dX12_settling_36 rfl (lv_at hl 1 rfl) ?_
  refine lr_kind hx hb hK hP (i_in (by omega) (by omega)) dX12_settling_37 ?_
  refine lv_topi (fun x_3 ex_3 => ?_)
  have ex_3 : x_3 = (b 63) p1.toNatClampNeg := ex_3
  have hx_3 : x_3.toInt = ((b 63) p1.toNatClampNeg).toInt := by rw [ex_3]
  have bx_3 := ib63_0 p1.toNatClampNeg
  rw [← ex_3] at bx_3
  have fx_3 : x_3 = 7 := by rw [ex_3]; exact hkn
  subst fx_3
  refine lv_iconst (v := 3) hx hb dX12_settling_38 (by decide) ?_
  refine lv_icmp_ne (tgt := 51) hx hb dX12_settling_39 (by decide) (fun c_4 => ?_) (fun c_4 => absurd c_4 (by decide))
  refine lv_aload_n hx hb dX12_settling_51 rfl (lv_at hl 0 rfl) ?_
  refine lv_iload_n hx hb dX12_settling_52 rfl (lv_at hl 1 rfl) ?_
  refine lv_iload_n hx hb dX12_settling_53 rfl (lv_at hl 2 rfl) ?_
  refine cV_i (As := [.int p1, .int p2]) (rest := []) ⟨hx, hb, hml, hown, hg⟩ (k_X12_plainSettles l D cs A bd u b bw  p1 p2 (show 0 ≤ (u 64).toInt by first | omega | decide) (show (u 64).toInt ≤ 23 by first | omega | decide) (show 0 ≤ (u 64).toInt by first | omega | decide) (show (u 64).toInt ≤ 1000 by first | omega | decide)) ca_X12_plainSettles q7_87 ⟨rfl, rfl⟩ ⟨Nat.le_of_ble_eq_true rfl, Nat.le_of_ble_eq_true rfl⟩ (rc_model hK hP) hK hP hD hS hZ rfl hl.1 rfl (Nat.le_of_ble_eq_true rfl) ⟨Nat.zero_le _, Nat.zero_le _⟩ dX12_settling_54 (fun r_5 z_8 H locs wr_5 hP hD hS => ?_)
  obtain ⟨o_u64_6, o_b65_7⟩ := z_8
  have hP : va_P D vwCl (RW cs bd (va_up u 64 o_u64_6) (va_up b 65 o_b65_7) bw) H := hP
  have hD : va_D A (RW cs bd (va_up u 64 o_u64_6) (va_up b 65 o_b65_7) bw) := hD
  obtain ⟨wr_5_0, wr_5_1, wr_5_2, wr_5_3, wr_5_4⟩ : (o_u64_6.toInt = (u 64).toInt + 1) ∧ (o_b65_7 = TRW (b 65) (u 64).toInt.toNat [11]) ∧ (r_5 = (p2 ^^^ p1)) ∧ (0 ≤ o_u64_6.toInt) ∧ (o_u64_6.toInt ≤ 1000) := wr_5
  have kt_9 : o_b65_7 = TRW (b 65) (u 64).toInt.toNat [11] := by rw [wr_5_1]
  exact W.iret (v := r_5) hx hb hr (fun tt ht hW => ⟨⟨r_5, ⟨o_u64_6, o_b65_7⟩, rfl, ⟨(by first | rfl | omega | trivial | assumption | (dsimp only; first | omega | assumption)), (by (try dsimp only); first | assumption | rfl), (by simp only [wr_5_2]), (show 0 ≤ o_u64_6.toInt by first | omega | assumption), (show o_u64_6.toInt ≤ 1000 by first | omega | assumption)⟩, by rw [ht]; exact hP, hD⟩, hS.F ht⟩) hS.2.2 dX12_settling_57
set_option maxHeartbeats 4000000 in
set_option maxRecDepth 100000 in
theorem k_X12_stinging_7 (l : Launch) (D : va_G) (cs : Nat → ClassId) (A : Nat → Prop) (bd : Nat → Nat) (u : Nat → Int32) (b : Nat → Nat → Int32) (bw : Nat → Nat → Int64)  (p1 : Int32) (p2 : Int32) (hkn : (b 63) p1.toNatClampNeg = 7) (h1 : 0 ≤ p1.toInt) (h2 : p1.toInt < 50) (hr0 : 0 ≤ (u 64).toInt) (hr1 : (u 64).toInt ≤ 18) (ib63_0 : AB 0 7 (b 63)) (iu64_0 : 0 ≤ (u 64).toInt) (iu64_1 : (u 64).toInt ≤ 1000) : Met l yX12_stinging (Cond.code yX12_stinging cX12_stinging 4 (some .int) :: gw) ({ frames := 5, cells := 0, slots := 0, locals := 109 }) (va_Pc [.ref (bd 0), .int p1, .int p2] (XPre D (TY cs) (RW cs bd u b bw) A)) (va_Qi (fun (r : Int32) (z : Int32 × (Nat → Int32)) => (z.1.toInt = (u 64).toInt + 6) ∧ (z.2 = TRW (b 65) (u 64).toInt.toNat [80, 10, 81, 70, 1, 11]) ∧ (r = (((((p2 + p1) * 2) - 1) * 2) + ((2 : Int32) ^^^ p1))) ∧ (0 ≤ z.1.toInt) ∧ (z.1.toInt ≤ 1000)) (XPo D (fun (z : Int32 × (Nat → Int32)) => RW cs bd (va_up u 64 z.1) (va_up b 65 z.2) bw) A) A) 0 0 A := by
  refine Met.ofW (cc := cX12_stinging) (maxL := 4) (ret := (some .int)) (by decide) rfl ?_
  intro p e s m args below meth c s₁ B hml hv
  obtain ⟨rfl, hP, hK, hD, hZ⟩ := hv
  have hx := B.exec
  have hb := B.bytes
  have hr := B.returns
  have hts := atoms_spec (ws := (Cond.code yX12_stinging cX12_stinging 4 (some .int) :: gw)) B.pre
  have hg : ∀ w ∈ gw, w.before ([.ref (bd 0), .int p1, .int p2] : List Value).toArray s = true := fun w h => hts w (List.mem_cons_of_mem _ h)
  have hown : s.vm.findClass RX12 = some m.cls := findClass_of_methodNamed B.named
  have hlocks := B.notSynchronized
  have hS : va_S A s.heap s.heap [] := va_S.rf
  have hP : va_P D vwCl (RW cs bd u b bw) s.heap := hP
  have hl := lv_entry ([.ref (bd 0), .int p1, .int p2]) (n := 4) (Nat.le_of_ble_eq_true rfl)
  rw [lg_entry_eq]
  generalize (lg_sl ([.ref (bd 0), .int p1, .int p2]) ++ List.replicate (4 - (lg_sl ([.ref (bd 0), .int p1, .int p2])).length) Slot.unset).toArray = ls at hl ⊢
  have hl : lv_has ls 4 [(0, .ref (bd 0)), (1, .int p1), (2, .int p2)] := hl
  refine lv_aload_n hx hb dX12_stinging_0 rfl (lv_at hl 0 rfl) ?_
  refine gr_kind hx hb hg hown hK hP (hg _ q5_55) dX12_stinging_1 ?_
  refine lv_iload_n hx hb dX12_stinging_4 rfl (lv_at hl 1 rfl) ?_
  refine lr_kind hx hb hK hP (i_in (by omega) (by omega)) dX12_stinging_5 ?_
  refine lv_topi (fun x_1 ex_1 => ?_)
  have ex_1 : x_1 = (b 63) p1.toNatClampNeg := ex_1
  have hx_1 : x_1.toInt = ((b 63) p1.toNatClampNeg).toInt := by rw [ex_1]
  have bx_1 := ib63_0 p1.toNatClampNeg
  rw [← ex_1] at bx_1
  have fx_1 : x_1 = 7 := by rw [ex_1]; exact hkn
  subst fx_1
  refine lv_iconst (v := 3) hx hb dX12_stinging_6 (by decide) ?_
  refine cS_p (As := [.int 7, .int 3]) (rest := []) ⟨hx, hb, hml, hown, hg⟩ (k_RU_7_3 l    ) ca_X12_isUnder q7_52 ⟨rfl, rfl⟩ ⟨Nat.le_of_ble_eq_true rfl, Nat.le_of_ble_eq_true rfl⟩ rfl hl.1 rfl (Nat.le_of_ble_eq_true rfl) ⟨Nat.zero_le _, Nat.zero_le _⟩ dX12_stinging_7 (fun r_2 wr_2 => ?_)
  have wr_2 : r_2.toInt = 0 := wr_2
  refine lv_if_eq (tgt := 28) hx hb dX12_stinging_10 (by decide) (fun c_3 => ?_) (fun c_3 => ?_)
  ·
    have kc_3 : r_2.toInt = (0 : Int) := i_eq c_3
    refine lv_aload_n hx hb dX12_stinging_28 rfl (lv_at hl 0 rfl) ?_
    refine gr_kind hx hb hg hown hK hP (hg _ q5_55) dX12_stinging_29 ?_
    refine lv_iload_n hx hb dX12_stinging_32 rfl (lv_at hl 1 rfl) ?_
    refine lr_kind hx hb hK hP (i_in (by omega) (by omega)) dX12_stinging_33 ?_
    refine lv_topi (fun x_4 ex_4 => ?_)
    have ex_4 : x_4 = (b 63) p1.toNatClampNeg := ex_4
    have hx_4 : x_4.toInt = ((b 63) p1.toNatClampNeg).toInt := by rw [ex_4]
    have bx_4 := ib63_0 p1.toNatClampNeg
    rw [← ex_4] at bx_4
    have fx_4 : x_4 = 7 := by rw [ex_4]; exact hkn
    subst fx_4
    refine lv_bipush (v := 7) hx hb dX12_stinging_34 (by decide) ?_
    refine lv_icmp_ne (tgt := 61) hx hb dX12_stinging_36 (by decide) (fun c_5 => absurd c_5 (by decide)) (fun c_5 => ?_)
    refine lv_aload_n hx hb dX12_stinging_39 rfl (lv_at hl 0 rfl) ?_
    refine lv_bipush (v := 80) hx hb dX12_stinging_40 (by decide) ?_
    refine cV_v (As := [.int 80]) (rest := []) ⟨hx, hb, hml, hown, hg⟩ (k_X12_ran l D cs A bd u b bw  80 (show 0 ≤ (u 64).toInt by first | omega | decide) (show (u 64).toInt ≤ 23 by first | omega | decide) (show 0 ≤ (u 64).toInt by first | omega | decide) (show (u 64).toInt ≤ 1000 by first | omega | decide)) ca_X12_ran q7_55 ⟨rfl, rfl⟩ ⟨Nat.le_of_ble_eq_true rfl, Nat.le_of_ble_eq_true rfl⟩ (rc_model hK hP) hK hP hD hS hZ rfl hl.1 rfl (Nat.le_of_ble_eq_true rfl) ⟨Nat.zero_le _, Nat.zero_le _⟩ dX12_stinging_42 (fun z_9 H locs wr_6 hP hD hS => ?_)
    obtain ⟨o_u64_7, o_b65_8⟩ := z_9
    have hP : va_P D vwCl (RW cs bd (va_up u 64 o_u64_7) (va_up b 65 o_b65_8) bw) H := hP
    have hD : va_D A (RW cs bd (va_up u 64 o_u64_7) (va_up b 65 o_b65_8) bw) := hD
    obtain ⟨wr_6_0, wr_6_1, wr_6_2, wr_6_3⟩ : (o_u64_7.toInt = (u 64).toInt + 1) ∧ (o_b65_8 = TRW (b 65) (u 64).toInt.toNat [(80 : Int32)]) ∧ (0 ≤ o_u64_7.toInt) ∧ (o_u64_7.toInt ≤ 1000) := wr_6
    have kt_10 : o_b65_8 = TRW (b 65) (u 64).toInt.toNat [80] := by rw [wr_6_1]
    refine lv_aload_n hx hb dX12_stinging_45 rfl (lv_at hl 0 rfl) ?_
    refine lv_iload_n hx hb dX12_stinging_46 rfl (lv_at hl 1 rfl) ?_
    refine lv_iload_n hx hb dX12_stinging_47 rfl (lv_at hl 2 rfl) ?_
    refine cV_i (As := [.int p1, .int p2]) (rest := []) ⟨hx, hb, hml, hown, hg⟩ (k_X12_plainStings_7 l D cs A bd (va_up u 64 o_u64_7) (va_up b 65 o_b65_8) bw  p1 p2 hkn (show 0 ≤ p1.toInt by first | omega | decide) (show p1.toInt < 50 by first | omega | decide) (show 0 ≤ o_u64_7.toInt by first | omega | decide) (show o_u64_7.toInt ≤ 20 by first | omega | decide) (show 0 ≤ o_u64_7.toInt by first | omega | decide) (show o_u64_7.toInt ≤ 1000 by first | omega | decide) ib63_0) ca_X12_plainStings q7_75 ⟨rfl, rfl⟩ ⟨Nat.le_of_ble_eq_true rfl, Nat.le_of_ble_eq_true rfl⟩ (rc_model hK hP) hK hP hD hS hZ rfl hl.1 rfl (Nat.le_of_ble_eq_true rfl) ⟨Nat.zero_le _, Nat.zero_le _⟩ dX12_stinging_48 (fun r_11 z_14 H locs wr_11 hP hD hS => ?_)
    obtain ⟨o_u64_12, o_b65_13⟩ := z_14
    have hP : va_P D vwCl (RW cs bd (va_up u 64 o_u64_12) (va_up b 65 o_b65_13) bw) H := hP
    have hD : va_D A (RW cs bd (va_up u 64 o_u64_12) (va_up b 65 o_b65_13) bw) := hD
    obtain ⟨wr_11_0, wr_11_1, wr_11_2, wr_11_3, wr_11_4⟩ : (o_u64_12.toInt = o_u64_7.toInt + 4) ∧ (o_b65_13 = TRW o_b65_8 o_u64_7.toInt.toNat [10, 81, 70, 1]) ∧ (r_11 = ((((p2 + p1) * 2) - 1) * 2)) ∧ (0 ≤ o_u64_12.toInt) ∧ (o_u64_12.toInt ≤ 1000) := wr_11
    have kt_15 : o_b65_13 = TRW (b 65) (u 64).toInt.toNat [80, 10, 81, 70, 1] := by rw [wr_11_1, kt_10, show (o_u64_7).toInt.toNat = (u 64).toInt.toNat + 1 from by omega]; rfl
    refine lv_istore_n (lv' := [(3, .int r_11), (0, .ref (bd 0)), (1, .int p1), (2, .int p2)]) hx hb dX12_stinging_51 rfl hl (by decide) rfl (fun ls hl => ?_)
    refine lv_iload_n hx hb dX12_stinging_52 rfl (lv_at hl 0 rfl) ?_
    refine lv_aload_n hx hb dX12_stinging_53 rfl (lv_at hl 1 rfl) ?_
    refine lv_iload_n hx hb dX12_stinging_54 rfl (lv_at hl 2 rfl) ?_
    refine lv_iconst (v := 2) hx hb dX12_stinging_55 (by decide) ?_
    refine cV_i (As := [.int p1, .int 2]) (rest := [.int r_11]) ⟨hx, hb, hml, hown, hg⟩ (k_X12_settling_7 l D cs A bd (va_up u 64 o_u64_12) (va_up b 65 o_b65_13) bw  p1 2 hkn (show 0 ≤ p1.toInt by first | omega | decide) (show p1.toInt < 50 by first | omega | decide) (show 0 ≤ o_u64_12.toInt by first | omega | decide) (show o_u64_12.toInt ≤ 23 by first | omega | decide) ib63_0 (show 0 ≤ o_u64_12.toInt by first | omega | decide) (show o_u64_12.toInt ≤ 1000 by first | omega | decide)) ca_X12_settling q7_79 ⟨rfl, rfl⟩ ⟨Nat.le_of_ble_eq_true rfl, Nat.le_of_ble_eq_true rfl⟩ (rc_model hK hP) hK hP hD hS hZ rfl hl.1 rfl (Nat.le_of_ble_eq_true rfl) ⟨Nat.zero_le _, Nat.zero_le _⟩ dX12_stinging_56 (fun r_16 z_19 H locs wr_16 hP hD hS => ?_)
    obtain ⟨o_u64_17, o_b65_18⟩ := z_19
    have hP : va_P D vwCl (RW cs bd (va_up u 64 o_u64_17) (va_up b 65 o_b65_18) bw) H := hP
    have hD : va_D A (RW cs bd (va_up u 64 o_u64_17) (va_up b 65 o_b65_18) bw) := hD
    obtain ⟨wr_16_0, wr_16_1, wr_16_2, wr_16_3, wr_16_4⟩ : (o_u64_17.toInt = o_u64_12.toInt + 1) ∧ (o_b65_18 = TRW o_b65_13 o_u64_12.toInt.toNat [11]) ∧ (r_16 = ((2 : Int32) ^^^ p1)) ∧ (0 ≤ o_u64_17.toInt) ∧ (o_u64_17.toInt ≤ 1000) := wr_16
    have kt_20 : o_b65_18 = TRW (b 65) (u 64).toInt.toNat [80, 10, 81, 70, 1, 11] := by rw [wr_16_1, kt_15, show (o_u64_12).toInt.toNat = (u 64).toInt.toNat + 5 from by omega]; rfl
    refine lv_iadd hx hb dX12_stinging_59 ?_
    refine lv_topi (fun x_21 ex_21 => ?_)
    exact W.iret (v := x_21) hx hb hr (fun tt ht hW => ⟨⟨x_21, ⟨o_u64_17, o_b65_18⟩, rfl, ⟨(by first | rfl | omega | trivial | assumption | (dsimp only; first | omega | assumption)), (by (try dsimp only); first | assumption | rfl), (by simp only [ex_21, wr_16_2, wr_11_2]), (show 0 ≤ o_u64_17.toInt by first | omega | assumption), (show o_u64_17.toInt ≤ 1000 by first | omega | assumption)⟩, by rw [ht]; exact hP, hD⟩, hS.F ht⟩) hS.2.2 dX12_stinging_60
  ·
    have kc_3 : r_2.toInt ≠ (0 : Int) := i_ne c_3
    exfalso; omega
set_option maxHeartbeats 4000000 in
set_option maxRecDepth 100000 in
theorem k_X12_plainTells_7 (l : Launch) (D : va_G) (cs : Nat → ClassId) (A : Nat → Prop) (bd : Nat → Nat) (u : Nat → Int32) (b : Nat → Nat → Int32) (bw : Nat → Nat → Int64)  (p1 : Int32) (p2 : Int32) (hkn : (b 63) p1.toNatClampNeg = 7) (h1 : 0 ≤ p1.toInt) (h2 : p1.toInt < 50) (hr0 : 0 ≤ (u 64).toInt) (hr1 : (u 64).toInt ≤ 16) (iu64_0 : 0 ≤ (u 64).toInt) (iu64_1 : (u 64).toInt ≤ 1000) (ib63_0 : AB 0 7 (b 63)) : Met l yX12_plainTells (Cond.code yX12_plainTells cX12_plainTells 4 (some .int) :: gw) ({ frames := 6, cells := 0, slots := 0, locals := 132 }) (va_Pc [.ref (bd 0), .int p1, .int p2] (XPre D (TY cs) (RW cs bd u b bw) A)) (va_Qi (fun (r : Int32) (z : Int32 × (Nat → Int32)) => (z.1.toInt = (u 64).toInt + 8) ∧ (z.2 = TRW (b 65) (u 64).toInt.toNat [2, 80, 10, 81, 70, 1, 11, 11]) ∧ (r = ((((((p2 + p1) * 2) - 1) * 2) + ((2 : Int32) ^^^ p1)) - ((1 : Int32) ^^^ p1))) ∧ (0 ≤ z.1.toInt) ∧ (z.1.toInt ≤ 1000)) (XPo D (fun (z : Int32 × (Nat → Int32)) => RW cs bd (va_up u 64 z.1) (va_up b 65 z.2) bw) A) A) 0 0 A := by
  refine Met.ofW (cc := cX12_plainTells) (maxL := 4) (ret := (some .int)) (by decide) rfl ?_
  intro p e s m args below meth c s₁ B hml hv
  obtain ⟨rfl, hP, hK, hD, hZ⟩ := hv
  have hx := B.exec
  have hb := B.bytes
  have hr := B.returns
  have hts := atoms_spec (ws := (Cond.code yX12_plainTells cX12_plainTells 4 (some .int) :: gw)) B.pre
  have hg : ∀ w ∈ gw, w.before ([.ref (bd 0), .int p1, .int p2] : List Value).toArray s = true := fun w h => hts w (List.mem_cons_of_mem _ h)
  have hown : s.vm.findClass RX12 = some m.cls := findClass_of_methodNamed B.named
  have hlocks := B.notSynchronized
  have hS : va_S A s.heap s.heap [] := va_S.rf
  have hP : va_P D vwCl (RW cs bd u b bw) s.heap := hP
  have hl := lv_entry ([.ref (bd 0), .int p1, .int p2]) (n := 4) (Nat.le_of_ble_eq_true rfl)
  rw [lg_entry_eq]
  generalize (lg_sl ([.ref (bd 0), .int p1, .int p2]) ++ List.replicate (4 - (lg_sl ([.ref (bd 0), .int p1, .int p2])).length) Slot.unset).toArray = ls at hl ⊢
  have hl : lv_has ls 4 [(0, .ref (bd 0)), (1, .int p1), (2, .int p2)] := hl
  refine lv_aload_n hx hb dX12_plainTells_0 rfl (lv_at hl 0 rfl) ?_
  refine lv_iconst (v := 2) hx hb dX12_plainTells_1 (by decide) ?_
  refine cV_v (As := [.int 2]) (rest := []) ⟨hx, hb, hml, hown, hg⟩ (k_X12_ran l D cs A bd u b bw  2 (show 0 ≤ (u 64).toInt by first | omega | decide) (show (u 64).toInt ≤ 23 by first | omega | decide) (show 0 ≤ (u 64).toInt by first | omega | decide) (show (u 64).toInt ≤ 1000 by first | omega | decide)) ca_X12_ran q7_55 ⟨rfl, rfl⟩ ⟨Nat.le_of_ble_eq_true rfl, Nat.le_of_ble_eq_true rfl⟩ (rc_model hK hP) hK hP hD hS hZ rfl hl.1 rfl (Nat.le_of_ble_eq_true rfl) ⟨Nat.zero_le _, Nat.zero_le _⟩ dX12_plainTells_2 (fun z_4 H locs wr_1 hP hD hS => ?_)
  obtain ⟨o_u64_2, o_b65_3⟩ := z_4
  have hP : va_P D vwCl (RW cs bd (va_up u 64 o_u64_2) (va_up b 65 o_b65_3) bw) H := hP
  have hD : va_D A (RW cs bd (va_up u 64 o_u64_2) (va_up b 65 o_b65_3) bw) := hD
  obtain ⟨wr_1_0, wr_1_1, wr_1_2, wr_1_3⟩ : (o_u64_2.toInt = (u 64).toInt + 1) ∧ (o_b65_3 = TRW (b 65) (u 64).toInt.toNat [(2 : Int32)]) ∧ (0 ≤ o_u64_2.toInt) ∧ (o_u64_2.toInt ≤ 1000) := wr_1
  have kt_5 : o_b65_3 = TRW (b 65) (u 64).toInt.toNat [2] := by rw [wr_1_1]
  refine lv_aload_n hx hb dX12_plainTells_5 rfl (lv_at hl 0 rfl) ?_
  refine lv_iload_n hx hb dX12_plainTells_6 rfl (lv_at hl 1 rfl) ?_
  refine lv_iload_n hx hb dX12_plainTells_7 rfl (lv_at hl 2 rfl) ?_
  refine cV_i (As := [.int p1, .int p2]) (rest := []) ⟨hx, hb, hml, hown, hg⟩ (k_X12_stinging_7 l D cs A bd (va_up u 64 o_u64_2) (va_up b 65 o_b65_3) bw  p1 p2 hkn (show 0 ≤ p1.toInt by first | omega | decide) (show p1.toInt < 50 by first | omega | decide) (show 0 ≤ o_u64_2.toInt by first | omega | decide) (show o_u64_2.toInt ≤ 18 by first | omega | decide) ib63_0 (show 0 ≤ o_u64_2.toInt by first | omega | decide) (show o_u64_2.toInt ≤ 1000 by first | omega | decide)) ca_X12_stinging q7_67 ⟨rfl, rfl⟩ ⟨Nat.le_of_ble_eq_true rfl, Nat.le_of_ble_eq_true rfl⟩ (rc_model hK hP) hK hP hD hS hZ rfl hl.1 rfl (Nat.le_of_ble_eq_true rfl) ⟨Nat.zero_le _, Nat.zero_le _⟩ dX12_plainTells_8 (fun r_6 z_9 H locs wr_6 hP hD hS => ?_)
  obtain ⟨o_u64_7, o_b65_8⟩ := z_9
  have hP : va_P D vwCl (RW cs bd (va_up u 64 o_u64_7) (va_up b 65 o_b65_8) bw) H := hP
  have hD : va_D A (RW cs bd (va_up u 64 o_u64_7) (va_up b 65 o_b65_8) bw) := hD
  obtain ⟨wr_6_0, wr_6_1, wr_6_2, wr_6_3, wr_6_4⟩ : (o_u64_7.toInt = o_u64_2.toInt + 6) ∧ (o_b65_8 = TRW o_b65_3 o_u64_2.toInt.toNat [80, 10, 81, 70, 1, 11]) ∧ (r_6 = (((((p2 + p1) * 2) - 1) * 2) + ((2 : Int32) ^^^ p1))) ∧ (0 ≤ o_u64_7.toInt) ∧ (o_u64_7.toInt ≤ 1000) := wr_6
  have kt_10 : o_b65_8 = TRW (b 65) (u 64).toInt.toNat [2, 80, 10, 81, 70, 1, 11] := by rw [wr_6_1, kt_5, show (o_u64_2).toInt.toNat = (u 64).toInt.toNat + 1 from by omega]; rfl
  refine lv_istore_n (lv' := [(3, .int r_6), (0, .ref (bd 0)), (1, .int p1), (2, .int p2)]) hx hb dX12_plainTells_11 rfl hl (by decide) rfl (fun ls hl => ?_)
  refine lv_iload_n hx hb dX12_plainTells_12 rfl (lv_at hl 0 rfl) ?_
  refine lv_aload_n hx hb dX12_plainTells_13 rfl (lv_at hl 1 rfl) ?_
  refine lv_iload_n hx hb dX12_plainTells_14 rfl (lv_at hl 2 rfl) ?_
  refine lv_iconst (v := 1) hx hb dX12_plainTells_15 (by decide) ?_
  refine cV_i (As := [.int p1, .int 1]) (rest := [.int r_6]) ⟨hx, hb, hml, hown, hg⟩ (k_X12_settling_7 l D cs A bd (va_up u 64 o_u64_7) (va_up b 65 o_b65_8) bw  p1 1 hkn (show 0 ≤ p1.toInt by first | omega | decide) (show p1.toInt < 50 by first | omega | decide) (show 0 ≤ o_u64_7.toInt by first | omega | decide) (show o_u64_7.toInt ≤ 23 by first | omega | decide) ib63_0 (show 0 ≤ o_u64_7.toInt by first | omega | decide) (show o_u64_7.toInt ≤ 1000 by first | omega | decide)) ca_X12_settling q7_79 ⟨rfl, rfl⟩ ⟨Nat.le_of_ble_eq_true rfl, Nat.le_of_ble_eq_true rfl⟩ (rc_model hK hP) hK hP hD hS hZ rfl hl.1 rfl (Nat.le_of_ble_eq_true rfl) ⟨Nat.zero_le _, Nat.zero_le _⟩ dX12_plainTells_16 (fun r_11 z_14 H locs wr_11 hP hD hS => ?_)
  obtain ⟨o_u64_12, o_b65_13⟩ := z_14
  have hP : va_P D vwCl (RW cs bd (va_up u 64 o_u64_12) (va_up b 65 o_b65_13) bw) H := hP
  have hD : va_D A (RW cs bd (va_up u 64 o_u64_12) (va_up b 65 o_b65_13) bw) := hD
  obtain ⟨wr_11_0, wr_11_1, wr_11_2, wr_11_3, wr_11_4⟩ : (o_u64_12.toInt = o_u64_7.toInt + 1) ∧ (o_b65_13 = TRW o_b65_8 o_u64_7.toInt.toNat [11]) ∧ (r_11 = ((1 : Int32) ^^^ p1)) ∧ (0 ≤ o_u64_12.toInt) ∧ (o_u64_12.toInt ≤ 1000) := wr_11
  have kt_15 : o_b65_13 = TRW (b 65) (u 64).toInt.toNat [2, 80, 10, 81, 70, 1, 11, 11] := by rw [wr_11_1, kt_10, show (o_u64_7).toInt.toNat = (u 64).toInt.toNat + 7 from by omega]; rfl
  refine lv_isub hx hb dX12_plainTells_19 ?_
  refine lv_topi (fun x_16 ex_16 => ?_)
  exact W.iret (v := x_16) hx hb hr (fun tt ht hW => ⟨⟨x_16, ⟨o_u64_12, o_b65_13⟩, rfl, ⟨(by first | rfl | omega | trivial | assumption | (dsimp only; first | omega | assumption)), (by (try dsimp only); first | assumption | rfl), (by simp only [ex_16, wr_11_2, wr_6_2]), (show 0 ≤ o_u64_12.toInt by first | omega | assumption), (show o_u64_12.toInt ≤ 1000 by first | omega | assumption)⟩, by rw [ht]; exact hP, hD⟩, hS.F ht⟩) hS.2.2 dX12_plainTells_20
set_option maxHeartbeats 4000000 in
set_option maxRecDepth 100000 in
theorem k_X12_telling_7 (l : Launch) (D : va_G) (cs : Nat → ClassId) (A : Nat → Prop) (bd : Nat → Nat) (u : Nat → Int32) (b : Nat → Nat → Int32) (bw : Nat → Nat → Int64)  (p1 : Int32) (p2 : Int32) (hkn : (b 63) p1.toNatClampNeg = 7) (h1 : 0 ≤ p1.toInt) (h2 : p1.toInt < 50) (hr0 : 0 ≤ (u 64).toInt) (hr1 : (u 64).toInt ≤ 16) (ib63_0 : AB 0 7 (b 63)) (iu64_0 : 0 ≤ (u 64).toInt) (iu64_1 : (u 64).toInt ≤ 1000) : Met l yX12_telling (Cond.code yX12_telling cX12_telling 3 (some .int) :: gw) ({ frames := 7, cells := 0, slots := 0, locals := 155 }) (va_Pc [.ref (bd 0), .int p1, .int p2] (XPre D (TY cs) (RW cs bd u b bw) A)) (va_Qi (fun (r : Int32) (z : Int32 × (Nat → Int32)) => (z.1.toInt = (u 64).toInt + 8) ∧ (z.2 = TRW (b 65) (u 64).toInt.toNat [2, 80, 10, 81, 70, 1, 11, 11]) ∧ (r = ((((((p2 + p1) * 2) - 1) * 2) + ((2 : Int32) ^^^ p1)) - ((1 : Int32) ^^^ p1))) ∧ (0 ≤ z.1.toInt) ∧ (z.1.toInt ≤ 1000)) (XPo D (fun (z : Int32 × (Nat → Int32)) => RW cs bd (va_up u 64 z.1) (va_up b 65 z.2) bw) A) A) 0 0 A := by
  refine Met.ofW (cc := cX12_telling) (maxL := 3) (ret := (some .int)) (by decide) rfl ?_
  intro p e s m args below meth c s₁ B hml hv
  obtain ⟨rfl, hP, hK, hD, hZ⟩ := hv
  have hx := B.exec
  have hb := B.bytes
  have hr := B.returns
  have hts := atoms_spec (ws := (Cond.code yX12_telling cX12_telling 3 (some .int) :: gw)) B.pre
  have hg : ∀ w ∈ gw, w.before ([.ref (bd 0), .int p1, .int p2] : List Value).toArray s = true := fun w h => hts w (List.mem_cons_of_mem _ h)
  have hown : s.vm.findClass RX12 = some m.cls := findClass_of_methodNamed B.named
  have hlocks := B.notSynchronized
  have hS : va_S A s.heap s.heap [] := va_S.rf
  have hP : va_P D vwCl (RW cs bd u b bw) s.heap := hP
  have hl := lv_entry ([.ref (bd 0), .int p1, .int p2]) (n := 3) (Nat.le_of_ble_eq_true rfl)
  rw [lg_entry_eq]
  generalize (lg_sl ([.ref (bd 0), .int p1, .int p2]) ++ List.replicate (3 - (lg_sl ([.ref (bd 0), .int p1, .int p2])).length) Slot.unset).toArray = ls at hl ⊢
  have hl : lv_has ls 3 [(0, .ref (bd 0)), (1, .int p1), (2, .int p2)] := hl
  refine lv_aload_n hx hb dX12_telling_0 rfl (lv_at hl 0 rfl) ?_
  refine gr_kind hx hb hg hown hK hP (hg _ q5_55) dX12_telling_1 ?_
  refine lv_iload_n hx hb dX12_telling_4 rfl (lv_at hl 1 rfl) ?_
  refine lr_kind hx hb hK hP (i_in (by omega) (by omega)) dX12_telling_5 ?_
  refine lv_topi (fun x_1 ex_1 => ?_)
  have ex_1 : x_1 = (b 63) p1.toNatClampNeg := ex_1
  have hx_1 : x_1.toInt = ((b 63) p1.toNatClampNeg).toInt := by rw [ex_1]
  have bx_1 := ib63_0 p1.toNatClampNeg
  rw [← ex_1] at bx_1
  have fx_1 : x_1 = 7 := by rw [ex_1]; exact hkn
  subst fx_1
  refine lv_iconst (v := 4) hx hb dX12_telling_6 (by decide) ?_
  refine lv_icmp_ne (tgt := 25) hx hb dX12_telling_7 (by decide) (fun c_2 => ?_) (fun c_2 => absurd c_2 (by decide))
  refine lv_aload_n hx hb dX12_telling_25 rfl (lv_at hl 0 rfl) ?_
  refine gr_kind hx hb hg hown hK hP (hg _ q5_55) dX12_telling_26 ?_
  refine lv_iload_n hx hb dX12_telling_29 rfl (lv_at hl 1 rfl) ?_
  refine lr_kind hx hb hK hP (i_in (by omega) (by omega)) dX12_telling_30 ?_
  refine lv_topi (fun x_3 ex_3 => ?_)
  have ex_3 : x_3 = (b 63) p1.toNatClampNeg := ex_3
  have hx_3 : x_3.toInt = ((b 63) p1.toNatClampNeg).toInt := by rw [ex_3]
  have bx_3 := ib63_0 p1.toNatClampNeg
  rw [← ex_3] at bx_3
  have fx_3 : x_3 = 7 := by rw [ex_3]; exact hkn
  subst fx_3
  refine lv_iconst (v := 5) hx hb dX12_telling_31 (by decide) ?_
  refine lv_icmp_ne (tgt := 50) hx hb dX12_telling_32 (by decide) (fun c_4 => ?_) (fun c_4 => absurd c_4 (by decide))
  refine lv_aload_n hx hb dX12_telling_50 rfl (lv_at hl 0 rfl) ?_
  refine lv_iload_n hx hb dX12_telling_51 rfl (lv_at hl 1 rfl) ?_
  refine lv_iload_n hx hb dX12_telling_52 rfl (lv_at hl 2 rfl) ?_
  refine cV_i (As := [.int p1, .int p2]) (rest := []) ⟨hx, hb, hml, hown, hg⟩ (k_X12_plainTells_7 l D cs A bd u b bw  p1 p2 hkn (show 0 ≤ p1.toInt by first | omega | decide) (show p1.toInt < 50 by first | omega | decide) (show 0 ≤ (u 64).toInt by first | omega | decide) (show (u 64).toInt ≤ 16 by first | omega | decide) (show 0 ≤ (u 64).toInt by first | omega | decide) (show (u 64).toInt ≤ 1000 by first | omega | decide) ib63_0) ca_X12_plainTells q7_95 ⟨rfl, rfl⟩ ⟨Nat.le_of_ble_eq_true rfl, Nat.le_of_ble_eq_true rfl⟩ (rc_model hK hP) hK hP hD hS hZ rfl hl.1 rfl (Nat.le_of_ble_eq_true rfl) ⟨Nat.zero_le _, Nat.zero_le _⟩ dX12_telling_53 (fun r_5 z_8 H locs wr_5 hP hD hS => ?_)
  obtain ⟨o_u64_6, o_b65_7⟩ := z_8
  have hP : va_P D vwCl (RW cs bd (va_up u 64 o_u64_6) (va_up b 65 o_b65_7) bw) H := hP
  have hD : va_D A (RW cs bd (va_up u 64 o_u64_6) (va_up b 65 o_b65_7) bw) := hD
  obtain ⟨wr_5_0, wr_5_1, wr_5_2, wr_5_3, wr_5_4⟩ : (o_u64_6.toInt = (u 64).toInt + 8) ∧ (o_b65_7 = TRW (b 65) (u 64).toInt.toNat [2, 80, 10, 81, 70, 1, 11, 11]) ∧ (r_5 = ((((((p2 + p1) * 2) - 1) * 2) + ((2 : Int32) ^^^ p1)) - ((1 : Int32) ^^^ p1))) ∧ (0 ≤ o_u64_6.toInt) ∧ (o_u64_6.toInt ≤ 1000) := wr_5
  have kt_9 : o_b65_7 = TRW (b 65) (u 64).toInt.toNat [2, 80, 10, 81, 70, 1, 11, 11] := by rw [wr_5_1]
  exact W.iret (v := r_5) hx hb hr (fun tt ht hW => ⟨⟨r_5, ⟨o_u64_6, o_b65_7⟩, rfl, ⟨(by first | rfl | omega | trivial | assumption | (dsimp only; first | omega | assumption)), (by (try dsimp only); first | assumption | rfl), (by simp only [wr_5_2]), (show 0 ≤ o_u64_6.toInt by first | omega | assumption), (show o_u64_6.toInt ≤ 1000 by first | omega | assumption)⟩, by rw [ht]; exact hP, hD⟩, hS.F ht⟩) hS.2.2 dX12_telling_56
set_option maxHeartbeats 4000000 in
set_option maxRecDepth 100000 in
theorem k_X12_act (l : Launch) (D : va_G) (cs : Nat → ClassId) (A : Nat → Prop) (bd : Nat → Nat) (u : Nat → Int32) (b : Nat → Nat → Int32) (bw : Nat → Nat → Int64)  (p1 : Int32) (p2 : Int32) (p3 : Int32) (iu62_0 : 0 ≤ (u 62).toInt) (iu62_1 : (u 62).toInt ≤ 50) (ib63_0 : AB 0 7 (b 63)) : Met l yX12_act (Cond.code yX12_act cX12_act 4 (some .int) :: gw) ({ frames := 8, cells := 0, slots := 0, locals := 177 }) (va_Pc [.ref (bd 0), .int p1, .int p2, .int p3] (XPre D (TY cs) (RW cs bd u b bw) A)) (va_Qi (fun (r : Int32) (z : Int32 × (Nat → Int32)) => ((¬ ((0 ≤ p1.toInt ∧ p1.toInt < (u 62).toInt) ∧ 0 ≤ p2.toInt ∧ p2.toInt ≤ 3) ∧ r.toInt = 0 ∧ z.1.toInt = 0 ∧ z.2 = (b 65)) ∨ (((0 ≤ p1.toInt ∧ p1.toInt < (u 62).toInt) ∧ 0 ≤ p2.toInt ∧ p2.toInt ≤ 3) ∧ r = AV ((b 63) p1.toNatClampNeg).toInt.toNat p2.toInt.toNat p3 p1 ∧ z.1.toInt = ((AL ((b 63) p1.toNatClampNeg).toInt.toNat p2.toInt.toNat).length : Int) ∧ z.2 = TRW (b 65) 0 (AL ((b 63) p1.toNatClampNeg).toInt.toNat p2.toInt.toNat))) ∧ (0 ≤ z.1.toInt) ∧ (z.1.toInt ≤ 1000)) (XPo D (fun (z : Int32 × (Nat → Int32)) => RW cs bd (va_up u 64 z.1) (va_up b 65 z.2) bw) A) A) 0 0 A := by
  refine Met.ofW (cc := cX12_act) (maxL := 4) (ret := (some .int)) (by decide) rfl ?_
  intro p e s m args below meth c s₁ B hml hv
  obtain ⟨rfl, hP, hK, hD, hZ⟩ := hv
  have hx := B.exec
  have hb := B.bytes
  have hr := B.returns
  have hts := atoms_spec (ws := (Cond.code yX12_act cX12_act 4 (some .int) :: gw)) B.pre
  have hg : ∀ w ∈ gw, w.before ([.ref (bd 0), .int p1, .int p2, .int p3] : List Value).toArray s = true := fun w h => hts w (List.mem_cons_of_mem _ h)
  have hown : s.vm.findClass RX12 = some m.cls := findClass_of_methodNamed B.named
  have hlocks := B.notSynchronized
  have hS : va_S A s.heap s.heap [] := va_S.rf
  have hP : va_P D vwCl (RW cs bd u b bw) s.heap := hP
  have hl := lv_entry ([.ref (bd 0), .int p1, .int p2, .int p3]) (n := 4) (Nat.le_of_ble_eq_true rfl)
  rw [lg_entry_eq]
  generalize (lg_sl ([.ref (bd 0), .int p1, .int p2, .int p3]) ++ List.replicate (4 - (lg_sl ([.ref (bd 0), .int p1, .int p2, .int p3])).length) Slot.unset).toArray = ls at hl ⊢
  have hl : lv_has ls 4 [(0, .ref (bd 0)), (1, .int p1), (2, .int p2), (3, .int p3)] := hl
  refine lv_aload_n hx hb dX12_act_0 rfl (lv_at hl 0 rfl) ?_
  refine lv_iconst (v := 0) hx hb dX12_act_1 (by decide) ?_
  refine pr_traces hx hb hg hown hK hP hD hS (hg _ q5_56) dX12_act_2 (fun H locs hP hD hS => ?_)
  refine lv_aload_n hx hb dX12_act_5 rfl (lv_at hl 0 rfl) ?_
  refine lv_iload_n hx hb dX12_act_6 rfl (lv_at hl 1 rfl) ?_
  refine cV_ro (As := [.int p1]) (rest := []) ⟨hx, hb, hml, hown, hg⟩ (k_X12_isBody l D cs A bd (va_up u 64 0) b bw  p1 (show 0 ≤ (u 62).toInt by first | omega | decide) (show (u 62).toInt ≤ 50 by first | omega | decide)) ca_X12_isBody q7_44 ⟨rfl, rfl⟩ ⟨Nat.le_of_ble_eq_true rfl, Nat.le_of_ble_eq_true rfl⟩ (rc_model hK hP) hK hP hD hS hZ rfl hl.1 rfl (Nat.le_of_ble_eq_true rfl) ⟨Nat.zero_le _, Nat.zero_le _⟩ dX12_act_7 (fun r_1 wr_1 => ?_)
  have wr_1_0 : (r_1.toInt = 1 ∧ 0 ≤ p1.toInt ∧ p1.toInt < (u 62).toInt) ∨ (r_1.toInt = 0 ∧ ¬ (0 ≤ p1.toInt ∧ p1.toInt < (u 62).toInt)) := wr_1
  refine lv_if_eq (tgt := 22) hx hb dX12_act_10 (by decide) (fun c_2 => ?_) (fun c_2 => ?_)
  ·
    have kc_2 : r_1.toInt = (0 : Int) := i_eq c_2
    refine lv_iconst (v := 0) hx hb dX12_act_22 (by decide) ?_
    have q0_0 : (0 : Int32).toInt = 0 := rfl
    have q0_0 : (0 : Int32).toInt = 0 := rfl
    have hP : va_P D vwCl (RW cs bd (va_up u 64 0) (va_up b 65 (b 65)) bw) _ := hP
    have hD : va_D A (RW cs bd (va_up u 64 0) (va_up b 65 (b 65)) bw) := hD
    exact W.iret (v := 0) hx hb hr (fun tt ht hW => ⟨⟨0, ⟨0, (b 65)⟩, rfl, ⟨(Or.inl ⟨by omega, by omega, by (try dsimp only); omega, rfl⟩), (show 0 ≤ (0 : Int) by first | omega | assumption), (show (0 : Int) ≤ 1000 by first | omega | assumption)⟩, by rw [ht]; exact hP, hD⟩, hS.F ht⟩) hS.2.2 dX12_act_23
  ·
    have kc_2 : r_1.toInt ≠ (0 : Int) := i_ne c_2
    refine lv_iload_n hx hb dX12_act_13 rfl (lv_at hl 2 rfl) ?_
    refine lv_iconst (v := 0) hx hb dX12_act_14 (by decide) ?_
    refine lv_iconst (v := 3) hx hb dX12_act_15 (by decide) ?_
    refine cS_p (As := [.int p2, .int 0, .int 3]) (rest := []) ⟨hx, hb, hml, hown, hg⟩ (k_X12_in l   p2 0 3 ) ca_X12_in q5_212 ⟨rfl, rfl⟩ ⟨Nat.le_of_ble_eq_true rfl, Nat.le_of_ble_eq_true rfl⟩ rfl hl.1 rfl (Nat.le_of_ble_eq_true rfl) ⟨Nat.zero_le _, Nat.zero_le _⟩ dX12_act_16 (fun r_3 wr_3 => ?_)
    have wr_3 : (r_3.toInt = 1 ∧ (0 : Int) ≤ p2.toInt ∧ p2.toInt ≤ (3 : Int)) ∨ (r_3.toInt = 0 ∧ ¬ ((0 : Int) ≤ p2.toInt ∧ p2.toInt ≤ (3 : Int))) := wr_3
    refine lv_if_ne (tgt := 24) hx hb dX12_act_19 (by decide) (fun c_4 => ?_) (fun c_4 => ?_)
    ·
      have kc_4 : r_3.toInt ≠ (0 : Int) := i_ne c_4
      rcases (i_07 (ib63_0 p1.toNatClampNeg).1 (ib63_0 p1.toNatClampNeg).2) with hkn | hkn | hkn | hkn | hkn | hkn | hkn | hkn
      ·
        have hkN : ((b 63) p1.toNatClampNeg).toInt.toNat = 0 := by rw [hkn]; rfl
        have hal0 : (AL 0 0).length = 1 := rfl
        have hal1 : (AL 0 1).length = 2 := rfl
        have hal2 : (AL 0 2).length = 1 := rfl
        have hal3 : (AL 0 3).length = 4 := rfl
        refine lv_iload_n hx hb dX12_act_24 rfl (lv_at hl 2 rfl) ?_
        refine lv_if_ne (tgt := 37) hx hb dX12_act_25 (by decide) (fun c_5 => ?_) (fun c_5 => ?_)
        ·
          have kc_5 : p2.toInt ≠ (0 : Int) := i_ne c_5
          refine lv_iload_n hx hb dX12_act_37 rfl (lv_at hl 2 rfl) ?_
          refine lv_iconst (v := 1) hx hb dX12_act_38 (by decide) ?_
          refine lv_icmp_ne (tgt := 51) hx hb dX12_act_39 (by decide) (fun c_6 => ?_) (fun c_6 => ?_)
          ·
            have kc_6 : p2.toInt ≠ (1 : Int) := i_ne c_6
            refine lv_iload_n hx hb dX12_act_51 rfl (lv_at hl 2 rfl) ?_
            refine lv_iconst (v := 2) hx hb dX12_act_52 (by decide) ?_
            refine lv_icmp_ne (tgt := 65) hx hb dX12_act_53 (by decide) (fun c_7 => ?_) (fun c_7 => ?_)
            ·
              have kc_7 : p2.toInt ≠ (2 : Int) := i_ne c_7
              refine lv_aload_n hx hb dX12_act_65 rfl (lv_at hl 0 rfl) ?_
              refine lv_iload_n hx hb dX12_act_66 rfl (lv_at hl 1 rfl) ?_
              refine lv_iload_n hx hb dX12_act_67 rfl (lv_at hl 3 rfl) ?_
              refine cV_i (As := [.int p1, .int p3]) (rest := []) ⟨hx, hb, hml, hown, hg⟩ (k_X12_telling_0 l D cs A bd (va_up u 64 0) b bw  p1 p3 hkn (show 0 ≤ p1.toInt by first | omega | decide) (show p1.toInt < 50 by first | omega | decide) (show 0 ≤ (0 : Int) by first | omega | decide) (show (0 : Int) ≤ 20 by first | omega | decide) ib63_0 (show 0 ≤ (0 : Int) by first | omega | decide) (show (0 : Int) ≤ 1000 by first | omega | decide)) ca_X12_telling q7_91 ⟨rfl, rfl⟩ ⟨Nat.le_of_ble_eq_true rfl, Nat.le_of_ble_eq_true rfl⟩ (rc_model hK hP) hK hP hD hS hZ rfl hl.1 rfl (Nat.le_of_ble_eq_true rfl) ⟨Nat.zero_le _, Nat.zero_le _⟩ dX12_act_68 (fun r_8 z_11 H locs wr_8 hP hD hS => ?_)
              obtain ⟨o_u64_9, o_b65_10⟩ := z_11
              have hP : va_P D vwCl (RW cs bd (va_up u 64 o_u64_9) (va_up b 65 o_b65_10) bw) H := hP
              have hD : va_D A (RW cs bd (va_up u 64 o_u64_9) (va_up b 65 o_b65_10) bw) := hD
              obtain ⟨wr_8_0, wr_8_1, wr_8_2, wr_8_3, wr_8_4⟩ : (o_u64_9.toInt = (0 : Int) + 4) ∧ (o_b65_10 = TRW (b 65) (0 : Int).toNat [2, 10, 1, 11]) ∧ (r_8 = (((p3 + p1) * 2) - ((1 : Int32) ^^^ p1))) ∧ (0 ≤ o_u64_9.toInt) ∧ (o_u64_9.toInt ≤ 1000) := wr_8
              exact W.iret (v := r_8) hx hb hr (fun tt ht hW => ⟨⟨r_8, ⟨o_u64_9, o_b65_10⟩, rfl, ⟨(by first | (exact Or.inr ⟨by omega, by rw [hkN, show p2.toInt.toNat = 0 from by omega]; exact wr_8_2, by rw [hkN, show p2.toInt.toNat = 0 from by omega, hal0]; (try dsimp only); omega, by rw [hkN, show p2.toInt.toNat = 0 from by omega]; exact wr_8_1⟩) | (exact Or.inr ⟨by omega, by rw [hkN, show p2.toInt.toNat = 1 from by omega]; exact wr_8_2, by rw [hkN, show p2.toInt.toNat = 1 from by omega, hal1]; (try dsimp only); omega, by rw [hkN, show p2.toInt.toNat = 1 from by omega]; exact wr_8_1⟩) | (exact Or.inr ⟨by omega, by rw [hkN, show p2.toInt.toNat = 2 from by omega]; exact wr_8_2, by rw [hkN, show p2.toInt.toNat = 2 from by omega, hal2]; (try dsimp only); omega, by rw [hkN, show p2.toInt.toNat = 2 from by omega]; exact wr_8_1⟩) | (exact Or.inr ⟨by omega, by rw [hkN, show p2.toInt.toNat = 3 from by omega]; exact wr_8_2, by rw [hkN, show p2.toInt.toNat = 3 from by omega, hal3]; (try dsimp only); omega, by rw [hkN, show p2.toInt.toNat = 3 from by omega]; exact wr_8_1⟩)), (show 0 ≤ o_u64_9.toInt by first | omega | assumption), (show o_u64_9.toInt ≤ 1000 by first | omega | assumption)⟩, by rw [ht]; exact hP, hD⟩, hS.F ht⟩) hS.2.2 dX12_act_71
            ·
              have kc_7 : p2.toInt = (2 : Int) := i_eq c_7
              refine lv_aload_n hx hb dX12_act_56 rfl (lv_at hl 0 rfl) ?_
              refine lv_iload_n hx hb dX12_act_57 rfl (lv_at hl 1 rfl) ?_
              refine lv_iload_n hx hb dX12_act_58 rfl (lv_at hl 3 rfl) ?_
              refine cV_i (As := [.int p1, .int p3]) (rest := []) ⟨hx, hb, hml, hown, hg⟩ (k_X12_settling_0 l D cs A bd (va_up u 64 0) b bw  p1 p3 hkn (show 0 ≤ p1.toInt by first | omega | decide) (show p1.toInt < 50 by first | omega | decide) (show 0 ≤ (0 : Int) by first | omega | decide) (show (0 : Int) ≤ 23 by first | omega | decide) ib63_0 (show 0 ≤ (0 : Int) by first | omega | decide) (show (0 : Int) ≤ 1000 by first | omega | decide)) ca_X12_settling q7_79 ⟨rfl, rfl⟩ ⟨Nat.le_of_ble_eq_true rfl, Nat.le_of_ble_eq_true rfl⟩ (rc_model hK hP) hK hP hD hS hZ rfl hl.1 rfl (Nat.le_of_ble_eq_true rfl) ⟨Nat.zero_le _, Nat.zero_le _⟩ dX12_act_59 (fun r_12 z_15 H locs wr_12 hP hD hS => ?_)
              obtain ⟨o_u64_13, o_b65_14⟩ := z_15
              have hP : va_P D vwCl (RW cs bd (va_up u 64 o_u64_13) (va_up b 65 o_b65_14) bw) H := hP
              have hD : va_D A (RW cs bd (va_up u 64 o_u64_13) (va_up b 65 o_b65_14) bw) := hD
              obtain ⟨wr_12_0, wr_12_1, wr_12_2, wr_12_3, wr_12_4⟩ : (o_u64_13.toInt = (0 : Int) + 1) ∧ (o_b65_14 = TRW (b 65) (0 : Int).toNat [11]) ∧ (r_12 = (p3 ^^^ p1)) ∧ (0 ≤ o_u64_13.toInt) ∧ (o_u64_13.toInt ≤ 1000) := wr_12
              refine lv_goto (tgt := 71) hx hb dX12_act_62 (by decide) ?_
              exact W.iret (v := r_12) hx hb hr (fun tt ht hW => ⟨⟨r_12, ⟨o_u64_13, o_b65_14⟩, rfl, ⟨(by first | (exact Or.inr ⟨by omega, by rw [hkN, show p2.toInt.toNat = 0 from by omega]; exact wr_12_2, by rw [hkN, show p2.toInt.toNat = 0 from by omega, hal0]; (try dsimp only); omega, by rw [hkN, show p2.toInt.toNat = 0 from by omega]; exact wr_12_1⟩) | (exact Or.inr ⟨by omega, by rw [hkN, show p2.toInt.toNat = 1 from by omega]; exact wr_12_2, by rw [hkN, show p2.toInt.toNat = 1 from by omega, hal1]; (try dsimp only); omega, by rw [hkN, show p2.toInt.toNat = 1 from by omega]; exact wr_12_1⟩) | (exact Or.inr ⟨by omega, by rw [hkN, show p2.toInt.toNat = 2 from by omega]; exact wr_12_2, by rw [hkN, show p2.toInt.toNat = 2 from by omega, hal2]; (try dsimp only); omega, by rw [hkN, show p2.toInt.toNat = 2 from by omega]; exact wr_12_1⟩) | (exact Or.inr ⟨by omega, by rw [hkN, show p2.toInt.toNat = 3 from by omega]; exact wr_12_2, by rw [hkN, show p2.toInt.toNat = 3 from by omega, hal3]; (try dsimp only); omega, by rw [hkN, show p2.toInt.toNat = 3 from by omega]; exact wr_12_1⟩)), (show 0 ≤ o_u64_13.toInt by first | omega | assumption), (show o_u64_13.toInt ≤ 1000 by first | omega | assumption)⟩, by rw [ht]; exact hP, hD⟩, hS.F ht⟩) hS.2.2 dX12_act_71
          ·
            have kc_6 : p2.toInt = (1 : Int) := i_eq c_6
            refine lv_aload_n hx hb dX12_act_42 rfl (lv_at hl 0 rfl) ?_
            refine lv_iload_n hx hb dX12_act_43 rfl (lv_at hl 1 rfl) ?_
            refine lv_iload_n hx hb dX12_act_44 rfl (lv_at hl 3 rfl) ?_
            refine cV_i (As := [.int p1, .int p3]) (rest := []) ⟨hx, hb, hml, hown, hg⟩ (k_X12_stinging_0 l D cs A bd (va_up u 64 0) b bw  p1 p3 hkn (show 0 ≤ p1.toInt by first | omega | decide) (show p1.toInt < 50 by first | omega | decide) (show 0 ≤ (0 : Int) by first | omega | decide) (show (0 : Int) ≤ 22 by first | omega | decide) ib63_0 (show 0 ≤ (0 : Int) by first | omega | decide) (show (0 : Int) ≤ 1000 by first | omega | decide)) ca_X12_stinging q7_67 ⟨rfl, rfl⟩ ⟨Nat.le_of_ble_eq_true rfl, Nat.le_of_ble_eq_true rfl⟩ (rc_model hK hP) hK hP hD hS hZ rfl hl.1 rfl (Nat.le_of_ble_eq_true rfl) ⟨Nat.zero_le _, Nat.zero_le _⟩ dX12_act_45 (fun r_16 z_19 H locs wr_16 hP hD hS => ?_)
            obtain ⟨o_u64_17, o_b65_18⟩ := z_19
            have hP : va_P D vwCl (RW cs bd (va_up u 64 o_u64_17) (va_up b 65 o_b65_18) bw) H := hP
            have hD : va_D A (RW cs bd (va_up u 64 o_u64_17) (va_up b 65 o_b65_18) bw) := hD
            obtain ⟨wr_16_0, wr_16_1, wr_16_2, wr_16_3, wr_16_4⟩ : (o_u64_17.toInt = (0 : Int) + 2) ∧ (o_b65_18 = TRW (b 65) (0 : Int).toNat [10, 1]) ∧ (r_16 = ((p3 + p1) * 2)) ∧ (0 ≤ o_u64_17.toInt) ∧ (o_u64_17.toInt ≤ 1000) := wr_16
            refine lv_goto (tgt := 71) hx hb dX12_act_48 (by decide) ?_
            exact W.iret (v := r_16) hx hb hr (fun tt ht hW => ⟨⟨r_16, ⟨o_u64_17, o_b65_18⟩, rfl, ⟨(by first | (exact Or.inr ⟨by omega, by rw [hkN, show p2.toInt.toNat = 0 from by omega]; exact wr_16_2, by rw [hkN, show p2.toInt.toNat = 0 from by omega, hal0]; (try dsimp only); omega, by rw [hkN, show p2.toInt.toNat = 0 from by omega]; exact wr_16_1⟩) | (exact Or.inr ⟨by omega, by rw [hkN, show p2.toInt.toNat = 1 from by omega]; exact wr_16_2, by rw [hkN, show p2.toInt.toNat = 1 from by omega, hal1]; (try dsimp only); omega, by rw [hkN, show p2.toInt.toNat = 1 from by omega]; exact wr_16_1⟩) | (exact Or.inr ⟨by omega, by rw [hkN, show p2.toInt.toNat = 2 from by omega]; exact wr_16_2, by rw [hkN, show p2.toInt.toNat = 2 from by omega, hal2]; (try dsimp only); omega, by rw [hkN, show p2.toInt.toNat = 2 from by omega]; exact wr_16_1⟩) | (exact Or.inr ⟨by omega, by rw [hkN, show p2.toInt.toNat = 3 from by omega]; exact wr_16_2, by rw [hkN, show p2.toInt.toNat = 3 from by omega, hal3]; (try dsimp only); omega, by rw [hkN, show p2.toInt.toNat = 3 from by omega]; exact wr_16_1⟩)), (show 0 ≤ o_u64_17.toInt by first | omega | assumption), (show o_u64_17.toInt ≤ 1000 by first | omega | assumption)⟩, by rw [ht]; exact hP, hD⟩, hS.F ht⟩) hS.2.2 dX12_act_71
        ·
          have kc_5 : p2.toInt = (0 : Int) := i_eq c_5
          refine lv_aload_n hx hb dX12_act_28 rfl (lv_at hl 0 rfl) ?_
          refine lv_iload_n hx hb dX12_act_29 rfl (lv_at hl 1 rfl) ?_
          refine lv_iload_n hx hb dX12_act_30 rfl (lv_at hl 3 rfl) ?_
          refine cV_i (As := [.int p1, .int p3]) (rest := []) ⟨hx, hb, hml, hown, hg⟩ (k_X12_flying_0 l D cs A bd (va_up u 64 0) b bw  p1 p3 hkn (show 0 ≤ p1.toInt by first | omega | decide) (show p1.toInt < 50 by first | omega | decide) (show 0 ≤ (0 : Int) by first | omega | decide) (show (0 : Int) ≤ 23 by first | omega | decide) ib63_0 (show 0 ≤ (0 : Int) by first | omega | decide) (show (0 : Int) ≤ 1000 by first | omega | decide)) ca_X12_flying q7_48 ⟨rfl, rfl⟩ ⟨Nat.le_of_ble_eq_true rfl, Nat.le_of_ble_eq_true rfl⟩ (rc_model hK hP) hK hP hD hS hZ rfl hl.1 rfl (Nat.le_of_ble_eq_true rfl) ⟨Nat.zero_le _, Nat.zero_le _⟩ dX12_act_31 (fun r_20 z_23 H locs wr_20 hP hD hS => ?_)
          obtain ⟨o_u64_21, o_b65_22⟩ := z_23
          have hP : va_P D vwCl (RW cs bd (va_up u 64 o_u64_21) (va_up b 65 o_b65_22) bw) H := hP
          have hD : va_D A (RW cs bd (va_up u 64 o_u64_21) (va_up b 65 o_b65_22) bw) := hD
          obtain ⟨wr_20_0, wr_20_1, wr_20_2, wr_20_3, wr_20_4⟩ : (o_u64_21.toInt = (0 : Int) + 1) ∧ (o_b65_22 = TRW (b 65) (0 : Int).toNat [1]) ∧ (r_20 = (p3 + p1)) ∧ (0 ≤ o_u64_21.toInt) ∧ (o_u64_21.toInt ≤ 1000) := wr_20
          refine lv_goto (tgt := 71) hx hb dX12_act_34 (by decide) ?_
          exact W.iret (v := r_20) hx hb hr (fun tt ht hW => ⟨⟨r_20, ⟨o_u64_21, o_b65_22⟩, rfl, ⟨(by first | (exact Or.inr ⟨by omega, by rw [hkN, show p2.toInt.toNat = 0 from by omega]; exact wr_20_2, by rw [hkN, show p2.toInt.toNat = 0 from by omega, hal0]; (try dsimp only); omega, by rw [hkN, show p2.toInt.toNat = 0 from by omega]; exact wr_20_1⟩) | (exact Or.inr ⟨by omega, by rw [hkN, show p2.toInt.toNat = 1 from by omega]; exact wr_20_2, by rw [hkN, show p2.toInt.toNat = 1 from by omega, hal1]; (try dsimp only); omega, by rw [hkN, show p2.toInt.toNat = 1 from by omega]; exact wr_20_1⟩) | (exact Or.inr ⟨by omega, by rw [hkN, show p2.toInt.toNat = 2 from by omega]; exact wr_20_2, by rw [hkN, show p2.toInt.toNat = 2 from by omega, hal2]; (try dsimp only); omega, by rw [hkN, show p2.toInt.toNat = 2 from by omega]; exact wr_20_1⟩) | (exact Or.inr ⟨by omega, by rw [hkN, show p2.toInt.toNat = 3 from by omega]; exact wr_20_2, by rw [hkN, show p2.toInt.toNat = 3 from by omega, hal3]; (try dsimp only); omega, by rw [hkN, show p2.toInt.toNat = 3 from by omega]; exact wr_20_1⟩)), (show 0 ≤ o_u64_21.toInt by first | omega | assumption), (show o_u64_21.toInt ≤ 1000 by first | omega | assumption)⟩, by rw [ht]; exact hP, hD⟩, hS.F ht⟩) hS.2.2 dX12_act_71
      ·
        have hkN : ((b 63) p1.toNatClampNeg).toInt.toNat = 1 := by rw [hkn]; rfl
        have hal0 : (AL 1 0).length = 2 := rfl
        have hal1 : (AL 1 1).length = 3 := rfl
        have hal2 : (AL 1 2).length = 1 := rfl
        have hal3 : (AL 1 3).length = 5 := rfl
        refine lv_iload_n hx hb dX12_act_24 rfl (lv_at hl 2 rfl) ?_
        refine lv_if_ne (tgt := 37) hx hb dX12_act_25 (by decide) (fun c_24 => ?_) (fun c_24 => ?_)
        ·
          have kc_24 : p2.toInt ≠ (0 : Int) := i_ne c_24
          refine lv_iload_n hx hb dX12_act_37 rfl (lv_at hl 2 rfl) ?_
          refine lv_iconst (v := 1) hx hb dX12_act_38 (by decide) ?_
          refine lv_icmp_ne (tgt := 51) hx hb dX12_act_39 (by decide) (fun c_25 => ?_) (fun c_25 => ?_)
          ·
            have kc_25 : p2.toInt ≠ (1 : Int) := i_ne c_25
            refine lv_iload_n hx hb dX12_act_51 rfl (lv_at hl 2 rfl) ?_
            refine lv_iconst (v := 2) hx hb dX12_act_52 (by decide) ?_
            refine lv_icmp_ne (tgt := 65) hx hb dX12_act_53 (by decide) (fun c_26 => ?_) (fun c_26 => ?_)
            ·
              have kc_26 : p2.toInt ≠ (2 : Int) := i_ne c_26
              refine lv_aload_n hx hb dX12_act_65 rfl (lv_at hl 0 rfl) ?_
              refine lv_iload_n hx hb dX12_act_66 rfl (lv_at hl 1 rfl) ?_
              refine lv_iload_n hx hb dX12_act_67 rfl (lv_at hl 3 rfl) ?_
              refine cV_i (As := [.int p1, .int p3]) (rest := []) ⟨hx, hb, hml, hown, hg⟩ (k_X12_telling_1 l D cs A bd (va_up u 64 0) b bw  p1 p3 hkn (show 0 ≤ p1.toInt by first | omega | decide) (show p1.toInt < 50 by first | omega | decide) (show 0 ≤ (0 : Int) by first | omega | decide) (show (0 : Int) ≤ 19 by first | omega | decide) ib63_0 (show 0 ≤ (0 : Int) by first | omega | decide) (show (0 : Int) ≤ 1000 by first | omega | decide)) ca_X12_telling q7_91 ⟨rfl, rfl⟩ ⟨Nat.le_of_ble_eq_true rfl, Nat.le_of_ble_eq_true rfl⟩ (rc_model hK hP) hK hP hD hS hZ rfl hl.1 rfl (Nat.le_of_ble_eq_true rfl) ⟨Nat.zero_le _, Nat.zero_le _⟩ dX12_act_68 (fun r_27 z_30 H locs wr_27 hP hD hS => ?_)
              obtain ⟨o_u64_28, o_b65_29⟩ := z_30
              have hP : va_P D vwCl (RW cs bd (va_up u 64 o_u64_28) (va_up b 65 o_b65_29) bw) H := hP
              have hD : va_D A (RW cs bd (va_up u 64 o_u64_28) (va_up b 65 o_b65_29) bw) := hD
              obtain ⟨wr_27_0, wr_27_1, wr_27_2, wr_27_3, wr_27_4⟩ : (o_u64_28.toInt = (0 : Int) + 5) ∧ (o_b65_29 = TRW (b 65) (0 : Int).toNat [2, 10, 20, 1, 11]) ∧ (r_27 = ((((p3 + p1) + 3) * 2) - ((1 : Int32) ^^^ p1))) ∧ (0 ≤ o_u64_28.toInt) ∧ (o_u64_28.toInt ≤ 1000) := wr_27
              exact W.iret (v := r_27) hx hb hr (fun tt ht hW => ⟨⟨r_27, ⟨o_u64_28, o_b65_29⟩, rfl, ⟨(by first | (exact Or.inr ⟨by omega, by rw [hkN, show p2.toInt.toNat = 0 from by omega]; exact wr_27_2, by rw [hkN, show p2.toInt.toNat = 0 from by omega, hal0]; (try dsimp only); omega, by rw [hkN, show p2.toInt.toNat = 0 from by omega]; exact wr_27_1⟩) | (exact Or.inr ⟨by omega, by rw [hkN, show p2.toInt.toNat = 1 from by omega]; exact wr_27_2, by rw [hkN, show p2.toInt.toNat = 1 from by omega, hal1]; (try dsimp only); omega, by rw [hkN, show p2.toInt.toNat = 1 from by omega]; exact wr_27_1⟩) | (exact Or.inr ⟨by omega, by rw [hkN, show p2.toInt.toNat = 2 from by omega]; exact wr_27_2, by rw [hkN, show p2.toInt.toNat = 2 from by omega, hal2]; (try dsimp only); omega, by rw [hkN, show p2.toInt.toNat = 2 from by omega]; exact wr_27_1⟩) | (exact Or.inr ⟨by omega, by rw [hkN, show p2.toInt.toNat = 3 from by omega]; exact wr_27_2, by rw [hkN, show p2.toInt.toNat = 3 from by omega, hal3]; (try dsimp only); omega, by rw [hkN, show p2.toInt.toNat = 3 from by omega]; exact wr_27_1⟩)), (show 0 ≤ o_u64_28.toInt by first | omega | assumption), (show o_u64_28.toInt ≤ 1000 by first | omega | assumption)⟩, by rw [ht]; exact hP, hD⟩, hS.F ht⟩) hS.2.2 dX12_act_71
            ·
              have kc_26 : p2.toInt = (2 : Int) := i_eq c_26
              refine lv_aload_n hx hb dX12_act_56 rfl (lv_at hl 0 rfl) ?_
              refine lv_iload_n hx hb dX12_act_57 rfl (lv_at hl 1 rfl) ?_
              refine lv_iload_n hx hb dX12_act_58 rfl (lv_at hl 3 rfl) ?_
              refine cV_i (As := [.int p1, .int p3]) (rest := []) ⟨hx, hb, hml, hown, hg⟩ (k_X12_settling_1 l D cs A bd (va_up u 64 0) b bw  p1 p3 hkn (show 0 ≤ p1.toInt by first | omega | decide) (show p1.toInt < 50 by first | omega | decide) (show 0 ≤ (0 : Int) by first | omega | decide) (show (0 : Int) ≤ 23 by first | omega | decide) ib63_0 (show 0 ≤ (0 : Int) by first | omega | decide) (show (0 : Int) ≤ 1000 by first | omega | decide)) ca_X12_settling q7_79 ⟨rfl, rfl⟩ ⟨Nat.le_of_ble_eq_true rfl, Nat.le_of_ble_eq_true rfl⟩ (rc_model hK hP) hK hP hD hS hZ rfl hl.1 rfl (Nat.le_of_ble_eq_true rfl) ⟨Nat.zero_le _, Nat.zero_le _⟩ dX12_act_59 (fun r_31 z_34 H locs wr_31 hP hD hS => ?_)
              obtain ⟨o_u64_32, o_b65_33⟩ := z_34
              have hP : va_P D vwCl (RW cs bd (va_up u 64 o_u64_32) (va_up b 65 o_b65_33) bw) H := hP
              have hD : va_D A (RW cs bd (va_up u 64 o_u64_32) (va_up b 65 o_b65_33) bw) := hD
              obtain ⟨wr_31_0, wr_31_1, wr_31_2, wr_31_3, wr_31_4⟩ : (o_u64_32.toInt = (0 : Int) + 1) ∧ (o_b65_33 = TRW (b 65) (0 : Int).toNat [11]) ∧ (r_31 = (p3 ^^^ p1)) ∧ (0 ≤ o_u64_32.toInt) ∧ (o_u64_32.toInt ≤ 1000) := wr_31
              refine lv_goto (tgt := 71) hx hb dX12_act_62 (by decide) ?_
              exact W.iret (v := r_31) hx hb hr (fun tt ht hW => ⟨⟨r_31, ⟨o_u64_32, o_b65_33⟩, rfl, ⟨(by first | (exact Or.inr ⟨by omega, by rw [hkN, show p2.toInt.toNat = 0 from by omega]; exact wr_31_2, by rw [hkN, show p2.toInt.toNat = 0 from by omega, hal0]; (try dsimp only); omega, by rw [hkN, show p2.toInt.toNat = 0 from by omega]; exact wr_31_1⟩) | (exact Or.inr ⟨by omega, by rw [hkN, show p2.toInt.toNat = 1 from by omega]; exact wr_31_2, by rw [hkN, show p2.toInt.toNat = 1 from by omega, hal1]; (try dsimp only); omega, by rw [hkN, show p2.toInt.toNat = 1 from by omega]; exact wr_31_1⟩) | (exact Or.inr ⟨by omega, by rw [hkN, show p2.toInt.toNat = 2 from by omega]; exact wr_31_2, by rw [hkN, show p2.toInt.toNat = 2 from by omega, hal2]; (try dsimp only); omega, by rw [hkN, show p2.toInt.toNat = 2 from by omega]; exact wr_31_1⟩) | (exact Or.inr ⟨by omega, by rw [hkN, show p2.toInt.toNat = 3 from by omega]; exact wr_31_2, by rw [hkN, show p2.toInt.toNat = 3 from by omega, hal3]; (try dsimp only); omega, by rw [hkN, show p2.toInt.toNat = 3 from by omega]; exact wr_31_1⟩)), (show 0 ≤ o_u64_32.toInt by first | omega | assumption), (show o_u64_32.toInt ≤ 1000 by first | omega | assumption)⟩, by rw [ht]; exact hP, hD⟩, hS.F ht⟩) hS.2.2 dX12_act_71
          ·
            have kc_25 : p2.toInt = (1 : Int) := i_eq c_25
            refine lv_aload_n hx hb dX12_act_42 rfl (lv_at hl 0 rfl) ?_
            refine lv_iload_n hx hb dX12_act_43 rfl (lv_at hl 1 rfl) ?_
            refine lv_iload_n hx hb dX12_act_44 rfl (lv_at hl 3 rfl) ?_
            refine cV_i (As := [.int p1, .int p3]) (rest := []) ⟨hx, hb, hml, hown, hg⟩ (k_X12_stinging_1 l D cs A bd (va_up u 64 0) b bw  p1 p3 hkn (show 0 ≤ p1.toInt by first | omega | decide) (show p1.toInt < 50 by first | omega | decide) (show 0 ≤ (0 : Int) by first | omega | decide) (show (0 : Int) ≤ 21 by first | omega | decide) ib63_0 (show 0 ≤ (0 : Int) by first | omega | decide) (show (0 : Int) ≤ 1000 by first | omega | decide)) ca_X12_stinging q7_67 ⟨rfl, rfl⟩ ⟨Nat.le_of_ble_eq_true rfl, Nat.le_of_ble_eq_true rfl⟩ (rc_model hK hP) hK hP hD hS hZ rfl hl.1 rfl (Nat.le_of_ble_eq_true rfl) ⟨Nat.zero_le _, Nat.zero_le _⟩ dX12_act_45 (fun r_35 z_38 H locs wr_35 hP hD hS => ?_)
            obtain ⟨o_u64_36, o_b65_37⟩ := z_38
            have hP : va_P D vwCl (RW cs bd (va_up u 64 o_u64_36) (va_up b 65 o_b65_37) bw) H := hP
            have hD : va_D A (RW cs bd (va_up u 64 o_u64_36) (va_up b 65 o_b65_37) bw) := hD
            obtain ⟨wr_35_0, wr_35_1, wr_35_2, wr_35_3, wr_35_4⟩ : (o_u64_36.toInt = (0 : Int) + 3) ∧ (o_b65_37 = TRW (b 65) (0 : Int).toNat [10, 20, 1]) ∧ (r_35 = (((p3 + p1) + 3) * 2)) ∧ (0 ≤ o_u64_36.toInt) ∧ (o_u64_36.toInt ≤ 1000) := wr_35
            refine lv_goto (tgt := 71) hx hb dX12_act_48 (by decide) ?_
            exact W.iret (v := r_35) hx hb hr (fun tt ht hW => ⟨⟨r_35, ⟨o_u64_36, o_b65_37⟩, rfl, ⟨(by first | (exact Or.inr ⟨by omega, by rw [hkN, show p2.toInt.toNat = 0 from by omega]; exact wr_35_2, by rw [hkN, show p2.toInt.toNat = 0 from by omega, hal0]; (try dsimp only); omega, by rw [hkN, show p2.toInt.toNat = 0 from by omega]; exact wr_35_1⟩) | (exact Or.inr ⟨by omega, by rw [hkN, show p2.toInt.toNat = 1 from by omega]; exact wr_35_2, by rw [hkN, show p2.toInt.toNat = 1 from by omega, hal1]; (try dsimp only); omega, by rw [hkN, show p2.toInt.toNat = 1 from by omega]; exact wr_35_1⟩) | (exact Or.inr ⟨by omega, by rw [hkN, show p2.toInt.toNat = 2 from by omega]; exact wr_35_2, by rw [hkN, show p2.toInt.toNat = 2 from by omega, hal2]; (try dsimp only); omega, by rw [hkN, show p2.toInt.toNat = 2 from by omega]; exact wr_35_1⟩) | (exact Or.inr ⟨by omega, by rw [hkN, show p2.toInt.toNat = 3 from by omega]; exact wr_35_2, by rw [hkN, show p2.toInt.toNat = 3 from by omega, hal3]; (try dsimp only); omega, by rw [hkN, show p2.toInt.toNat = 3 from by omega]; exact wr_35_1⟩)), (show 0 ≤ o_u64_36.toInt by first | omega | assumption), (show o_u64_36.toInt ≤ 1000 by first | omega | assumption)⟩, by rw [ht]; exact hP, hD⟩, hS.F ht⟩) hS.2.2 dX12_act_71
        ·
          have kc_24 : p2.toInt = (0 : Int) := i_eq c_24
          refine lv_aload_n hx hb dX12_act_28 rfl (lv_at hl 0 rfl) ?_
          refine lv_iload_n hx hb dX12_act_29 rfl (lv_at hl 1 rfl) ?_
          refine lv_iload_n hx hb dX12_act_30 rfl (lv_at hl 3 rfl) ?_
          refine cV_i (As := [.int p1, .int p3]) (rest := []) ⟨hx, hb, hml, hown, hg⟩ (k_X12_flying_1 l D cs A bd (va_up u 64 0) b bw  p1 p3 hkn (show 0 ≤ p1.toInt by first | omega | decide) (show p1.toInt < 50 by first | omega | decide) (show 0 ≤ (0 : Int) by first | omega | decide) (show (0 : Int) ≤ 22 by first | omega | decide) ib63_0 (show 0 ≤ (0 : Int) by first | omega | decide) (show (0 : Int) ≤ 1000 by first | omega | decide)) ca_X12_flying q7_48 ⟨rfl, rfl⟩ ⟨Nat.le_of_ble_eq_true rfl, Nat.le_of_ble_eq_true rfl⟩ (rc_model hK hP) hK hP hD hS hZ rfl hl.1 rfl (Nat.le_of_ble_eq_true rfl) ⟨Nat.zero_le _, Nat.zero_le _⟩ dX12_act_31 (fun r_39 z_42 H locs wr_39 hP hD hS => ?_)
          obtain ⟨o_u64_40, o_b65_41⟩ := z_42
          have hP : va_P D vwCl (RW cs bd (va_up u 64 o_u64_40) (va_up b 65 o_b65_41) bw) H := hP
          have hD : va_D A (RW cs bd (va_up u 64 o_u64_40) (va_up b 65 o_b65_41) bw) := hD
          obtain ⟨wr_39_0, wr_39_1, wr_39_2, wr_39_3, wr_39_4⟩ : (o_u64_40.toInt = (0 : Int) + 2) ∧ (o_b65_41 = TRW (b 65) (0 : Int).toNat [20, 1]) ∧ (r_39 = ((p3 + p1) + 3)) ∧ (0 ≤ o_u64_40.toInt) ∧ (o_u64_40.toInt ≤ 1000) := wr_39
          refine lv_goto (tgt := 71) hx hb dX12_act_34 (by decide) ?_
          exact W.iret (v := r_39) hx hb hr (fun tt ht hW => ⟨⟨r_39, ⟨o_u64_40, o_b65_41⟩, rfl, ⟨(by first | (exact Or.inr ⟨by omega, by rw [hkN, show p2.toInt.toNat = 0 from by omega]; exact wr_39_2, by rw [hkN, show p2.toInt.toNat = 0 from by omega, hal0]; (try dsimp only); omega, by rw [hkN, show p2.toInt.toNat = 0 from by omega]; exact wr_39_1⟩) | (exact Or.inr ⟨by omega, by rw [hkN, show p2.toInt.toNat = 1 from by omega]; exact wr_39_2, by rw [hkN, show p2.toInt.toNat = 1 from by omega, hal1]; (try dsimp only); omega, by rw [hkN, show p2.toInt.toNat = 1 from by omega]; exact wr_39_1⟩) | (exact Or.inr ⟨by omega, by rw [hkN, show p2.toInt.toNat = 2 from by omega]; exact wr_39_2, by rw [hkN, show p2.toInt.toNat = 2 from by omega, hal2]; (try dsimp only); omega, by rw [hkN, show p2.toInt.toNat = 2 from by omega]; exact wr_39_1⟩) | (exact Or.inr ⟨by omega, by rw [hkN, show p2.toInt.toNat = 3 from by omega]; exact wr_39_2, by rw [hkN, show p2.toInt.toNat = 3 from by omega, hal3]; (try dsimp only); omega, by rw [hkN, show p2.toInt.toNat = 3 from by omega]; exact wr_39_1⟩)), (show 0 ≤ o_u64_40.toInt by first | omega | assumption), (show o_u64_40.toInt ≤ 1000 by first | omega | assumption)⟩, by rw [ht]; exact hP, hD⟩, hS.F ht⟩) hS.2.2 dX12_act_71
      ·
        have hkN : ((b 63) p1.toNatClampNeg).toInt.toNat = 2 := by rw [hkn]; rfl
        have hal0 : (AL 2 0).length = 1 := rfl
        have hal1 : (AL 2 1).length = 3 := rfl
        have hal2 : (AL 2 2).length = 1 := rfl
        have hal3 : (AL 2 3).length = 5 := rfl
        refine lv_iload_n hx hb dX12_act_24 rfl (lv_at hl 2 rfl) ?_
        refine lv_if_ne (tgt := 37) hx hb dX12_act_25 (by decide) (fun c_43 => ?_) (fun c_43 => ?_)
        ·
          have kc_43 : p2.toInt ≠ (0 : Int) := i_ne c_43
          refine lv_iload_n hx hb dX12_act_37 rfl (lv_at hl 2 rfl) ?_
          refine lv_iconst (v := 1) hx hb dX12_act_38 (by decide) ?_
          refine lv_icmp_ne (tgt := 51) hx hb dX12_act_39 (by decide) (fun c_44 => ?_) (fun c_44 => ?_)
          ·
            have kc_44 : p2.toInt ≠ (1 : Int) := i_ne c_44
            refine lv_iload_n hx hb dX12_act_51 rfl (lv_at hl 2 rfl) ?_
            refine lv_iconst (v := 2) hx hb dX12_act_52 (by decide) ?_
            refine lv_icmp_ne (tgt := 65) hx hb dX12_act_53 (by decide) (fun c_45 => ?_) (fun c_45 => ?_)
            ·
              have kc_45 : p2.toInt ≠ (2 : Int) := i_ne c_45
              refine lv_aload_n hx hb dX12_act_65 rfl (lv_at hl 0 rfl) ?_
              refine lv_iload_n hx hb dX12_act_66 rfl (lv_at hl 1 rfl) ?_
              refine lv_iload_n hx hb dX12_act_67 rfl (lv_at hl 3 rfl) ?_
              refine cV_i (As := [.int p1, .int p3]) (rest := []) ⟨hx, hb, hml, hown, hg⟩ (k_X12_telling_2 l D cs A bd (va_up u 64 0) b bw  p1 p3 hkn (show 0 ≤ p1.toInt by first | omega | decide) (show p1.toInt < 50 by first | omega | decide) (show 0 ≤ (0 : Int) by first | omega | decide) (show (0 : Int) ≤ 19 by first | omega | decide) ib63_0 (show 0 ≤ (0 : Int) by first | omega | decide) (show (0 : Int) ≤ 1000 by first | omega | decide)) ca_X12_telling q7_91 ⟨rfl, rfl⟩ ⟨Nat.le_of_ble_eq_true rfl, Nat.le_of_ble_eq_true rfl⟩ (rc_model hK hP) hK hP hD hS hZ rfl hl.1 rfl (Nat.le_of_ble_eq_true rfl) ⟨Nat.zero_le _, Nat.zero_le _⟩ dX12_act_68 (fun r_46 z_49 H locs wr_46 hP hD hS => ?_)
              obtain ⟨o_u64_47, o_b65_48⟩ := z_49
              have hP : va_P D vwCl (RW cs bd (va_up u 64 o_u64_47) (va_up b 65 o_b65_48) bw) H := hP
              have hD : va_D A (RW cs bd (va_up u 64 o_u64_47) (va_up b 65 o_b65_48) bw) := hD
              obtain ⟨wr_46_0, wr_46_1, wr_46_2, wr_46_3, wr_46_4⟩ : (o_u64_47.toInt = (0 : Int) + 5) ∧ (o_b65_48 = TRW (b 65) (0 : Int).toNat [2, 30, 10, 1, 11]) ∧ (r_46 = ((-((p3 + p1) * 2)) - ((1 : Int32) ^^^ p1))) ∧ (0 ≤ o_u64_47.toInt) ∧ (o_u64_47.toInt ≤ 1000) := wr_46
              exact W.iret (v := r_46) hx hb hr (fun tt ht hW => ⟨⟨r_46, ⟨o_u64_47, o_b65_48⟩, rfl, ⟨(by first | (exact Or.inr ⟨by omega, by rw [hkN, show p2.toInt.toNat = 0 from by omega]; exact wr_46_2, by rw [hkN, show p2.toInt.toNat = 0 from by omega, hal0]; (try dsimp only); omega, by rw [hkN, show p2.toInt.toNat = 0 from by omega]; exact wr_46_1⟩) | (exact Or.inr ⟨by omega, by rw [hkN, show p2.toInt.toNat = 1 from by omega]; exact wr_46_2, by rw [hkN, show p2.toInt.toNat = 1 from by omega, hal1]; (try dsimp only); omega, by rw [hkN, show p2.toInt.toNat = 1 from by omega]; exact wr_46_1⟩) | (exact Or.inr ⟨by omega, by rw [hkN, show p2.toInt.toNat = 2 from by omega]; exact wr_46_2, by rw [hkN, show p2.toInt.toNat = 2 from by omega, hal2]; (try dsimp only); omega, by rw [hkN, show p2.toInt.toNat = 2 from by omega]; exact wr_46_1⟩) | (exact Or.inr ⟨by omega, by rw [hkN, show p2.toInt.toNat = 3 from by omega]; exact wr_46_2, by rw [hkN, show p2.toInt.toNat = 3 from by omega, hal3]; (try dsimp only); omega, by rw [hkN, show p2.toInt.toNat = 3 from by omega]; exact wr_46_1⟩)), (show 0 ≤ o_u64_47.toInt by first | omega | assumption), (show o_u64_47.toInt ≤ 1000 by first | omega | assumption)⟩, by rw [ht]; exact hP, hD⟩, hS.F ht⟩) hS.2.2 dX12_act_71
            ·
              have kc_45 : p2.toInt = (2 : Int) := i_eq c_45
              refine lv_aload_n hx hb dX12_act_56 rfl (lv_at hl 0 rfl) ?_
              refine lv_iload_n hx hb dX12_act_57 rfl (lv_at hl 1 rfl) ?_
              refine lv_iload_n hx hb dX12_act_58 rfl (lv_at hl 3 rfl) ?_
              refine cV_i (As := [.int p1, .int p3]) (rest := []) ⟨hx, hb, hml, hown, hg⟩ (k_X12_settling_2 l D cs A bd (va_up u 64 0) b bw  p1 p3 hkn (show 0 ≤ p1.toInt by first | omega | decide) (show p1.toInt < 50 by first | omega | decide) (show 0 ≤ (0 : Int) by first | omega | decide) (show (0 : Int) ≤ 23 by first | omega | decide) ib63_0 (show 0 ≤ (0 : Int) by first | omega | decide) (show (0 : Int) ≤ 1000 by first | omega | decide)) ca_X12_settling q7_79 ⟨rfl, rfl⟩ ⟨Nat.le_of_ble_eq_true rfl, Nat.le_of_ble_eq_true rfl⟩ (rc_model hK hP) hK hP hD hS hZ rfl hl.1 rfl (Nat.le_of_ble_eq_true rfl) ⟨Nat.zero_le _, Nat.zero_le _⟩ dX12_act_59 (fun r_50 z_53 H locs wr_50 hP hD hS => ?_)
              obtain ⟨o_u64_51, o_b65_52⟩ := z_53
              have hP : va_P D vwCl (RW cs bd (va_up u 64 o_u64_51) (va_up b 65 o_b65_52) bw) H := hP
              have hD : va_D A (RW cs bd (va_up u 64 o_u64_51) (va_up b 65 o_b65_52) bw) := hD
              obtain ⟨wr_50_0, wr_50_1, wr_50_2, wr_50_3, wr_50_4⟩ : (o_u64_51.toInt = (0 : Int) + 1) ∧ (o_b65_52 = TRW (b 65) (0 : Int).toNat [11]) ∧ (r_50 = (p3 ^^^ p1)) ∧ (0 ≤ o_u64_51.toInt) ∧ (o_u64_51.toInt ≤ 1000) := wr_50
              refine lv_goto (tgt := 71) hx hb dX12_act_62 (by decide) ?_
              exact W.iret (v := r_50) hx hb hr (fun tt ht hW => ⟨⟨r_50, ⟨o_u64_51, o_b65_52⟩, rfl, ⟨(by first | (exact Or.inr ⟨by omega, by rw [hkN, show p2.toInt.toNat = 0 from by omega]; exact wr_50_2, by rw [hkN, show p2.toInt.toNat = 0 from by omega, hal0]; (try dsimp only); omega, by rw [hkN, show p2.toInt.toNat = 0 from by omega]; exact wr_50_1⟩) | (exact Or.inr ⟨by omega, by rw [hkN, show p2.toInt.toNat = 1 from by omega]; exact wr_50_2, by rw [hkN, show p2.toInt.toNat = 1 from by omega, hal1]; (try dsimp only); omega, by rw [hkN, show p2.toInt.toNat = 1 from by omega]; exact wr_50_1⟩) | (exact Or.inr ⟨by omega, by rw [hkN, show p2.toInt.toNat = 2 from by omega]; exact wr_50_2, by rw [hkN, show p2.toInt.toNat = 2 from by omega, hal2]; (try dsimp only); omega, by rw [hkN, show p2.toInt.toNat = 2 from by omega]; exact wr_50_1⟩) | (exact Or.inr ⟨by omega, by rw [hkN, show p2.toInt.toNat = 3 from by omega]; exact wr_50_2, by rw [hkN, show p2.toInt.toNat = 3 from by omega, hal3]; (try dsimp only); omega, by rw [hkN, show p2.toInt.toNat = 3 from by omega]; exact wr_50_1⟩)), (show 0 ≤ o_u64_51.toInt by first | omega | assumption), (show o_u64_51.toInt ≤ 1000 by first | omega | assumption)⟩, by rw [ht]; exact hP, hD⟩, hS.F ht⟩) hS.2.2 dX12_act_71
          ·
            have kc_44 : p2.toInt = (1 : Int) := i_eq c_44
            refine lv_aload_n hx hb dX12_act_42 rfl (lv_at hl 0 rfl) ?_
            refine lv_iload_n hx hb dX12_act_43 rfl (lv_at hl 1 rfl) ?_
            refine lv_iload_n hx hb dX12_act_44 rfl (lv_at hl 3 rfl) ?_
            refine cV_i (As := [.int p1, .int p3]) (rest := []) ⟨hx, hb, hml, hown, hg⟩ (k_X12_stinging_2 l D cs A bd (va_up u 64 0) b bw  p1 p3 hkn (show 0 ≤ p1.toInt by first | omega | decide) (show p1.toInt < 50 by first | omega | decide) (show 0 ≤ (0 : Int) by first | omega | decide) (show (0 : Int) ≤ 21 by first | omega | decide) ib63_0 (show 0 ≤ (0 : Int) by first | omega | decide) (show (0 : Int) ≤ 1000 by first | omega | decide)) ca_X12_stinging q7_67 ⟨rfl, rfl⟩ ⟨Nat.le_of_ble_eq_true rfl, Nat.le_of_ble_eq_true rfl⟩ (rc_model hK hP) hK hP hD hS hZ rfl hl.1 rfl (Nat.le_of_ble_eq_true rfl) ⟨Nat.zero_le _, Nat.zero_le _⟩ dX12_act_45 (fun r_54 z_57 H locs wr_54 hP hD hS => ?_)
            obtain ⟨o_u64_55, o_b65_56⟩ := z_57
            have hP : va_P D vwCl (RW cs bd (va_up u 64 o_u64_55) (va_up b 65 o_b65_56) bw) H := hP
            have hD : va_D A (RW cs bd (va_up u 64 o_u64_55) (va_up b 65 o_b65_56) bw) := hD
            obtain ⟨wr_54_0, wr_54_1, wr_54_2, wr_54_3, wr_54_4⟩ : (o_u64_55.toInt = (0 : Int) + 3) ∧ (o_b65_56 = TRW (b 65) (0 : Int).toNat [30, 10, 1]) ∧ (r_54 = (-((p3 + p1) * 2))) ∧ (0 ≤ o_u64_55.toInt) ∧ (o_u64_55.toInt ≤ 1000) := wr_54
            refine lv_goto (tgt := 71) hx hb dX12_act_48 (by decide) ?_
            exact W.iret (v := r_54) hx hb hr (fun tt ht hW => ⟨⟨r_54, ⟨o_u64_55, o_b65_56⟩, rfl, ⟨(by first | (exact Or.inr ⟨by omega, by rw [hkN, show p2.toInt.toNat = 0 from by omega]; exact wr_54_2, by rw [hkN, show p2.toInt.toNat = 0 from by omega, hal0]; (try dsimp only); omega, by rw [hkN, show p2.toInt.toNat = 0 from by omega]; exact wr_54_1⟩) | (exact Or.inr ⟨by omega, by rw [hkN, show p2.toInt.toNat = 1 from by omega]; exact wr_54_2, by rw [hkN, show p2.toInt.toNat = 1 from by omega, hal1]; (try dsimp only); omega, by rw [hkN, show p2.toInt.toNat = 1 from by omega]; exact wr_54_1⟩) | (exact Or.inr ⟨by omega, by rw [hkN, show p2.toInt.toNat = 2 from by omega]; exact wr_54_2, by rw [hkN, show p2.toInt.toNat = 2 from by omega, hal2]; (try dsimp only); omega, by rw [hkN, show p2.toInt.toNat = 2 from by omega]; exact wr_54_1⟩) | (exact Or.inr ⟨by omega, by rw [hkN, show p2.toInt.toNat = 3 from by omega]; exact wr_54_2, by rw [hkN, show p2.toInt.toNat = 3 from by omega, hal3]; (try dsimp only); omega, by rw [hkN, show p2.toInt.toNat = 3 from by omega]; exact wr_54_1⟩)), (show 0 ≤ o_u64_55.toInt by first | omega | assumption), (show o_u64_55.toInt ≤ 1000 by first | omega | assumption)⟩, by rw [ht]; exact hP, hD⟩, hS.F ht⟩) hS.2.2 dX12_act_71
        ·
          have kc_43 : p2.toInt = (0 : Int) := i_eq c_43
          refine lv_aload_n hx hb dX12_act_28 rfl (lv_at hl 0 rfl) ?_
          refine lv_iload_n hx hb dX12_act_29 rfl (lv_at hl 1 rfl) ?_
          refine lv_iload_n hx hb dX12_act_30 rfl (lv_at hl 3 rfl) ?_
          refine cV_i (As := [.int p1, .int p3]) (rest := []) ⟨hx, hb, hml, hown, hg⟩ (k_X12_flying_2 l D cs A bd (va_up u 64 0) b bw  p1 p3 hkn (show 0 ≤ p1.toInt by first | omega | decide) (show p1.toInt < 50 by first | omega | decide) (show 0 ≤ (0 : Int) by first | omega | decide) (show (0 : Int) ≤ 23 by first | omega | decide) ib63_0 (show 0 ≤ (0 : Int) by first | omega | decide) (show (0 : Int) ≤ 1000 by first | omega | decide)) ca_X12_flying q7_48 ⟨rfl, rfl⟩ ⟨Nat.le_of_ble_eq_true rfl, Nat.le_of_ble_eq_true rfl⟩ (rc_model hK hP) hK hP hD hS hZ rfl hl.1 rfl (Nat.le_of_ble_eq_true rfl) ⟨Nat.zero_le _, Nat.zero_le _⟩ dX12_act_31 (fun r_58 z_61 H locs wr_58 hP hD hS => ?_)
          obtain ⟨o_u64_59, o_b65_60⟩ := z_61
          have hP : va_P D vwCl (RW cs bd (va_up u 64 o_u64_59) (va_up b 65 o_b65_60) bw) H := hP
          have hD : va_D A (RW cs bd (va_up u 64 o_u64_59) (va_up b 65 o_b65_60) bw) := hD
          obtain ⟨wr_58_0, wr_58_1, wr_58_2, wr_58_3, wr_58_4⟩ : (o_u64_59.toInt = (0 : Int) + 1) ∧ (o_b65_60 = TRW (b 65) (0 : Int).toNat [1]) ∧ (r_58 = (p3 + p1)) ∧ (0 ≤ o_u64_59.toInt) ∧ (o_u64_59.toInt ≤ 1000) := wr_58
          refine lv_goto (tgt := 71) hx hb dX12_act_34 (by decide) ?_
          exact W.iret (v := r_58) hx hb hr (fun tt ht hW => ⟨⟨r_58, ⟨o_u64_59, o_b65_60⟩, rfl, ⟨(by first | (exact Or.inr ⟨by omega, by rw [hkN, show p2.toInt.toNat = 0 from by omega]; exact wr_58_2, by rw [hkN, show p2.toInt.toNat = 0 from by omega, hal0]; (try dsimp only); omega, by rw [hkN, show p2.toInt.toNat = 0 from by omega]; exact wr_58_1⟩) | (exact Or.inr ⟨by omega, by rw [hkN, show p2.toInt.toNat = 1 from by omega]; exact wr_58_2, by rw [hkN, show p2.toInt.toNat = 1 from by omega, hal1]; (try dsimp only); omega, by rw [hkN, show p2.toInt.toNat = 1 from by omega]; exact wr_58_1⟩) | (exact Or.inr ⟨by omega, by rw [hkN, show p2.toInt.toNat = 2 from by omega]; exact wr_58_2, by rw [hkN, show p2.toInt.toNat = 2 from by omega, hal2]; (try dsimp only); omega, by rw [hkN, show p2.toInt.toNat = 2 from by omega]; exact wr_58_1⟩) | (exact Or.inr ⟨by omega, by rw [hkN, show p2.toInt.toNat = 3 from by omega]; exact wr_58_2, by rw [hkN, show p2.toInt.toNat = 3 from by omega, hal3]; (try dsimp only); omega, by rw [hkN, show p2.toInt.toNat = 3 from by omega]; exact wr_58_1⟩)), (show 0 ≤ o_u64_59.toInt by first | omega | assumption), (show o_u64_59.toInt ≤ 1000 by first | omega | assumption)⟩, by rw [ht]; exact hP, hD⟩, hS.F ht⟩) hS.2.2 dX12_act_71
      ·
        have hkN : ((b 63) p1.toNatClampNeg).toInt.toNat = 3 := by rw [hkn]; rfl
        have hal0 : (AL 3 0).length = 1 := rfl
        have hal1 : (AL 3 1).length = 4 := rfl
        have hal2 : (AL 3 2).length = 2 := rfl
        have hal3 : (AL 3 3).length = 7 := rfl
        refine lv_iload_n hx hb dX12_act_24 rfl (lv_at hl 2 rfl) ?_
        refine lv_if_ne (tgt := 37) hx hb dX12_act_25 (by decide) (fun c_62 => ?_) (fun c_62 => ?_)
        ·
          have kc_62 : p2.toInt ≠ (0 : Int) := i_ne c_62
          refine lv_iload_n hx hb dX12_act_37 rfl (lv_at hl 2 rfl) ?_
          refine lv_iconst (v := 1) hx hb dX12_act_38 (by decide) ?_
          refine lv_icmp_ne (tgt := 51) hx hb dX12_act_39 (by decide) (fun c_63 => ?_) (fun c_63 => ?_)
          ·
            have kc_63 : p2.toInt ≠ (1 : Int) := i_ne c_63
            refine lv_iload_n hx hb dX12_act_51 rfl (lv_at hl 2 rfl) ?_
            refine lv_iconst (v := 2) hx hb dX12_act_52 (by decide) ?_
            refine lv_icmp_ne (tgt := 65) hx hb dX12_act_53 (by decide) (fun c_64 => ?_) (fun c_64 => ?_)
            ·
              have kc_64 : p2.toInt ≠ (2 : Int) := i_ne c_64
              refine lv_aload_n hx hb dX12_act_65 rfl (lv_at hl 0 rfl) ?_
              refine lv_iload_n hx hb dX12_act_66 rfl (lv_at hl 1 rfl) ?_
              refine lv_iload_n hx hb dX12_act_67 rfl (lv_at hl 3 rfl) ?_
              refine cV_i (As := [.int p1, .int p3]) (rest := []) ⟨hx, hb, hml, hown, hg⟩ (k_X12_telling_3 l D cs A bd (va_up u 64 0) b bw  p1 p3 hkn (show 0 ≤ p1.toInt by first | omega | decide) (show p1.toInt < 50 by first | omega | decide) (show 0 ≤ (0 : Int) by first | omega | decide) (show (0 : Int) ≤ 17 by first | omega | decide) ib63_0 (show 0 ≤ (0 : Int) by first | omega | decide) (show (0 : Int) ≤ 1000 by first | omega | decide)) ca_X12_telling q7_91 ⟨rfl, rfl⟩ ⟨Nat.le_of_ble_eq_true rfl, Nat.le_of_ble_eq_true rfl⟩ (rc_model hK hP) hK hP hD hS hZ rfl hl.1 rfl (Nat.le_of_ble_eq_true rfl) ⟨Nat.zero_le _, Nat.zero_le _⟩ dX12_act_68 (fun r_65 z_68 H locs wr_65 hP hD hS => ?_)
              obtain ⟨o_u64_66, o_b65_67⟩ := z_68
              have hP : va_P D vwCl (RW cs bd (va_up u 64 o_u64_66) (va_up b 65 o_b65_67) bw) H := hP
              have hD : va_D A (RW cs bd (va_up u 64 o_u64_66) (va_up b 65 o_b65_67) bw) := hD
              obtain ⟨wr_65_0, wr_65_1, wr_65_2, wr_65_3, wr_65_4⟩ : (o_u64_66.toInt = (0 : Int) + 7) ∧ (o_b65_67 = TRW (b 65) (0 : Int).toNat [2, 41, 30, 10, 1, 40, 11]) ∧ (r_65 = ((-(((p3 + 1) + p1) * 2)) - (((1 : Int32) ^^^ p1) * 3))) ∧ (0 ≤ o_u64_66.toInt) ∧ (o_u64_66.toInt ≤ 1000) := wr_65
              exact W.iret (v := r_65) hx hb hr (fun tt ht hW => ⟨⟨r_65, ⟨o_u64_66, o_b65_67⟩, rfl, ⟨(by first | (exact Or.inr ⟨by omega, by rw [hkN, show p2.toInt.toNat = 0 from by omega]; exact wr_65_2, by rw [hkN, show p2.toInt.toNat = 0 from by omega, hal0]; (try dsimp only); omega, by rw [hkN, show p2.toInt.toNat = 0 from by omega]; exact wr_65_1⟩) | (exact Or.inr ⟨by omega, by rw [hkN, show p2.toInt.toNat = 1 from by omega]; exact wr_65_2, by rw [hkN, show p2.toInt.toNat = 1 from by omega, hal1]; (try dsimp only); omega, by rw [hkN, show p2.toInt.toNat = 1 from by omega]; exact wr_65_1⟩) | (exact Or.inr ⟨by omega, by rw [hkN, show p2.toInt.toNat = 2 from by omega]; exact wr_65_2, by rw [hkN, show p2.toInt.toNat = 2 from by omega, hal2]; (try dsimp only); omega, by rw [hkN, show p2.toInt.toNat = 2 from by omega]; exact wr_65_1⟩) | (exact Or.inr ⟨by omega, by rw [hkN, show p2.toInt.toNat = 3 from by omega]; exact wr_65_2, by rw [hkN, show p2.toInt.toNat = 3 from by omega, hal3]; (try dsimp only); omega, by rw [hkN, show p2.toInt.toNat = 3 from by omega]; exact wr_65_1⟩)), (show 0 ≤ o_u64_66.toInt by first | omega | assumption), (show o_u64_66.toInt ≤ 1000 by first | omega | assumption)⟩, by rw [ht]; exact hP, hD⟩, hS.F ht⟩) hS.2.2 dX12_act_71
            ·
              have kc_64 : p2.toInt = (2 : Int) := i_eq c_64
              refine lv_aload_n hx hb dX12_act_56 rfl (lv_at hl 0 rfl) ?_
              refine lv_iload_n hx hb dX12_act_57 rfl (lv_at hl 1 rfl) ?_
              refine lv_iload_n hx hb dX12_act_58 rfl (lv_at hl 3 rfl) ?_
              refine cV_i (As := [.int p1, .int p3]) (rest := []) ⟨hx, hb, hml, hown, hg⟩ (k_X12_settling_3 l D cs A bd (va_up u 64 0) b bw  p1 p3 hkn (show 0 ≤ p1.toInt by first | omega | decide) (show p1.toInt < 50 by first | omega | decide) (show 0 ≤ (0 : Int) by first | omega | decide) (show (0 : Int) ≤ 22 by first | omega | decide) ib63_0 (show 0 ≤ (0 : Int) by first | omega | decide) (show (0 : Int) ≤ 1000 by first | omega | decide)) ca_X12_settling q7_79 ⟨rfl, rfl⟩ ⟨Nat.le_of_ble_eq_true rfl, Nat.le_of_ble_eq_true rfl⟩ (rc_model hK hP) hK hP hD hS hZ rfl hl.1 rfl (Nat.le_of_ble_eq_true rfl) ⟨Nat.zero_le _, Nat.zero_le _⟩ dX12_act_59 (fun r_69 z_72 H locs wr_69 hP hD hS => ?_)
              obtain ⟨o_u64_70, o_b65_71⟩ := z_72
              have hP : va_P D vwCl (RW cs bd (va_up u 64 o_u64_70) (va_up b 65 o_b65_71) bw) H := hP
              have hD : va_D A (RW cs bd (va_up u 64 o_u64_70) (va_up b 65 o_b65_71) bw) := hD
              obtain ⟨wr_69_0, wr_69_1, wr_69_2, wr_69_3, wr_69_4⟩ : (o_u64_70.toInt = (0 : Int) + 2) ∧ (o_b65_71 = TRW (b 65) (0 : Int).toNat [40, 11]) ∧ (r_69 = ((p3 ^^^ p1) * 3)) ∧ (0 ≤ o_u64_70.toInt) ∧ (o_u64_70.toInt ≤ 1000) := wr_69
              refine lv_goto (tgt := 71) hx hb dX12_act_62 (by decide) ?_
              exact W.iret (v := r_69) hx hb hr (fun tt ht hW => ⟨⟨r_69, ⟨o_u64_70, o_b65_71⟩, rfl, ⟨(by first | (exact Or.inr ⟨by omega, by rw [hkN, show p2.toInt.toNat = 0 from by omega]; exact wr_69_2, by rw [hkN, show p2.toInt.toNat = 0 from by omega, hal0]; (try dsimp only); omega, by rw [hkN, show p2.toInt.toNat = 0 from by omega]; exact wr_69_1⟩) | (exact Or.inr ⟨by omega, by rw [hkN, show p2.toInt.toNat = 1 from by omega]; exact wr_69_2, by rw [hkN, show p2.toInt.toNat = 1 from by omega, hal1]; (try dsimp only); omega, by rw [hkN, show p2.toInt.toNat = 1 from by omega]; exact wr_69_1⟩) | (exact Or.inr ⟨by omega, by rw [hkN, show p2.toInt.toNat = 2 from by omega]; exact wr_69_2, by rw [hkN, show p2.toInt.toNat = 2 from by omega, hal2]; (try dsimp only); omega, by rw [hkN, show p2.toInt.toNat = 2 from by omega]; exact wr_69_1⟩) | (exact Or.inr ⟨by omega, by rw [hkN, show p2.toInt.toNat = 3 from by omega]; exact wr_69_2, by rw [hkN, show p2.toInt.toNat = 3 from by omega, hal3]; (try dsimp only); omega, by rw [hkN, show p2.toInt.toNat = 3 from by omega]; exact wr_69_1⟩)), (show 0 ≤ o_u64_70.toInt by first | omega | assumption), (show o_u64_70.toInt ≤ 1000 by first | omega | assumption)⟩, by rw [ht]; exact hP, hD⟩, hS.F ht⟩) hS.2.2 dX12_act_71
          ·
            have kc_63 : p2.toInt = (1 : Int) := i_eq c_63
            refine lv_aload_n hx hb dX12_act_42 rfl (lv_at hl 0 rfl) ?_
            refine lv_iload_n hx hb dX12_act_43 rfl (lv_at hl 1 rfl) ?_
            refine lv_iload_n hx hb dX12_act_44 rfl (lv_at hl 3 rfl) ?_
            refine cV_i (As := [.int p1, .int p3]) (rest := []) ⟨hx, hb, hml, hown, hg⟩ (k_X12_stinging_3 l D cs A bd (va_up u 64 0) b bw  p1 p3 hkn (show 0 ≤ p1.toInt by first | omega | decide) (show p1.toInt < 50 by first | omega | decide) (show 0 ≤ (0 : Int) by first | omega | decide) (show (0 : Int) ≤ 20 by first | omega | decide) ib63_0 (show 0 ≤ (0 : Int) by first | omega | decide) (show (0 : Int) ≤ 1000 by first | omega | decide)) ca_X12_stinging q7_67 ⟨rfl, rfl⟩ ⟨Nat.le_of_ble_eq_true rfl, Nat.le_of_ble_eq_true rfl⟩ (rc_model hK hP) hK hP hD hS hZ rfl hl.1 rfl (Nat.le_of_ble_eq_true rfl) ⟨Nat.zero_le _, Nat.zero_le _⟩ dX12_act_45 (fun r_73 z_76 H locs wr_73 hP hD hS => ?_)
            obtain ⟨o_u64_74, o_b65_75⟩ := z_76
            have hP : va_P D vwCl (RW cs bd (va_up u 64 o_u64_74) (va_up b 65 o_b65_75) bw) H := hP
            have hD : va_D A (RW cs bd (va_up u 64 o_u64_74) (va_up b 65 o_b65_75) bw) := hD
            obtain ⟨wr_73_0, wr_73_1, wr_73_2, wr_73_3, wr_73_4⟩ : (o_u64_74.toInt = (0 : Int) + 4) ∧ (o_b65_75 = TRW (b 65) (0 : Int).toNat [41, 30, 10, 1]) ∧ (r_73 = (-(((p3 + 1) + p1) * 2))) ∧ (0 ≤ o_u64_74.toInt) ∧ (o_u64_74.toInt ≤ 1000) := wr_73
            refine lv_goto (tgt := 71) hx hb dX12_act_48 (by decide) ?_
            exact W.iret (v := r_73) hx hb hr (fun tt ht hW => ⟨⟨r_73, ⟨o_u64_74, o_b65_75⟩, rfl, ⟨(by first | (exact Or.inr ⟨by omega, by rw [hkN, show p2.toInt.toNat = 0 from by omega]; exact wr_73_2, by rw [hkN, show p2.toInt.toNat = 0 from by omega, hal0]; (try dsimp only); omega, by rw [hkN, show p2.toInt.toNat = 0 from by omega]; exact wr_73_1⟩) | (exact Or.inr ⟨by omega, by rw [hkN, show p2.toInt.toNat = 1 from by omega]; exact wr_73_2, by rw [hkN, show p2.toInt.toNat = 1 from by omega, hal1]; (try dsimp only); omega, by rw [hkN, show p2.toInt.toNat = 1 from by omega]; exact wr_73_1⟩) | (exact Or.inr ⟨by omega, by rw [hkN, show p2.toInt.toNat = 2 from by omega]; exact wr_73_2, by rw [hkN, show p2.toInt.toNat = 2 from by omega, hal2]; (try dsimp only); omega, by rw [hkN, show p2.toInt.toNat = 2 from by omega]; exact wr_73_1⟩) | (exact Or.inr ⟨by omega, by rw [hkN, show p2.toInt.toNat = 3 from by omega]; exact wr_73_2, by rw [hkN, show p2.toInt.toNat = 3 from by omega, hal3]; (try dsimp only); omega, by rw [hkN, show p2.toInt.toNat = 3 from by omega]; exact wr_73_1⟩)), (show 0 ≤ o_u64_74.toInt by first | omega | assumption), (show o_u64_74.toInt ≤ 1000 by first | omega | assumption)⟩, by rw [ht]; exact hP, hD⟩, hS.F ht⟩) hS.2.2 dX12_act_71
        ·
          have kc_62 : p2.toInt = (0 : Int) := i_eq c_62
          refine lv_aload_n hx hb dX12_act_28 rfl (lv_at hl 0 rfl) ?_
          refine lv_iload_n hx hb dX12_act_29 rfl (lv_at hl 1 rfl) ?_
          refine lv_iload_n hx hb dX12_act_30 rfl (lv_at hl 3 rfl) ?_
          refine cV_i (As := [.int p1, .int p3]) (rest := []) ⟨hx, hb, hml, hown, hg⟩ (k_X12_flying_3 l D cs A bd (va_up u 64 0) b bw  p1 p3 hkn (show 0 ≤ p1.toInt by first | omega | decide) (show p1.toInt < 50 by first | omega | decide) (show 0 ≤ (0 : Int) by first | omega | decide) (show (0 : Int) ≤ 23 by first | omega | decide) ib63_0 (show 0 ≤ (0 : Int) by first | omega | decide) (show (0 : Int) ≤ 1000 by first | omega | decide)) ca_X12_flying q7_48 ⟨rfl, rfl⟩ ⟨Nat.le_of_ble_eq_true rfl, Nat.le_of_ble_eq_true rfl⟩ (rc_model hK hP) hK hP hD hS hZ rfl hl.1 rfl (Nat.le_of_ble_eq_true rfl) ⟨Nat.zero_le _, Nat.zero_le _⟩ dX12_act_31 (fun r_77 z_80 H locs wr_77 hP hD hS => ?_)
          obtain ⟨o_u64_78, o_b65_79⟩ := z_80
          have hP : va_P D vwCl (RW cs bd (va_up u 64 o_u64_78) (va_up b 65 o_b65_79) bw) H := hP
          have hD : va_D A (RW cs bd (va_up u 64 o_u64_78) (va_up b 65 o_b65_79) bw) := hD
          obtain ⟨wr_77_0, wr_77_1, wr_77_2, wr_77_3, wr_77_4⟩ : (o_u64_78.toInt = (0 : Int) + 1) ∧ (o_b65_79 = TRW (b 65) (0 : Int).toNat [1]) ∧ (r_77 = (p3 + p1)) ∧ (0 ≤ o_u64_78.toInt) ∧ (o_u64_78.toInt ≤ 1000) := wr_77
          refine lv_goto (tgt := 71) hx hb dX12_act_34 (by decide) ?_
          exact W.iret (v := r_77) hx hb hr (fun tt ht hW => ⟨⟨r_77, ⟨o_u64_78, o_b65_79⟩, rfl, ⟨(by first | (exact Or.inr ⟨by omega, by rw [hkN, show p2.toInt.toNat = 0 from by omega]; exact wr_77_2, by rw [hkN, show p2.toInt.toNat = 0 from by omega, hal0]; (try dsimp only); omega, by rw [hkN, show p2.toInt.toNat = 0 from by omega]; exact wr_77_1⟩) | (exact Or.inr ⟨by omega, by rw [hkN, show p2.toInt.toNat = 1 from by omega]; exact wr_77_2, by rw [hkN, show p2.toInt.toNat = 1 from by omega, hal1]; (try dsimp only); omega, by rw [hkN, show p2.toInt.toNat = 1 from by omega]; exact wr_77_1⟩) | (exact Or.inr ⟨by omega, by rw [hkN, show p2.toInt.toNat = 2 from by omega]; exact wr_77_2, by rw [hkN, show p2.toInt.toNat = 2 from by omega, hal2]; (try dsimp only); omega, by rw [hkN, show p2.toInt.toNat = 2 from by omega]; exact wr_77_1⟩) | (exact Or.inr ⟨by omega, by rw [hkN, show p2.toInt.toNat = 3 from by omega]; exact wr_77_2, by rw [hkN, show p2.toInt.toNat = 3 from by omega, hal3]; (try dsimp only); omega, by rw [hkN, show p2.toInt.toNat = 3 from by omega]; exact wr_77_1⟩)), (show 0 ≤ o_u64_78.toInt by first | omega | assumption), (show o_u64_78.toInt ≤ 1000 by first | omega | assumption)⟩, by rw [ht]; exact hP, hD⟩, hS.F ht⟩) hS.2.2 dX12_act_71
      ·
        have hkN : ((b 63) p1.toNatClampNeg).toInt.toNat = 4 := by rw [hkn]; rfl
        have hal0 : (AL 4 0).length = 2 := rfl
        have hal1 : (AL 4 1).length = 3 := rfl
        have hal2 : (AL 4 2).length = 1 := rfl
        have hal3 : (AL 4 3).length = 6 := rfl
        refine lv_iload_n hx hb dX12_act_24 rfl (lv_at hl 2 rfl) ?_
        refine lv_if_ne (tgt := 37) hx hb dX12_act_25 (by decide) (fun c_81 => ?_) (fun c_81 => ?_)
        ·
          have kc_81 : p2.toInt ≠ (0 : Int) := i_ne c_81
          refine lv_iload_n hx hb dX12_act_37 rfl (lv_at hl 2 rfl) ?_
          refine lv_iconst (v := 1) hx hb dX12_act_38 (by decide) ?_
          refine lv_icmp_ne (tgt := 51) hx hb dX12_act_39 (by decide) (fun c_82 => ?_) (fun c_82 => ?_)
          ·
            have kc_82 : p2.toInt ≠ (1 : Int) := i_ne c_82
            refine lv_iload_n hx hb dX12_act_51 rfl (lv_at hl 2 rfl) ?_
            refine lv_iconst (v := 2) hx hb dX12_act_52 (by decide) ?_
            refine lv_icmp_ne (tgt := 65) hx hb dX12_act_53 (by decide) (fun c_83 => ?_) (fun c_83 => ?_)
            ·
              have kc_83 : p2.toInt ≠ (2 : Int) := i_ne c_83
              refine lv_aload_n hx hb dX12_act_65 rfl (lv_at hl 0 rfl) ?_
              refine lv_iload_n hx hb dX12_act_66 rfl (lv_at hl 1 rfl) ?_
              refine lv_iload_n hx hb dX12_act_67 rfl (lv_at hl 3 rfl) ?_
              refine cV_i (As := [.int p1, .int p3]) (rest := []) ⟨hx, hb, hml, hown, hg⟩ (k_X12_telling_4 l D cs A bd (va_up u 64 0) b bw  p1 p3 hkn (show 0 ≤ p1.toInt by first | omega | decide) (show p1.toInt < 50 by first | omega | decide) (show 0 ≤ (0 : Int) by first | omega | decide) (show (0 : Int) ≤ 18 by first | omega | decide) ib63_0 (show 0 ≤ (0 : Int) by first | omega | decide) (show (0 : Int) ≤ 1000 by first | omega | decide)) ca_X12_telling q7_91 ⟨rfl, rfl⟩ ⟨Nat.le_of_ble_eq_true rfl, Nat.le_of_ble_eq_true rfl⟩ (rc_model hK hP) hK hP hD hS hZ rfl hl.1 rfl (Nat.le_of_ble_eq_true rfl) ⟨Nat.zero_le _, Nat.zero_le _⟩ dX12_act_68 (fun r_84 z_87 H locs wr_84 hP hD hS => ?_)
              obtain ⟨o_u64_85, o_b65_86⟩ := z_87
              have hP : va_P D vwCl (RW cs bd (va_up u 64 o_u64_85) (va_up b 65 o_b65_86) bw) H := hP
              have hD : va_D A (RW cs bd (va_up u 64 o_u64_85) (va_up b 65 o_b65_86) bw) := hD
              obtain ⟨wr_84_0, wr_84_1, wr_84_2, wr_84_3, wr_84_4⟩ : (o_u64_85.toInt = (0 : Int) + 6) ∧ (o_b65_86 = TRW (b 65) (0 : Int).toNat [50, 2, 10, 20, 1, 11]) ∧ (r_84 = (((((p3 + p1) + 3) * 2) - ((1 : Int32) ^^^ p1)) ^^^ 5)) ∧ (0 ≤ o_u64_85.toInt) ∧ (o_u64_85.toInt ≤ 1000) := wr_84
              exact W.iret (v := r_84) hx hb hr (fun tt ht hW => ⟨⟨r_84, ⟨o_u64_85, o_b65_86⟩, rfl, ⟨(by first | (exact Or.inr ⟨by omega, by rw [hkN, show p2.toInt.toNat = 0 from by omega]; exact wr_84_2, by rw [hkN, show p2.toInt.toNat = 0 from by omega, hal0]; (try dsimp only); omega, by rw [hkN, show p2.toInt.toNat = 0 from by omega]; exact wr_84_1⟩) | (exact Or.inr ⟨by omega, by rw [hkN, show p2.toInt.toNat = 1 from by omega]; exact wr_84_2, by rw [hkN, show p2.toInt.toNat = 1 from by omega, hal1]; (try dsimp only); omega, by rw [hkN, show p2.toInt.toNat = 1 from by omega]; exact wr_84_1⟩) | (exact Or.inr ⟨by omega, by rw [hkN, show p2.toInt.toNat = 2 from by omega]; exact wr_84_2, by rw [hkN, show p2.toInt.toNat = 2 from by omega, hal2]; (try dsimp only); omega, by rw [hkN, show p2.toInt.toNat = 2 from by omega]; exact wr_84_1⟩) | (exact Or.inr ⟨by omega, by rw [hkN, show p2.toInt.toNat = 3 from by omega]; exact wr_84_2, by rw [hkN, show p2.toInt.toNat = 3 from by omega, hal3]; (try dsimp only); omega, by rw [hkN, show p2.toInt.toNat = 3 from by omega]; exact wr_84_1⟩)), (show 0 ≤ o_u64_85.toInt by first | omega | assumption), (show o_u64_85.toInt ≤ 1000 by first | omega | assumption)⟩, by rw [ht]; exact hP, hD⟩, hS.F ht⟩) hS.2.2 dX12_act_71
            ·
              have kc_83 : p2.toInt = (2 : Int) := i_eq c_83
              refine lv_aload_n hx hb dX12_act_56 rfl (lv_at hl 0 rfl) ?_
              refine lv_iload_n hx hb dX12_act_57 rfl (lv_at hl 1 rfl) ?_
              refine lv_iload_n hx hb dX12_act_58 rfl (lv_at hl 3 rfl) ?_
              refine cV_i (As := [.int p1, .int p3]) (rest := []) ⟨hx, hb, hml, hown, hg⟩ (k_X12_settling_4 l D cs A bd (va_up u 64 0) b bw  p1 p3 hkn (show 0 ≤ p1.toInt by first | omega | decide) (show p1.toInt < 50 by first | omega | decide) (show 0 ≤ (0 : Int) by first | omega | decide) (show (0 : Int) ≤ 23 by first | omega | decide) ib63_0 (show 0 ≤ (0 : Int) by first | omega | decide) (show (0 : Int) ≤ 1000 by first | omega | decide)) ca_X12_settling q7_79 ⟨rfl, rfl⟩ ⟨Nat.le_of_ble_eq_true rfl, Nat.le_of_ble_eq_true rfl⟩ (rc_model hK hP) hK hP hD hS hZ rfl hl.1 rfl (Nat.le_of_ble_eq_true rfl) ⟨Nat.zero_le _, Nat.zero_le _⟩ dX12_act_59 (fun r_88 z_91 H locs wr_88 hP hD hS => ?_)
              obtain ⟨o_u64_89, o_b65_90⟩ := z_91
              have hP : va_P D vwCl (RW cs bd (va_up u 64 o_u64_89) (va_up b 65 o_b65_90) bw) H := hP
              have hD : va_D A (RW cs bd (va_up u 64 o_u64_89) (va_up b 65 o_b65_90) bw) := hD
              obtain ⟨wr_88_0, wr_88_1, wr_88_2, wr_88_3, wr_88_4⟩ : (o_u64_89.toInt = (0 : Int) + 1) ∧ (o_b65_90 = TRW (b 65) (0 : Int).toNat [11]) ∧ (r_88 = (p3 ^^^ p1)) ∧ (0 ≤ o_u64_89.toInt) ∧ (o_u64_89.toInt ≤ 1000) := wr_88
              refine lv_goto (tgt := 71) hx hb dX12_act_62 (by decide) ?_
              exact W.iret (v := r_88) hx hb hr (fun tt ht hW => ⟨⟨r_88, ⟨o_u64_89, o_b65_90⟩, rfl, ⟨(by first | (exact Or.inr ⟨by omega, by rw [hkN, show p2.toInt.toNat = 0 from by omega]; exact wr_88_2, by rw [hkN, show p2.toInt.toNat = 0 from by omega, hal0]; (try dsimp only); omega, by rw [hkN, show p2.toInt.toNat = 0 from by omega]; exact wr_88_1⟩) | (exact Or.inr ⟨by omega, by rw [hkN, show p2.toInt.toNat = 1 from by omega]; exact wr_88_2, by rw [hkN, show p2.toInt.toNat = 1 from by omega, hal1]; (try dsimp only); omega, by rw [hkN, show p2.toInt.toNat = 1 from by omega]; exact wr_88_1⟩) | (exact Or.inr ⟨by omega, by rw [hkN, show p2.toInt.toNat = 2 from by omega]; exact wr_88_2, by rw [hkN, show p2.toInt.toNat = 2 from by omega, hal2]; (try dsimp only); omega, by rw [hkN, show p2.toInt.toNat = 2 from by omega]; exact wr_88_1⟩) | (exact Or.inr ⟨by omega, by rw [hkN, show p2.toInt.toNat = 3 from by omega]; exact wr_88_2, by rw [hkN, show p2.toInt.toNat = 3 from by omega, hal3]; (try dsimp only); omega, by rw [hkN, show p2.toInt.toNat = 3 from by omega]; exact wr_88_1⟩)), (show 0 ≤ o_u64_89.toInt by first | omega | assumption), (show o_u64_89.toInt ≤ 1000 by first | omega | assumption)⟩, by rw [ht]; exact hP, hD⟩, hS.F ht⟩) hS.2.2 dX12_act_71
          ·
            have kc_82 : p2.toInt = (1 : Int) := i_eq c_82
            refine lv_aload_n hx hb dX12_act_42 rfl (lv_at hl 0 rfl) ?_
            refine lv_iload_n hx hb dX12_act_43 rfl (lv_at hl 1 rfl) ?_
            refine lv_iload_n hx hb dX12_act_44 rfl (lv_at hl 3 rfl) ?_
            refine cV_i (As := [.int p1, .int p3]) (rest := []) ⟨hx, hb, hml, hown, hg⟩ (k_X12_stinging_4 l D cs A bd (va_up u 64 0) b bw  p1 p3 hkn (show 0 ≤ p1.toInt by first | omega | decide) (show p1.toInt < 50 by first | omega | decide) (show 0 ≤ (0 : Int) by first | omega | decide) (show (0 : Int) ≤ 21 by first | omega | decide) ib63_0 (show 0 ≤ (0 : Int) by first | omega | decide) (show (0 : Int) ≤ 1000 by first | omega | decide)) ca_X12_stinging q7_67 ⟨rfl, rfl⟩ ⟨Nat.le_of_ble_eq_true rfl, Nat.le_of_ble_eq_true rfl⟩ (rc_model hK hP) hK hP hD hS hZ rfl hl.1 rfl (Nat.le_of_ble_eq_true rfl) ⟨Nat.zero_le _, Nat.zero_le _⟩ dX12_act_45 (fun r_92 z_95 H locs wr_92 hP hD hS => ?_)
            obtain ⟨o_u64_93, o_b65_94⟩ := z_95
            have hP : va_P D vwCl (RW cs bd (va_up u 64 o_u64_93) (va_up b 65 o_b65_94) bw) H := hP
            have hD : va_D A (RW cs bd (va_up u 64 o_u64_93) (va_up b 65 o_b65_94) bw) := hD
            obtain ⟨wr_92_0, wr_92_1, wr_92_2, wr_92_3, wr_92_4⟩ : (o_u64_93.toInt = (0 : Int) + 3) ∧ (o_b65_94 = TRW (b 65) (0 : Int).toNat [10, 20, 1]) ∧ (r_92 = (((p3 + p1) + 3) * 2)) ∧ (0 ≤ o_u64_93.toInt) ∧ (o_u64_93.toInt ≤ 1000) := wr_92
            refine lv_goto (tgt := 71) hx hb dX12_act_48 (by decide) ?_
            exact W.iret (v := r_92) hx hb hr (fun tt ht hW => ⟨⟨r_92, ⟨o_u64_93, o_b65_94⟩, rfl, ⟨(by first | (exact Or.inr ⟨by omega, by rw [hkN, show p2.toInt.toNat = 0 from by omega]; exact wr_92_2, by rw [hkN, show p2.toInt.toNat = 0 from by omega, hal0]; (try dsimp only); omega, by rw [hkN, show p2.toInt.toNat = 0 from by omega]; exact wr_92_1⟩) | (exact Or.inr ⟨by omega, by rw [hkN, show p2.toInt.toNat = 1 from by omega]; exact wr_92_2, by rw [hkN, show p2.toInt.toNat = 1 from by omega, hal1]; (try dsimp only); omega, by rw [hkN, show p2.toInt.toNat = 1 from by omega]; exact wr_92_1⟩) | (exact Or.inr ⟨by omega, by rw [hkN, show p2.toInt.toNat = 2 from by omega]; exact wr_92_2, by rw [hkN, show p2.toInt.toNat = 2 from by omega, hal2]; (try dsimp only); omega, by rw [hkN, show p2.toInt.toNat = 2 from by omega]; exact wr_92_1⟩) | (exact Or.inr ⟨by omega, by rw [hkN, show p2.toInt.toNat = 3 from by omega]; exact wr_92_2, by rw [hkN, show p2.toInt.toNat = 3 from by omega, hal3]; (try dsimp only); omega, by rw [hkN, show p2.toInt.toNat = 3 from by omega]; exact wr_92_1⟩)), (show 0 ≤ o_u64_93.toInt by first | omega | assumption), (show o_u64_93.toInt ≤ 1000 by first | omega | assumption)⟩, by rw [ht]; exact hP, hD⟩, hS.F ht⟩) hS.2.2 dX12_act_71
        ·
          have kc_81 : p2.toInt = (0 : Int) := i_eq c_81
          refine lv_aload_n hx hb dX12_act_28 rfl (lv_at hl 0 rfl) ?_
          refine lv_iload_n hx hb dX12_act_29 rfl (lv_at hl 1 rfl) ?_
          refine lv_iload_n hx hb dX12_act_30 rfl (lv_at hl 3 rfl) ?_
          refine cV_i (As := [.int p1, .int p3]) (rest := []) ⟨hx, hb, hml, hown, hg⟩ (k_X12_flying_4 l D cs A bd (va_up u 64 0) b bw  p1 p3 hkn (show 0 ≤ p1.toInt by first | omega | decide) (show p1.toInt < 50 by first | omega | decide) (show 0 ≤ (0 : Int) by first | omega | decide) (show (0 : Int) ≤ 22 by first | omega | decide) ib63_0 (show 0 ≤ (0 : Int) by first | omega | decide) (show (0 : Int) ≤ 1000 by first | omega | decide)) ca_X12_flying q7_48 ⟨rfl, rfl⟩ ⟨Nat.le_of_ble_eq_true rfl, Nat.le_of_ble_eq_true rfl⟩ (rc_model hK hP) hK hP hD hS hZ rfl hl.1 rfl (Nat.le_of_ble_eq_true rfl) ⟨Nat.zero_le _, Nat.zero_le _⟩ dX12_act_31 (fun r_96 z_99 H locs wr_96 hP hD hS => ?_)
          obtain ⟨o_u64_97, o_b65_98⟩ := z_99
          have hP : va_P D vwCl (RW cs bd (va_up u 64 o_u64_97) (va_up b 65 o_b65_98) bw) H := hP
          have hD : va_D A (RW cs bd (va_up u 64 o_u64_97) (va_up b 65 o_b65_98) bw) := hD
          obtain ⟨wr_96_0, wr_96_1, wr_96_2, wr_96_3, wr_96_4⟩ : (o_u64_97.toInt = (0 : Int) + 2) ∧ (o_b65_98 = TRW (b 65) (0 : Int).toNat [20, 1]) ∧ (r_96 = ((p3 + p1) + 3)) ∧ (0 ≤ o_u64_97.toInt) ∧ (o_u64_97.toInt ≤ 1000) := wr_96
          refine lv_goto (tgt := 71) hx hb dX12_act_34 (by decide) ?_
          exact W.iret (v := r_96) hx hb hr (fun tt ht hW => ⟨⟨r_96, ⟨o_u64_97, o_b65_98⟩, rfl, ⟨(by first | (exact Or.inr ⟨by omega, by rw [hkN, show p2.toInt.toNat = 0 from by omega]; exact wr_96_2, by rw [hkN, show p2.toInt.toNat = 0 from by omega, hal0]; (try dsimp only); omega, by rw [hkN, show p2.toInt.toNat = 0 from by omega]; exact wr_96_1⟩) | (exact Or.inr ⟨by omega, by rw [hkN, show p2.toInt.toNat = 1 from by omega]; exact wr_96_2, by rw [hkN, show p2.toInt.toNat = 1 from by omega, hal1]; (try dsimp only); omega, by rw [hkN, show p2.toInt.toNat = 1 from by omega]; exact wr_96_1⟩) | (exact Or.inr ⟨by omega, by rw [hkN, show p2.toInt.toNat = 2 from by omega]; exact wr_96_2, by rw [hkN, show p2.toInt.toNat = 2 from by omega, hal2]; (try dsimp only); omega, by rw [hkN, show p2.toInt.toNat = 2 from by omega]; exact wr_96_1⟩) | (exact Or.inr ⟨by omega, by rw [hkN, show p2.toInt.toNat = 3 from by omega]; exact wr_96_2, by rw [hkN, show p2.toInt.toNat = 3 from by omega, hal3]; (try dsimp only); omega, by rw [hkN, show p2.toInt.toNat = 3 from by omega]; exact wr_96_1⟩)), (show 0 ≤ o_u64_97.toInt by first | omega | assumption), (show o_u64_97.toInt ≤ 1000 by first | omega | assumption)⟩, by rw [ht]; exact hP, hD⟩, hS.F ht⟩) hS.2.2 dX12_act_71
      ·
        have hkN : ((b 63) p1.toNatClampNeg).toInt.toNat = 5 := by rw [hkn]; rfl
        have hal0 : (AL 5 0).length = 1 := rfl
        have hal1 : (AL 5 1).length = 4 := rfl
        have hal2 : (AL 5 2).length = 4 := rfl
        have hal3 : (AL 5 3).length = 10 := rfl
        refine lv_iload_n hx hb dX12_act_24 rfl (lv_at hl 2 rfl) ?_
        refine lv_if_ne (tgt := 37) hx hb dX12_act_25 (by decide) (fun c_100 => ?_) (fun c_100 => ?_)
        ·
          have kc_100 : p2.toInt ≠ (0 : Int) := i_ne c_100
          refine lv_iload_n hx hb dX12_act_37 rfl (lv_at hl 2 rfl) ?_
          refine lv_iconst (v := 1) hx hb dX12_act_38 (by decide) ?_
          refine lv_icmp_ne (tgt := 51) hx hb dX12_act_39 (by decide) (fun c_101 => ?_) (fun c_101 => ?_)
          ·
            have kc_101 : p2.toInt ≠ (1 : Int) := i_ne c_101
            refine lv_iload_n hx hb dX12_act_51 rfl (lv_at hl 2 rfl) ?_
            refine lv_iconst (v := 2) hx hb dX12_act_52 (by decide) ?_
            refine lv_icmp_ne (tgt := 65) hx hb dX12_act_53 (by decide) (fun c_102 => ?_) (fun c_102 => ?_)
            ·
              have kc_102 : p2.toInt ≠ (2 : Int) := i_ne c_102
              refine lv_aload_n hx hb dX12_act_65 rfl (lv_at hl 0 rfl) ?_
              refine lv_iload_n hx hb dX12_act_66 rfl (lv_at hl 1 rfl) ?_
              refine lv_iload_n hx hb dX12_act_67 rfl (lv_at hl 3 rfl) ?_
              refine cV_i (As := [.int p1, .int p3]) (rest := []) ⟨hx, hb, hml, hown, hg⟩ (k_X12_telling_5 l D cs A bd (va_up u 64 0) b bw  p1 p3 hkn (show 0 ≤ p1.toInt by first | omega | decide) (show p1.toInt < 50 by first | omega | decide) (show 0 ≤ (0 : Int) by first | omega | decide) (show (0 : Int) ≤ 14 by first | omega | decide) ib63_0 (show 0 ≤ (0 : Int) by first | omega | decide) (show (0 : Int) ≤ 1000 by first | omega | decide)) ca_X12_telling q7_91 ⟨rfl, rfl⟩ ⟨Nat.le_of_ble_eq_true rfl, Nat.le_of_ble_eq_true rfl⟩ (rc_model hK hP) hK hP hD hS hZ rfl hl.1 rfl (Nat.le_of_ble_eq_true rfl) ⟨Nat.zero_le _, Nat.zero_le _⟩ dX12_act_68 (fun r_103 z_106 H locs wr_103 hP hD hS => ?_)
              obtain ⟨o_u64_104, o_b65_105⟩ := z_106
              have hP : va_P D vwCl (RW cs bd (va_up u 64 o_u64_104) (va_up b 65 o_b65_105) bw) H := hP
              have hD : va_D A (RW cs bd (va_up u 64 o_u64_104) (va_up b 65 o_b65_105) bw) := hD
              obtain ⟨wr_103_0, wr_103_1, wr_103_2, wr_103_3, wr_103_4⟩ : (o_u64_104.toInt = (0 : Int) + 10) ∧ (o_b65_105 = TRW (b 65) (0 : Int).toNat [61, 2, 41, 30, 10, 1, 60, 40, 11, 1]) ∧ (r_103 = (((-(((p3 + 1) + p1) * 2)) - ((((1 : Int32) ^^^ p1) * 3) - ((2 : Int32) + p1))) + 1)) ∧ (0 ≤ o_u64_104.toInt) ∧ (o_u64_104.toInt ≤ 1000) := wr_103
              exact W.iret (v := r_103) hx hb hr (fun tt ht hW => ⟨⟨r_103, ⟨o_u64_104, o_b65_105⟩, rfl, ⟨(by first | (exact Or.inr ⟨by omega, by rw [hkN, show p2.toInt.toNat = 0 from by omega]; exact wr_103_2, by rw [hkN, show p2.toInt.toNat = 0 from by omega, hal0]; (try dsimp only); omega, by rw [hkN, show p2.toInt.toNat = 0 from by omega]; exact wr_103_1⟩) | (exact Or.inr ⟨by omega, by rw [hkN, show p2.toInt.toNat = 1 from by omega]; exact wr_103_2, by rw [hkN, show p2.toInt.toNat = 1 from by omega, hal1]; (try dsimp only); omega, by rw [hkN, show p2.toInt.toNat = 1 from by omega]; exact wr_103_1⟩) | (exact Or.inr ⟨by omega, by rw [hkN, show p2.toInt.toNat = 2 from by omega]; exact wr_103_2, by rw [hkN, show p2.toInt.toNat = 2 from by omega, hal2]; (try dsimp only); omega, by rw [hkN, show p2.toInt.toNat = 2 from by omega]; exact wr_103_1⟩) | (exact Or.inr ⟨by omega, by rw [hkN, show p2.toInt.toNat = 3 from by omega]; exact wr_103_2, by rw [hkN, show p2.toInt.toNat = 3 from by omega, hal3]; (try dsimp only); omega, by rw [hkN, show p2.toInt.toNat = 3 from by omega]; exact wr_103_1⟩)), (show 0 ≤ o_u64_104.toInt by first | omega | assumption), (show o_u64_104.toInt ≤ 1000 by first | omega | assumption)⟩, by rw [ht]; exact hP, hD⟩, hS.F ht⟩) hS.2.2 dX12_act_71
            ·
              have kc_102 : p2.toInt = (2 : Int) := i_eq c_102
              refine lv_aload_n hx hb dX12_act_56 rfl (lv_at hl 0 rfl) ?_
              refine lv_iload_n hx hb dX12_act_57 rfl (lv_at hl 1 rfl) ?_
              refine lv_iload_n hx hb dX12_act_58 rfl (lv_at hl 3 rfl) ?_
              refine cV_i (As := [.int p1, .int p3]) (rest := []) ⟨hx, hb, hml, hown, hg⟩ (k_X12_settling_5 l D cs A bd (va_up u 64 0) b bw  p1 p3 hkn (show 0 ≤ p1.toInt by first | omega | decide) (show p1.toInt < 50 by first | omega | decide) (show 0 ≤ (0 : Int) by first | omega | decide) (show (0 : Int) ≤ 20 by first | omega | decide) ib63_0 (show 0 ≤ (0 : Int) by first | omega | decide) (show (0 : Int) ≤ 1000 by first | omega | decide)) ca_X12_settling q7_79 ⟨rfl, rfl⟩ ⟨Nat.le_of_ble_eq_true rfl, Nat.le_of_ble_eq_true rfl⟩ (rc_model hK hP) hK hP hD hS hZ rfl hl.1 rfl (Nat.le_of_ble_eq_true rfl) ⟨Nat.zero_le _, Nat.zero_le _⟩ dX12_act_59 (fun r_107 z_110 H locs wr_107 hP hD hS => ?_)
              obtain ⟨o_u64_108, o_b65_109⟩ := z_110
              have hP : va_P D vwCl (RW cs bd (va_up u 64 o_u64_108) (va_up b 65 o_b65_109) bw) H := hP
              have hD : va_D A (RW cs bd (va_up u 64 o_u64_108) (va_up b 65 o_b65_109) bw) := hD
              obtain ⟨wr_107_0, wr_107_1, wr_107_2, wr_107_3, wr_107_4⟩ : (o_u64_108.toInt = (0 : Int) + 4) ∧ (o_b65_109 = TRW (b 65) (0 : Int).toNat [60, 40, 11, 1]) ∧ (r_107 = (((p3 ^^^ p1) * 3) - ((2 : Int32) + p1))) ∧ (0 ≤ o_u64_108.toInt) ∧ (o_u64_108.toInt ≤ 1000) := wr_107
              refine lv_goto (tgt := 71) hx hb dX12_act_62 (by decide) ?_
              exact W.iret (v := r_107) hx hb hr (fun tt ht hW => ⟨⟨r_107, ⟨o_u64_108, o_b65_109⟩, rfl, ⟨(by first | (exact Or.inr ⟨by omega, by rw [hkN, show p2.toInt.toNat = 0 from by omega]; exact wr_107_2, by rw [hkN, show p2.toInt.toNat = 0 from by omega, hal0]; (try dsimp only); omega, by rw [hkN, show p2.toInt.toNat = 0 from by omega]; exact wr_107_1⟩) | (exact Or.inr ⟨by omega, by rw [hkN, show p2.toInt.toNat = 1 from by omega]; exact wr_107_2, by rw [hkN, show p2.toInt.toNat = 1 from by omega, hal1]; (try dsimp only); omega, by rw [hkN, show p2.toInt.toNat = 1 from by omega]; exact wr_107_1⟩) | (exact Or.inr ⟨by omega, by rw [hkN, show p2.toInt.toNat = 2 from by omega]; exact wr_107_2, by rw [hkN, show p2.toInt.toNat = 2 from by omega, hal2]; (try dsimp only); omega, by rw [hkN, show p2.toInt.toNat = 2 from by omega]; exact wr_107_1⟩) | (exact Or.inr ⟨by omega, by rw [hkN, show p2.toInt.toNat = 3 from by omega]; exact wr_107_2, by rw [hkN, show p2.toInt.toNat = 3 from by omega, hal3]; (try dsimp only); omega, by rw [hkN, show p2.toInt.toNat = 3 from by omega]; exact wr_107_1⟩)), (show 0 ≤ o_u64_108.toInt by first | omega | assumption), (show o_u64_108.toInt ≤ 1000 by first | omega | assumption)⟩, by rw [ht]; exact hP, hD⟩, hS.F ht⟩) hS.2.2 dX12_act_71
          ·
            have kc_101 : p2.toInt = (1 : Int) := i_eq c_101
            refine lv_aload_n hx hb dX12_act_42 rfl (lv_at hl 0 rfl) ?_
            refine lv_iload_n hx hb dX12_act_43 rfl (lv_at hl 1 rfl) ?_
            refine lv_iload_n hx hb dX12_act_44 rfl (lv_at hl 3 rfl) ?_
            refine cV_i (As := [.int p1, .int p3]) (rest := []) ⟨hx, hb, hml, hown, hg⟩ (k_X12_stinging_5 l D cs A bd (va_up u 64 0) b bw  p1 p3 hkn (show 0 ≤ p1.toInt by first | omega | decide) (show p1.toInt < 50 by first | omega | decide) (show 0 ≤ (0 : Int) by first | omega | decide) (show (0 : Int) ≤ 20 by first | omega | decide) ib63_0 (show 0 ≤ (0 : Int) by first | omega | decide) (show (0 : Int) ≤ 1000 by first | omega | decide)) ca_X12_stinging q7_67 ⟨rfl, rfl⟩ ⟨Nat.le_of_ble_eq_true rfl, Nat.le_of_ble_eq_true rfl⟩ (rc_model hK hP) hK hP hD hS hZ rfl hl.1 rfl (Nat.le_of_ble_eq_true rfl) ⟨Nat.zero_le _, Nat.zero_le _⟩ dX12_act_45 (fun r_111 z_114 H locs wr_111 hP hD hS => ?_)
            obtain ⟨o_u64_112, o_b65_113⟩ := z_114
            have hP : va_P D vwCl (RW cs bd (va_up u 64 o_u64_112) (va_up b 65 o_b65_113) bw) H := hP
            have hD : va_D A (RW cs bd (va_up u 64 o_u64_112) (va_up b 65 o_b65_113) bw) := hD
            obtain ⟨wr_111_0, wr_111_1, wr_111_2, wr_111_3, wr_111_4⟩ : (o_u64_112.toInt = (0 : Int) + 4) ∧ (o_b65_113 = TRW (b 65) (0 : Int).toNat [41, 30, 10, 1]) ∧ (r_111 = (-(((p3 + 1) + p1) * 2))) ∧ (0 ≤ o_u64_112.toInt) ∧ (o_u64_112.toInt ≤ 1000) := wr_111
            refine lv_goto (tgt := 71) hx hb dX12_act_48 (by decide) ?_
            exact W.iret (v := r_111) hx hb hr (fun tt ht hW => ⟨⟨r_111, ⟨o_u64_112, o_b65_113⟩, rfl, ⟨(by first | (exact Or.inr ⟨by omega, by rw [hkN, show p2.toInt.toNat = 0 from by omega]; exact wr_111_2, by rw [hkN, show p2.toInt.toNat = 0 from by omega, hal0]; (try dsimp only); omega, by rw [hkN, show p2.toInt.toNat = 0 from by omega]; exact wr_111_1⟩) | (exact Or.inr ⟨by omega, by rw [hkN, show p2.toInt.toNat = 1 from by omega]; exact wr_111_2, by rw [hkN, show p2.toInt.toNat = 1 from by omega, hal1]; (try dsimp only); omega, by rw [hkN, show p2.toInt.toNat = 1 from by omega]; exact wr_111_1⟩) | (exact Or.inr ⟨by omega, by rw [hkN, show p2.toInt.toNat = 2 from by omega]; exact wr_111_2, by rw [hkN, show p2.toInt.toNat = 2 from by omega, hal2]; (try dsimp only); omega, by rw [hkN, show p2.toInt.toNat = 2 from by omega]; exact wr_111_1⟩) | (exact Or.inr ⟨by omega, by rw [hkN, show p2.toInt.toNat = 3 from by omega]; exact wr_111_2, by rw [hkN, show p2.toInt.toNat = 3 from by omega, hal3]; (try dsimp only); omega, by rw [hkN, show p2.toInt.toNat = 3 from by omega]; exact wr_111_1⟩)), (show 0 ≤ o_u64_112.toInt by first | omega | assumption), (show o_u64_112.toInt ≤ 1000 by first | omega | assumption)⟩, by rw [ht]; exact hP, hD⟩, hS.F ht⟩) hS.2.2 dX12_act_71
        ·
          have kc_100 : p2.toInt = (0 : Int) := i_eq c_100
          refine lv_aload_n hx hb dX12_act_28 rfl (lv_at hl 0 rfl) ?_
          refine lv_iload_n hx hb dX12_act_29 rfl (lv_at hl 1 rfl) ?_
          refine lv_iload_n hx hb dX12_act_30 rfl (lv_at hl 3 rfl) ?_
          refine cV_i (As := [.int p1, .int p3]) (rest := []) ⟨hx, hb, hml, hown, hg⟩ (k_X12_flying_5 l D cs A bd (va_up u 64 0) b bw  p1 p3 hkn (show 0 ≤ p1.toInt by first | omega | decide) (show p1.toInt < 50 by first | omega | decide) (show 0 ≤ (0 : Int) by first | omega | decide) (show (0 : Int) ≤ 23 by first | omega | decide) ib63_0 (show 0 ≤ (0 : Int) by first | omega | decide) (show (0 : Int) ≤ 1000 by first | omega | decide)) ca_X12_flying q7_48 ⟨rfl, rfl⟩ ⟨Nat.le_of_ble_eq_true rfl, Nat.le_of_ble_eq_true rfl⟩ (rc_model hK hP) hK hP hD hS hZ rfl hl.1 rfl (Nat.le_of_ble_eq_true rfl) ⟨Nat.zero_le _, Nat.zero_le _⟩ dX12_act_31 (fun r_115 z_118 H locs wr_115 hP hD hS => ?_)
          obtain ⟨o_u64_116, o_b65_117⟩ := z_118
          have hP : va_P D vwCl (RW cs bd (va_up u 64 o_u64_116) (va_up b 65 o_b65_117) bw) H := hP
          have hD : va_D A (RW cs bd (va_up u 64 o_u64_116) (va_up b 65 o_b65_117) bw) := hD
          obtain ⟨wr_115_0, wr_115_1, wr_115_2, wr_115_3, wr_115_4⟩ : (o_u64_116.toInt = (0 : Int) + 1) ∧ (o_b65_117 = TRW (b 65) (0 : Int).toNat [1]) ∧ (r_115 = (p3 + p1)) ∧ (0 ≤ o_u64_116.toInt) ∧ (o_u64_116.toInt ≤ 1000) := wr_115
          refine lv_goto (tgt := 71) hx hb dX12_act_34 (by decide) ?_
          exact W.iret (v := r_115) hx hb hr (fun tt ht hW => ⟨⟨r_115, ⟨o_u64_116, o_b65_117⟩, rfl, ⟨(by first | (exact Or.inr ⟨by omega, by rw [hkN, show p2.toInt.toNat = 0 from by omega]; exact wr_115_2, by rw [hkN, show p2.toInt.toNat = 0 from by omega, hal0]; (try dsimp only); omega, by rw [hkN, show p2.toInt.toNat = 0 from by omega]; exact wr_115_1⟩) | (exact Or.inr ⟨by omega, by rw [hkN, show p2.toInt.toNat = 1 from by omega]; exact wr_115_2, by rw [hkN, show p2.toInt.toNat = 1 from by omega, hal1]; (try dsimp only); omega, by rw [hkN, show p2.toInt.toNat = 1 from by omega]; exact wr_115_1⟩) | (exact Or.inr ⟨by omega, by rw [hkN, show p2.toInt.toNat = 2 from by omega]; exact wr_115_2, by rw [hkN, show p2.toInt.toNat = 2 from by omega, hal2]; (try dsimp only); omega, by rw [hkN, show p2.toInt.toNat = 2 from by omega]; exact wr_115_1⟩) | (exact Or.inr ⟨by omega, by rw [hkN, show p2.toInt.toNat = 3 from by omega]; exact wr_115_2, by rw [hkN, show p2.toInt.toNat = 3 from by omega, hal3]; (try dsimp only); omega, by rw [hkN, show p2.toInt.toNat = 3 from by omega]; exact wr_115_1⟩)), (show 0 ≤ o_u64_116.toInt by first | omega | assumption), (show o_u64_116.toInt ≤ 1000 by first | omega | assumption)⟩, by rw [ht]; exact hP, hD⟩, hS.F ht⟩) hS.2.2 dX12_act_71
      ·
        have hkN : ((b 63) p1.toNatClampNeg).toInt.toNat = 6 := by rw [hkn]; rfl
        have hal0 : (AL 6 0).length = 2 := rfl
        have hal1 : (AL 6 1).length = 3 := rfl
        have hal2 : (AL 6 2).length = 1 := rfl
        have hal3 : (AL 6 3).length = 5 := rfl
        refine lv_iload_n hx hb dX12_act_24 rfl (lv_at hl 2 rfl) ?_
        refine lv_if_ne (tgt := 37) hx hb dX12_act_25 (by decide) (fun c_119 => ?_) (fun c_119 => ?_)
        ·
          have kc_119 : p2.toInt ≠ (0 : Int) := i_ne c_119
          refine lv_iload_n hx hb dX12_act_37 rfl (lv_at hl 2 rfl) ?_
          refine lv_iconst (v := 1) hx hb dX12_act_38 (by decide) ?_
          refine lv_icmp_ne (tgt := 51) hx hb dX12_act_39 (by decide) (fun c_120 => ?_) (fun c_120 => ?_)
          ·
            have kc_120 : p2.toInt ≠ (1 : Int) := i_ne c_120
            refine lv_iload_n hx hb dX12_act_51 rfl (lv_at hl 2 rfl) ?_
            refine lv_iconst (v := 2) hx hb dX12_act_52 (by decide) ?_
            refine lv_icmp_ne (tgt := 65) hx hb dX12_act_53 (by decide) (fun c_121 => ?_) (fun c_121 => ?_)
            ·
              have kc_121 : p2.toInt ≠ (2 : Int) := i_ne c_121
              refine lv_aload_n hx hb dX12_act_65 rfl (lv_at hl 0 rfl) ?_
              refine lv_iload_n hx hb dX12_act_66 rfl (lv_at hl 1 rfl) ?_
              refine lv_iload_n hx hb dX12_act_67 rfl (lv_at hl 3 rfl) ?_
              refine cV_i (As := [.int p1, .int p3]) (rest := []) ⟨hx, hb, hml, hown, hg⟩ (k_X12_telling_6 l D cs A bd (va_up u 64 0) b bw  p1 p3 hkn (show 0 ≤ p1.toInt by first | omega | decide) (show p1.toInt < 50 by first | omega | decide) (show 0 ≤ (0 : Int) by first | omega | decide) (show (0 : Int) ≤ 19 by first | omega | decide) ib63_0 (show 0 ≤ (0 : Int) by first | omega | decide) (show (0 : Int) ≤ 1000 by first | omega | decide)) ca_X12_telling q7_91 ⟨rfl, rfl⟩ ⟨Nat.le_of_ble_eq_true rfl, Nat.le_of_ble_eq_true rfl⟩ (rc_model hK hP) hK hP hD hS hZ rfl hl.1 rfl (Nat.le_of_ble_eq_true rfl) ⟨Nat.zero_le _, Nat.zero_le _⟩ dX12_act_68 (fun r_122 z_125 H locs wr_122 hP hD hS => ?_)
              obtain ⟨o_u64_123, o_b65_124⟩ := z_125
              have hP : va_P D vwCl (RW cs bd (va_up u 64 o_u64_123) (va_up b 65 o_b65_124) bw) H := hP
              have hD : va_D A (RW cs bd (va_up u 64 o_u64_123) (va_up b 65 o_b65_124) bw) := hD
              obtain ⟨wr_122_0, wr_122_1, wr_122_2, wr_122_3, wr_122_4⟩ : (o_u64_123.toInt = (0 : Int) + 5) ∧ (o_b65_124 = TRW (b 65) (0 : Int).toNat [2, 10, 70, 1, 11]) ∧ (r_122 = ((((p3 + p1) * 2) * 2) - ((1 : Int32) ^^^ p1))) ∧ (0 ≤ o_u64_123.toInt) ∧ (o_u64_123.toInt ≤ 1000) := wr_122
              exact W.iret (v := r_122) hx hb hr (fun tt ht hW => ⟨⟨r_122, ⟨o_u64_123, o_b65_124⟩, rfl, ⟨(by first | (exact Or.inr ⟨by omega, by rw [hkN, show p2.toInt.toNat = 0 from by omega]; exact wr_122_2, by rw [hkN, show p2.toInt.toNat = 0 from by omega, hal0]; (try dsimp only); omega, by rw [hkN, show p2.toInt.toNat = 0 from by omega]; exact wr_122_1⟩) | (exact Or.inr ⟨by omega, by rw [hkN, show p2.toInt.toNat = 1 from by omega]; exact wr_122_2, by rw [hkN, show p2.toInt.toNat = 1 from by omega, hal1]; (try dsimp only); omega, by rw [hkN, show p2.toInt.toNat = 1 from by omega]; exact wr_122_1⟩) | (exact Or.inr ⟨by omega, by rw [hkN, show p2.toInt.toNat = 2 from by omega]; exact wr_122_2, by rw [hkN, show p2.toInt.toNat = 2 from by omega, hal2]; (try dsimp only); omega, by rw [hkN, show p2.toInt.toNat = 2 from by omega]; exact wr_122_1⟩) | (exact Or.inr ⟨by omega, by rw [hkN, show p2.toInt.toNat = 3 from by omega]; exact wr_122_2, by rw [hkN, show p2.toInt.toNat = 3 from by omega, hal3]; (try dsimp only); omega, by rw [hkN, show p2.toInt.toNat = 3 from by omega]; exact wr_122_1⟩)), (show 0 ≤ o_u64_123.toInt by first | omega | assumption), (show o_u64_123.toInt ≤ 1000 by first | omega | assumption)⟩, by rw [ht]; exact hP, hD⟩, hS.F ht⟩) hS.2.2 dX12_act_71
            ·
              have kc_121 : p2.toInt = (2 : Int) := i_eq c_121
              refine lv_aload_n hx hb dX12_act_56 rfl (lv_at hl 0 rfl) ?_
              refine lv_iload_n hx hb dX12_act_57 rfl (lv_at hl 1 rfl) ?_
              refine lv_iload_n hx hb dX12_act_58 rfl (lv_at hl 3 rfl) ?_
              refine cV_i (As := [.int p1, .int p3]) (rest := []) ⟨hx, hb, hml, hown, hg⟩ (k_X12_settling_6 l D cs A bd (va_up u 64 0) b bw  p1 p3 hkn (show 0 ≤ p1.toInt by first | omega | decide) (show p1.toInt < 50 by first | omega | decide) (show 0 ≤ (0 : Int) by first | omega | decide) (show (0 : Int) ≤ 23 by first | omega | decide) ib63_0 (show 0 ≤ (0 : Int) by first | omega | decide) (show (0 : Int) ≤ 1000 by first | omega | decide)) ca_X12_settling q7_79 ⟨rfl, rfl⟩ ⟨Nat.le_of_ble_eq_true rfl, Nat.le_of_ble_eq_true rfl⟩ (rc_model hK hP) hK hP hD hS hZ rfl hl.1 rfl (Nat.le_of_ble_eq_true rfl) ⟨Nat.zero_le _, Nat.zero_le _⟩ dX12_act_59 (fun r_126 z_129 H locs wr_126 hP hD hS => ?_)
              obtain ⟨o_u64_127, o_b65_128⟩ := z_129
              have hP : va_P D vwCl (RW cs bd (va_up u 64 o_u64_127) (va_up b 65 o_b65_128) bw) H := hP
              have hD : va_D A (RW cs bd (va_up u 64 o_u64_127) (va_up b 65 o_b65_128) bw) := hD
              obtain ⟨wr_126_0, wr_126_1, wr_126_2, wr_126_3, wr_126_4⟩ : (o_u64_127.toInt = (0 : Int) + 1) ∧ (o_b65_128 = TRW (b 65) (0 : Int).toNat [11]) ∧ (r_126 = (p3 ^^^ p1)) ∧ (0 ≤ o_u64_127.toInt) ∧ (o_u64_127.toInt ≤ 1000) := wr_126
              refine lv_goto (tgt := 71) hx hb dX12_act_62 (by decide) ?_
              exact W.iret (v := r_126) hx hb hr (fun tt ht hW => ⟨⟨r_126, ⟨o_u64_127, o_b65_128⟩, rfl, ⟨(by first | (exact Or.inr ⟨by omega, by rw [hkN, show p2.toInt.toNat = 0 from by omega]; exact wr_126_2, by rw [hkN, show p2.toInt.toNat = 0 from by omega, hal0]; (try dsimp only); omega, by rw [hkN, show p2.toInt.toNat = 0 from by omega]; exact wr_126_1⟩) | (exact Or.inr ⟨by omega, by rw [hkN, show p2.toInt.toNat = 1 from by omega]; exact wr_126_2, by rw [hkN, show p2.toInt.toNat = 1 from by omega, hal1]; (try dsimp only); omega, by rw [hkN, show p2.toInt.toNat = 1 from by omega]; exact wr_126_1⟩) | (exact Or.inr ⟨by omega, by rw [hkN, show p2.toInt.toNat = 2 from by omega]; exact wr_126_2, by rw [hkN, show p2.toInt.toNat = 2 from by omega, hal2]; (try dsimp only); omega, by rw [hkN, show p2.toInt.toNat = 2 from by omega]; exact wr_126_1⟩) | (exact Or.inr ⟨by omega, by rw [hkN, show p2.toInt.toNat = 3 from by omega]; exact wr_126_2, by rw [hkN, show p2.toInt.toNat = 3 from by omega, hal3]; (try dsimp only); omega, by rw [hkN, show p2.toInt.toNat = 3 from by omega]; exact wr_126_1⟩)), (show 0 ≤ o_u64_127.toInt by first | omega | assumption), (show o_u64_127.toInt ≤ 1000 by first | omega | assumption)⟩, by rw [ht]; exact hP, hD⟩, hS.F ht⟩) hS.2.2 dX12_act_71
          ·
            have kc_120 : p2.toInt = (1 : Int) := i_eq c_120
            refine lv_aload_n hx hb dX12_act_42 rfl (lv_at hl 0 rfl) ?_
            refine lv_iload_n hx hb dX12_act_43 rfl (lv_at hl 1 rfl) ?_
            refine lv_iload_n hx hb dX12_act_44 rfl (lv_at hl 3 rfl) ?_
            refine cV_i (As := [.int p1, .int p3]) (rest := []) ⟨hx, hb, hml, hown, hg⟩ (k_X12_stinging_6 l D cs A bd (va_up u 64 0) b bw  p1 p3 hkn (show 0 ≤ p1.toInt by first | omega | decide) (show p1.toInt < 50 by first | omega | decide) (show 0 ≤ (0 : Int) by first | omega | decide) (show (0 : Int) ≤ 21 by first | omega | decide) ib63_0 (show 0 ≤ (0 : Int) by first | omega | decide) (show (0 : Int) ≤ 1000 by first | omega | decide)) ca_X12_stinging q7_67 ⟨rfl, rfl⟩ ⟨Nat.le_of_ble_eq_true rfl, Nat.le_of_ble_eq_true rfl⟩ (rc_model hK hP) hK hP hD hS hZ rfl hl.1 rfl (Nat.le_of_ble_eq_true rfl) ⟨Nat.zero_le _, Nat.zero_le _⟩ dX12_act_45 (fun r_130 z_133 H locs wr_130 hP hD hS => ?_)
            obtain ⟨o_u64_131, o_b65_132⟩ := z_133
            have hP : va_P D vwCl (RW cs bd (va_up u 64 o_u64_131) (va_up b 65 o_b65_132) bw) H := hP
            have hD : va_D A (RW cs bd (va_up u 64 o_u64_131) (va_up b 65 o_b65_132) bw) := hD
            obtain ⟨wr_130_0, wr_130_1, wr_130_2, wr_130_3, wr_130_4⟩ : (o_u64_131.toInt = (0 : Int) + 3) ∧ (o_b65_132 = TRW (b 65) (0 : Int).toNat [10, 70, 1]) ∧ (r_130 = (((p3 + p1) * 2) * 2)) ∧ (0 ≤ o_u64_131.toInt) ∧ (o_u64_131.toInt ≤ 1000) := wr_130
            refine lv_goto (tgt := 71) hx hb dX12_act_48 (by decide) ?_
            exact W.iret (v := r_130) hx hb hr (fun tt ht hW => ⟨⟨r_130, ⟨o_u64_131, o_b65_132⟩, rfl, ⟨(by first | (exact Or.inr ⟨by omega, by rw [hkN, show p2.toInt.toNat = 0 from by omega]; exact wr_130_2, by rw [hkN, show p2.toInt.toNat = 0 from by omega, hal0]; (try dsimp only); omega, by rw [hkN, show p2.toInt.toNat = 0 from by omega]; exact wr_130_1⟩) | (exact Or.inr ⟨by omega, by rw [hkN, show p2.toInt.toNat = 1 from by omega]; exact wr_130_2, by rw [hkN, show p2.toInt.toNat = 1 from by omega, hal1]; (try dsimp only); omega, by rw [hkN, show p2.toInt.toNat = 1 from by omega]; exact wr_130_1⟩) | (exact Or.inr ⟨by omega, by rw [hkN, show p2.toInt.toNat = 2 from by omega]; exact wr_130_2, by rw [hkN, show p2.toInt.toNat = 2 from by omega, hal2]; (try dsimp only); omega, by rw [hkN, show p2.toInt.toNat = 2 from by omega]; exact wr_130_1⟩) | (exact Or.inr ⟨by omega, by rw [hkN, show p2.toInt.toNat = 3 from by omega]; exact wr_130_2, by rw [hkN, show p2.toInt.toNat = 3 from by omega, hal3]; (try dsimp only); omega, by rw [hkN, show p2.toInt.toNat = 3 from by omega]; exact wr_130_1⟩)), (show 0 ≤ o_u64_131.toInt by first | omega | assumption), (show o_u64_131.toInt ≤ 1000 by first | omega | assumption)⟩, by rw [ht]; exact hP, hD⟩, hS.F ht⟩) hS.2.2 dX12_act_71
        ·
          have kc_119 : p2.toInt = (0 : Int) := i_eq c_119
          refine lv_aload_n hx hb dX12_act_28 rfl (lv_at hl 0 rfl) ?_
          refine lv_iload_n hx hb dX12_act_29 rfl (lv_at hl 1 rfl) ?_
          refine lv_iload_n hx hb dX12_act_30 rfl (lv_at hl 3 rfl) ?_
          refine cV_i (As := [.int p1, .int p3]) (rest := []) ⟨hx, hb, hml, hown, hg⟩ (k_X12_flying_6 l D cs A bd (va_up u 64 0) b bw  p1 p3 hkn (show 0 ≤ p1.toInt by first | omega | decide) (show p1.toInt < 50 by first | omega | decide) (show 0 ≤ (0 : Int) by first | omega | decide) (show (0 : Int) ≤ 22 by first | omega | decide) ib63_0 (show 0 ≤ (0 : Int) by first | omega | decide) (show (0 : Int) ≤ 1000 by first | omega | decide)) ca_X12_flying q7_48 ⟨rfl, rfl⟩ ⟨Nat.le_of_ble_eq_true rfl, Nat.le_of_ble_eq_true rfl⟩ (rc_model hK hP) hK hP hD hS hZ rfl hl.1 rfl (Nat.le_of_ble_eq_true rfl) ⟨Nat.zero_le _, Nat.zero_le _⟩ dX12_act_31 (fun r_134 z_137 H locs wr_134 hP hD hS => ?_)
          obtain ⟨o_u64_135, o_b65_136⟩ := z_137
          have hP : va_P D vwCl (RW cs bd (va_up u 64 o_u64_135) (va_up b 65 o_b65_136) bw) H := hP
          have hD : va_D A (RW cs bd (va_up u 64 o_u64_135) (va_up b 65 o_b65_136) bw) := hD
          obtain ⟨wr_134_0, wr_134_1, wr_134_2, wr_134_3, wr_134_4⟩ : (o_u64_135.toInt = (0 : Int) + 2) ∧ (o_b65_136 = TRW (b 65) (0 : Int).toNat [70, 1]) ∧ (r_134 = ((p3 + p1) * 2)) ∧ (0 ≤ o_u64_135.toInt) ∧ (o_u64_135.toInt ≤ 1000) := wr_134
          refine lv_goto (tgt := 71) hx hb dX12_act_34 (by decide) ?_
          exact W.iret (v := r_134) hx hb hr (fun tt ht hW => ⟨⟨r_134, ⟨o_u64_135, o_b65_136⟩, rfl, ⟨(by first | (exact Or.inr ⟨by omega, by rw [hkN, show p2.toInt.toNat = 0 from by omega]; exact wr_134_2, by rw [hkN, show p2.toInt.toNat = 0 from by omega, hal0]; (try dsimp only); omega, by rw [hkN, show p2.toInt.toNat = 0 from by omega]; exact wr_134_1⟩) | (exact Or.inr ⟨by omega, by rw [hkN, show p2.toInt.toNat = 1 from by omega]; exact wr_134_2, by rw [hkN, show p2.toInt.toNat = 1 from by omega, hal1]; (try dsimp only); omega, by rw [hkN, show p2.toInt.toNat = 1 from by omega]; exact wr_134_1⟩) | (exact Or.inr ⟨by omega, by rw [hkN, show p2.toInt.toNat = 2 from by omega]; exact wr_134_2, by rw [hkN, show p2.toInt.toNat = 2 from by omega, hal2]; (try dsimp only); omega, by rw [hkN, show p2.toInt.toNat = 2 from by omega]; exact wr_134_1⟩) | (exact Or.inr ⟨by omega, by rw [hkN, show p2.toInt.toNat = 3 from by omega]; exact wr_134_2, by rw [hkN, show p2.toInt.toNat = 3 from by omega, hal3]; (try dsimp only); omega, by rw [hkN, show p2.toInt.toNat = 3 from by omega]; exact wr_134_1⟩)), (show 0 ≤ o_u64_135.toInt by first | omega | assumption), (show o_u64_135.toInt ≤ 1000 by first | omega | assumption)⟩, by rw [ht]; exact hP, hD⟩, hS.F ht⟩) hS.2.2 dX12_act_71
      ·
        have hkN : ((b 63) p1.toNatClampNeg).toInt.toNat = 7 := by rw [hkn]; rfl
        have hal0 : (AL 7 0).length = 3 := rfl
        have hal1 : (AL 7 1).length = 6 := rfl
        have hal2 : (AL 7 2).length = 1 := rfl
        have hal3 : (AL 7 3).length = 8 := rfl
        refine lv_iload_n hx hb dX12_act_24 rfl (lv_at hl 2 rfl) ?_
        refine lv_if_ne (tgt := 37) hx hb dX12_act_25 (by decide) (fun c_138 => ?_) (fun c_138 => ?_)
        ·
          have kc_138 : p2.toInt ≠ (0 : Int) := i_ne c_138
          refine lv_iload_n hx hb dX12_act_37 rfl (lv_at hl 2 rfl) ?_
          refine lv_iconst (v := 1) hx hb dX12_act_38 (by decide) ?_
          refine lv_icmp_ne (tgt := 51) hx hb dX12_act_39 (by decide) (fun c_139 => ?_) (fun c_139 => ?_)
          ·
            have kc_139 : p2.toInt ≠ (1 : Int) := i_ne c_139
            refine lv_iload_n hx hb dX12_act_51 rfl (lv_at hl 2 rfl) ?_
            refine lv_iconst (v := 2) hx hb dX12_act_52 (by decide) ?_
            refine lv_icmp_ne (tgt := 65) hx hb dX12_act_53 (by decide) (fun c_140 => ?_) (fun c_140 => ?_)
            ·
              have kc_140 : p2.toInt ≠ (2 : Int) := i_ne c_140
              refine lv_aload_n hx hb dX12_act_65 rfl (lv_at hl 0 rfl) ?_
              refine lv_iload_n hx hb dX12_act_66 rfl (lv_at hl 1 rfl) ?_
              refine lv_iload_n hx hb dX12_act_67 rfl (lv_at hl 3 rfl) ?_
              refine cV_i (As := [.int p1, .int p3]) (rest := []) ⟨hx, hb, hml, hown, hg⟩ (k_X12_telling_7 l D cs A bd (va_up u 64 0) b bw  p1 p3 hkn (show 0 ≤ p1.toInt by first | omega | decide) (show p1.toInt < 50 by first | omega | decide) (show 0 ≤ (0 : Int) by first | omega | decide) (show (0 : Int) ≤ 16 by first | omega | decide) ib63_0 (show 0 ≤ (0 : Int) by first | omega | decide) (show (0 : Int) ≤ 1000 by first | omega | decide)) ca_X12_telling q7_91 ⟨rfl, rfl⟩ ⟨Nat.le_of_ble_eq_true rfl, Nat.le_of_ble_eq_true rfl⟩ (rc_model hK hP) hK hP hD hS hZ rfl hl.1 rfl (Nat.le_of_ble_eq_true rfl) ⟨Nat.zero_le _, Nat.zero_le _⟩ dX12_act_68 (fun r_141 z_144 H locs wr_141 hP hD hS => ?_)
              obtain ⟨o_u64_142, o_b65_143⟩ := z_144
              have hP : va_P D vwCl (RW cs bd (va_up u 64 o_u64_142) (va_up b 65 o_b65_143) bw) H := hP
              have hD : va_D A (RW cs bd (va_up u 64 o_u64_142) (va_up b 65 o_b65_143) bw) := hD
              obtain ⟨wr_141_0, wr_141_1, wr_141_2, wr_141_3, wr_141_4⟩ : (o_u64_142.toInt = (0 : Int) + 8) ∧ (o_b65_143 = TRW (b 65) (0 : Int).toNat [2, 80, 10, 81, 70, 1, 11, 11]) ∧ (r_141 = ((((((p3 + p1) * 2) - 1) * 2) + ((2 : Int32) ^^^ p1)) - ((1 : Int32) ^^^ p1))) ∧ (0 ≤ o_u64_142.toInt) ∧ (o_u64_142.toInt ≤ 1000) := wr_141
              exact W.iret (v := r_141) hx hb hr (fun tt ht hW => ⟨⟨r_141, ⟨o_u64_142, o_b65_143⟩, rfl, ⟨(by first | (exact Or.inr ⟨by omega, by rw [hkN, show p2.toInt.toNat = 0 from by omega]; exact wr_141_2, by rw [hkN, show p2.toInt.toNat = 0 from by omega, hal0]; (try dsimp only); omega, by rw [hkN, show p2.toInt.toNat = 0 from by omega]; exact wr_141_1⟩) | (exact Or.inr ⟨by omega, by rw [hkN, show p2.toInt.toNat = 1 from by omega]; exact wr_141_2, by rw [hkN, show p2.toInt.toNat = 1 from by omega, hal1]; (try dsimp only); omega, by rw [hkN, show p2.toInt.toNat = 1 from by omega]; exact wr_141_1⟩) | (exact Or.inr ⟨by omega, by rw [hkN, show p2.toInt.toNat = 2 from by omega]; exact wr_141_2, by rw [hkN, show p2.toInt.toNat = 2 from by omega, hal2]; (try dsimp only); omega, by rw [hkN, show p2.toInt.toNat = 2 from by omega]; exact wr_141_1⟩) | (exact Or.inr ⟨by omega, by rw [hkN, show p2.toInt.toNat = 3 from by omega]; exact wr_141_2, by rw [hkN, show p2.toInt.toNat = 3 from by omega, hal3]; (try dsimp only); omega, by rw [hkN, show p2.toInt.toNat = 3 from by omega]; exact wr_141_1⟩)), (show 0 ≤ o_u64_142.toInt by first | omega | assumption), (show o_u64_142.toInt ≤ 1000 by first | omega | assumption)⟩, by rw [ht]; exact hP, hD⟩, hS.F ht⟩) hS.2.2 dX12_act_71
            ·
              have kc_140 : p2.toInt = (2 : Int) := i_eq c_140
              refine lv_aload_n hx hb dX12_act_56 rfl (lv_at hl 0 rfl) ?_
              refine lv_iload_n hx hb dX12_act_57 rfl (lv_at hl 1 rfl) ?_
              refine lv_iload_n hx hb dX12_act_58 rfl (lv_at hl 3 rfl) ?_
              refine cV_i (As := [.int p1, .int p3]) (rest := []) ⟨hx, hb, hml, hown, hg⟩ (k_X12_settling_7 l D cs A bd (va_up u 64 0) b bw  p1 p3 hkn (show 0 ≤ p1.toInt by first | omega | decide) (show p1.toInt < 50 by first | omega | decide) (show 0 ≤ (0 : Int) by first | omega | decide) (show (0 : Int) ≤ 23 by first | omega | decide) ib63_0 (show 0 ≤ (0 : Int) by first | omega | decide) (show (0 : Int) ≤ 1000 by first | omega | decide)) ca_X12_settling q7_79 ⟨rfl, rfl⟩ ⟨Nat.le_of_ble_eq_true rfl, Nat.le_of_ble_eq_true rfl⟩ (rc_model hK hP) hK hP hD hS hZ rfl hl.1 rfl (Nat.le_of_ble_eq_true rfl) ⟨Nat.zero_le _, Nat.zero_le _⟩ dX12_act_59 (fun r_145 z_148 H locs wr_145 hP hD hS => ?_)
              obtain ⟨o_u64_146, o_b65_147⟩ := z_148
              have hP : va_P D vwCl (RW cs bd (va_up u 64 o_u64_146) (va_up b 65 o_b65_147) bw) H := hP
              have hD : va_D A (RW cs bd (va_up u 64 o_u64_146) (va_up b 65 o_b65_147) bw) := hD
              obtain ⟨wr_145_0, wr_145_1, wr_145_2, wr_145_3, wr_145_4⟩ : (o_u64_146.toInt = (0 : Int) + 1) ∧ (o_b65_147 = TRW (b 65) (0 : Int).toNat [11]) ∧ (r_145 = (p3 ^^^ p1)) ∧ (0 ≤ o_u64_146.toInt) ∧ (o_u64_146.toInt ≤ 1000) := wr_145
              refine lv_goto (tgt := 71) hx hb dX12_act_62 (by decide) ?_
              exact W.iret (v := r_145) hx hb hr (fun tt ht hW => ⟨⟨r_145, ⟨o_u64_146, o_b65_147⟩, rfl, ⟨(by first | (exact Or.inr ⟨by omega, by rw [hkN, show p2.toInt.toNat = 0 from by omega]; exact wr_145_2, by rw [hkN, show p2.toInt.toNat = 0 from by omega, hal0]; (try dsimp only); omega, by rw [hkN, show p2.toInt.toNat = 0 from by omega]; exact wr_145_1⟩) | (exact Or.inr ⟨by omega, by rw [hkN, show p2.toInt.toNat = 1 from by omega]; exact wr_145_2, by rw [hkN, show p2.toInt.toNat = 1 from by omega, hal1]; (try dsimp only); omega, by rw [hkN, show p2.toInt.toNat = 1 from by omega]; exact wr_145_1⟩) | (exact Or.inr ⟨by omega, by rw [hkN, show p2.toInt.toNat = 2 from by omega]; exact wr_145_2, by rw [hkN, show p2.toInt.toNat = 2 from by omega, hal2]; (try dsimp only); omega, by rw [hkN, show p2.toInt.toNat = 2 from by omega]; exact wr_145_1⟩) | (exact Or.inr ⟨by omega, by rw [hkN, show p2.toInt.toNat = 3 from by omega]; exact wr_145_2, by rw [hkN, show p2.toInt.toNat = 3 from by omega, hal3]; (try dsimp only); omega, by rw [hkN, show p2.toInt.toNat = 3 from by omega]; exact wr_145_1⟩)), (show 0 ≤ o_u64_146.toInt by first | omega | assumption), (show o_u64_146.toInt ≤ 1000 by first | omega | assumption)⟩, by rw [ht]; exact hP, hD⟩, hS.F ht⟩) hS.2.2 dX12_act_71
          ·
            have kc_139 : p2.toInt = (1 : Int) := i_eq c_139
            refine lv_aload_n hx hb dX12_act_42 rfl (lv_at hl 0 rfl) ?_
            refine lv_iload_n hx hb dX12_act_43 rfl (lv_at hl 1 rfl) ?_
            refine lv_iload_n hx hb dX12_act_44 rfl (lv_at hl 3 rfl) ?_
            refine cV_i (As := [.int p1, .int p3]) (rest := []) ⟨hx, hb, hml, hown, hg⟩ (k_X12_stinging_7 l D cs A bd (va_up u 64 0) b bw  p1 p3 hkn (show 0 ≤ p1.toInt by first | omega | decide) (show p1.toInt < 50 by first | omega | decide) (show 0 ≤ (0 : Int) by first | omega | decide) (show (0 : Int) ≤ 18 by first | omega | decide) ib63_0 (show 0 ≤ (0 : Int) by first | omega | decide) (show (0 : Int) ≤ 1000 by first | omega | decide)) ca_X12_stinging q7_67 ⟨rfl, rfl⟩ ⟨Nat.le_of_ble_eq_true rfl, Nat.le_of_ble_eq_true rfl⟩ (rc_model hK hP) hK hP hD hS hZ rfl hl.1 rfl (Nat.le_of_ble_eq_true rfl) ⟨Nat.zero_le _, Nat.zero_le _⟩ dX12_act_45 (fun r_149 z_152 H locs wr_149 hP hD hS => ?_)
            obtain ⟨o_u64_150, o_b65_151⟩ := z_152
            have hP : va_P D vwCl (RW cs bd (va_up u 64 o_u64_150) (va_up b 65 o_b65_151) bw) H := hP
            have hD : va_D A (RW cs bd (va_up u 64 o_u64_150) (va_up b 65 o_b65_151) bw) := hD
            obtain ⟨wr_149_0, wr_149_1, wr_149_2, wr_149_3, wr_149_4⟩ : (o_u64_150.toInt = (0 : Int) + 6) ∧ (o_b65_151 = TRW (b 65) (0 : Int).toNat [80, 10, 81, 70, 1, 11]) ∧ (r_149 = (((((p3 + p1) * 2) - 1) * 2) + ((2 : Int32) ^^^ p1))) ∧ (0 ≤ o_u64_150.toInt) ∧ (o_u64_150.toInt ≤ 1000) := wr_149
            refine lv_goto (tgt := 71) hx hb dX12_act_48 (by decide) ?_
            exact W.iret (v := r_149) hx hb hr (fun tt ht hW => ⟨⟨r_149, ⟨o_u64_150, o_b65_151⟩, rfl, ⟨(by first | (exact Or.inr ⟨by omega, by rw [hkN, show p2.toInt.toNat = 0 from by omega]; exact wr_149_2, by rw [hkN, show p2.toInt.toNat = 0 from by omega, hal0]; (try dsimp only); omega, by rw [hkN, show p2.toInt.toNat = 0 from by omega]; exact wr_149_1⟩) | (exact Or.inr ⟨by omega, by rw [hkN, show p2.toInt.toNat = 1 from by omega]; exact wr_149_2, by rw [hkN, show p2.toInt.toNat = 1 from by omega, hal1]; (try dsimp only); omega, by rw [hkN, show p2.toInt.toNat = 1 from by omega]; exact wr_149_1⟩) | (exact Or.inr ⟨by omega, by rw [hkN, show p2.toInt.toNat = 2 from by omega]; exact wr_149_2, by rw [hkN, show p2.toInt.toNat = 2 from by omega, hal2]; (try dsimp only); omega, by rw [hkN, show p2.toInt.toNat = 2 from by omega]; exact wr_149_1⟩) | (exact Or.inr ⟨by omega, by rw [hkN, show p2.toInt.toNat = 3 from by omega]; exact wr_149_2, by rw [hkN, show p2.toInt.toNat = 3 from by omega, hal3]; (try dsimp only); omega, by rw [hkN, show p2.toInt.toNat = 3 from by omega]; exact wr_149_1⟩)), (show 0 ≤ o_u64_150.toInt by first | omega | assumption), (show o_u64_150.toInt ≤ 1000 by first | omega | assumption)⟩, by rw [ht]; exact hP, hD⟩, hS.F ht⟩) hS.2.2 dX12_act_71
        ·
          have kc_138 : p2.toInt = (0 : Int) := i_eq c_138
          refine lv_aload_n hx hb dX12_act_28 rfl (lv_at hl 0 rfl) ?_
          refine lv_iload_n hx hb dX12_act_29 rfl (lv_at hl 1 rfl) ?_
          refine lv_iload_n hx hb dX12_act_30 rfl (lv_at hl 3 rfl) ?_
          refine cV_i (As := [.int p1, .int p3]) (rest := []) ⟨hx, hb, hml, hown, hg⟩ (k_X12_flying_7 l D cs A bd (va_up u 64 0) b bw  p1 p3 hkn (show 0 ≤ p1.toInt by first | omega | decide) (show p1.toInt < 50 by first | omega | decide) (show 0 ≤ (0 : Int) by first | omega | decide) (show (0 : Int) ≤ 21 by first | omega | decide) ib63_0 (show 0 ≤ (0 : Int) by first | omega | decide) (show (0 : Int) ≤ 1000 by first | omega | decide)) ca_X12_flying q7_48 ⟨rfl, rfl⟩ ⟨Nat.le_of_ble_eq_true rfl, Nat.le_of_ble_eq_true rfl⟩ (rc_model hK hP) hK hP hD hS hZ rfl hl.1 rfl (Nat.le_of_ble_eq_true rfl) ⟨Nat.zero_le _, Nat.zero_le _⟩ dX12_act_31 (fun r_153 z_156 H locs wr_153 hP hD hS => ?_)
          obtain ⟨o_u64_154, o_b65_155⟩ := z_156
          have hP : va_P D vwCl (RW cs bd (va_up u 64 o_u64_154) (va_up b 65 o_b65_155) bw) H := hP
          have hD : va_D A (RW cs bd (va_up u 64 o_u64_154) (va_up b 65 o_b65_155) bw) := hD
          obtain ⟨wr_153_0, wr_153_1, wr_153_2, wr_153_3, wr_153_4⟩ : (o_u64_154.toInt = (0 : Int) + 3) ∧ (o_b65_155 = TRW (b 65) (0 : Int).toNat [81, 70, 1]) ∧ (r_153 = (((p3 + p1) * 2) - 1)) ∧ (0 ≤ o_u64_154.toInt) ∧ (o_u64_154.toInt ≤ 1000) := wr_153
          refine lv_goto (tgt := 71) hx hb dX12_act_34 (by decide) ?_
          exact W.iret (v := r_153) hx hb hr (fun tt ht hW => ⟨⟨r_153, ⟨o_u64_154, o_b65_155⟩, rfl, ⟨(by first | (exact Or.inr ⟨by omega, by rw [hkN, show p2.toInt.toNat = 0 from by omega]; exact wr_153_2, by rw [hkN, show p2.toInt.toNat = 0 from by omega, hal0]; (try dsimp only); omega, by rw [hkN, show p2.toInt.toNat = 0 from by omega]; exact wr_153_1⟩) | (exact Or.inr ⟨by omega, by rw [hkN, show p2.toInt.toNat = 1 from by omega]; exact wr_153_2, by rw [hkN, show p2.toInt.toNat = 1 from by omega, hal1]; (try dsimp only); omega, by rw [hkN, show p2.toInt.toNat = 1 from by omega]; exact wr_153_1⟩) | (exact Or.inr ⟨by omega, by rw [hkN, show p2.toInt.toNat = 2 from by omega]; exact wr_153_2, by rw [hkN, show p2.toInt.toNat = 2 from by omega, hal2]; (try dsimp only); omega, by rw [hkN, show p2.toInt.toNat = 2 from by omega]; exact wr_153_1⟩) | (exact Or.inr ⟨by omega, by rw [hkN, show p2.toInt.toNat = 3 from by omega]; exact wr_153_2, by rw [hkN, show p2.toInt.toNat = 3 from by omega, hal3]; (try dsimp only); omega, by rw [hkN, show p2.toInt.toNat = 3 from by omega]; exact wr_153_1⟩)), (show 0 ≤ o_u64_154.toInt by first | omega | assumption), (show o_u64_154.toInt ≤ 1000 by first | omega | assumption)⟩, by rw [ht]; exact hP, hD⟩, hS.F ht⟩) hS.2.2 dX12_act_71
    ·
      have kc_4 : r_3.toInt = (0 : Int) := i_eq c_4
      refine lv_iconst (v := 0) hx hb dX12_act_22 (by decide) ?_
      have q0_0 : (0 : Int32).toInt = 0 := rfl
      have q0_0 : (0 : Int32).toInt = 0 := rfl
      have hP : va_P D vwCl (RW cs bd (va_up u 64 0) (va_up b 65 (b 65)) bw) _ := hP
      have hD : va_D A (RW cs bd (va_up u 64 0) (va_up b 65 (b 65)) bw) := hD
      exact W.iret (v := 0) hx hb hr (fun tt ht hW => ⟨⟨0, ⟨0, (b 65)⟩, rfl, ⟨(Or.inl ⟨by omega, by omega, by (try dsimp only); omega, rfl⟩), (show 0 ≤ (0 : Int) by first | omega | assumption), (show (0 : Int) ≤ 1000 by first | omega | assumption)⟩, by rw [ht]; exact hP, hD⟩, hS.F ht⟩) hS.2.2 dX12_act_23
