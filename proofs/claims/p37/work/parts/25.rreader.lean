set_option maxHeartbeats 4000000 in
set_option maxRecDepth 100000 in
theorem k_X12_look (l : Launch) (D : va_G) (cs : Nat → ClassId) (A : Nat → Prop) (bd : Nat → Nat) (u : Nat → Int32) (b : Nat → Nat → Int32) (bw : Nat → Nat → Int64)   (hh0 : 0 ≤ (u 16).toInt) (iu15_0 : 0 ≤ (u 15).toInt) (iu15_1 : (u 15).toInt ≤ 120) : Met l yX12_look (Cond.code yX12_look cX12_look 1 (some .int) :: gw) ({ frames := 0, cells := 0, slots := 0, locals := 0 }) (va_Pc [.ref (bd 0)] (XPre D (TY cs) (RW cs bd u b bw) A)) (vp_Si (fun (r : Int32) => (((u 16).toInt < (u 15).toInt ∧ r.toInt = ((b 14) (u 16).toNatClampNeg).toInt) ∨ ((u 15).toInt ≤ (u 16).toInt ∧ r.toInt = -1)))) 0 0 (fun _ => False) := by
  refine Met.ofW (cc := cX12_look) (maxL := 1) (ret := (some .int)) (by decide) rfl ?_
  intro p e s m args below meth c s₁ B hml hv
  obtain ⟨rfl, hP, hK, hD, hZ⟩ := hv
  have hx := B.exec
  have hb := B.bytes
  have hr := B.returns
  have hts := atoms_spec (ws := (Cond.code yX12_look cX12_look 1 (some .int) :: gw)) B.pre
  have hg : ∀ w ∈ gw, w.before ([.ref (bd 0)] : List Value).toArray s = true := fun w h => hts w (List.mem_cons_of_mem _ h)
  have hown : s.vm.findClass RX12 = some m.cls := findClass_of_methodNamed B.named
  have hlocks := B.notSynchronized
  have hS : va_S A s.heap s.heap [] := va_S.rf
  have hl := lv_entry ([.ref (bd 0)]) (n := 1) (Nat.le_of_ble_eq_true rfl)
  rw [lg_entry_eq]
  generalize (lg_sl ([.ref (bd 0)]) ++ List.replicate (1 - (lg_sl ([.ref (bd 0)])).length) Slot.unset).toArray = ls at hl ⊢
  have hl : lv_has ls 1 [(0, .ref (bd 0))] := hl
  refine lv_aload_n hx hb dX12_look_0 rfl (lv_at hl 0 rfl) ?_
  refine gr_here hx hb hg hown hK hP (x := (u 16)) rfl (hg _ q5_8) dX12_look_1 ?_
  refine lv_aload_n hx hb dX12_look_4 rfl (lv_at hl 0 rfl) ?_
  refine gr_taped hx hb hg hown hK hP (x := (u 15)) rfl (hg _ q5_7) dX12_look_5 ?_
  refine lv_icmp_ge (tgt := 23) hx hb dX12_look_8 (by decide) (fun c_1 => ?_) (fun c_1 => ?_)
  ·
    have kc_1 : (u 15).toInt ≤ (u 16).toInt := i_le c_1
    refine lv_iconst (v := (-1)) hx hb dX12_look_23 (by decide) ?_
    have q0_m1 : ((-1) : Int32).toInt = (-1) := rfl
    exact W.iret (v := (-1)) hx hb hr (fun tt ht hW => ⟨(-1), rfl, (by first | rfl | omega | trivial | assumption | (dsimp only; first | omega | assumption)), ht⟩) (fun _ h => by cases h) dX12_look_24
  ·
    have kc_1 : (u 16).toInt < (u 15).toInt := i_nle c_1
    refine lv_aload_n hx hb dX12_look_11 rfl (lv_at hl 0 rfl) ?_
    refine gr_tape hx hb hg hown hK hP (hg _ q5_6) dX12_look_12 ?_
    refine lv_aload_n hx hb dX12_look_15 rfl (lv_at hl 0 rfl) ?_
    refine gr_here hx hb hg hown hK hP (x := (u 16)) rfl (hg _ q5_8) dX12_look_16 ?_
    refine lr_tape hx hb hK hP (i_in (by omega) (by omega)) dX12_look_19 ?_
    refine lv_topi (fun x_2 ex_2 => ?_)
    have ex_2 : x_2 = (b 14) (u 16).toNatClampNeg := ex_2
    have hx_2 : x_2.toInt = ((b 14) (u 16).toNatClampNeg).toInt := by rw [ex_2]
    refine lv_goto (tgt := 24) hx hb dX12_look_20 (by decide) ?_
    exact W.iret (v := x_2) hx hb hr (fun tt ht hW => ⟨x_2, rfl, (by first | rfl | omega | trivial | assumption | (dsimp only; first | omega | assumption)), ht⟩) (fun _ h => by cases h) dX12_look_24
set_option maxHeartbeats 4000000 in
set_option maxRecDepth 100000 in
theorem k_X12_wrong (l : Launch) (D : va_G) (cs : Nat → ClassId) (A : Nat → Prop) (bd : Nat → Nat) (u : Nat → Int32) (b : Nat → Nat → Int32) (bw : Nat → Nat → Int64)    : Met l yX12_wrong (Cond.code yX12_wrong cX12_wrong 1 none :: gw) ({ frames := 0, cells := 0, slots := 0, locals := 0 }) (va_Pc [.ref (bd 0)] (XPre D (TY cs) (RW cs bd u b bw) A)) (va_Qv (fun (z : Int32) => (((u 17).toInt < 0 ∧ z.toInt = (u 16).toInt) ∨ (0 ≤ (u 17).toInt ∧ z.toInt = (u 17).toInt))) (XPo D (fun (z : Int32) => RW cs bd (va_up u 17 z) b bw) A) A) 0 0 A := by
  refine Met.ofW (cc := cX12_wrong) (maxL := 1) (ret := none) (by decide) rfl ?_
  intro p e s m args below meth c s₁ B hml hv
  obtain ⟨rfl, hP, hK, hD, hZ⟩ := hv
  have hx := B.exec
  have hb := B.bytes
  have hr := B.returns
  have hts := atoms_spec (ws := (Cond.code yX12_wrong cX12_wrong 1 none :: gw)) B.pre
  have hg : ∀ w ∈ gw, w.before ([.ref (bd 0)] : List Value).toArray s = true := fun w h => hts w (List.mem_cons_of_mem _ h)
  have hown : s.vm.findClass RX12 = some m.cls := findClass_of_methodNamed B.named
  have hlocks := B.notSynchronized
  have hS : va_S A s.heap s.heap [] := va_S.rf
  have hP : va_P D vwCl (RW cs bd u b bw) s.heap := hP
  have hl := lv_entry ([.ref (bd 0)]) (n := 1) (Nat.le_of_ble_eq_true rfl)
  rw [lg_entry_eq]
  generalize (lg_sl ([.ref (bd 0)]) ++ List.replicate (1 - (lg_sl ([.ref (bd 0)])).length) Slot.unset).toArray = ls at hl ⊢
  have hl : lv_has ls 1 [(0, .ref (bd 0))] := hl
  refine lv_aload_n hx hb dX12_wrong_0 rfl (lv_at hl 0 rfl) ?_
  refine gr_fault hx hb hg hown hK hP (x := (u 17)) rfl (hg _ q5_9) dX12_wrong_1 ?_
  refine lv_if_ge (tgt := 15) hx hb dX12_wrong_4 (by decide) (fun c_1 => ?_) (fun c_1 => ?_)
  ·
    have kc_1 : (0 : Int) ≤ (u 17).toInt := i_le c_1
    have hP : va_P D vwCl (RW cs bd (va_up u 17 (u 17)) b bw) _ := hP
    have hD : va_D A (RW cs bd (va_up u 17 (u 17)) b bw) := hD
    exact W.vret hx hb hr (fun tt ht hW => ⟨⟨(u 17), rfl, (by first | rfl | omega | trivial | assumption | (dsimp only; first | omega | assumption)), by rw [ht]; exact hP, hD⟩, hS.F ht⟩) hS.2.2 dX12_wrong_15
  ·
    have kc_1 : (u 17).toInt < (0 : Int) := i_nle c_1
    refine lv_aload_n hx hb dX12_wrong_7 rfl (lv_at hl 0 rfl) ?_
    refine lv_aload_n hx hb dX12_wrong_8 rfl (lv_at hl 0 rfl) ?_
    refine gr_here hx hb hg hown hK hP (x := (u 16)) rfl (hg _ q5_8) dX12_wrong_9 ?_
    refine pr_fault hx hb hg hown hK hP hD hS (hg _ q5_9) dX12_wrong_12 (fun H locs hP hD hS => ?_)
    exact W.vret hx hb hr (fun tt ht hW => ⟨⟨(u 16), rfl, (by first | rfl | omega | trivial | assumption | (dsimp only; first | omega | assumption)), by rw [ht]; exact hP, hD⟩, hS.F ht⟩) hS.2.2 dX12_wrong_15
set_option maxHeartbeats 4000000 in
set_option maxRecDepth 100000 in
theorem k_X12_addStep (l : Launch) (D : va_G) (cs : Nat → ClassId) (A : Nat → Prop) (bd : Nat → Nat) (u : Nat → Int32) (b : Nat → Nat → Int32) (bw : Nat → Nat → Int64)  (p1 : Int32) (p2 : Int32) (hL0 : 0 ≤ (u 19).toInt) (hL9 : (u 19).toInt ≤ 129) (h1 : -128 ≤ p1.toInt) (h2 : p1.toInt ≤ 127) (ib20_0 : AB (-128) 127 (b 20)) : Met l yX12_addStep (Cond.code yX12_addStep cX12_addStep 3 none :: gw) ({ frames := 0, cells := 0, slots := 0, locals := 0 }) (va_Pc [.ref (bd 0), .int p1, .int p2] (XPre D (TY cs) (RW cs bd u b bw) A)) (va_Qv (fun (z : Int32 × (Nat → Int32) × (Nat → Int32)) => (z.1.toInt = (u 19).toInt + 1) ∧ (FRM (130 + (u 19).toInt.toNat) (b 20) z.2.1) ∧ (FRM (130 + (u 19).toInt.toNat) (b 21) z.2.2) ∧ ((z.2.1 (130 + (u 19).toInt.toNat)).toInt = p1.toInt) ∧ ((z.2.2 (130 + (u 19).toInt.toNat)).toInt = p2.toInt) ∧ (AB (-128) 127 z.2.1)) (XPo D (fun (z : Int32 × (Nat → Int32) × (Nat → Int32)) => RW cs bd (va_up u 19 z.1) (va_up (va_up b 20 z.2.1) 21 z.2.2) bw) A) A) 0 0 A := by
  refine Met.ofW (cc := cX12_addStep) (maxL := 3) (ret := none) (by decide) rfl ?_
  intro p e s m args below meth c s₁ B hml hv
  obtain ⟨rfl, hP, hK, hD, hZ⟩ := hv
  have hx := B.exec
  have hb := B.bytes
  have hr := B.returns
  have hts := atoms_spec (ws := (Cond.code yX12_addStep cX12_addStep 3 none :: gw)) B.pre
  have hg : ∀ w ∈ gw, w.before ([.ref (bd 0), .int p1, .int p2] : List Value).toArray s = true := fun w h => hts w (List.mem_cons_of_mem _ h)
  have hown : s.vm.findClass RX12 = some m.cls := findClass_of_methodNamed B.named
  have hlocks := B.notSynchronized
  have hS : va_S A s.heap s.heap [] := va_S.rf
  have hP : va_P D vwCl (RW cs bd u b bw) s.heap := hP
  have hl := lv_entry ([.ref (bd 0), .int p1, .int p2]) (n := 3) (Nat.le_of_ble_eq_true rfl)
  rw [lg_entry_eq]
  generalize (lg_sl ([.ref (bd 0), .int p1, .int p2]) ++ List.replicate (3 - (lg_sl ([.ref (bd 0), .int p1, .int p2])).length) Slot.unset).toArray = ls at hl ⊢
  have hl : lv_has ls 3 [(0, .ref (bd 0)), (1, .int p1), (2, .int p2)] := hl
  refine lv_aload_n hx hb dX12_addStep_0 rfl (lv_at hl 0 rfl) ?_
  refine gr_act hx hb hg hown hK hP (hg _ q5_12) dX12_addStep_1 ?_
  refine lv_sipush (v := 130) hx hb dX12_addStep_4 (by decide) ?_
  refine lv_aload_n hx hb dX12_addStep_7 rfl (lv_at hl 0 rfl) ?_
  refine gr_laid hx hb hg hown hK hP (x := (u 19)) rfl (hg _ q5_11) dX12_addStep_8 ?_
  refine lv_iadd hx hb dX12_addStep_11 ?_
  refine lv_topi (fun x_1 ex_1 => ?_)
  have fx_1 : x_1.toInt = (130 : Int) + (u 19).toInt := by rw [ex_1]; exact i_add (by first | omega | (show (_ : Int) ≤ (130 : Int) + (u 19).toInt; omega)) (by first | omega | (show (130 : Int) + (u 19).toInt ≤ (_ : Int); omega))
  refine lv_iload_n hx hb dX12_addStep_12 rfl (lv_at hl 1 rfl) ?_
  refine lv_i2b hx hb dX12_addStep_13 rfl ?_
  refine lv_topi (fun x_2 ex_2 => ?_)
  refine sr_act hx hb hK hP hD hS (i_in (by omega) (by omega)) dX12_addStep_14 (fun H locs hP hD hS => ?_)
  have hab_3 : AB (-128) 127 (upd (b 20) x_1.toNatClampNeg (vp_nar .byte x_2)) := AB_upd ib20_0 (nar_b_rg _).1 (nar_b_rg _).2
  refine lv_aload_n hx hb dX12_addStep_15 rfl (lv_at hl 0 rfl) ?_
  refine gr_with hx hb hg hown hK hP (hg _ q5_13) dX12_addStep_16 ?_
  refine lv_sipush (v := 130) hx hb dX12_addStep_19 (by decide) ?_
  refine lv_aload_n hx hb dX12_addStep_22 rfl (lv_at hl 0 rfl) ?_
  refine gr_laid hx hb hg hown hK hP (x := (u 19)) rfl (hg _ q5_11) dX12_addStep_23 ?_
  refine lv_iadd hx hb dX12_addStep_26 ?_
  refine lv_topi (fun x_4 ex_4 => ?_)
  have fx_4 : x_4.toInt = (130 : Int) + (u 19).toInt := by rw [ex_4]; exact i_add (by first | omega | (show (_ : Int) ≤ (130 : Int) + (u 19).toInt; omega)) (by first | omega | (show (130 : Int) + (u 19).toInt ≤ (_ : Int); omega))
  refine lv_iload_n hx hb dX12_addStep_27 rfl (lv_at hl 2 rfl) ?_
  refine sr_with hx hb hK hP hD hS (i_in (by omega) (by omega)) dX12_addStep_28 (fun H locs hP hD hS => ?_)
  refine lv_aload_n hx hb dX12_addStep_29 rfl (lv_at hl 0 rfl) ?_
  refine lv_dup hx hb dX12_addStep_30 rfl ?_
  refine gr_laid hx hb hg hown hK hP (x := (u 19)) rfl (hg _ q5_11) dX12_addStep_31 ?_
  refine lv_iconst (v := 1) hx hb dX12_addStep_34 (by decide) ?_
  refine lv_iadd hx hb dX12_addStep_35 ?_
  refine lv_topi (fun x_5 ex_5 => ?_)
  have fx_5 : x_5.toInt = (u 19).toInt + (1 : Int) := by rw [ex_5]; exact i_add (by first | omega | (show (_ : Int) ≤ (u 19).toInt + (1 : Int); omega)) (by first | omega | (show (u 19).toInt + (1 : Int) ≤ (_ : Int); omega))
  refine pr_laid hx hb hg hown hK hP hD hS (hg _ q5_11) dX12_addStep_36 (fun H locs hP hD hS => ?_)
  exact W.vret hx hb hr (fun tt ht hW => ⟨⟨⟨x_5, (upd (b 20) x_1.toNatClampNeg (vp_nar .byte x_2)), (upd (b 21) x_4.toNatClampNeg p2)⟩, rfl, ⟨(by omega), (FRM_upd FRM_refl (by show 130 + (u 19).toInt.toNat ≤ x_1.toInt.toNat; omega)), (FRM_upd FRM_refl (by show 130 + (u 19).toInt.toNat ≤ x_4.toInt.toNat; omega)), (by dsimp only; rw [upd_at (show 130 + (u 19).toInt.toNat = x_1.toNatClampNeg from (by show _ = x_1.toInt.toNat; omega))]; exact nar_b ex_2 h1 h2), (by dsimp only; rw [upd_at (show 130 + (u 19).toInt.toNat = x_4.toNatClampNeg from (by show _ = x_4.toInt.toNat; omega))]), hab_3⟩, by rw [ht]; exact hP, hD⟩, hS.F ht⟩) hS.2.2 dX12_addStep_39
set_option maxHeartbeats 4000000 in
set_option maxRecDepth 100000 in
theorem k_X12_opens (l : Launch) (D : va_G) (cs : Nat → ClassId) (A : Nat → Prop) (bd : Nat → Nat) (u : Nat → Int32) (b : Nat → Nat → Int32) (bw : Nat → Nat → Int64)   (hT : (u 17).toInt = -1) (hh0 : 0 ≤ (u 16).toInt) (hh1 : (u 16).toInt ≤ (u 15).toInt) (hL0 : 0 ≤ (u 19).toInt) (hL1 : (u 19).toInt ≤ (u 16).toInt) (ho0 : 0 ≤ (u 18).toInt) (ho6 : (u 18).toInt ≤ 6) (hlt : (u 16).toInt < (u 15).toInt) (h15 : (u 15).toInt ≤ 120) : Met l yX12_opens (Cond.code yX12_opens cX12_opens 1 (some .boolean) :: gw) ({ frames := 1, cells := 0, slots := 0, locals := 20 }) (va_Pc [.ref (bd 0)] (XPre D (TY cs) (RW cs bd u b bw) A)) (va_Qi (fun (r : Int32) (z : Int32 × Int32 × Int32) => ((r.toInt = 1 ∧ z.1.toInt = (u 18).toInt + 1 ∧ z.2.1.toInt = (u 16).toInt + 1 ∧ z.2.2.toInt = -1 ∧ z.1.toInt ≤ 6) ∨ (r.toInt = 0 ∧ 0 ≤ z.2.2.toInt ∧ z.1.toInt = (u 18).toInt ∧ z.2.1.toInt = (u 16).toInt))) (XPo D (fun (z : Int32 × Int32 × Int32) => RW cs bd (va_up (va_up (va_up u 18 z.1) 16 z.2.1) 17 z.2.2) b bw) A) A) 0 0 A := by
  refine Met.ofW (cc := cX12_opens) (maxL := 1) (ret := (some .boolean)) (by decide) rfl ?_
  intro p e s m args below meth c s₁ B hml hv
  obtain ⟨rfl, hP, hK, hD, hZ⟩ := hv
  have hx := B.exec
  have hb := B.bytes
  have hr := B.returns
  have hts := atoms_spec (ws := (Cond.code yX12_opens cX12_opens 1 (some .boolean) :: gw)) B.pre
  have hg : ∀ w ∈ gw, w.before ([.ref (bd 0)] : List Value).toArray s = true := fun w h => hts w (List.mem_cons_of_mem _ h)
  have hown : s.vm.findClass RX12 = some m.cls := findClass_of_methodNamed B.named
  have hlocks := B.notSynchronized
  have hS : va_S A s.heap s.heap [] := va_S.rf
  have hP : va_P D vwCl (RW cs bd u b bw) s.heap := hP
  have hl := lv_entry ([.ref (bd 0)]) (n := 1) (Nat.le_of_ble_eq_true rfl)
  rw [lg_entry_eq]
  generalize (lg_sl ([.ref (bd 0)]) ++ List.replicate (1 - (lg_sl ([.ref (bd 0)])).length) Slot.unset).toArray = ls at hl ⊢
  have hl : lv_has ls 1 [(0, .ref (bd 0))] := hl
  refine lv_aload_n hx hb dX12_opens_0 rfl (lv_at hl 0 rfl) ?_
  refine gr_open hx hb hg hown hK hP (x := (u 18)) rfl (hg _ q5_10) dX12_opens_1 ?_
  refine lv_bipush (v := 6) hx hb dX12_opens_4 (by decide) ?_
  refine lv_icmp_ne (tgt := 15) hx hb dX12_opens_6 (by decide) (fun c_1 => ?_) (fun c_1 => ?_)
  ·
    have kc_1 : (u 18).toInt ≠ (6 : Int) := i_ne c_1
    refine lv_aload_n hx hb dX12_opens_15 rfl (lv_at hl 0 rfl) ?_
    refine lv_dup hx hb dX12_opens_16 rfl ?_
    refine gr_open hx hb hg hown hK hP (x := (u 18)) rfl (hg _ q5_10) dX12_opens_17 ?_
    refine lv_iconst (v := 1) hx hb dX12_opens_20 (by decide) ?_
    refine lv_iadd hx hb dX12_opens_21 ?_
    refine lv_topi (fun x_2 ex_2 => ?_)
    have fx_2 : x_2.toInt = (u 18).toInt + (1 : Int) := by rw [ex_2]; exact i_add (by first | omega | (show (_ : Int) ≤ (u 18).toInt + (1 : Int); omega)) (by first | omega | (show (u 18).toInt + (1 : Int) ≤ (_ : Int); omega))
    refine pr_open hx hb hg hown hK hP hD hS (hg _ q5_10) dX12_opens_22 (fun H locs hP hD hS => ?_)
    refine lv_aload_n hx hb dX12_opens_25 rfl (lv_at hl 0 rfl) ?_
    refine lv_dup hx hb dX12_opens_26 rfl ?_
    refine gr_here hx hb hg hown hK hP (x := (u 16)) rfl (hg _ q5_8) dX12_opens_27 ?_
    refine lv_iconst (v := 1) hx hb dX12_opens_30 (by decide) ?_
    refine lv_iadd hx hb dX12_opens_31 ?_
    refine lv_topi (fun x_3 ex_3 => ?_)
    have fx_3 : x_3.toInt = (u 16).toInt + (1 : Int) := by rw [ex_3]; exact i_add (by first | omega | (show (_ : Int) ≤ (u 16).toInt + (1 : Int); omega)) (by first | omega | (show (u 16).toInt + (1 : Int) ≤ (_ : Int); omega))
    refine pr_here hx hb hg hown hK hP hD hS (hg _ q5_8) dX12_opens_32 (fun H locs hP hD hS => ?_)
    refine lv_iconst (v := 1) hx hb dX12_opens_35 (by decide) ?_
    have q0_1 : (1 : Int32).toInt = 1 := rfl
    have hP : va_P D vwCl (RW cs bd (va_up (va_up (va_up u 18 x_2) 16 x_3) 17 (u 17)) b bw) _ := hP
    have hD : va_D A (RW cs bd (va_up (va_up (va_up u 18 x_2) 16 x_3) 17 (u 17)) b bw) := hD
    exact W.zret (v := 1) hx hb hr rfl (fun tt ht hW => ⟨⟨1, ⟨x_2, x_3, (u 17)⟩, rfl, (by first | rfl | omega | trivial | assumption | (dsimp only; first | omega | assumption)), by rw [ht]; exact hP, hD⟩, hS.F ht⟩) hS.2.2 dX12_opens_36
  ·
    have kc_1 : (u 18).toInt = (6 : Int) := i_eq c_1
    refine lv_aload_n hx hb dX12_opens_9 rfl (lv_at hl 0 rfl) ?_
    refine cV_v (As := []) (rest := []) ⟨hx, hb, hml, hown, hg⟩ (k_X12_wrong l D cs A bd u b bw   ) ca_X12_wrong q6_81 ⟨rfl, rfl⟩ ⟨Nat.le_of_ble_eq_true rfl, Nat.le_of_ble_eq_true rfl⟩ (rc_model hK hP) hK hP hD hS hZ rfl hl.1 rfl (Nat.le_of_ble_eq_true rfl) ⟨Nat.zero_le _, Nat.zero_le _⟩ dX12_opens_10 (fun o_u17_5 H locs wr_4 hP hD hS => ?_)
    have hP : va_P D vwCl (RW cs bd (va_up u 17 o_u17_5) b bw) H := hP
    have hD : va_D A (RW cs bd (va_up u 17 o_u17_5) b bw) := hD
    have wr_4_0 : ((u 17).toInt < 0 ∧ o_u17_5.toInt = (u 16).toInt) ∨ (0 ≤ (u 17).toInt ∧ o_u17_5.toInt = (u 17).toInt) := wr_4
    refine lv_iconst (v := 0) hx hb dX12_opens_13 (by decide) ?_
    have q0_0 : (0 : Int32).toInt = 0 := rfl
    have hP : va_P D vwCl (RW cs bd (va_up (va_up (va_up u 18 (u 18)) 16 (u 16)) 17 o_u17_5) b bw) _ := hP
    have hD : va_D A (RW cs bd (va_up (va_up (va_up u 18 (u 18)) 16 (u 16)) 17 o_u17_5) b bw) := hD
    exact W.zret (v := 0) hx hb hr rfl (fun tt ht hW => ⟨⟨0, ⟨(u 18), (u 16), o_u17_5⟩, rfl, (by first | rfl | omega | trivial | assumption | (dsimp only; first | omega | assumption)), by rw [ht]; exact hP, hD⟩, hS.F ht⟩) hS.2.2 dX12_opens_14
set_option maxHeartbeats 4000000 in
set_option maxRecDepth 100000 in
theorem k_X12_figure (l : Launch) (D : va_G) (cs : Nat → ClassId) (A : Nat → Prop) (bd : Nat → Nat) (u : Nat → Int32) (b : Nat → Nat → Int32) (bw : Nat → Nat → Int64)   (hT : (u 17).toInt = -1) (hh0 : 0 ≤ (u 16).toInt) (hh1 : (u 16).toInt ≤ (u 15).toInt) (hL0 : 0 ≤ (u 19).toInt) (hL1 : (u 19).toInt ≤ (u 16).toInt) (ho0 : 0 ≤ (u 18).toInt) (ho6 : (u 18).toInt ≤ 6) (iu15_0 : 0 ≤ (u 15).toInt) (iu15_1 : (u 15).toInt ≤ 120) (ib20_0 : AB (-128) 127 (b 20)) : Met l yX12_figure (Cond.code yX12_figure cX12_figure 3 none :: gw) ({ frames := 1, cells := 0, slots := 0, locals := 22 }) (va_Pc [.ref (bd 0)] (XPre D (TY cs) (RW cs bd u b bw) A)) (va_Qv (fun (z : Int32 × Int32 × Int32 × Int32 × (Nat → Int32) × (Nat → Int32)) => ((z.2.1.toInt = -1 ∧ z.2.2.1.toInt = (u 18).toInt ∧ (u 16).toInt < z.1.toInt ∧ z.2.2.2.1.toInt - (u 19).toInt ≤ z.1.toInt - (u 16).toInt) ∨ (0 ≤ z.2.1.toInt ∧ z.2.2.2.1.toInt - (u 19).toInt ≤ z.1.toInt - (u 16).toInt + 1)) ∧ ((u 16).toInt ≤ z.1.toInt) ∧ (z.1.toInt ≤ (u 15).toInt) ∧ ((u 18).toInt ≤ z.2.2.1.toInt) ∧ (z.2.2.1.toInt ≤ 6) ∧ ((u 19).toInt ≤ z.2.2.2.1.toInt) ∧ (FRM (130 + (u 19).toInt.toNat) (b 20) z.2.2.2.2.1) ∧ (FRM (130 + (u 19).toInt.toNat) (b 21) z.2.2.2.2.2) ∧ (z.2.1.toInt = -1 → SEGI z.2.2.2.2.1 z.2.2.2.2.2 (130 + (u 19).toInt.toNat) (130 + z.2.2.2.1.toInt.toNat)) ∧ (AB (-128) 127 z.2.2.2.2.1)) (XPo D (fun (z : Int32 × Int32 × Int32 × Int32 × (Nat → Int32) × (Nat → Int32)) => RW cs bd (va_up (va_up (va_up (va_up u 16 z.1) 17 z.2.1) 18 z.2.2.1) 19 z.2.2.2.1) (va_up (va_up b 20 z.2.2.2.2.1) 21 z.2.2.2.2.2) bw) A) A) 0 0 A := by
  refine Met.ofW (cc := cX12_figure) (maxL := 3) (ret := none) (by decide) rfl ?_
  intro p e s m args below meth c s₁ B hml hv
  obtain ⟨rfl, hP, hK, hD, hZ⟩ := hv
  have hx := B.exec
  have hb := B.bytes
  have hr := B.returns
  have hts := atoms_spec (ws := (Cond.code yX12_figure cX12_figure 3 none :: gw)) B.pre
  have hg : ∀ w ∈ gw, w.before ([.ref (bd 0)] : List Value).toArray s = true := fun w h => hts w (List.mem_cons_of_mem _ h)
  have hown : s.vm.findClass RX12 = some m.cls := findClass_of_methodNamed B.named
  have hlocks := B.notSynchronized
  have hS : va_S A s.heap s.heap [] := va_S.rf
  have hP : va_P D vwCl (RW cs bd u b bw) s.heap := hP
  have hl := lv_entry ([.ref (bd 0)]) (n := 3) (Nat.le_of_ble_eq_true rfl)
  rw [lg_entry_eq]
  generalize (lg_sl ([.ref (bd 0)]) ++ List.replicate (3 - (lg_sl ([.ref (bd 0)])).length) Slot.unset).toArray = ls at hl ⊢
  have hl : lv_has ls 3 [(0, .ref (bd 0))] := hl
  have hcut : ∀ nk : Nat, (∀ (x1 : Int32) (x2 : Int32) (c4_u16 : Int32) (H : Heap) (locs : List Loc) (hn : (u 16).toInt + x2.toInt = c4_u16.toInt) (hn0 : 0 ≤ x2.toInt) (hn4 : x2.toInt ≤ 4) (hc15 : c4_u16.toInt ≤ (u 15).toInt) (hmu : (4 - x2.toInt).toNat < nk) (hP : va_P D vwCl (RW cs bd (va_up u 16 c4_u16) b bw) H) (hD : va_D A (RW cs bd (va_up u 16 c4_u16) b bw)) (hS : va_S A s.heap H locs) (ls : Array Slot) (hl : lv_has ls 3 [(0, .ref (bd 0)), (1, .int x1), (2, .int x2)]), W p l e (headSpec (Cond.code yX12_figure cX12_figure 3 none :: gw) ({ frames := 1, cells := 0, slots := 0, locals := 22 })).room s m ([.ref (bd 0)] : List Value).toArray below meth c H locs 0 0 (MQ below (va_Qv (fun (z : Int32 × Int32 × Int32 × Int32 × (Nat → Int32) × (Nat → Int32)) => ((z.2.1.toInt = -1 ∧ z.2.2.1.toInt = (u 18).toInt ∧ (u 16).toInt < z.1.toInt ∧ z.2.2.2.1.toInt - (u 19).toInt ≤ z.1.toInt - (u 16).toInt) ∨ (0 ≤ z.2.1.toInt ∧ z.2.2.2.1.toInt - (u 19).toInt ≤ z.1.toInt - (u 16).toInt + 1)) ∧ ((u 16).toInt ≤ z.1.toInt) ∧ (z.1.toInt ≤ (u 15).toInt) ∧ ((u 18).toInt ≤ z.2.2.1.toInt) ∧ (z.2.2.1.toInt ≤ 6) ∧ ((u 19).toInt ≤ z.2.2.2.1.toInt) ∧ (FRM (130 + (u 19).toInt.toNat) (b 20) z.2.2.2.2.1) ∧ (FRM (130 + (u 19).toInt.toNat) (b 21) z.2.2.2.2.2) ∧ (z.2.1.toInt = -1 → SEGI z.2.2.2.2.1 z.2.2.2.2.2 (130 + (u 19).toInt.toNat) (130 + z.2.2.2.1.toInt.toNat)) ∧ (AB (-128) 127 z.2.2.2.2.1)) (XPo D (fun (z : Int32 × Int32 × Int32 × Int32 × (Nat → Int32) × (Nat → Int32)) => RW cs bd (va_up (va_up (va_up (va_up u 16 z.1) 17 z.2.1) 18 z.2.2.1) 19 z.2.2.2.1) (va_up (va_up b 20 z.2.2.2.2.1) 21 z.2.2.2.2.2) bw) A) A) ([.ref (bd 0)] : List Value).toArray s 0 0 A) (F0 m 4 ls [])) := by
    intro nk
    induction nk with
    | zero => exact (fun x1 x2 c4_u16 H locs hn hn0 hn4 hc15 hmu hP hD hS ls hl => absurd hmu (Nat.not_lt_zero _))
    | succ nk ih =>
      intro x1 x2 c4_u16 H locs hn hn0 hn4 hc15 hmu hP hD hS ls hl
      refine lv_iload_n hx hb dX12_figure_4 rfl (lv_at hl 2 rfl) ?_
      refine lv_iconst (v := 4) hx hb dX12_figure_5 (by decide) ?_
      refine lv_icmp_ge (tgt := 52) hx hb dX12_figure_6 (by decide) (fun c_1 => ?_) (fun c_1 => ?_)
      ·
        have kc_1 : (4 : Int) ≤ x2.toInt := i_le c_1
        refine lv_iload_n hx hb dX12_figure_52 rfl (lv_at hl 2 rfl) ?_
        refine lv_if_eq (tgt := 70) hx hb dX12_figure_53 (by decide) (fun c_2 => ?_) (fun c_2 => ?_)
        ·
          have kc_2 : x2.toInt = (0 : Int) := i_eq c_2
          exfalso; omega
        ·
          have kc_2 : x2.toInt ≠ (0 : Int) := i_ne c_2
          refine lv_aload_n hx hb dX12_figure_56 rfl (lv_at hl 0 rfl) ?_
          refine cV_ro (As := []) (rest := []) ⟨hx, hb, hml, hown, hg⟩ (k_X12_look l D cs A bd (va_up u 16 c4_u16) b bw   (show 0 ≤ c4_u16.toInt by first | omega | decide) (show 0 ≤ (u 15).toInt by first | omega | decide) (show (u 15).toInt ≤ 120 by first | omega | decide)) ca_X12_look q6_66 ⟨rfl, rfl⟩ ⟨Nat.le_of_ble_eq_true rfl, Nat.le_of_ble_eq_true rfl⟩ (rc_model hK hP) hK hP hD hS hZ rfl hl.1 rfl (Nat.le_of_ble_eq_true rfl) ⟨Nat.zero_le _, Nat.zero_le _⟩ dX12_figure_57 (fun r_3 wr_3 => ?_)
          have wr_3_0 : (c4_u16.toInt < (u 15).toInt ∧ r_3.toInt = ((b 14) c4_u16.toNatClampNeg).toInt) ∨ ((u 15).toInt ≤ c4_u16.toInt ∧ r_3.toInt = -1) := wr_3
          refine lv_bipush (v := 48) hx hb dX12_figure_60 (by decide) ?_
          refine lv_bipush (v := 57) hx hb dX12_figure_62 (by decide) ?_
          refine cS_p (As := [.int r_3, .int 48, .int 57]) (rest := []) ⟨hx, hb, hml, hown, hg⟩ (k_X12_in l   r_3 48 57 ) ca_X12_in q5_212 ⟨rfl, rfl⟩ ⟨Nat.le_of_ble_eq_true rfl, Nat.le_of_ble_eq_true rfl⟩ rfl hl.1 rfl (Nat.le_of_ble_eq_true rfl) ⟨Nat.zero_le _, Nat.zero_le _⟩ dX12_figure_64 (fun r_4 wr_4 => ?_)
          have wr_4 : (r_4.toInt = 1 ∧ (48 : Int) ≤ r_3.toInt ∧ r_3.toInt ≤ (57 : Int)) ∨ (r_4.toInt = 0 ∧ ¬ ((48 : Int) ≤ r_3.toInt ∧ r_3.toInt ≤ (57 : Int))) := wr_4
          refine lv_if_eq (tgt := 74) hx hb dX12_figure_67 (by decide) (fun c_5 => ?_) (fun c_5 => ?_)
          ·
            have kc_5 : r_4.toInt = (0 : Int) := i_eq c_5
            refine lv_aload_n hx hb dX12_figure_74 rfl (lv_at hl 0 rfl) ?_
            refine lv_iconst (v := 1) hx hb dX12_figure_75 (by decide) ?_
            refine lv_iload_n hx hb dX12_figure_76 rfl (lv_at hl 1 rfl) ?_
            refine cV_v (As := [.int 1, .int x1]) (rest := []) ⟨hx, hb, hml, hown, hg⟩ (k_X12_addStep l D cs A bd (va_up u 16 c4_u16) b bw  1 x1 (show 0 ≤ (u 19).toInt by first | omega | decide) (show (u 19).toInt ≤ 129 by first | omega | decide) (show -128 ≤ (1 : Int) by first | omega | decide) (show (1 : Int) ≤ 127 by first | omega | decide) ib20_0) ca_X12_addStep q6_73 ⟨rfl, rfl⟩ ⟨Nat.le_of_ble_eq_true rfl, Nat.le_of_ble_eq_true rfl⟩ (rc_model hK hP) hK hP hD hS hZ rfl hl.1 rfl (Nat.le_of_ble_eq_true rfl) ⟨Nat.zero_le _, Nat.zero_le _⟩ dX12_figure_77 (fun z_10 H locs wr_6 hP hD hS => ?_)
            obtain ⟨o_u19_7, o_b20_8, o_b21_9⟩ := z_10
            have hP : va_P D vwCl (RW cs bd (va_up (va_up u 16 c4_u16) 19 o_u19_7) (va_up (va_up b 20 o_b20_8) 21 o_b21_9) bw) H := hP
            have hD : va_D A (RW cs bd (va_up (va_up u 16 c4_u16) 19 o_u19_7) (va_up (va_up b 20 o_b20_8) 21 o_b21_9) bw) := hD
            obtain ⟨wr_6_0, wr_6_1, wr_6_2, wr_6_3, wr_6_4, wr_6_5⟩ : (o_u19_7.toInt = (u 19).toInt + 1) ∧ (FRM (130 + (u 19).toInt.toNat) (b 20) o_b20_8) ∧ (FRM (130 + (u 19).toInt.toNat) (b 21) o_b21_9) ∧ ((o_b20_8 (130 + (u 19).toInt.toNat)).toInt = (1 : Int)) ∧ ((o_b21_9 (130 + (u 19).toInt.toNat)).toInt = x1.toInt) ∧ (AB (-128) 127 o_b20_8) := wr_6
            have hA_11 : FRM (130 + (u 19).toInt.toNat) (b 20) o_b20_8 := FRM_trans FRM_refl wr_6_1 (by omega)
            have hA_12 : FRM (130 + (u 19).toInt.toNat) (b 21) o_b21_9 := FRM_trans FRM_refl wr_6_2 (by omega)
            have hsg_13 : (u 17).toInt = -1 → SEGI o_b20_8 o_b21_9 (130 + (u 19).toInt.toNat) (130 + o_u19_7.toInt.toNat) := fun hq => SEG_push (by omega) (by omega)
            have hP : va_P D vwCl (RW cs bd (va_up (va_up (va_up (va_up u 16 c4_u16) 17 (u 17)) 18 (u 18)) 19 o_u19_7) (va_up (va_up b 20 o_b20_8) 21 o_b21_9) bw) _ := hP
            have hD : va_D A (RW cs bd (va_up (va_up (va_up (va_up u 16 c4_u16) 17 (u 17)) 18 (u 18)) 19 o_u19_7) (va_up (va_up b 20 o_b20_8) 21 o_b21_9) bw) := hD
            exact W.vret hx hb hr (fun tt ht hW => ⟨⟨⟨c4_u16, (u 17), (u 18), o_u19_7, o_b20_8, o_b21_9⟩, rfl, ⟨(by first | rfl | omega | trivial | assumption | (dsimp only; first | omega | assumption)), (by first | rfl | omega | trivial | assumption | (dsimp only; first | omega | assumption)), (by first | rfl | omega | trivial | assumption | (dsimp only; first | omega | assumption)), (by first | rfl | omega | trivial | assumption | (dsimp only; first | omega | assumption)), (by first | rfl | omega | trivial | assumption | (dsimp only; first | omega | assumption)), (by first | rfl | omega | trivial | assumption | (dsimp only; first | omega | assumption)), hA_11, hA_12, hsg_13, wr_6_5⟩, by rw [ht]; exact hP, hD⟩, hS.F ht⟩) hS.2.2 dX12_figure_80
          ·
            have kc_5 : r_4.toInt ≠ (0 : Int) := i_ne c_5
            refine lv_aload_n hx hb dX12_figure_70 rfl (lv_at hl 0 rfl) ?_
            refine cV_v (As := []) (rest := []) ⟨hx, hb, hml, hown, hg⟩ (k_X12_wrong l D cs A bd (va_up u 16 c4_u16) b bw   ) ca_X12_wrong q6_81 ⟨rfl, rfl⟩ ⟨Nat.le_of_ble_eq_true rfl, Nat.le_of_ble_eq_true rfl⟩ (rc_model hK hP) hK hP hD hS hZ rfl hl.1 rfl (Nat.le_of_ble_eq_true rfl) ⟨Nat.zero_le _, Nat.zero_le _⟩ dX12_figure_71 (fun o_u17_15 H locs wr_14 hP hD hS => ?_)
            have hP : va_P D vwCl (RW cs bd (va_up (va_up u 16 c4_u16) 17 o_u17_15) b bw) H := hP
            have hD : va_D A (RW cs bd (va_up (va_up u 16 c4_u16) 17 o_u17_15) b bw) := hD
            have wr_14_0 : ((u 17).toInt < 0 ∧ o_u17_15.toInt = c4_u16.toInt) ∨ (0 ≤ (u 17).toInt ∧ o_u17_15.toInt = (u 17).toInt) := wr_14
            refine lv_aload_n hx hb dX12_figure_74 rfl (lv_at hl 0 rfl) ?_
            refine lv_iconst (v := 1) hx hb dX12_figure_75 (by decide) ?_
            refine lv_iload_n hx hb dX12_figure_76 rfl (lv_at hl 1 rfl) ?_
            refine cV_v (As := [.int 1, .int x1]) (rest := []) ⟨hx, hb, hml, hown, hg⟩ (k_X12_addStep l D cs A bd (va_up (va_up u 16 c4_u16) 17 o_u17_15) b bw  1 x1 (show 0 ≤ (u 19).toInt by first | omega | decide) (show (u 19).toInt ≤ 129 by first | omega | decide) (show -128 ≤ (1 : Int) by first | omega | decide) (show (1 : Int) ≤ 127 by first | omega | decide) ib20_0) ca_X12_addStep q6_73 ⟨rfl, rfl⟩ ⟨Nat.le_of_ble_eq_true rfl, Nat.le_of_ble_eq_true rfl⟩ (rc_model hK hP) hK hP hD hS hZ rfl hl.1 rfl (Nat.le_of_ble_eq_true rfl) ⟨Nat.zero_le _, Nat.zero_le _⟩ dX12_figure_77 (fun z_20 H locs wr_16 hP hD hS => ?_)
            obtain ⟨o_u19_17, o_b20_18, o_b21_19⟩ := z_20
            have hP : va_P D vwCl (RW cs bd (va_up (va_up (va_up u 16 c4_u16) 17 o_u17_15) 19 o_u19_17) (va_up (va_up b 20 o_b20_18) 21 o_b21_19) bw) H := hP
            have hD : va_D A (RW cs bd (va_up (va_up (va_up u 16 c4_u16) 17 o_u17_15) 19 o_u19_17) (va_up (va_up b 20 o_b20_18) 21 o_b21_19) bw) := hD
            obtain ⟨wr_16_0, wr_16_1, wr_16_2, wr_16_3, wr_16_4, wr_16_5⟩ : (o_u19_17.toInt = (u 19).toInt + 1) ∧ (FRM (130 + (u 19).toInt.toNat) (b 20) o_b20_18) ∧ (FRM (130 + (u 19).toInt.toNat) (b 21) o_b21_19) ∧ ((o_b20_18 (130 + (u 19).toInt.toNat)).toInt = (1 : Int)) ∧ ((o_b21_19 (130 + (u 19).toInt.toNat)).toInt = x1.toInt) ∧ (AB (-128) 127 o_b20_18) := wr_16
            have hA_21 : FRM (130 + (u 19).toInt.toNat) (b 20) o_b20_18 := FRM_trans FRM_refl wr_16_1 (by omega)
            have hA_22 : FRM (130 + (u 19).toInt.toNat) (b 21) o_b21_19 := FRM_trans FRM_refl wr_16_2 (by omega)
            have hsg_23 : o_u17_15.toInt = -1 → SEGI o_b20_18 o_b21_19 (130 + (u 19).toInt.toNat) (130 + o_u19_17.toInt.toNat) := fun hq => SEG_push (by omega) (by omega)
            have hP : va_P D vwCl (RW cs bd (va_up (va_up (va_up (va_up u 16 c4_u16) 17 o_u17_15) 18 (u 18)) 19 o_u19_17) (va_up (va_up b 20 o_b20_18) 21 o_b21_19) bw) _ := hP
            have hD : va_D A (RW cs bd (va_up (va_up (va_up (va_up u 16 c4_u16) 17 o_u17_15) 18 (u 18)) 19 o_u19_17) (va_up (va_up b 20 o_b20_18) 21 o_b21_19) bw) := hD
            exact W.vret hx hb hr (fun tt ht hW => ⟨⟨⟨c4_u16, o_u17_15, (u 18), o_u19_17, o_b20_18, o_b21_19⟩, rfl, ⟨(by first | rfl | omega | trivial | assumption | (dsimp only; first | omega | assumption)), (by first | rfl | omega | trivial | assumption | (dsimp only; first | omega | assumption)), (by first | rfl | omega | trivial | assumption | (dsimp only; first | omega | assumption)), (by first | rfl | omega | trivial | assumption | (dsimp only; first | omega | assumption)), (by first | rfl | omega | trivial | assumption | (dsimp only; first | omega | assumption)), (by first | rfl | omega | trivial | assumption | (dsimp only; first | omega | assumption)), hA_21, hA_22, hsg_23, wr_16_5⟩, by rw [ht]; exact hP, hD⟩, hS.F ht⟩) hS.2.2 dX12_figure_80
      ·
        have kc_1 : x2.toInt < (4 : Int) := i_nle c_1
        refine lv_aload_n hx hb dX12_figure_9 rfl (lv_at hl 0 rfl) ?_
        refine cV_ro (As := []) (rest := []) ⟨hx, hb, hml, hown, hg⟩ (k_X12_look l D cs A bd (va_up u 16 c4_u16) b bw   (show 0 ≤ c4_u16.toInt by first | omega | decide) (show 0 ≤ (u 15).toInt by first | omega | decide) (show (u 15).toInt ≤ 120 by first | omega | decide)) ca_X12_look q6_66 ⟨rfl, rfl⟩ ⟨Nat.le_of_ble_eq_true rfl, Nat.le_of_ble_eq_true rfl⟩ (rc_model hK hP) hK hP hD hS hZ rfl hl.1 rfl (Nat.le_of_ble_eq_true rfl) ⟨Nat.zero_le _, Nat.zero_le _⟩ dX12_figure_10 (fun r_24 wr_24 => ?_)
        have wr_24_0 : (c4_u16.toInt < (u 15).toInt ∧ r_24.toInt = ((b 14) c4_u16.toNatClampNeg).toInt) ∨ ((u 15).toInt ≤ c4_u16.toInt ∧ r_24.toInt = -1) := wr_24
        refine lv_bipush (v := 48) hx hb dX12_figure_13 (by decide) ?_
        refine lv_bipush (v := 57) hx hb dX12_figure_15 (by decide) ?_
        refine cS_p (As := [.int r_24, .int 48, .int 57]) (rest := []) ⟨hx, hb, hml, hown, hg⟩ (k_X12_in l   r_24 48 57 ) ca_X12_in q5_212 ⟨rfl, rfl⟩ ⟨Nat.le_of_ble_eq_true rfl, Nat.le_of_ble_eq_true rfl⟩ rfl hl.1 rfl (Nat.le_of_ble_eq_true rfl) ⟨Nat.zero_le _, Nat.zero_le _⟩ dX12_figure_17 (fun r_25 wr_25 => ?_)
        have wr_25 : (r_25.toInt = 1 ∧ (48 : Int) ≤ r_24.toInt ∧ r_24.toInt ≤ (57 : Int)) ∨ (r_25.toInt = 0 ∧ ¬ ((48 : Int) ≤ r_24.toInt ∧ r_24.toInt ≤ (57 : Int))) := wr_25
        refine lv_if_eq (tgt := 52) hx hb dX12_figure_20 (by decide) (fun c_26 => ?_) (fun c_26 => ?_)
        ·
          have kc_26 : r_25.toInt = (0 : Int) := i_eq c_26
          refine lv_iload_n hx hb dX12_figure_52 rfl (lv_at hl 2 rfl) ?_
          refine lv_if_eq (tgt := 70) hx hb dX12_figure_53 (by decide) (fun c_27 => ?_) (fun c_27 => ?_)
          ·
            have kc_27 : x2.toInt = (0 : Int) := i_eq c_27
            refine lv_aload_n hx hb dX12_figure_70 rfl (lv_at hl 0 rfl) ?_
            refine cV_v (As := []) (rest := []) ⟨hx, hb, hml, hown, hg⟩ (k_X12_wrong l D cs A bd (va_up u 16 c4_u16) b bw   ) ca_X12_wrong q6_81 ⟨rfl, rfl⟩ ⟨Nat.le_of_ble_eq_true rfl, Nat.le_of_ble_eq_true rfl⟩ (rc_model hK hP) hK hP hD hS hZ rfl hl.1 rfl (Nat.le_of_ble_eq_true rfl) ⟨Nat.zero_le _, Nat.zero_le _⟩ dX12_figure_71 (fun o_u17_29 H locs wr_28 hP hD hS => ?_)
            have hP : va_P D vwCl (RW cs bd (va_up (va_up u 16 c4_u16) 17 o_u17_29) b bw) H := hP
            have hD : va_D A (RW cs bd (va_up (va_up u 16 c4_u16) 17 o_u17_29) b bw) := hD
            have wr_28_0 : ((u 17).toInt < 0 ∧ o_u17_29.toInt = c4_u16.toInt) ∨ (0 ≤ (u 17).toInt ∧ o_u17_29.toInt = (u 17).toInt) := wr_28
            refine lv_aload_n hx hb dX12_figure_74 rfl (lv_at hl 0 rfl) ?_
            refine lv_iconst (v := 1) hx hb dX12_figure_75 (by decide) ?_
            refine lv_iload_n hx hb dX12_figure_76 rfl (lv_at hl 1 rfl) ?_
            refine cV_v (As := [.int 1, .int x1]) (rest := []) ⟨hx, hb, hml, hown, hg⟩ (k_X12_addStep l D cs A bd (va_up (va_up u 16 c4_u16) 17 o_u17_29) b bw  1 x1 (show 0 ≤ (u 19).toInt by first | omega | decide) (show (u 19).toInt ≤ 129 by first | omega | decide) (show -128 ≤ (1 : Int) by first | omega | decide) (show (1 : Int) ≤ 127 by first | omega | decide) ib20_0) ca_X12_addStep q6_73 ⟨rfl, rfl⟩ ⟨Nat.le_of_ble_eq_true rfl, Nat.le_of_ble_eq_true rfl⟩ (rc_model hK hP) hK hP hD hS hZ rfl hl.1 rfl (Nat.le_of_ble_eq_true rfl) ⟨Nat.zero_le _, Nat.zero_le _⟩ dX12_figure_77 (fun z_34 H locs wr_30 hP hD hS => ?_)
            obtain ⟨o_u19_31, o_b20_32, o_b21_33⟩ := z_34
            have hP : va_P D vwCl (RW cs bd (va_up (va_up (va_up u 16 c4_u16) 17 o_u17_29) 19 o_u19_31) (va_up (va_up b 20 o_b20_32) 21 o_b21_33) bw) H := hP
            have hD : va_D A (RW cs bd (va_up (va_up (va_up u 16 c4_u16) 17 o_u17_29) 19 o_u19_31) (va_up (va_up b 20 o_b20_32) 21 o_b21_33) bw) := hD
            obtain ⟨wr_30_0, wr_30_1, wr_30_2, wr_30_3, wr_30_4, wr_30_5⟩ : (o_u19_31.toInt = (u 19).toInt + 1) ∧ (FRM (130 + (u 19).toInt.toNat) (b 20) o_b20_32) ∧ (FRM (130 + (u 19).toInt.toNat) (b 21) o_b21_33) ∧ ((o_b20_32 (130 + (u 19).toInt.toNat)).toInt = (1 : Int)) ∧ ((o_b21_33 (130 + (u 19).toInt.toNat)).toInt = x1.toInt) ∧ (AB (-128) 127 o_b20_32) := wr_30
            have hA_35 : FRM (130 + (u 19).toInt.toNat) (b 20) o_b20_32 := FRM_trans FRM_refl wr_30_1 (by omega)
            have hA_36 : FRM (130 + (u 19).toInt.toNat) (b 21) o_b21_33 := FRM_trans FRM_refl wr_30_2 (by omega)
            have hsg_37 : o_u17_29.toInt = -1 → SEGI o_b20_32 o_b21_33 (130 + (u 19).toInt.toNat) (130 + o_u19_31.toInt.toNat) := fun hq => SEG_push (by omega) (by omega)
            have hP : va_P D vwCl (RW cs bd (va_up (va_up (va_up (va_up u 16 c4_u16) 17 o_u17_29) 18 (u 18)) 19 o_u19_31) (va_up (va_up b 20 o_b20_32) 21 o_b21_33) bw) _ := hP
            have hD : va_D A (RW cs bd (va_up (va_up (va_up (va_up u 16 c4_u16) 17 o_u17_29) 18 (u 18)) 19 o_u19_31) (va_up (va_up b 20 o_b20_32) 21 o_b21_33) bw) := hD
            exact W.vret hx hb hr (fun tt ht hW => ⟨⟨⟨c4_u16, o_u17_29, (u 18), o_u19_31, o_b20_32, o_b21_33⟩, rfl, ⟨(by first | rfl | omega | trivial | assumption | (dsimp only; first | omega | assumption)), (by first | rfl | omega | trivial | assumption | (dsimp only; first | omega | assumption)), (by first | rfl | omega | trivial | assumption | (dsimp only; first | omega | assumption)), (by first | rfl | omega | trivial | assumption | (dsimp only; first | omega | assumption)), (by first | rfl | omega | trivial | assumption | (dsimp only; first | omega | assumption)), (by first | rfl | omega | trivial | assumption | (dsimp only; first | omega | assumption)), hA_35, hA_36, hsg_37, wr_30_5⟩, by rw [ht]; exact hP, hD⟩, hS.F ht⟩) hS.2.2 dX12_figure_80
          ·
            have kc_27 : x2.toInt ≠ (0 : Int) := i_ne c_27
            refine lv_aload_n hx hb dX12_figure_56 rfl (lv_at hl 0 rfl) ?_
            refine cV_ro (As := []) (rest := []) ⟨hx, hb, hml, hown, hg⟩ (k_X12_look l D cs A bd (va_up u 16 c4_u16) b bw   (show 0 ≤ c4_u16.toInt by first | omega | decide) (show 0 ≤ (u 15).toInt by first | omega | decide) (show (u 15).toInt ≤ 120 by first | omega | decide)) ca_X12_look q6_66 ⟨rfl, rfl⟩ ⟨Nat.le_of_ble_eq_true rfl, Nat.le_of_ble_eq_true rfl⟩ (rc_model hK hP) hK hP hD hS hZ rfl hl.1 rfl (Nat.le_of_ble_eq_true rfl) ⟨Nat.zero_le _, Nat.zero_le _⟩ dX12_figure_57 (fun r_38 wr_38 => ?_)
            have wr_38_0 : (c4_u16.toInt < (u 15).toInt ∧ r_38.toInt = ((b 14) c4_u16.toNatClampNeg).toInt) ∨ ((u 15).toInt ≤ c4_u16.toInt ∧ r_38.toInt = -1) := wr_38
            refine lv_bipush (v := 48) hx hb dX12_figure_60 (by decide) ?_
            refine lv_bipush (v := 57) hx hb dX12_figure_62 (by decide) ?_
            refine cS_p (As := [.int r_38, .int 48, .int 57]) (rest := []) ⟨hx, hb, hml, hown, hg⟩ (k_X12_in l   r_38 48 57 ) ca_X12_in q5_212 ⟨rfl, rfl⟩ ⟨Nat.le_of_ble_eq_true rfl, Nat.le_of_ble_eq_true rfl⟩ rfl hl.1 rfl (Nat.le_of_ble_eq_true rfl) ⟨Nat.zero_le _, Nat.zero_le _⟩ dX12_figure_64 (fun r_39 wr_39 => ?_)
            have wr_39 : (r_39.toInt = 1 ∧ (48 : Int) ≤ r_38.toInt ∧ r_38.toInt ≤ (57 : Int)) ∨ (r_39.toInt = 0 ∧ ¬ ((48 : Int) ≤ r_38.toInt ∧ r_38.toInt ≤ (57 : Int))) := wr_39
            refine lv_if_eq (tgt := 74) hx hb dX12_figure_67 (by decide) (fun c_40 => ?_) (fun c_40 => ?_)
            ·
              have kc_40 : r_39.toInt = (0 : Int) := i_eq c_40
              refine lv_aload_n hx hb dX12_figure_74 rfl (lv_at hl 0 rfl) ?_
              refine lv_iconst (v := 1) hx hb dX12_figure_75 (by decide) ?_
              refine lv_iload_n hx hb dX12_figure_76 rfl (lv_at hl 1 rfl) ?_
              refine cV_v (As := [.int 1, .int x1]) (rest := []) ⟨hx, hb, hml, hown, hg⟩ (k_X12_addStep l D cs A bd (va_up u 16 c4_u16) b bw  1 x1 (show 0 ≤ (u 19).toInt by first | omega | decide) (show (u 19).toInt ≤ 129 by first | omega | decide) (show -128 ≤ (1 : Int) by first | omega | decide) (show (1 : Int) ≤ 127 by first | omega | decide) ib20_0) ca_X12_addStep q6_73 ⟨rfl, rfl⟩ ⟨Nat.le_of_ble_eq_true rfl, Nat.le_of_ble_eq_true rfl⟩ (rc_model hK hP) hK hP hD hS hZ rfl hl.1 rfl (Nat.le_of_ble_eq_true rfl) ⟨Nat.zero_le _, Nat.zero_le _⟩ dX12_figure_77 (fun z_45 H locs wr_41 hP hD hS => ?_)
              obtain ⟨o_u19_42, o_b20_43, o_b21_44⟩ := z_45
              have hP : va_P D vwCl (RW cs bd (va_up (va_up u 16 c4_u16) 19 o_u19_42) (va_up (va_up b 20 o_b20_43) 21 o_b21_44) bw) H := hP
              have hD : va_D A (RW cs bd (va_up (va_up u 16 c4_u16) 19 o_u19_42) (va_up (va_up b 20 o_b20_43) 21 o_b21_44) bw) := hD
              obtain ⟨wr_41_0, wr_41_1, wr_41_2, wr_41_3, wr_41_4, wr_41_5⟩ : (o_u19_42.toInt = (u 19).toInt + 1) ∧ (FRM (130 + (u 19).toInt.toNat) (b 20) o_b20_43) ∧ (FRM (130 + (u 19).toInt.toNat) (b 21) o_b21_44) ∧ ((o_b20_43 (130 + (u 19).toInt.toNat)).toInt = (1 : Int)) ∧ ((o_b21_44 (130 + (u 19).toInt.toNat)).toInt = x1.toInt) ∧ (AB (-128) 127 o_b20_43) := wr_41
              have hA_46 : FRM (130 + (u 19).toInt.toNat) (b 20) o_b20_43 := FRM_trans FRM_refl wr_41_1 (by omega)
              have hA_47 : FRM (130 + (u 19).toInt.toNat) (b 21) o_b21_44 := FRM_trans FRM_refl wr_41_2 (by omega)
              have hsg_48 : (u 17).toInt = -1 → SEGI o_b20_43 o_b21_44 (130 + (u 19).toInt.toNat) (130 + o_u19_42.toInt.toNat) := fun hq => SEG_push (by omega) (by omega)
              have hP : va_P D vwCl (RW cs bd (va_up (va_up (va_up (va_up u 16 c4_u16) 17 (u 17)) 18 (u 18)) 19 o_u19_42) (va_up (va_up b 20 o_b20_43) 21 o_b21_44) bw) _ := hP
              have hD : va_D A (RW cs bd (va_up (va_up (va_up (va_up u 16 c4_u16) 17 (u 17)) 18 (u 18)) 19 o_u19_42) (va_up (va_up b 20 o_b20_43) 21 o_b21_44) bw) := hD
              exact W.vret hx hb hr (fun tt ht hW => ⟨⟨⟨c4_u16, (u 17), (u 18), o_u19_42, o_b20_43, o_b21_44⟩, rfl, ⟨(by first | rfl | omega | trivial | assumption | (dsimp only; first | omega | assumption)), (by first | rfl | omega | trivial | assumption | (dsimp only; first | omega | assumption)), (by first | rfl | omega | trivial | assumption | (dsimp only; first | omega | assumption)), (by first | rfl | omega | trivial | assumption | (dsimp only; first | omega | assumption)), (by first | rfl | omega | trivial | assumption | (dsimp only; first | omega | assumption)), (by first | rfl | omega | trivial | assumption | (dsimp only; first | omega | assumption)), hA_46, hA_47, hsg_48, wr_41_5⟩, by rw [ht]; exact hP, hD⟩, hS.F ht⟩) hS.2.2 dX12_figure_80
            ·
              have kc_40 : r_39.toInt ≠ (0 : Int) := i_ne c_40
              refine lv_aload_n hx hb dX12_figure_70 rfl (lv_at hl 0 rfl) ?_
              refine cV_v (As := []) (rest := []) ⟨hx, hb, hml, hown, hg⟩ (k_X12_wrong l D cs A bd (va_up u 16 c4_u16) b bw   ) ca_X12_wrong q6_81 ⟨rfl, rfl⟩ ⟨Nat.le_of_ble_eq_true rfl, Nat.le_of_ble_eq_true rfl⟩ (rc_model hK hP) hK hP hD hS hZ rfl hl.1 rfl (Nat.le_of_ble_eq_true rfl) ⟨Nat.zero_le _, Nat.zero_le _⟩ dX12_figure_71 (fun o_u17_50 H locs wr_49 hP hD hS => ?_)
              have hP : va_P D vwCl (RW cs bd (va_up (va_up u 16 c4_u16) 17 o_u17_50) b bw) H := hP
              have hD : va_D A (RW cs bd (va_up (va_up u 16 c4_u16) 17 o_u17_50) b bw) := hD
              have wr_49_0 : ((u 17).toInt < 0 ∧ o_u17_50.toInt = c4_u16.toInt) ∨ (0 ≤ (u 17).toInt ∧ o_u17_50.toInt = (u 17).toInt) := wr_49
              refine lv_aload_n hx hb dX12_figure_74 rfl (lv_at hl 0 rfl) ?_
              refine lv_iconst (v := 1) hx hb dX12_figure_75 (by decide) ?_
              refine lv_iload_n hx hb dX12_figure_76 rfl (lv_at hl 1 rfl) ?_
              refine cV_v (As := [.int 1, .int x1]) (rest := []) ⟨hx, hb, hml, hown, hg⟩ (k_X12_addStep l D cs A bd (va_up (va_up u 16 c4_u16) 17 o_u17_50) b bw  1 x1 (show 0 ≤ (u 19).toInt by first | omega | decide) (show (u 19).toInt ≤ 129 by first | omega | decide) (show -128 ≤ (1 : Int) by first | omega | decide) (show (1 : Int) ≤ 127 by first | omega | decide) ib20_0) ca_X12_addStep q6_73 ⟨rfl, rfl⟩ ⟨Nat.le_of_ble_eq_true rfl, Nat.le_of_ble_eq_true rfl⟩ (rc_model hK hP) hK hP hD hS hZ rfl hl.1 rfl (Nat.le_of_ble_eq_true rfl) ⟨Nat.zero_le _, Nat.zero_le _⟩ dX12_figure_77 (fun z_55 H locs wr_51 hP hD hS => ?_)
              obtain ⟨o_u19_52, o_b20_53, o_b21_54⟩ := z_55
              have hP : va_P D vwCl (RW cs bd (va_up (va_up (va_up u 16 c4_u16) 17 o_u17_50) 19 o_u19_52) (va_up (va_up b 20 o_b20_53) 21 o_b21_54) bw) H := hP
              have hD : va_D A (RW cs bd (va_up (va_up (va_up u 16 c4_u16) 17 o_u17_50) 19 o_u19_52) (va_up (va_up b 20 o_b20_53) 21 o_b21_54) bw) := hD
              obtain ⟨wr_51_0, wr_51_1, wr_51_2, wr_51_3, wr_51_4, wr_51_5⟩ : (o_u19_52.toInt = (u 19).toInt + 1) ∧ (FRM (130 + (u 19).toInt.toNat) (b 20) o_b20_53) ∧ (FRM (130 + (u 19).toInt.toNat) (b 21) o_b21_54) ∧ ((o_b20_53 (130 + (u 19).toInt.toNat)).toInt = (1 : Int)) ∧ ((o_b21_54 (130 + (u 19).toInt.toNat)).toInt = x1.toInt) ∧ (AB (-128) 127 o_b20_53) := wr_51
              have hA_56 : FRM (130 + (u 19).toInt.toNat) (b 20) o_b20_53 := FRM_trans FRM_refl wr_51_1 (by omega)
              have hA_57 : FRM (130 + (u 19).toInt.toNat) (b 21) o_b21_54 := FRM_trans FRM_refl wr_51_2 (by omega)
              have hsg_58 : o_u17_50.toInt = -1 → SEGI o_b20_53 o_b21_54 (130 + (u 19).toInt.toNat) (130 + o_u19_52.toInt.toNat) := fun hq => SEG_push (by omega) (by omega)
              have hP : va_P D vwCl (RW cs bd (va_up (va_up (va_up (va_up u 16 c4_u16) 17 o_u17_50) 18 (u 18)) 19 o_u19_52) (va_up (va_up b 20 o_b20_53) 21 o_b21_54) bw) _ := hP
              have hD : va_D A (RW cs bd (va_up (va_up (va_up (va_up u 16 c4_u16) 17 o_u17_50) 18 (u 18)) 19 o_u19_52) (va_up (va_up b 20 o_b20_53) 21 o_b21_54) bw) := hD
              exact W.vret hx hb hr (fun tt ht hW => ⟨⟨⟨c4_u16, o_u17_50, (u 18), o_u19_52, o_b20_53, o_b21_54⟩, rfl, ⟨(by first | rfl | omega | trivial | assumption | (dsimp only; first | omega | assumption)), (by first | rfl | omega | trivial | assumption | (dsimp only; first | omega | assumption)), (by first | rfl | omega | trivial | assumption | (dsimp only; first | omega | assumption)), (by first | rfl | omega | trivial | assumption | (dsimp only; first | omega | assumption)), (by first | rfl | omega | trivial | assumption | (dsimp only; first | omega | assumption)), (by first | rfl | omega | trivial | assumption | (dsimp only; first | omega | assumption)), hA_56, hA_57, hsg_58, wr_51_5⟩, by rw [ht]; exact hP, hD⟩, hS.F ht⟩) hS.2.2 dX12_figure_80
        ·
          have kc_26 : r_25.toInt ≠ (0 : Int) := i_ne c_26
          refine lv_bipush (v := 10) hx hb dX12_figure_23 (by decide) ?_
          refine lv_iload_n hx hb dX12_figure_25 rfl (lv_at hl 1 rfl) ?_
          refine lv_imul hx hb dX12_figure_26 ?_
          refine lv_topi (fun x_59 ex_59 => ?_)
          refine lv_aload_n hx hb dX12_figure_27 rfl (lv_at hl 0 rfl) ?_
          refine cV_ro (As := []) (rest := [.int x_59]) ⟨hx, hb, hml, hown, hg⟩ (k_X12_look l D cs A bd (va_up u 16 c4_u16) b bw   (show 0 ≤ c4_u16.toInt by first | omega | decide) (show 0 ≤ (u 15).toInt by first | omega | decide) (show (u 15).toInt ≤ 120 by first | omega | decide)) ca_X12_look q6_66 ⟨rfl, rfl⟩ ⟨Nat.le_of_ble_eq_true rfl, Nat.le_of_ble_eq_true rfl⟩ (rc_model hK hP) hK hP hD hS hZ rfl hl.1 rfl (Nat.le_of_ble_eq_true rfl) ⟨Nat.zero_le _, Nat.zero_le _⟩ dX12_figure_28 (fun r_60 wr_60 => ?_)
          have wr_60_0 : (c4_u16.toInt < (u 15).toInt ∧ r_60.toInt = ((b 14) c4_u16.toNatClampNeg).toInt) ∨ ((u 15).toInt ≤ c4_u16.toInt ∧ r_60.toInt = -1) := wr_60
          refine lv_iadd hx hb dX12_figure_31 ?_
          refine lv_topi (fun x_61 ex_61 => ?_)
          refine lv_bipush (v := 48) hx hb dX12_figure_32 (by decide) ?_
          refine lv_isub hx hb dX12_figure_34 ?_
          refine lv_topi (fun x_62 ex_62 => ?_)
          refine lv_istore_n (lv' := [(1, .int x_62), (0, .ref (bd 0)), (2, .int x2)]) hx hb dX12_figure_35 rfl hl (by decide) rfl (fun ls hl => ?_)
          obtain ⟨x_63, ex_63⟩ : ∃ y : Int32, y = x2 + 1 := ⟨_, rfl⟩
          have fx_63 : x_63.toInt = x2.toInt + 1 := by rw [ex_63]; exact i_add (by first | omega | (show (_ : Int) ≤ x2.toInt + 1; omega)) (by first | omega | (show x2.toInt + 1 ≤ (_ : Int); omega))
          refine lv_iinc (v := x_63) (lv' := [(2, .int x_63), (1, .int x_62), (0, .ref (bd 0))]) hx hb dX12_figure_36 hl (k := 2) rfl (by rw [ex_63]; rfl) (by decide) rfl (fun ls hl => ?_)
          refine lv_aload_n hx hb dX12_figure_39 rfl (lv_at hl 2 rfl) ?_
          refine lv_dup hx hb dX12_figure_40 rfl ?_
          refine gr_here hx hb hg hown hK hP (x := c4_u16) rfl (hg _ q5_8) dX12_figure_41 ?_
          refine lv_iconst (v := 1) hx hb dX12_figure_44 (by decide) ?_
          refine lv_iadd hx hb dX12_figure_45 ?_
          refine lv_topi (fun x_64 ex_64 => ?_)
          have fx_64 : x_64.toInt = c4_u16.toInt + (1 : Int) := by rw [ex_64]; exact i_add (by first | omega | (show (_ : Int) ≤ c4_u16.toInt + (1 : Int); omega)) (by first | omega | (show c4_u16.toInt + (1 : Int) ≤ (_ : Int); omega))
          refine pr_here hx hb hg hown hK hP hD hS (hg _ q5_8) dX12_figure_46 (fun H locs hP hD hS => ?_)
          refine lv_goto (tgt := 4) hx hb dX12_figure_49 (by decide) ?_
          exact ih x_62 x_63 x_64 _ _ (by omega) (by omega) (by omega) (by omega) (by omega) hP hD hS ls (lv_sub hl [2, 1, 0] rfl)
  refine lv_iconst (v := 0) hx hb dX12_figure_0 (by decide) ?_
  refine lv_istore_n (lv' := [(1, .int 0), (0, .ref (bd 0))]) hx hb dX12_figure_1 rfl hl (by decide) rfl (fun ls hl => ?_)
  refine lv_iconst (v := 0) hx hb dX12_figure_2 (by decide) ?_
  refine lv_istore_n (lv' := [(2, .int 0), (1, .int 0), (0, .ref (bd 0))]) hx hb dX12_figure_3 rfl hl (by decide) rfl (fun ls hl => ?_)
  have q0_0 : (0 : Int32).toInt = 0 := rfl
  exact (hcut (((4 - (0 : Int32).toInt).toNat) + 1)) 0 0 (u 16) _ _ (by omega) (by omega) (by omega) (by omega) (Nat.lt_succ_self _) hP hD hS ls (lv_sub hl [2, 1, 0] rfl)
def C_X12_operand (n : Nat) : Prop := ∀ (l : Launch) (D : va_G) (cs : Nat → ClassId) (A : Nat → Prop) (bd : Nat → Nat) (u : Nat → Int32) (b : Nat → Nat → Int32) (bw : Nat → Nat → Int64)   (hT : (u 17).toInt = -1) (hh0 : 0 ≤ (u 16).toInt) (hh1 : (u 16).toInt ≤ (u 15).toInt) (hL0 : 0 ≤ (u 19).toInt) (hL1 : (u 19).toInt ≤ (u 16).toInt) (ho0 : 0 ≤ (u 18).toInt) (ho6 : (u 18).toInt ≤ 6) (hon : 6 ≤ (u 18).toInt + (n : Int)) (iu15_0 : 0 ≤ (u 15).toInt) (iu15_1 : (u 15).toInt ≤ 120) (ib20_0 : AB (-128) 127 (b 20)), Met l yX12_operand (Cond.code yX12_operand cX12_operand 2 none :: gw) ({ frames := 10 * n + 6, cells := 0, slots := 0, locals := 300 * n + 250 }) (va_Pc [.ref (bd 0)] (XPre D (TY cs) (RW cs bd u b bw) A)) (va_Qv (fun (z : Int32 × Int32 × Int32 × Int32 × (Nat → Int32) × (Nat → Int32)) => ((z.2.1.toInt = -1 ∧ z.2.2.1.toInt = (u 18).toInt ∧ (u 16).toInt < z.1.toInt ∧ z.2.2.2.1.toInt - (u 19).toInt ≤ z.1.toInt - (u 16).toInt) ∨ (0 ≤ z.2.1.toInt ∧ z.2.2.2.1.toInt - (u 19).toInt ≤ z.1.toInt - (u 16).toInt + 1)) ∧ ((u 16).toInt ≤ z.1.toInt) ∧ (z.1.toInt ≤ (u 15).toInt) ∧ ((u 18).toInt ≤ z.2.2.1.toInt) ∧ (z.2.2.1.toInt ≤ 6) ∧ ((u 19).toInt ≤ z.2.2.2.1.toInt) ∧ (FRM (130 + (u 19).toInt.toNat) (b 20) z.2.2.2.2.1) ∧ (FRM (130 + (u 19).toInt.toNat) (b 21) z.2.2.2.2.2) ∧ (z.2.1.toInt = -1 → SEGI z.2.2.2.2.1 z.2.2.2.2.2 (130 + (u 19).toInt.toNat) (130 + z.2.2.2.1.toInt.toNat)) ∧ (AB (-128) 127 z.2.2.2.2.1)) (XPo D (fun (z : Int32 × Int32 × Int32 × Int32 × (Nat → Int32) × (Nat → Int32)) => RW cs bd (va_up (va_up (va_up (va_up u 16 z.1) 17 z.2.1) 18 z.2.2.1) 19 z.2.2.2.1) (va_up (va_up b 20 z.2.2.2.2.1) 21 z.2.2.2.2.2) bw) A) A) 0 0 A
def C_X12_product (n : Nat) : Prop := ∀ (l : Launch) (D : va_G) (cs : Nat → ClassId) (A : Nat → Prop) (bd : Nat → Nat) (u : Nat → Int32) (b : Nat → Nat → Int32) (bw : Nat → Nat → Int64)   (hT : (u 17).toInt = -1) (hh0 : 0 ≤ (u 16).toInt) (hh1 : (u 16).toInt ≤ (u 15).toInt) (hL0 : 0 ≤ (u 19).toInt) (hL1 : (u 19).toInt ≤ (u 16).toInt) (ho0 : 0 ≤ (u 18).toInt) (ho6 : (u 18).toInt ≤ 6) (hon : 6 ≤ (u 18).toInt + (n : Int)) (iu15_0 : 0 ≤ (u 15).toInt) (iu15_1 : (u 15).toInt ≤ 120) (ib20_0 : AB (-128) 127 (b 20)), Met l yX12_product (Cond.code yX12_product cX12_product 2 none :: gw) ({ frames := 10 * n + 7, cells := 0, slots := 0, locals := 300 * n + 280 }) (va_Pc [.ref (bd 0)] (XPre D (TY cs) (RW cs bd u b bw) A)) (va_Qv (fun (z : Int32 × Int32 × Int32 × Int32 × (Nat → Int32) × (Nat → Int32)) => ((z.2.1.toInt = -1 ∧ z.2.2.1.toInt = (u 18).toInt ∧ (u 16).toInt < z.1.toInt ∧ z.2.2.2.1.toInt - (u 19).toInt ≤ z.1.toInt - (u 16).toInt) ∨ (0 ≤ z.2.1.toInt ∧ z.2.2.2.1.toInt - (u 19).toInt ≤ z.1.toInt - (u 16).toInt + 1)) ∧ ((u 16).toInt ≤ z.1.toInt) ∧ (z.1.toInt ≤ (u 15).toInt) ∧ ((u 18).toInt ≤ z.2.2.1.toInt) ∧ (z.2.2.1.toInt ≤ 6) ∧ ((u 19).toInt ≤ z.2.2.2.1.toInt) ∧ (FRM (130 + (u 19).toInt.toNat) (b 20) z.2.2.2.2.1) ∧ (FRM (130 + (u 19).toInt.toNat) (b 21) z.2.2.2.2.2) ∧ (z.2.1.toInt = -1 → SEGI z.2.2.2.2.1 z.2.2.2.2.2 (130 + (u 19).toInt.toNat) (130 + z.2.2.2.1.toInt.toNat)) ∧ (AB (-128) 127 z.2.2.2.2.1)) (XPo D (fun (z : Int32 × Int32 × Int32 × Int32 × (Nat → Int32) × (Nat → Int32)) => RW cs bd (va_up (va_up (va_up (va_up u 16 z.1) 17 z.2.1) 18 z.2.2.1) 19 z.2.2.2.1) (va_up (va_up b 20 z.2.2.2.2.1) 21 z.2.2.2.2.2) bw) A) A) 0 0 A
def C_X12_sum (n : Nat) : Prop := ∀ (l : Launch) (D : va_G) (cs : Nat → ClassId) (A : Nat → Prop) (bd : Nat → Nat) (u : Nat → Int32) (b : Nat → Nat → Int32) (bw : Nat → Nat → Int64)   (hT : (u 17).toInt = -1) (hh0 : 0 ≤ (u 16).toInt) (hh1 : (u 16).toInt ≤ (u 15).toInt) (hL0 : 0 ≤ (u 19).toInt) (hL1 : (u 19).toInt ≤ (u 16).toInt) (ho0 : 0 ≤ (u 18).toInt) (ho6 : (u 18).toInt ≤ 6) (hon : 6 ≤ (u 18).toInt + (n : Int)) (iu15_0 : 0 ≤ (u 15).toInt) (iu15_1 : (u 15).toInt ≤ 120) (ib20_0 : AB (-128) 127 (b 20)), Met l yX12_sum (Cond.code yX12_sum cX12_sum 2 none :: gw) ({ frames := 10 * n + 8, cells := 0, slots := 0, locals := 300 * n + 310 }) (va_Pc [.ref (bd 0)] (XPre D (TY cs) (RW cs bd u b bw) A)) (va_Qv (fun (z : Int32 × Int32 × Int32 × Int32 × (Nat → Int32) × (Nat → Int32)) => ((z.2.1.toInt = -1 ∧ z.2.2.1.toInt = (u 18).toInt ∧ (u 16).toInt < z.1.toInt ∧ z.2.2.2.1.toInt - (u 19).toInt ≤ z.1.toInt - (u 16).toInt) ∨ (0 ≤ z.2.1.toInt ∧ z.2.2.2.1.toInt - (u 19).toInt ≤ z.1.toInt - (u 16).toInt + 1)) ∧ ((u 16).toInt ≤ z.1.toInt) ∧ (z.1.toInt ≤ (u 15).toInt) ∧ ((u 18).toInt ≤ z.2.2.1.toInt) ∧ (z.2.2.1.toInt ≤ 6) ∧ ((u 19).toInt ≤ z.2.2.2.1.toInt) ∧ (FRM (130 + (u 19).toInt.toNat) (b 20) z.2.2.2.2.1) ∧ (FRM (130 + (u 19).toInt.toNat) (b 21) z.2.2.2.2.2) ∧ (z.2.1.toInt = -1 → SEGI z.2.2.2.2.1 z.2.2.2.2.2 (130 + (u 19).toInt.toNat) (130 + z.2.2.2.1.toInt.toNat)) ∧ (AB (-128) 127 z.2.2.2.2.1)) (XPo D (fun (z : Int32 × Int32 × Int32 × Int32 × (Nat → Int32) × (Nat → Int32)) => RW cs bd (va_up (va_up (va_up (va_up u 16 z.1) 17 z.2.1) 18 z.2.2.1) 19 z.2.2.2.1) (va_up (va_up b 20 z.2.2.2.2.1) 21 z.2.2.2.2.2) bw) A) A) 0 0 A
def C_X12_compared (n : Nat) : Prop := ∀ (l : Launch) (D : va_G) (cs : Nat → ClassId) (A : Nat → Prop) (bd : Nat → Nat) (u : Nat → Int32) (b : Nat → Nat → Int32) (bw : Nat → Nat → Int64)   (hT : (u 17).toInt = -1) (hh0 : 0 ≤ (u 16).toInt) (hh1 : (u 16).toInt ≤ (u 15).toInt) (hL0 : 0 ≤ (u 19).toInt) (hL1 : (u 19).toInt ≤ (u 16).toInt) (ho0 : 0 ≤ (u 18).toInt) (ho6 : (u 18).toInt ≤ 6) (hon : 6 ≤ (u 18).toInt + (n : Int)) (iu15_0 : 0 ≤ (u 15).toInt) (iu15_1 : (u 15).toInt ≤ 120) (ib20_0 : AB (-128) 127 (b 20)), Met l yX12_compared (Cond.code yX12_compared cX12_compared 2 none :: gw) ({ frames := 10 * n + 9, cells := 0, slots := 0, locals := 300 * n + 340 }) (va_Pc [.ref (bd 0)] (XPre D (TY cs) (RW cs bd u b bw) A)) (va_Qv (fun (z : Int32 × Int32 × Int32 × Int32 × (Nat → Int32) × (Nat → Int32)) => ((z.2.1.toInt = -1 ∧ z.2.2.1.toInt = (u 18).toInt ∧ (u 16).toInt < z.1.toInt ∧ z.2.2.2.1.toInt - (u 19).toInt ≤ z.1.toInt - (u 16).toInt) ∨ (0 ≤ z.2.1.toInt ∧ z.2.2.2.1.toInt - (u 19).toInt ≤ z.1.toInt - (u 16).toInt + 1)) ∧ ((u 16).toInt ≤ z.1.toInt) ∧ (z.1.toInt ≤ (u 15).toInt) ∧ ((u 18).toInt ≤ z.2.2.1.toInt) ∧ (z.2.2.1.toInt ≤ 6) ∧ ((u 19).toInt ≤ z.2.2.2.1.toInt) ∧ (FRM (130 + (u 19).toInt.toNat) (b 20) z.2.2.2.2.1) ∧ (FRM (130 + (u 19).toInt.toNat) (b 21) z.2.2.2.2.2) ∧ (z.2.1.toInt = -1 → SEGI z.2.2.2.2.1 z.2.2.2.2.2 (130 + (u 19).toInt.toNat) (130 + z.2.2.2.1.toInt.toNat)) ∧ (AB (-128) 127 z.2.2.2.2.1)) (XPo D (fun (z : Int32 × Int32 × Int32 × Int32 × (Nat → Int32) × (Nat → Int32)) => RW cs bd (va_up (va_up (va_up (va_up u 16 z.1) 17 z.2.1) 18 z.2.2.1) 19 z.2.2.2.1) (va_up (va_up b 20 z.2.2.2.2.1) 21 z.2.2.2.2.2) bw) A) A) 0 0 A
def C_X12_both (n : Nat) : Prop := ∀ (l : Launch) (D : va_G) (cs : Nat → ClassId) (A : Nat → Prop) (bd : Nat → Nat) (u : Nat → Int32) (b : Nat → Nat → Int32) (bw : Nat → Nat → Int64)   (hT : (u 17).toInt = -1) (hh0 : 0 ≤ (u 16).toInt) (hh1 : (u 16).toInt ≤ (u 15).toInt) (hL0 : 0 ≤ (u 19).toInt) (hL1 : (u 19).toInt ≤ (u 16).toInt) (ho0 : 0 ≤ (u 18).toInt) (ho6 : (u 18).toInt ≤ 6) (hon : 6 ≤ (u 18).toInt + (n : Int)) (iu15_0 : 0 ≤ (u 15).toInt) (iu15_1 : (u 15).toInt ≤ 120) (ib20_0 : AB (-128) 127 (b 20)), Met l yX12_both (Cond.code yX12_both cX12_both 1 none :: gw) ({ frames := 10 * n + 10, cells := 0, slots := 0, locals := 300 * n + 370 }) (va_Pc [.ref (bd 0)] (XPre D (TY cs) (RW cs bd u b bw) A)) (va_Qv (fun (z : Int32 × Int32 × Int32 × Int32 × (Nat → Int32) × (Nat → Int32)) => ((z.2.1.toInt = -1 ∧ z.2.2.1.toInt = (u 18).toInt ∧ (u 16).toInt < z.1.toInt ∧ z.2.2.2.1.toInt - (u 19).toInt ≤ z.1.toInt - (u 16).toInt) ∨ (0 ≤ z.2.1.toInt ∧ z.2.2.2.1.toInt - (u 19).toInt ≤ z.1.toInt - (u 16).toInt + 1)) ∧ ((u 16).toInt ≤ z.1.toInt) ∧ (z.1.toInt ≤ (u 15).toInt) ∧ ((u 18).toInt ≤ z.2.2.1.toInt) ∧ (z.2.2.1.toInt ≤ 6) ∧ ((u 19).toInt ≤ z.2.2.2.1.toInt) ∧ (FRM (130 + (u 19).toInt.toNat) (b 20) z.2.2.2.2.1) ∧ (FRM (130 + (u 19).toInt.toNat) (b 21) z.2.2.2.2.2) ∧ (z.2.1.toInt = -1 → SEGI z.2.2.2.2.1 z.2.2.2.2.2 (130 + (u 19).toInt.toNat) (130 + z.2.2.2.1.toInt.toNat)) ∧ (AB (-128) 127 z.2.2.2.2.1)) (XPo D (fun (z : Int32 × Int32 × Int32 × Int32 × (Nat → Int32) × (Nat → Int32)) => RW cs bd (va_up (va_up (va_up (va_up u 16 z.1) 17 z.2.1) 18 z.2.2.1) 19 z.2.2.2.1) (va_up (va_up b 20 z.2.2.2.2.1) 21 z.2.2.2.2.2) bw) A) A) 0 0 A
def C_X12_either (n : Nat) : Prop := ∀ (l : Launch) (D : va_G) (cs : Nat → ClassId) (A : Nat → Prop) (bd : Nat → Nat) (u : Nat → Int32) (b : Nat → Nat → Int32) (bw : Nat → Nat → Int64)   (hT : (u 17).toInt = -1) (hh0 : 0 ≤ (u 16).toInt) (hh1 : (u 16).toInt ≤ (u 15).toInt) (hL0 : 0 ≤ (u 19).toInt) (hL1 : (u 19).toInt ≤ (u 16).toInt) (ho0 : 0 ≤ (u 18).toInt) (ho6 : (u 18).toInt ≤ 6) (hon : 6 ≤ (u 18).toInt + (n : Int)) (iu15_0 : 0 ≤ (u 15).toInt) (iu15_1 : (u 15).toInt ≤ 120) (ib20_0 : AB (-128) 127 (b 20)), Met l yX12_either (Cond.code yX12_either cX12_either 1 none :: gw) ({ frames := 10 * n + 11, cells := 0, slots := 0, locals := 300 * n + 400 }) (va_Pc [.ref (bd 0)] (XPre D (TY cs) (RW cs bd u b bw) A)) (va_Qv (fun (z : Int32 × Int32 × Int32 × Int32 × (Nat → Int32) × (Nat → Int32)) => ((z.2.1.toInt = -1 ∧ z.2.2.1.toInt = (u 18).toInt ∧ (u 16).toInt < z.1.toInt ∧ z.2.2.2.1.toInt - (u 19).toInt ≤ z.1.toInt - (u 16).toInt) ∨ (0 ≤ z.2.1.toInt ∧ z.2.2.2.1.toInt - (u 19).toInt ≤ z.1.toInt - (u 16).toInt + 1)) ∧ ((u 16).toInt ≤ z.1.toInt) ∧ (z.1.toInt ≤ (u 15).toInt) ∧ ((u 18).toInt ≤ z.2.2.1.toInt) ∧ (z.2.2.1.toInt ≤ 6) ∧ ((u 19).toInt ≤ z.2.2.2.1.toInt) ∧ (FRM (130 + (u 19).toInt.toNat) (b 20) z.2.2.2.2.1) ∧ (FRM (130 + (u 19).toInt.toNat) (b 21) z.2.2.2.2.2) ∧ (z.2.1.toInt = -1 → SEGI z.2.2.2.2.1 z.2.2.2.2.2 (130 + (u 19).toInt.toNat) (130 + z.2.2.2.1.toInt.toNat)) ∧ (AB (-128) 127 z.2.2.2.2.1)) (XPo D (fun (z : Int32 × Int32 × Int32 × Int32 × (Nat → Int32) × (Nat → Int32)) => RW cs bd (va_up (va_up (va_up (va_up u 16 z.1) 17 z.2.1) 18 z.2.2.1) 19 z.2.2.2.1) (va_up (va_up b 20 z.2.2.2.2.1) 21 z.2.2.2.2.2) bw) A) A) 0 0 A
set_option maxHeartbeats 4000000 in
set_option maxRecDepth 100000 in
theorem s_X12_operand (n : Nat) (hE : ∀ k, k + 1 = n → C_X12_either k) (hO : ∀ k, k + 1 = n → C_X12_operand k) : C_X12_operand n := by
  intro l D cs A bd u b bw hT hh0 hh1 hL0 hL1 ho0 ho6 hon iu15_0 iu15_1 ib20_0
  refine Met.ofW (cc := cX12_operand) (maxL := 2) (ret := none) (by decide) rfl ?_
  intro p e s m args below meth c s₁ B hml hv
  obtain ⟨rfl, hP, hK, hD, hZ⟩ := hv
  have hx := B.exec
  have hb := B.bytes
  have hr := B.returns
  have hts := atoms_spec (ws := (Cond.code yX12_operand cX12_operand 2 none :: gw)) B.pre
  have hg : ∀ w ∈ gw, w.before ([.ref (bd 0)] : List Value).toArray s = true := fun w h => hts w (List.mem_cons_of_mem _ h)
  have hown : s.vm.findClass RX12 = some m.cls := findClass_of_methodNamed B.named
  have hlocks := B.notSynchronized
  have hS : va_S A s.heap s.heap [] := va_S.rf
  have hP : va_P D vwCl (RW cs bd u b bw) s.heap := hP
  have hl := lv_entry ([.ref (bd 0)]) (n := 2) (Nat.le_of_ble_eq_true rfl)
  rw [lg_entry_eq]
  generalize (lg_sl ([.ref (bd 0)]) ++ List.replicate (2 - (lg_sl ([.ref (bd 0)])).length) Slot.unset).toArray = ls at hl ⊢
  have hl : lv_has ls 2 [(0, .ref (bd 0))] := hl
  refine lv_aload_n hx hb dX12_operand_0 rfl (lv_at hl 0 rfl) ?_
  refine cV_ro (As := []) (rest := []) ⟨hx, hb, hml, hown, hg⟩ (k_X12_look l D cs A bd u b bw   (show 0 ≤ (u 16).toInt by first | omega | decide) (show 0 ≤ (u 15).toInt by first | omega | decide) (show (u 15).toInt ≤ 120 by first | omega | decide)) ca_X12_look q6_66 ⟨rfl, rfl⟩ ⟨(show 0 + 1 ≤ 10 * n + 6 by omega), (show 8 + (1 + 11) + (0) ≤ 300 * n + 250 by omega)⟩ (rc_model hK hP) hK hP hD hS hZ rfl hl.1 rfl (Nat.le_of_ble_eq_true rfl) ⟨Nat.zero_le _, Nat.zero_le _⟩ dX12_operand_1 (fun r_1 wr_1 => ?_)
  have wr_1_0 : ((u 16).toInt < (u 15).toInt ∧ r_1.toInt = ((b 14) (u 16).toNatClampNeg).toInt) ∨ ((u 15).toInt ≤ (u 16).toInt ∧ r_1.toInt = -1) := wr_1
  refine lv_istore_n (lv' := [(1, .int r_1), (0, .ref (bd 0))]) hx hb dX12_operand_4 rfl hl (by decide) rfl (fun ls hl => ?_)
  refine lv_iload_n hx hb dX12_operand_5 rfl (lv_at hl 0 rfl) ?_
  refine cS_p (As := [.int r_1]) (rest := []) ⟨hx, hb, hml, hown, hg⟩ (k_X12_nameOf l   r_1 ) ca_X12_nameOf q6_70 ⟨rfl, rfl⟩ ⟨(show 0 + 1 ≤ 10 * n + 6 by omega), (show 8 + (1 + 11) + (0) ≤ 300 * n + 250 by omega)⟩ rfl hl.1 rfl (Nat.le_of_ble_eq_true rfl) ⟨Nat.zero_le _, Nat.zero_le _⟩ dX12_operand_6 (fun r_2 wr_2 => ?_)
  have wr_2 : (r_1.toInt = 99 ∧ r_2.toInt = 0) ∨ (r_1.toInt = 103 ∧ r_2.toInt = 1) ∨ (r_1.toInt = 100 ∧ r_2.toInt = 2) ∨ (r_1.toInt = 104 ∧ r_2.toInt = 3) ∨ (r_1.toInt = 110 ∧ r_2.toInt = 4) ∨ (r_1.toInt = 107 ∧ r_2.toInt = 5) ∨ ((r_1.toInt ≠ 99 ∧ r_1.toInt ≠ 103 ∧ r_1.toInt ≠ 100 ∧ r_1.toInt ≠ 104 ∧ r_1.toInt ≠ 110 ∧ r_1.toInt ≠ 107) ∧ r_2.toInt = -1) := wr_2
  refine lv_if_lt (tgt := 34) hx hb dX12_operand_9 (by decide) (fun c_3 => ?_) (fun c_3 => ?_)
  ·
    have kc_3 : r_2.toInt < (0 : Int) := i_lt c_3
    refine lv_iload_n hx hb dX12_operand_34 rfl (lv_at hl 0 rfl) ?_
    refine lv_bipush (v := 33) hx hb dX12_operand_35 (by decide) ?_
    refine lv_icmp_eq (tgt := 46) hx hb dX12_operand_37 (by decide) (fun c_4 => ?_) (fun c_4 => ?_)
    ·
      have kc_4 : r_1.toInt = (33 : Int) := i_eq c_4
      refine lv_aload_n hx hb dX12_operand_46 rfl (lv_at hl 1 rfl) ?_
      refine cV_i (As := []) (rest := []) ⟨hx, hb, hml, hown, hg⟩ (k_X12_opens l D cs A bd u b bw   (show (u 17).toInt = -1 by first | omega | decide) (show 0 ≤ (u 16).toInt by first | omega | decide) (show (u 16).toInt ≤ (u 15).toInt by first | omega | decide) (show 0 ≤ (u 19).toInt by first | omega | decide) (show (u 19).toInt ≤ (u 16).toInt by first | omega | decide) (show 0 ≤ (u 18).toInt by first | omega | decide) (show (u 18).toInt ≤ 6 by first | omega | decide) (show (u 16).toInt < (u 15).toInt by first | omega | decide) (show (u 15).toInt ≤ 120 by first | omega | decide)) ca_X12_opens q6_77 ⟨rfl, rfl⟩ ⟨(show 1 + 1 ≤ 10 * n + 6 by omega), (show 8 + (1 + 11) + (20) ≤ 300 * n + 250 by omega)⟩ (rc_model hK hP) hK hP hD hS hZ rfl hl.1 rfl (Nat.le_of_ble_eq_true rfl) ⟨Nat.zero_le _, Nat.zero_le _⟩ dX12_operand_47 (fun r_5 z_9 H locs wr_5 hP hD hS => ?_)
      obtain ⟨o_u18_6, o_u16_7, o_u17_8⟩ := z_9
      have hP : va_P D vwCl (RW cs bd (va_up (va_up (va_up u 18 o_u18_6) 16 o_u16_7) 17 o_u17_8) b bw) H := hP
      have hD : va_D A (RW cs bd (va_up (va_up (va_up u 18 o_u18_6) 16 o_u16_7) 17 o_u17_8) b bw) := hD
      have wr_5_0 : (r_5.toInt = 1 ∧ o_u18_6.toInt = (u 18).toInt + 1 ∧ o_u16_7.toInt = (u 16).toInt + 1 ∧ o_u17_8.toInt = -1 ∧ o_u18_6.toInt ≤ 6) ∨ (r_5.toInt = 0 ∧ 0 ≤ o_u17_8.toInt ∧ o_u18_6.toInt = (u 18).toInt ∧ o_u16_7.toInt = (u 16).toInt) := wr_5
      refine lv_if_ne (tgt := 54) hx hb dX12_operand_50 (by decide) (fun c_10 => ?_) (fun c_10 => ?_)
      ·
        have kc_10 : r_5.toInt ≠ (0 : Int) := i_ne c_10
        refine lv_aload_n hx hb dX12_operand_54 rfl (lv_at hl 1 rfl) ?_
        refine cV_v (As := []) (rest := []) ⟨hx, hb, hml, hown, hg⟩ ((hO (n - 1) (by omega)) l D cs A bd (va_up (va_up (va_up u 18 o_u18_6) 16 o_u16_7) 17 o_u17_8) b bw   (show o_u17_8.toInt = -1 by first | omega | decide) (show 0 ≤ o_u16_7.toInt by first | omega | decide) (show o_u16_7.toInt ≤ (u 15).toInt by first | omega | decide) (show 0 ≤ (u 19).toInt by first | omega | decide) (show (u 19).toInt ≤ o_u16_7.toInt by first | omega | decide) (show 0 ≤ o_u18_6.toInt by first | omega | decide) (show o_u18_6.toInt ≤ 6 by first | omega | decide) (show 6 ≤ o_u18_6.toInt + ((n - 1 : Nat) : Int) by first | omega | decide) (show 0 ≤ (u 15).toInt by first | omega | decide) (show (u 15).toInt ≤ 120 by first | omega | decide) ib20_0) ca_X12_operand q6_62 ⟨rfl, rfl⟩ ⟨(show 10 * (n - 1) + 6 + 1 ≤ 10 * n + 6 by omega), (show 8 + (2 + 11) + (300 * (n - 1) + 250) ≤ 300 * n + 250 by omega)⟩ (rc_model hK hP) hK hP hD hS hZ rfl hl.1 rfl (Nat.le_of_ble_eq_true rfl) ⟨Nat.zero_le _, Nat.zero_le _⟩ dX12_operand_55 (fun z_18 H locs wr_11 hP hD hS => ?_)
        obtain ⟨o_u16_12, o_u17_13, o_u18_14, o_u19_15, o_b20_16, o_b21_17⟩ := z_18
        have hP : va_P D vwCl (RW cs bd (va_up (va_up (va_up (va_up u 16 o_u16_12) 17 o_u17_13) 18 o_u18_14) 19 o_u19_15) (va_up (va_up b 20 o_b20_16) 21 o_b21_17) bw) H := hP
        have hD : va_D A (RW cs bd (va_up (va_up (va_up (va_up u 16 o_u16_12) 17 o_u17_13) 18 o_u18_14) 19 o_u19_15) (va_up (va_up b 20 o_b20_16) 21 o_b21_17) bw) := hD
        obtain ⟨wr_11_0, wr_11_1, wr_11_2, wr_11_3, wr_11_4, wr_11_5, wr_11_6, wr_11_7, wr_11_8, wr_11_9⟩ : ((o_u17_13.toInt = -1 ∧ o_u18_14.toInt = o_u18_6.toInt ∧ o_u16_7.toInt < o_u16_12.toInt ∧ o_u19_15.toInt - (u 19).toInt ≤ o_u16_12.toInt - o_u16_7.toInt) ∨ (0 ≤ o_u17_13.toInt ∧ o_u19_15.toInt - (u 19).toInt ≤ o_u16_12.toInt - o_u16_7.toInt + 1)) ∧ (o_u16_7.toInt ≤ o_u16_12.toInt) ∧ (o_u16_12.toInt ≤ (u 15).toInt) ∧ (o_u18_6.toInt ≤ o_u18_14.toInt) ∧ (o_u18_14.toInt ≤ 6) ∧ ((u 19).toInt ≤ o_u19_15.toInt) ∧ (FRM (130 + (u 19).toInt.toNat) (b 20) o_b20_16) ∧ (FRM (130 + (u 19).toInt.toNat) (b 21) o_b21_17) ∧ (o_u17_13.toInt = -1 → SEGI o_b20_16 o_b21_17 (130 + (u 19).toInt.toNat) (130 + o_u19_15.toInt.toNat)) ∧ (AB (-128) 127 o_b20_16) := wr_11
        have hA_19 : FRM (130 + (u 19).toInt.toNat) (b 20) o_b20_16 := FRM_trans FRM_refl wr_11_6 (by omega)
        have hA_20 : FRM (130 + (u 19).toInt.toNat) (b 21) o_b21_17 := FRM_trans FRM_refl wr_11_7 (by omega)
        refine lv_aload_n hx hb dX12_operand_58 rfl (lv_at hl 1 rfl) ?_
        refine lv_dup hx hb dX12_operand_59 rfl ?_
        refine gr_open hx hb hg hown hK hP (x := o_u18_14) rfl (hg _ q5_10) dX12_operand_60 ?_
        refine lv_iconst (v := 1) hx hb dX12_operand_63 (by decide) ?_
        refine lv_isub hx hb dX12_operand_64 ?_
        refine lv_topi (fun x_21 ex_21 => ?_)
        have fx_21 : x_21.toInt = o_u18_14.toInt - (1 : Int) := by rw [ex_21]; exact i_sub (by first | omega | (show (_ : Int) ≤ o_u18_14.toInt - (1 : Int); omega)) (by first | omega | (show o_u18_14.toInt - (1 : Int) ≤ (_ : Int); omega))
        refine pr_open hx hb hg hown hK hP hD hS (hg _ q5_10) dX12_operand_65 (fun H locs hP hD hS => ?_)
        refine lv_aload_n hx hb dX12_operand_68 rfl (lv_at hl 1 rfl) ?_
        refine lv_iload_n hx hb dX12_operand_69 rfl (lv_at hl 0 rfl) ?_
        refine lv_bipush (v := 33) hx hb dX12_operand_70 (by decide) ?_
        refine lv_icmp_ne (tgt := 79) hx hb dX12_operand_72 (by decide) (fun c_22 => ?_) (fun c_22 => ?_)
        ·
          have kc_22 : r_1.toInt ≠ (33 : Int) := i_ne c_22
          exfalso; omega
        ·
          have kc_22 : r_1.toInt = (33 : Int) := i_eq c_22
          refine lv_iconst (v := 3) hx hb dX12_operand_75 (by decide) ?_
          refine lv_goto (tgt := 80) hx hb dX12_operand_76 (by decide) ?_
          refine lv_iconst (v := 0) hx hb dX12_operand_80 (by decide) ?_
          refine cV_v (As := [.int 3, .int 0]) (rest := []) ⟨hx, hb, hml, hown, hg⟩ (k_X12_addStep l D cs A bd (va_up (va_up (va_up (va_up u 16 o_u16_12) 17 o_u17_13) 19 o_u19_15) 18 x_21) (va_up (va_up b 20 o_b20_16) 21 o_b21_17) bw  3 0 (show 0 ≤ o_u19_15.toInt by first | omega | decide) (show o_u19_15.toInt ≤ 129 by first | omega | decide) (show -128 ≤ (3 : Int) by first | omega | decide) (show (3 : Int) ≤ 127 by first | omega | decide) wr_11_9) ca_X12_addStep q6_73 ⟨rfl, rfl⟩ ⟨(show 0 + 1 ≤ 10 * n + 6 by omega), (show 8 + (3 + 11) + (0) ≤ 300 * n + 250 by omega)⟩ (rc_model hK hP) hK hP hD hS hZ rfl hl.1 rfl (Nat.le_of_ble_eq_true rfl) ⟨Nat.zero_le _, Nat.zero_le _⟩ dX12_operand_81 (fun z_27 H locs wr_23 hP hD hS => ?_)
          obtain ⟨o_u19_24, o_b20_25, o_b21_26⟩ := z_27
          have hP : va_P D vwCl (RW cs bd (va_up (va_up (va_up (va_up u 16 o_u16_12) 17 o_u17_13) 18 x_21) 19 o_u19_24) (va_up (va_up b 20 o_b20_25) 21 o_b21_26) bw) H := hP
          have hD : va_D A (RW cs bd (va_up (va_up (va_up (va_up u 16 o_u16_12) 17 o_u17_13) 18 x_21) 19 o_u19_24) (va_up (va_up b 20 o_b20_25) 21 o_b21_26) bw) := hD
          obtain ⟨wr_23_0, wr_23_1, wr_23_2, wr_23_3, wr_23_4, wr_23_5⟩ : (o_u19_24.toInt = o_u19_15.toInt + 1) ∧ (FRM (130 + o_u19_15.toInt.toNat) o_b20_16 o_b20_25) ∧ (FRM (130 + o_u19_15.toInt.toNat) o_b21_17 o_b21_26) ∧ ((o_b20_25 (130 + o_u19_15.toInt.toNat)).toInt = (3 : Int)) ∧ ((o_b21_26 (130 + o_u19_15.toInt.toNat)).toInt = (0 : Int)) ∧ (AB (-128) 127 o_b20_25) := wr_23
          have hA_28 : FRM (130 + (u 19).toInt.toNat) (b 20) o_b20_25 := FRM_trans hA_19 wr_23_1 (by omega)
          have hA_29 : FRM (130 + (u 19).toInt.toNat) (b 21) o_b21_26 := FRM_trans hA_20 wr_23_2 (by omega)
          have hsg_30 : o_u17_13.toInt = -1 → SEGI o_b20_25 o_b21_26 (130 + (u 19).toInt.toNat) (130 + o_u19_24.toInt.toNat) := fun hq => SEG_un (SEG_frm (wr_11_8 (by omega)) wr_23_1 wr_23_2 (by omega)) (by omega) (by omega)
          refine lv_goto (tgt := 154) hx hb dX12_operand_84 (by decide) ?_
          exact W.vret hx hb hr (fun tt ht hW => ⟨⟨⟨o_u16_12, o_u17_13, x_21, o_u19_24, o_b20_25, o_b21_26⟩, rfl, ⟨(by first | rfl | omega | trivial | assumption | (dsimp only; first | omega | assumption)), (by first | rfl | omega | trivial | assumption | (dsimp only; first | omega | assumption)), (by first | rfl | omega | trivial | assumption | (dsimp only; first | omega | assumption)), (by first | rfl | omega | trivial | assumption | (dsimp only; first | omega | assumption)), (by first | rfl | omega | trivial | assumption | (dsimp only; first | omega | assumption)), (by first | rfl | omega | trivial | assumption | (dsimp only; first | omega | assumption)), hA_28, hA_29, hsg_30, wr_23_5⟩, by rw [ht]; exact hP, hD⟩, hS.F ht⟩) hS.2.2 dX12_operand_154
      ·
        have kc_10 : r_5.toInt = (0 : Int) := i_eq c_10
        have hP : va_P D vwCl (RW cs bd (va_up (va_up (va_up (va_up u 16 o_u16_7) 17 o_u17_8) 18 o_u18_6) 19 (u 19)) (va_up (va_up b 20 (b 20)) 21 (b 21)) bw) _ := hP
        have hD : va_D A (RW cs bd (va_up (va_up (va_up (va_up u 16 o_u16_7) 17 o_u17_8) 18 o_u18_6) 19 (u 19)) (va_up (va_up b 20 (b 20)) 21 (b 21)) bw) := hD
        exact W.vret hx hb hr (fun tt ht hW => ⟨⟨⟨o_u16_7, o_u17_8, o_u18_6, (u 19), (b 20), (b 21)⟩, rfl, ⟨(by first | rfl | omega | trivial | assumption | (dsimp only; first | omega | assumption)), (by first | rfl | omega | trivial | assumption | (dsimp only; first | omega | assumption)), (by first | rfl | omega | trivial | assumption | (dsimp only; first | omega | assumption)), (by first | rfl | omega | trivial | assumption | (dsimp only; first | omega | assumption)), (by first | rfl | omega | trivial | assumption | (dsimp only; first | omega | assumption)), (by first | rfl | omega | trivial | assumption | (dsimp only; first | omega | assumption)), FRM_refl, FRM_refl, (fun hq => absurd hq (by first | omega | (dsimp only; omega))), ib20_0⟩, by rw [ht]; exact hP, hD⟩, hS.F ht⟩) hS.2.2 dX12_operand_53
    ·
      have kc_4 : r_1.toInt ≠ (33 : Int) := i_ne c_4
      refine lv_iload_n hx hb dX12_operand_40 rfl (lv_at hl 0 rfl) ?_
      refine lv_bipush (v := 45) hx hb dX12_operand_41 (by decide) ?_
      refine lv_icmp_ne (tgt := 87) hx hb dX12_operand_43 (by decide) (fun c_31 => ?_) (fun c_31 => ?_)
      ·
        have kc_31 : r_1.toInt ≠ (45 : Int) := i_ne c_31
        refine lv_iload_n hx hb dX12_operand_87 rfl (lv_at hl 0 rfl) ?_
        refine lv_bipush (v := 40) hx hb dX12_operand_88 (by decide) ?_
        refine lv_icmp_ne (tgt := 150) hx hb dX12_operand_90 (by decide) (fun c_32 => ?_) (fun c_32 => ?_)
        ·
          have kc_32 : r_1.toInt ≠ (40 : Int) := i_ne c_32
          refine lv_aload_n hx hb dX12_operand_150 rfl (lv_at hl 1 rfl) ?_
          refine cV_v (As := []) (rest := []) ⟨hx, hb, hml, hown, hg⟩ (k_X12_figure l D cs A bd u b bw   (show (u 17).toInt = -1 by first | omega | decide) (show 0 ≤ (u 16).toInt by first | omega | decide) (show (u 16).toInt ≤ (u 15).toInt by first | omega | decide) (show 0 ≤ (u 19).toInt by first | omega | decide) (show (u 19).toInt ≤ (u 16).toInt by first | omega | decide) (show 0 ≤ (u 18).toInt by first | omega | decide) (show (u 18).toInt ≤ 6 by first | omega | decide) (show 0 ≤ (u 15).toInt by first | omega | decide) (show (u 15).toInt ≤ 120 by first | omega | decide) ib20_0) ca_X12_figure q6_85 ⟨rfl, rfl⟩ ⟨(show 1 + 1 ≤ 10 * n + 6 by omega), (show 8 + (3 + 11) + (22) ≤ 300 * n + 250 by omega)⟩ (rc_model hK hP) hK hP hD hS hZ rfl hl.1 rfl (Nat.le_of_ble_eq_true rfl) ⟨Nat.zero_le _, Nat.zero_le _⟩ dX12_operand_151 (fun z_40 H locs wr_33 hP hD hS => ?_)
          obtain ⟨o_u16_34, o_u17_35, o_u18_36, o_u19_37, o_b20_38, o_b21_39⟩ := z_40
          have hP : va_P D vwCl (RW cs bd (va_up (va_up (va_up (va_up u 16 o_u16_34) 17 o_u17_35) 18 o_u18_36) 19 o_u19_37) (va_up (va_up b 20 o_b20_38) 21 o_b21_39) bw) H := hP
          have hD : va_D A (RW cs bd (va_up (va_up (va_up (va_up u 16 o_u16_34) 17 o_u17_35) 18 o_u18_36) 19 o_u19_37) (va_up (va_up b 20 o_b20_38) 21 o_b21_39) bw) := hD
          obtain ⟨wr_33_0, wr_33_1, wr_33_2, wr_33_3, wr_33_4, wr_33_5, wr_33_6, wr_33_7, wr_33_8, wr_33_9⟩ : ((o_u17_35.toInt = -1 ∧ o_u18_36.toInt = (u 18).toInt ∧ (u 16).toInt < o_u16_34.toInt ∧ o_u19_37.toInt - (u 19).toInt ≤ o_u16_34.toInt - (u 16).toInt) ∨ (0 ≤ o_u17_35.toInt ∧ o_u19_37.toInt - (u 19).toInt ≤ o_u16_34.toInt - (u 16).toInt + 1)) ∧ ((u 16).toInt ≤ o_u16_34.toInt) ∧ (o_u16_34.toInt ≤ (u 15).toInt) ∧ ((u 18).toInt ≤ o_u18_36.toInt) ∧ (o_u18_36.toInt ≤ 6) ∧ ((u 19).toInt ≤ o_u19_37.toInt) ∧ (FRM (130 + (u 19).toInt.toNat) (b 20) o_b20_38) ∧ (FRM (130 + (u 19).toInt.toNat) (b 21) o_b21_39) ∧ (o_u17_35.toInt = -1 → SEGI o_b20_38 o_b21_39 (130 + (u 19).toInt.toNat) (130 + o_u19_37.toInt.toNat)) ∧ (AB (-128) 127 o_b20_38) := wr_33
          have hA_41 : FRM (130 + (u 19).toInt.toNat) (b 20) o_b20_38 := FRM_trans FRM_refl wr_33_6 (by omega)
          have hA_42 : FRM (130 + (u 19).toInt.toNat) (b 21) o_b21_39 := FRM_trans FRM_refl wr_33_7 (by omega)
          exact W.vret hx hb hr (fun tt ht hW => ⟨⟨⟨o_u16_34, o_u17_35, o_u18_36, o_u19_37, o_b20_38, o_b21_39⟩, rfl, ⟨(by first | rfl | omega | trivial | assumption | (dsimp only; first | omega | assumption)), (by first | rfl | omega | trivial | assumption | (dsimp only; first | omega | assumption)), (by first | rfl | omega | trivial | assumption | (dsimp only; first | omega | assumption)), (by first | rfl | omega | trivial | assumption | (dsimp only; first | omega | assumption)), (by first | rfl | omega | trivial | assumption | (dsimp only; first | omega | assumption)), (by first | rfl | omega | trivial | assumption | (dsimp only; first | omega | assumption)), hA_41, hA_42, (fun hq => wr_33_8 (by first | omega | (dsimp only at hq; omega))), wr_33_9⟩, by rw [ht]; exact hP, hD⟩, hS.F ht⟩) hS.2.2 dX12_operand_154
        ·
          have kc_32 : r_1.toInt = (40 : Int) := i_eq c_32
          refine lv_aload_n hx hb dX12_operand_93 rfl (lv_at hl 1 rfl) ?_
          refine cV_i (As := []) (rest := []) ⟨hx, hb, hml, hown, hg⟩ (k_X12_opens l D cs A bd u b bw   (show (u 17).toInt = -1 by first | omega | decide) (show 0 ≤ (u 16).toInt by first | omega | decide) (show (u 16).toInt ≤ (u 15).toInt by first | omega | decide) (show 0 ≤ (u 19).toInt by first | omega | decide) (show (u 19).toInt ≤ (u 16).toInt by first | omega | decide) (show 0 ≤ (u 18).toInt by first | omega | decide) (show (u 18).toInt ≤ 6 by first | omega | decide) (show (u 16).toInt < (u 15).toInt by first | omega | decide) (show (u 15).toInt ≤ 120 by first | omega | decide)) ca_X12_opens q6_77 ⟨rfl, rfl⟩ ⟨(show 1 + 1 ≤ 10 * n + 6 by omega), (show 8 + (1 + 11) + (20) ≤ 300 * n + 250 by omega)⟩ (rc_model hK hP) hK hP hD hS hZ rfl hl.1 rfl (Nat.le_of_ble_eq_true rfl) ⟨Nat.zero_le _, Nat.zero_le _⟩ dX12_operand_94 (fun r_43 z_47 H locs wr_43 hP hD hS => ?_)
          obtain ⟨o_u18_44, o_u16_45, o_u17_46⟩ := z_47
          have hP : va_P D vwCl (RW cs bd (va_up (va_up (va_up u 18 o_u18_44) 16 o_u16_45) 17 o_u17_46) b bw) H := hP
          have hD : va_D A (RW cs bd (va_up (va_up (va_up u 18 o_u18_44) 16 o_u16_45) 17 o_u17_46) b bw) := hD
          have wr_43_0 : (r_43.toInt = 1 ∧ o_u18_44.toInt = (u 18).toInt + 1 ∧ o_u16_45.toInt = (u 16).toInt + 1 ∧ o_u17_46.toInt = -1 ∧ o_u18_44.toInt ≤ 6) ∨ (r_43.toInt = 0 ∧ 0 ≤ o_u17_46.toInt ∧ o_u18_44.toInt = (u 18).toInt ∧ o_u16_45.toInt = (u 16).toInt) := wr_43
          refine lv_if_ne (tgt := 101) hx hb dX12_operand_97 (by decide) (fun c_48 => ?_) (fun c_48 => ?_)
          ·
            have kc_48 : r_43.toInt ≠ (0 : Int) := i_ne c_48
            refine lv_aload_n hx hb dX12_operand_101 rfl (lv_at hl 1 rfl) ?_
            refine cV_v (As := []) (rest := []) ⟨hx, hb, hml, hown, hg⟩ ((hE (n - 1) (by omega)) l D cs A bd (va_up (va_up (va_up u 18 o_u18_44) 16 o_u16_45) 17 o_u17_46) b bw   (show o_u17_46.toInt = -1 by first | omega | decide) (show 0 ≤ o_u16_45.toInt by first | omega | decide) (show o_u16_45.toInt ≤ (u 15).toInt by first | omega | decide) (show 0 ≤ (u 19).toInt by first | omega | decide) (show (u 19).toInt ≤ o_u16_45.toInt by first | omega | decide) (show 0 ≤ o_u18_44.toInt by first | omega | decide) (show o_u18_44.toInt ≤ 6 by first | omega | decide) (show 6 ≤ o_u18_44.toInt + ((n - 1 : Nat) : Int) by first | omega | decide) (show 0 ≤ (u 15).toInt by first | omega | decide) (show (u 15).toInt ≤ 120 by first | omega | decide) ib20_0) ca_X12_either q6_42 ⟨rfl, rfl⟩ ⟨(show 10 * (n - 1) + 11 + 1 ≤ 10 * n + 6 by omega), (show 8 + (1 + 11) + (300 * (n - 1) + 400) ≤ 300 * n + 250 by omega)⟩ (rc_model hK hP) hK hP hD hS hZ rfl hl.1 rfl (Nat.le_of_ble_eq_true rfl) ⟨Nat.zero_le _, Nat.zero_le _⟩ dX12_operand_102 (fun z_56 H locs wr_49 hP hD hS => ?_)
            obtain ⟨o_u16_50, o_u17_51, o_u18_52, o_u19_53, o_b20_54, o_b21_55⟩ := z_56
            have hP : va_P D vwCl (RW cs bd (va_up (va_up (va_up (va_up u 16 o_u16_50) 17 o_u17_51) 18 o_u18_52) 19 o_u19_53) (va_up (va_up b 20 o_b20_54) 21 o_b21_55) bw) H := hP
            have hD : va_D A (RW cs bd (va_up (va_up (va_up (va_up u 16 o_u16_50) 17 o_u17_51) 18 o_u18_52) 19 o_u19_53) (va_up (va_up b 20 o_b20_54) 21 o_b21_55) bw) := hD
            obtain ⟨wr_49_0, wr_49_1, wr_49_2, wr_49_3, wr_49_4, wr_49_5, wr_49_6, wr_49_7, wr_49_8, wr_49_9⟩ : ((o_u17_51.toInt = -1 ∧ o_u18_52.toInt = o_u18_44.toInt ∧ o_u16_45.toInt < o_u16_50.toInt ∧ o_u19_53.toInt - (u 19).toInt ≤ o_u16_50.toInt - o_u16_45.toInt) ∨ (0 ≤ o_u17_51.toInt ∧ o_u19_53.toInt - (u 19).toInt ≤ o_u16_50.toInt - o_u16_45.toInt + 1)) ∧ (o_u16_45.toInt ≤ o_u16_50.toInt) ∧ (o_u16_50.toInt ≤ (u 15).toInt) ∧ (o_u18_44.toInt ≤ o_u18_52.toInt) ∧ (o_u18_52.toInt ≤ 6) ∧ ((u 19).toInt ≤ o_u19_53.toInt) ∧ (FRM (130 + (u 19).toInt.toNat) (b 20) o_b20_54) ∧ (FRM (130 + (u 19).toInt.toNat) (b 21) o_b21_55) ∧ (o_u17_51.toInt = -1 → SEGI o_b20_54 o_b21_55 (130 + (u 19).toInt.toNat) (130 + o_u19_53.toInt.toNat)) ∧ (AB (-128) 127 o_b20_54) := wr_49
            have hA_57 : FRM (130 + (u 19).toInt.toNat) (b 20) o_b20_54 := FRM_trans FRM_refl wr_49_6 (by omega)
            have hA_58 : FRM (130 + (u 19).toInt.toNat) (b 21) o_b21_55 := FRM_trans FRM_refl wr_49_7 (by omega)
            refine lv_aload_n hx hb dX12_operand_105 rfl (lv_at hl 1 rfl) ?_
            refine gr_fault hx hb hg hown hK hP (x := o_u17_51) rfl (hg _ q5_9) dX12_operand_106 ?_
            refine lv_if_lt (tgt := 113) hx hb dX12_operand_109 (by decide) (fun c_59 => ?_) (fun c_59 => ?_)
            ·
              have kc_59 : o_u17_51.toInt < (0 : Int) := i_lt c_59
              refine lv_aload_n hx hb dX12_operand_113 rfl (lv_at hl 1 rfl) ?_
              refine cV_ro (As := []) (rest := []) ⟨hx, hb, hml, hown, hg⟩ (k_X12_look l D cs A bd (va_up (va_up (va_up (va_up u 16 o_u16_50) 17 o_u17_51) 18 o_u18_52) 19 o_u19_53) (va_up (va_up b 20 o_b20_54) 21 o_b21_55) bw   (show 0 ≤ o_u16_50.toInt by first | omega | decide) (show 0 ≤ (u 15).toInt by first | omega | decide) (show (u 15).toInt ≤ 120 by first | omega | decide)) ca_X12_look q6_66 ⟨rfl, rfl⟩ ⟨(show 0 + 1 ≤ 10 * n + 6 by omega), (show 8 + (1 + 11) + (0) ≤ 300 * n + 250 by omega)⟩ (rc_model hK hP) hK hP hD hS hZ rfl hl.1 rfl (Nat.le_of_ble_eq_true rfl) ⟨Nat.zero_le _, Nat.zero_le _⟩ dX12_operand_114 (fun r_60 wr_60 => ?_)
              have wr_60_0 : (o_u16_50.toInt < (u 15).toInt ∧ r_60.toInt = ((b 14) o_u16_50.toNatClampNeg).toInt) ∨ ((u 15).toInt ≤ o_u16_50.toInt ∧ r_60.toInt = -1) := wr_60
              refine lv_bipush (v := 41) hx hb dX12_operand_117 (by decide) ?_
              refine lv_icmp_eq (tgt := 127) hx hb dX12_operand_119 (by decide) (fun c_61 => ?_) (fun c_61 => ?_)
              ·
                have kc_61 : r_60.toInt = (41 : Int) := i_eq c_61
                refine lv_aload_n hx hb dX12_operand_127 rfl (lv_at hl 1 rfl) ?_
                refine lv_dup hx hb dX12_operand_128 rfl ?_
                refine gr_here hx hb hg hown hK hP (x := o_u16_50) rfl (hg _ q5_8) dX12_operand_129 ?_
                refine lv_iconst (v := 1) hx hb dX12_operand_132 (by decide) ?_
                refine lv_iadd hx hb dX12_operand_133 ?_
                refine lv_topi (fun x_62 ex_62 => ?_)
                have fx_62 : x_62.toInt = o_u16_50.toInt + (1 : Int) := by rw [ex_62]; exact i_add (by first | omega | (show (_ : Int) ≤ o_u16_50.toInt + (1 : Int); omega)) (by first | omega | (show o_u16_50.toInt + (1 : Int) ≤ (_ : Int); omega))
                refine pr_here hx hb hg hown hK hP hD hS (hg _ q5_8) dX12_operand_134 (fun H locs hP hD hS => ?_)
                refine lv_aload_n hx hb dX12_operand_137 rfl (lv_at hl 1 rfl) ?_
                refine lv_dup hx hb dX12_operand_138 rfl ?_
                refine gr_open hx hb hg hown hK hP (x := o_u18_52) rfl (hg _ q5_10) dX12_operand_139 ?_
                refine lv_iconst (v := 1) hx hb dX12_operand_142 (by decide) ?_
                refine lv_isub hx hb dX12_operand_143 ?_
                refine lv_topi (fun x_63 ex_63 => ?_)
                have fx_63 : x_63.toInt = o_u18_52.toInt - (1 : Int) := by rw [ex_63]; exact i_sub (by first | omega | (show (_ : Int) ≤ o_u18_52.toInt - (1 : Int); omega)) (by first | omega | (show o_u18_52.toInt - (1 : Int) ≤ (_ : Int); omega))
                refine pr_open hx hb hg hown hK hP hD hS (hg _ q5_10) dX12_operand_144 (fun H locs hP hD hS => ?_)
                refine lv_goto (tgt := 154) hx hb dX12_operand_147 (by decide) ?_
                have hP : va_P D vwCl (RW cs bd (va_up (va_up (va_up (va_up u 16 x_62) 17 o_u17_51) 18 x_63) 19 o_u19_53) (va_up (va_up b 20 o_b20_54) 21 o_b21_55) bw) _ := hP
                have hD : va_D A (RW cs bd (va_up (va_up (va_up (va_up u 16 x_62) 17 o_u17_51) 18 x_63) 19 o_u19_53) (va_up (va_up b 20 o_b20_54) 21 o_b21_55) bw) := hD
                exact W.vret hx hb hr (fun tt ht hW => ⟨⟨⟨x_62, o_u17_51, x_63, o_u19_53, o_b20_54, o_b21_55⟩, rfl, ⟨(by first | rfl | omega | trivial | assumption | (dsimp only; first | omega | assumption)), (by first | rfl | omega | trivial | assumption | (dsimp only; first | omega | assumption)), (by first | rfl | omega | trivial | assumption | (dsimp only; first | omega | assumption)), (by first | rfl | omega | trivial | assumption | (dsimp only; first | omega | assumption)), (by first | rfl | omega | trivial | assumption | (dsimp only; first | omega | assumption)), (by first | rfl | omega | trivial | assumption | (dsimp only; first | omega | assumption)), hA_57, hA_58, (fun hq => wr_49_8 (by first | omega | (dsimp only at hq; omega))), wr_49_9⟩, by rw [ht]; exact hP, hD⟩, hS.F ht⟩) hS.2.2 dX12_operand_154
              ·
                have kc_61 : r_60.toInt ≠ (41 : Int) := i_ne c_61
                refine lv_aload_n hx hb dX12_operand_122 rfl (lv_at hl 1 rfl) ?_
                refine cV_v (As := []) (rest := []) ⟨hx, hb, hml, hown, hg⟩ (k_X12_wrong l D cs A bd (va_up (va_up (va_up (va_up u 16 o_u16_50) 17 o_u17_51) 18 o_u18_52) 19 o_u19_53) (va_up (va_up b 20 o_b20_54) 21 o_b21_55) bw   ) ca_X12_wrong q6_81 ⟨rfl, rfl⟩ ⟨(show 0 + 1 ≤ 10 * n + 6 by omega), (show 8 + (1 + 11) + (0) ≤ 300 * n + 250 by omega)⟩ (rc_model hK hP) hK hP hD hS hZ rfl hl.1 rfl (Nat.le_of_ble_eq_true rfl) ⟨Nat.zero_le _, Nat.zero_le _⟩ dX12_operand_123 (fun o_u17_65 H locs wr_64 hP hD hS => ?_)
                have hP : va_P D vwCl (RW cs bd (va_up (va_up (va_up (va_up u 16 o_u16_50) 18 o_u18_52) 19 o_u19_53) 17 o_u17_65) (va_up (va_up b 20 o_b20_54) 21 o_b21_55) bw) H := hP
                have hD : va_D A (RW cs bd (va_up (va_up (va_up (va_up u 16 o_u16_50) 18 o_u18_52) 19 o_u19_53) 17 o_u17_65) (va_up (va_up b 20 o_b20_54) 21 o_b21_55) bw) := hD
                have wr_64_0 : (o_u17_51.toInt < 0 ∧ o_u17_65.toInt = o_u16_50.toInt) ∨ (0 ≤ o_u17_51.toInt ∧ o_u17_65.toInt = o_u17_51.toInt) := wr_64
                have hP : va_P D vwCl (RW cs bd (va_up (va_up (va_up (va_up u 16 o_u16_50) 17 o_u17_65) 18 o_u18_52) 19 o_u19_53) (va_up (va_up b 20 o_b20_54) 21 o_b21_55) bw) _ := hP
                have hD : va_D A (RW cs bd (va_up (va_up (va_up (va_up u 16 o_u16_50) 17 o_u17_65) 18 o_u18_52) 19 o_u19_53) (va_up (va_up b 20 o_b20_54) 21 o_b21_55) bw) := hD
                exact W.vret hx hb hr (fun tt ht hW => ⟨⟨⟨o_u16_50, o_u17_65, o_u18_52, o_u19_53, o_b20_54, o_b21_55⟩, rfl, ⟨(by first | rfl | omega | trivial | assumption | (dsimp only; first | omega | assumption)), (by first | rfl | omega | trivial | assumption | (dsimp only; first | omega | assumption)), (by first | rfl | omega | trivial | assumption | (dsimp only; first | omega | assumption)), (by first | rfl | omega | trivial | assumption | (dsimp only; first | omega | assumption)), (by first | rfl | omega | trivial | assumption | (dsimp only; first | omega | assumption)), (by first | rfl | omega | trivial | assumption | (dsimp only; first | omega | assumption)), hA_57, hA_58, (fun hq => wr_49_8 (by first | omega | (dsimp only at hq; omega))), wr_49_9⟩, by rw [ht]; exact hP, hD⟩, hS.F ht⟩) hS.2.2 dX12_operand_126
            ·
              have kc_59 : (0 : Int) ≤ o_u17_51.toInt := i_nlt c_59
              exact W.vret hx hb hr (fun tt ht hW => ⟨⟨⟨o_u16_50, o_u17_51, o_u18_52, o_u19_53, o_b20_54, o_b21_55⟩, rfl, ⟨(by first | rfl | omega | trivial | assumption | (dsimp only; first | omega | assumption)), (by first | rfl | omega | trivial | assumption | (dsimp only; first | omega | assumption)), (by first | rfl | omega | trivial | assumption | (dsimp only; first | omega | assumption)), (by first | rfl | omega | trivial | assumption | (dsimp only; first | omega | assumption)), (by first | rfl | omega | trivial | assumption | (dsimp only; first | omega | assumption)), (by first | rfl | omega | trivial | assumption | (dsimp only; first | omega | assumption)), hA_57, hA_58, (fun hq => wr_49_8 (by first | omega | (dsimp only at hq; omega))), wr_49_9⟩, by rw [ht]; exact hP, hD⟩, hS.F ht⟩) hS.2.2 dX12_operand_112
          ·
            have kc_48 : r_43.toInt = (0 : Int) := i_eq c_48
            have hP : va_P D vwCl (RW cs bd (va_up (va_up (va_up (va_up u 16 o_u16_45) 17 o_u17_46) 18 o_u18_44) 19 (u 19)) (va_up (va_up b 20 (b 20)) 21 (b 21)) bw) _ := hP
            have hD : va_D A (RW cs bd (va_up (va_up (va_up (va_up u 16 o_u16_45) 17 o_u17_46) 18 o_u18_44) 19 (u 19)) (va_up (va_up b 20 (b 20)) 21 (b 21)) bw) := hD
            exact W.vret hx hb hr (fun tt ht hW => ⟨⟨⟨o_u16_45, o_u17_46, o_u18_44, (u 19), (b 20), (b 21)⟩, rfl, ⟨(by first | rfl | omega | trivial | assumption | (dsimp only; first | omega | assumption)), (by first | rfl | omega | trivial | assumption | (dsimp only; first | omega | assumption)), (by first | rfl | omega | trivial | assumption | (dsimp only; first | omega | assumption)), (by first | rfl | omega | trivial | assumption | (dsimp only; first | omega | assumption)), (by first | rfl | omega | trivial | assumption | (dsimp only; first | omega | assumption)), (by first | rfl | omega | trivial | assumption | (dsimp only; first | omega | assumption)), FRM_refl, FRM_refl, (fun hq => absurd hq (by first | omega | (dsimp only; omega))), ib20_0⟩, by rw [ht]; exact hP, hD⟩, hS.F ht⟩) hS.2.2 dX12_operand_100
      ·
        have kc_31 : r_1.toInt = (45 : Int) := i_eq c_31
        refine lv_aload_n hx hb dX12_operand_46 rfl (lv_at hl 1 rfl) ?_
        refine cV_i (As := []) (rest := []) ⟨hx, hb, hml, hown, hg⟩ (k_X12_opens l D cs A bd u b bw   (show (u 17).toInt = -1 by first | omega | decide) (show 0 ≤ (u 16).toInt by first | omega | decide) (show (u 16).toInt ≤ (u 15).toInt by first | omega | decide) (show 0 ≤ (u 19).toInt by first | omega | decide) (show (u 19).toInt ≤ (u 16).toInt by first | omega | decide) (show 0 ≤ (u 18).toInt by first | omega | decide) (show (u 18).toInt ≤ 6 by first | omega | decide) (show (u 16).toInt < (u 15).toInt by first | omega | decide) (show (u 15).toInt ≤ 120 by first | omega | decide)) ca_X12_opens q6_77 ⟨rfl, rfl⟩ ⟨(show 1 + 1 ≤ 10 * n + 6 by omega), (show 8 + (1 + 11) + (20) ≤ 300 * n + 250 by omega)⟩ (rc_model hK hP) hK hP hD hS hZ rfl hl.1 rfl (Nat.le_of_ble_eq_true rfl) ⟨Nat.zero_le _, Nat.zero_le _⟩ dX12_operand_47 (fun r_66 z_70 H locs wr_66 hP hD hS => ?_)
        obtain ⟨o_u18_67, o_u16_68, o_u17_69⟩ := z_70
        have hP : va_P D vwCl (RW cs bd (va_up (va_up (va_up u 18 o_u18_67) 16 o_u16_68) 17 o_u17_69) b bw) H := hP
        have hD : va_D A (RW cs bd (va_up (va_up (va_up u 18 o_u18_67) 16 o_u16_68) 17 o_u17_69) b bw) := hD
        have wr_66_0 : (r_66.toInt = 1 ∧ o_u18_67.toInt = (u 18).toInt + 1 ∧ o_u16_68.toInt = (u 16).toInt + 1 ∧ o_u17_69.toInt = -1 ∧ o_u18_67.toInt ≤ 6) ∨ (r_66.toInt = 0 ∧ 0 ≤ o_u17_69.toInt ∧ o_u18_67.toInt = (u 18).toInt ∧ o_u16_68.toInt = (u 16).toInt) := wr_66
        refine lv_if_ne (tgt := 54) hx hb dX12_operand_50 (by decide) (fun c_71 => ?_) (fun c_71 => ?_)
        ·
          have kc_71 : r_66.toInt ≠ (0 : Int) := i_ne c_71
          refine lv_aload_n hx hb dX12_operand_54 rfl (lv_at hl 1 rfl) ?_
          refine cV_v (As := []) (rest := []) ⟨hx, hb, hml, hown, hg⟩ ((hO (n - 1) (by omega)) l D cs A bd (va_up (va_up (va_up u 18 o_u18_67) 16 o_u16_68) 17 o_u17_69) b bw   (show o_u17_69.toInt = -1 by first | omega | decide) (show 0 ≤ o_u16_68.toInt by first | omega | decide) (show o_u16_68.toInt ≤ (u 15).toInt by first | omega | decide) (show 0 ≤ (u 19).toInt by first | omega | decide) (show (u 19).toInt ≤ o_u16_68.toInt by first | omega | decide) (show 0 ≤ o_u18_67.toInt by first | omega | decide) (show o_u18_67.toInt ≤ 6 by first | omega | decide) (show 6 ≤ o_u18_67.toInt + ((n - 1 : Nat) : Int) by first | omega | decide) (show 0 ≤ (u 15).toInt by first | omega | decide) (show (u 15).toInt ≤ 120 by first | omega | decide) ib20_0) ca_X12_operand q6_62 ⟨rfl, rfl⟩ ⟨(show 10 * (n - 1) + 6 + 1 ≤ 10 * n + 6 by omega), (show 8 + (2 + 11) + (300 * (n - 1) + 250) ≤ 300 * n + 250 by omega)⟩ (rc_model hK hP) hK hP hD hS hZ rfl hl.1 rfl (Nat.le_of_ble_eq_true rfl) ⟨Nat.zero_le _, Nat.zero_le _⟩ dX12_operand_55 (fun z_79 H locs wr_72 hP hD hS => ?_)
          obtain ⟨o_u16_73, o_u17_74, o_u18_75, o_u19_76, o_b20_77, o_b21_78⟩ := z_79
          have hP : va_P D vwCl (RW cs bd (va_up (va_up (va_up (va_up u 16 o_u16_73) 17 o_u17_74) 18 o_u18_75) 19 o_u19_76) (va_up (va_up b 20 o_b20_77) 21 o_b21_78) bw) H := hP
          have hD : va_D A (RW cs bd (va_up (va_up (va_up (va_up u 16 o_u16_73) 17 o_u17_74) 18 o_u18_75) 19 o_u19_76) (va_up (va_up b 20 o_b20_77) 21 o_b21_78) bw) := hD
          obtain ⟨wr_72_0, wr_72_1, wr_72_2, wr_72_3, wr_72_4, wr_72_5, wr_72_6, wr_72_7, wr_72_8, wr_72_9⟩ : ((o_u17_74.toInt = -1 ∧ o_u18_75.toInt = o_u18_67.toInt ∧ o_u16_68.toInt < o_u16_73.toInt ∧ o_u19_76.toInt - (u 19).toInt ≤ o_u16_73.toInt - o_u16_68.toInt) ∨ (0 ≤ o_u17_74.toInt ∧ o_u19_76.toInt - (u 19).toInt ≤ o_u16_73.toInt - o_u16_68.toInt + 1)) ∧ (o_u16_68.toInt ≤ o_u16_73.toInt) ∧ (o_u16_73.toInt ≤ (u 15).toInt) ∧ (o_u18_67.toInt ≤ o_u18_75.toInt) ∧ (o_u18_75.toInt ≤ 6) ∧ ((u 19).toInt ≤ o_u19_76.toInt) ∧ (FRM (130 + (u 19).toInt.toNat) (b 20) o_b20_77) ∧ (FRM (130 + (u 19).toInt.toNat) (b 21) o_b21_78) ∧ (o_u17_74.toInt = -1 → SEGI o_b20_77 o_b21_78 (130 + (u 19).toInt.toNat) (130 + o_u19_76.toInt.toNat)) ∧ (AB (-128) 127 o_b20_77) := wr_72
          have hA_80 : FRM (130 + (u 19).toInt.toNat) (b 20) o_b20_77 := FRM_trans FRM_refl wr_72_6 (by omega)
          have hA_81 : FRM (130 + (u 19).toInt.toNat) (b 21) o_b21_78 := FRM_trans FRM_refl wr_72_7 (by omega)
          refine lv_aload_n hx hb dX12_operand_58 rfl (lv_at hl 1 rfl) ?_
          refine lv_dup hx hb dX12_operand_59 rfl ?_
          refine gr_open hx hb hg hown hK hP (x := o_u18_75) rfl (hg _ q5_10) dX12_operand_60 ?_
          refine lv_iconst (v := 1) hx hb dX12_operand_63 (by decide) ?_
          refine lv_isub hx hb dX12_operand_64 ?_
          refine lv_topi (fun x_82 ex_82 => ?_)
          have fx_82 : x_82.toInt = o_u18_75.toInt - (1 : Int) := by rw [ex_82]; exact i_sub (by first | omega | (show (_ : Int) ≤ o_u18_75.toInt - (1 : Int); omega)) (by first | omega | (show o_u18_75.toInt - (1 : Int) ≤ (_ : Int); omega))
          refine pr_open hx hb hg hown hK hP hD hS (hg _ q5_10) dX12_operand_65 (fun H locs hP hD hS => ?_)
          refine lv_aload_n hx hb dX12_operand_68 rfl (lv_at hl 1 rfl) ?_
          refine lv_iload_n hx hb dX12_operand_69 rfl (lv_at hl 0 rfl) ?_
          refine lv_bipush (v := 33) hx hb dX12_operand_70 (by decide) ?_
          refine lv_icmp_ne (tgt := 79) hx hb dX12_operand_72 (by decide) (fun c_83 => ?_) (fun c_83 => ?_)
          ·
            have kc_83 : r_1.toInt ≠ (33 : Int) := i_ne c_83
            refine lv_iconst (v := 4) hx hb dX12_operand_79 (by decide) ?_
            refine lv_iconst (v := 0) hx hb dX12_operand_80 (by decide) ?_
            refine cV_v (As := [.int 4, .int 0]) (rest := []) ⟨hx, hb, hml, hown, hg⟩ (k_X12_addStep l D cs A bd (va_up (va_up (va_up (va_up u 16 o_u16_73) 17 o_u17_74) 19 o_u19_76) 18 x_82) (va_up (va_up b 20 o_b20_77) 21 o_b21_78) bw  4 0 (show 0 ≤ o_u19_76.toInt by first | omega | decide) (show o_u19_76.toInt ≤ 129 by first | omega | decide) (show -128 ≤ (4 : Int) by first | omega | decide) (show (4 : Int) ≤ 127 by first | omega | decide) wr_72_9) ca_X12_addStep q6_73 ⟨rfl, rfl⟩ ⟨(show 0 + 1 ≤ 10 * n + 6 by omega), (show 8 + (3 + 11) + (0) ≤ 300 * n + 250 by omega)⟩ (rc_model hK hP) hK hP hD hS hZ rfl hl.1 rfl (Nat.le_of_ble_eq_true rfl) ⟨Nat.zero_le _, Nat.zero_le _⟩ dX12_operand_81 (fun z_88 H locs wr_84 hP hD hS => ?_)
            obtain ⟨o_u19_85, o_b20_86, o_b21_87⟩ := z_88
            have hP : va_P D vwCl (RW cs bd (va_up (va_up (va_up (va_up u 16 o_u16_73) 17 o_u17_74) 18 x_82) 19 o_u19_85) (va_up (va_up b 20 o_b20_86) 21 o_b21_87) bw) H := hP
            have hD : va_D A (RW cs bd (va_up (va_up (va_up (va_up u 16 o_u16_73) 17 o_u17_74) 18 x_82) 19 o_u19_85) (va_up (va_up b 20 o_b20_86) 21 o_b21_87) bw) := hD
            obtain ⟨wr_84_0, wr_84_1, wr_84_2, wr_84_3, wr_84_4, wr_84_5⟩ : (o_u19_85.toInt = o_u19_76.toInt + 1) ∧ (FRM (130 + o_u19_76.toInt.toNat) o_b20_77 o_b20_86) ∧ (FRM (130 + o_u19_76.toInt.toNat) o_b21_78 o_b21_87) ∧ ((o_b20_86 (130 + o_u19_76.toInt.toNat)).toInt = (4 : Int)) ∧ ((o_b21_87 (130 + o_u19_76.toInt.toNat)).toInt = (0 : Int)) ∧ (AB (-128) 127 o_b20_86) := wr_84
            have hA_89 : FRM (130 + (u 19).toInt.toNat) (b 20) o_b20_86 := FRM_trans hA_80 wr_84_1 (by omega)
            have hA_90 : FRM (130 + (u 19).toInt.toNat) (b 21) o_b21_87 := FRM_trans hA_81 wr_84_2 (by omega)
            have hsg_91 : o_u17_74.toInt = -1 → SEGI o_b20_86 o_b21_87 (130 + (u 19).toInt.toNat) (130 + o_u19_85.toInt.toNat) := fun hq => SEG_un (SEG_frm (wr_72_8 (by omega)) wr_84_1 wr_84_2 (by omega)) (by omega) (by omega)
            refine lv_goto (tgt := 154) hx hb dX12_operand_84 (by decide) ?_
            exact W.vret hx hb hr (fun tt ht hW => ⟨⟨⟨o_u16_73, o_u17_74, x_82, o_u19_85, o_b20_86, o_b21_87⟩, rfl, ⟨(by first | rfl | omega | trivial | assumption | (dsimp only; first | omega | assumption)), (by first | rfl | omega | trivial | assumption | (dsimp only; first | omega | assumption)), (by first | rfl | omega | trivial | assumption | (dsimp only; first | omega | assumption)), (by first | rfl | omega | trivial | assumption | (dsimp only; first | omega | assumption)), (by first | rfl | omega | trivial | assumption | (dsimp only; first | omega | assumption)), (by first | rfl | omega | trivial | assumption | (dsimp only; first | omega | assumption)), hA_89, hA_90, hsg_91, wr_84_5⟩, by rw [ht]; exact hP, hD⟩, hS.F ht⟩) hS.2.2 dX12_operand_154
          ·
            have kc_83 : r_1.toInt = (33 : Int) := i_eq c_83
            exfalso; omega
        ·
          have kc_71 : r_66.toInt = (0 : Int) := i_eq c_71
          have hP : va_P D vwCl (RW cs bd (va_up (va_up (va_up (va_up u 16 o_u16_68) 17 o_u17_69) 18 o_u18_67) 19 (u 19)) (va_up (va_up b 20 (b 20)) 21 (b 21)) bw) _ := hP
          have hD : va_D A (RW cs bd (va_up (va_up (va_up (va_up u 16 o_u16_68) 17 o_u17_69) 18 o_u18_67) 19 (u 19)) (va_up (va_up b 20 (b 20)) 21 (b 21)) bw) := hD
          exact W.vret hx hb hr (fun tt ht hW => ⟨⟨⟨o_u16_68, o_u17_69, o_u18_67, (u 19), (b 20), (b 21)⟩, rfl, ⟨(by first | rfl | omega | trivial | assumption | (dsimp only; first | omega | assumption)), (by first | rfl | omega | trivial | assumption | (dsimp only; first | omega | assumption)), (by first | rfl | omega | trivial | assumption | (dsimp only; first | omega | assumption)), (by first | rfl | omega | trivial | assumption | (dsimp only; first | omega | assumption)), (by first | rfl | omega | trivial | assumption | (dsimp only; first | omega | assumption)), (by first | rfl | omega | trivial | assumption | (dsimp only; first | omega | assumption)), FRM_refl, FRM_refl, (fun hq => absurd hq (by first | omega | (dsimp only; omega))), ib20_0⟩, by rw [ht]; exact hP, hD⟩, hS.F ht⟩) hS.2.2 dX12_operand_53
  ·
    have kc_3 : (0 : Int) ≤ r_2.toInt := i_nlt c_3
    refine lv_aload_n hx hb dX12_operand_12 rfl (lv_at hl 1 rfl) ?_
    refine lv_iconst (v := 2) hx hb dX12_operand_13 (by decide) ?_
    refine lv_iload_n hx hb dX12_operand_14 rfl (lv_at hl 0 rfl) ?_
    refine cS_p (As := [.int r_1]) (rest := [.int 2, .ref (bd 0)]) ⟨hx, hb, hml, hown, hg⟩ (k_X12_nameOf l   r_1 ) ca_X12_nameOf q6_70 ⟨rfl, rfl⟩ ⟨(show 0 + 1 ≤ 10 * n + 6 by omega), (show 8 + (1 + 11) + (0) ≤ 300 * n + 250 by omega)⟩ rfl hl.1 rfl (Nat.le_of_ble_eq_true rfl) ⟨Nat.zero_le _, Nat.zero_le _⟩ dX12_operand_15 (fun r_92 wr_92 => ?_)
    have wr_92 : (r_1.toInt = 99 ∧ r_92.toInt = 0) ∨ (r_1.toInt = 103 ∧ r_92.toInt = 1) ∨ (r_1.toInt = 100 ∧ r_92.toInt = 2) ∨ (r_1.toInt = 104 ∧ r_92.toInt = 3) ∨ (r_1.toInt = 110 ∧ r_92.toInt = 4) ∨ (r_1.toInt = 107 ∧ r_92.toInt = 5) ∨ ((r_1.toInt ≠ 99 ∧ r_1.toInt ≠ 103 ∧ r_1.toInt ≠ 100 ∧ r_1.toInt ≠ 104 ∧ r_1.toInt ≠ 110 ∧ r_1.toInt ≠ 107) ∧ r_92.toInt = -1) := wr_92
    refine cV_v (As := [.int 2, .int r_92]) (rest := []) ⟨hx, hb, hml, hown, hg⟩ (k_X12_addStep l D cs A bd u b bw  2 r_92 (show 0 ≤ (u 19).toInt by first | omega | decide) (show (u 19).toInt ≤ 129 by first | omega | decide) (show -128 ≤ (2 : Int) by first | omega | decide) (show (2 : Int) ≤ 127 by first | omega | decide) ib20_0) ca_X12_addStep q6_73 ⟨rfl, rfl⟩ ⟨(show 0 + 1 ≤ 10 * n + 6 by omega), (show 8 + (3 + 11) + (0) ≤ 300 * n + 250 by omega)⟩ (rc_model hK hP) hK hP hD hS hZ rfl hl.1 rfl (Nat.le_of_ble_eq_true rfl) ⟨Nat.zero_le _, Nat.zero_le _⟩ dX12_operand_18 (fun z_97 H locs wr_93 hP hD hS => ?_)
    obtain ⟨o_u19_94, o_b20_95, o_b21_96⟩ := z_97
    have hP : va_P D vwCl (RW cs bd (va_up u 19 o_u19_94) (va_up (va_up b 20 o_b20_95) 21 o_b21_96) bw) H := hP
    have hD : va_D A (RW cs bd (va_up u 19 o_u19_94) (va_up (va_up b 20 o_b20_95) 21 o_b21_96) bw) := hD
    obtain ⟨wr_93_0, wr_93_1, wr_93_2, wr_93_3, wr_93_4, wr_93_5⟩ : (o_u19_94.toInt = (u 19).toInt + 1) ∧ (FRM (130 + (u 19).toInt.toNat) (b 20) o_b20_95) ∧ (FRM (130 + (u 19).toInt.toNat) (b 21) o_b21_96) ∧ ((o_b20_95 (130 + (u 19).toInt.toNat)).toInt = (2 : Int)) ∧ ((o_b21_96 (130 + (u 19).toInt.toNat)).toInt = r_92.toInt) ∧ (AB (-128) 127 o_b20_95) := wr_93
    have hA_98 : FRM (130 + (u 19).toInt.toNat) (b 20) o_b20_95 := FRM_trans FRM_refl wr_93_1 (by omega)
    have hA_99 : FRM (130 + (u 19).toInt.toNat) (b 21) o_b21_96 := FRM_trans FRM_refl wr_93_2 (by omega)
    have hsg_100 : (u 17).toInt = -1 → SEGI o_b20_95 o_b21_96 (130 + (u 19).toInt.toNat) (130 + o_u19_94.toInt.toNat) := fun hq => SEG_push (by omega) (by omega)
    refine lv_aload_n hx hb dX12_operand_21 rfl (lv_at hl 1 rfl) ?_
    refine lv_dup hx hb dX12_operand_22 rfl ?_
    refine gr_here hx hb hg hown hK hP (x := (u 16)) rfl (hg _ q5_8) dX12_operand_23 ?_
    refine lv_iconst (v := 1) hx hb dX12_operand_26 (by decide) ?_
    refine lv_iadd hx hb dX12_operand_27 ?_
    refine lv_topi (fun x_101 ex_101 => ?_)
    have fx_101 : x_101.toInt = (u 16).toInt + (1 : Int) := by rw [ex_101]; exact i_add (by first | omega | (show (_ : Int) ≤ (u 16).toInt + (1 : Int); omega)) (by first | omega | (show (u 16).toInt + (1 : Int) ≤ (_ : Int); omega))
    refine pr_here hx hb hg hown hK hP hD hS (hg _ q5_8) dX12_operand_28 (fun H locs hP hD hS => ?_)
    refine lv_goto (tgt := 154) hx hb dX12_operand_31 (by decide) ?_
    have hP : va_P D vwCl (RW cs bd (va_up (va_up (va_up (va_up u 16 x_101) 17 (u 17)) 18 (u 18)) 19 o_u19_94) (va_up (va_up b 20 o_b20_95) 21 o_b21_96) bw) _ := hP
    have hD : va_D A (RW cs bd (va_up (va_up (va_up (va_up u 16 x_101) 17 (u 17)) 18 (u 18)) 19 o_u19_94) (va_up (va_up b 20 o_b20_95) 21 o_b21_96) bw) := hD
    exact W.vret hx hb hr (fun tt ht hW => ⟨⟨⟨x_101, (u 17), (u 18), o_u19_94, o_b20_95, o_b21_96⟩, rfl, ⟨(by first | rfl | omega | trivial | assumption | (dsimp only; first | omega | assumption)), (by first | rfl | omega | trivial | assumption | (dsimp only; first | omega | assumption)), (by first | rfl | omega | trivial | assumption | (dsimp only; first | omega | assumption)), (by first | rfl | omega | trivial | assumption | (dsimp only; first | omega | assumption)), (by first | rfl | omega | trivial | assumption | (dsimp only; first | omega | assumption)), (by first | rfl | omega | trivial | assumption | (dsimp only; first | omega | assumption)), hA_98, hA_99, hsg_100, wr_93_5⟩, by rw [ht]; exact hP, hD⟩, hS.F ht⟩) hS.2.2 dX12_operand_154
set_option maxHeartbeats 4000000 in
set_option maxRecDepth 100000 in
theorem s_X12_product (n : Nat) (h1n : C_X12_operand n) : C_X12_product n := by
  intro l D cs A bd u b bw hT hh0 hh1 hL0 hL1 ho0 ho6 hon iu15_0 iu15_1 ib20_0
  refine Met.ofW (cc := cX12_product) (maxL := 2) (ret := none) (by decide) rfl ?_
  intro p e s m args below meth c s₁ B hml hv
  obtain ⟨rfl, hP, hK, hD, hZ⟩ := hv
  have hx := B.exec
  have hb := B.bytes
  have hr := B.returns
  have hts := atoms_spec (ws := (Cond.code yX12_product cX12_product 2 none :: gw)) B.pre
  have hg : ∀ w ∈ gw, w.before ([.ref (bd 0)] : List Value).toArray s = true := fun w h => hts w (List.mem_cons_of_mem _ h)
  have hown : s.vm.findClass RX12 = some m.cls := findClass_of_methodNamed B.named
  have hlocks := B.notSynchronized
  have hS : va_S A s.heap s.heap [] := va_S.rf
  have hP : va_P D vwCl (RW cs bd u b bw) s.heap := hP
  have hl := lv_entry ([.ref (bd 0)]) (n := 2) (Nat.le_of_ble_eq_true rfl)
  rw [lg_entry_eq]
  generalize (lg_sl ([.ref (bd 0)]) ++ List.replicate (2 - (lg_sl ([.ref (bd 0)])).length) Slot.unset).toArray = ls at hl ⊢
  have hl : lv_has ls 2 [(0, .ref (bd 0))] := hl
  have hcut : ∀ nk : Nat, (∀ (c4_u16 : Int32) (c4_u17 : Int32) (c4_u18 : Int32) (c4_u19 : Int32) (c4_b20 : Nat → Int32) (c4_b21 : Nat → Int32) (H : Heap) (locs : List Loc) (jq0 : (c4_u17.toInt = -1 ∧ c4_u18.toInt = (u 18).toInt ∧ (u 16).toInt < c4_u16.toInt ∧ c4_u19.toInt - (u 19).toInt ≤ c4_u16.toInt - (u 16).toInt) ∨ (0 ≤ c4_u17.toInt ∧ c4_u19.toInt - (u 19).toInt ≤ c4_u16.toInt - (u 16).toInt + 1)) (jq1 : (u 16).toInt ≤ c4_u16.toInt) (jq2 : c4_u16.toInt ≤ (u 15).toInt) (jq3 : (u 18).toInt ≤ c4_u18.toInt) (jq4 : c4_u18.toInt ≤ 6) (jq5 : (u 19).toInt ≤ c4_u19.toInt) (jq6 : FRM (130 + (u 19).toInt.toNat) (b 20) c4_b20) (jq7 : FRM (130 + (u 19).toInt.toNat) (b 21) c4_b21) (jq8 : c4_u17.toInt = -1 → SEGI c4_b20 c4_b21 (130 + (u 19).toInt.toNat) (130 + c4_u19.toInt.toNat)) (jb20_0 : AB (-128) 127 c4_b20) (hmu : ((u 15).toInt - c4_u16.toInt).toNat < nk) (hP : va_P D vwCl (RW cs bd (va_up (va_up (va_up (va_up u 16 c4_u16) 17 c4_u17) 18 c4_u18) 19 c4_u19) (va_up (va_up b 20 c4_b20) 21 c4_b21) bw) H) (hD : va_D A (RW cs bd (va_up (va_up (va_up (va_up u 16 c4_u16) 17 c4_u17) 18 c4_u18) 19 c4_u19) (va_up (va_up b 20 c4_b20) 21 c4_b21) bw)) (hS : va_S A s.heap H locs) (ls : Array Slot) (hl : lv_has ls 2 [(0, .ref (bd 0))]), W p l e (headSpec (Cond.code yX12_product cX12_product 2 none :: gw) ({ frames := 10 * n + 7, cells := 0, slots := 0, locals := 300 * n + 280 })).room s m ([.ref (bd 0)] : List Value).toArray below meth c H locs 0 0 (MQ below (va_Qv (fun (z : Int32 × Int32 × Int32 × Int32 × (Nat → Int32) × (Nat → Int32)) => ((z.2.1.toInt = -1 ∧ z.2.2.1.toInt = (u 18).toInt ∧ (u 16).toInt < z.1.toInt ∧ z.2.2.2.1.toInt - (u 19).toInt ≤ z.1.toInt - (u 16).toInt) ∨ (0 ≤ z.2.1.toInt ∧ z.2.2.2.1.toInt - (u 19).toInt ≤ z.1.toInt - (u 16).toInt + 1)) ∧ ((u 16).toInt ≤ z.1.toInt) ∧ (z.1.toInt ≤ (u 15).toInt) ∧ ((u 18).toInt ≤ z.2.2.1.toInt) ∧ (z.2.2.1.toInt ≤ 6) ∧ ((u 19).toInt ≤ z.2.2.2.1.toInt) ∧ (FRM (130 + (u 19).toInt.toNat) (b 20) z.2.2.2.2.1) ∧ (FRM (130 + (u 19).toInt.toNat) (b 21) z.2.2.2.2.2) ∧ (z.2.1.toInt = -1 → SEGI z.2.2.2.2.1 z.2.2.2.2.2 (130 + (u 19).toInt.toNat) (130 + z.2.2.2.1.toInt.toNat)) ∧ (AB (-128) 127 z.2.2.2.2.1)) (XPo D (fun (z : Int32 × Int32 × Int32 × Int32 × (Nat → Int32) × (Nat → Int32)) => RW cs bd (va_up (va_up (va_up (va_up u 16 z.1) 17 z.2.1) 18 z.2.2.1) 19 z.2.2.2.1) (va_up (va_up b 20 z.2.2.2.2.1) 21 z.2.2.2.2.2) bw) A) A) ([.ref (bd 0)] : List Value).toArray s 0 0 A) (F0 m 4 ls [])) := by
    intro nk
    induction nk with
    | zero => exact (fun c4_u16 c4_u17 c4_u18 c4_u19 c4_b20 c4_b21 H locs jq0 jq1 jq2 jq3 jq4 jq5 jq6 jq7 jq8 jb20_0 hmu hP hD hS ls hl => absurd hmu (Nat.not_lt_zero _))
    | succ nk ih =>
      intro c4_u16 c4_u17 c4_u18 c4_u19 c4_b20 c4_b21 H locs jq0 jq1 jq2 jq3 jq4 jq5 jq6 jq7 jq8 jb20_0 hmu hP hD hS ls hl
      refine lv_aload_n hx hb dX12_product_4 rfl (lv_at hl 0 rfl) ?_
      refine gr_fault hx hb hg hown hK hP (x := c4_u17) rfl (hg _ q5_9) dX12_product_5 ?_
      refine lv_if_ge (tgt := 66) hx hb dX12_product_8 (by decide) (fun c_1 => ?_) (fun c_1 => ?_)
      ·
        have kc_1 : (0 : Int) ≤ c4_u17.toInt := i_le c_1
        exact W.vret hx hb hr (fun tt ht hW => ⟨⟨⟨c4_u16, c4_u17, c4_u18, c4_u19, c4_b20, c4_b21⟩, rfl, ⟨(by first | rfl | omega | trivial | assumption | (dsimp only; first | omega | assumption)), (by first | rfl | omega | trivial | assumption | (dsimp only; first | omega | assumption)), (by first | rfl | omega | trivial | assumption | (dsimp only; first | omega | assumption)), (by first | rfl | omega | trivial | assumption | (dsimp only; first | omega | assumption)), (by first | rfl | omega | trivial | assumption | (dsimp only; first | omega | assumption)), (by first | rfl | omega | trivial | assumption | (dsimp only; first | omega | assumption)), jq6, jq7, jq8, jb20_0⟩, by rw [ht]; exact hP, hD⟩, hS.F ht⟩) hS.2.2 dX12_product_66
      ·
        have kc_1 : c4_u17.toInt < (0 : Int) := i_nle c_1
        refine lv_aload_n hx hb dX12_product_11 rfl (lv_at hl 0 rfl) ?_
        refine cV_ro (As := []) (rest := []) ⟨hx, hb, hml, hown, hg⟩ (k_X12_look l D cs A bd (va_up (va_up (va_up (va_up u 16 c4_u16) 17 c4_u17) 18 c4_u18) 19 c4_u19) (va_up (va_up b 20 c4_b20) 21 c4_b21) bw   (show 0 ≤ c4_u16.toInt by first | omega | decide) (show 0 ≤ (u 15).toInt by first | omega | decide) (show (u 15).toInt ≤ 120 by first | omega | decide)) ca_X12_look q6_66 ⟨rfl, rfl⟩ ⟨(show 0 + 1 ≤ 10 * n + 7 by omega), (show 8 + (1 + 11) + (0) ≤ 300 * n + 280 by omega)⟩ (rc_model hK hP) hK hP hD hS hZ rfl hl.1 rfl (Nat.le_of_ble_eq_true rfl) ⟨Nat.zero_le _, Nat.zero_le _⟩ dX12_product_12 (fun r_2 wr_2 => ?_)
        have wr_2_0 : (c4_u16.toInt < (u 15).toInt ∧ r_2.toInt = ((b 14) c4_u16.toNatClampNeg).toInt) ∨ ((u 15).toInt ≤ c4_u16.toInt ∧ r_2.toInt = -1) := wr_2
        refine lv_bipush (v := 42) hx hb dX12_product_15 (by decide) ?_
        refine lv_icmp_eq (tgt := 38) hx hb dX12_product_17 (by decide) (fun c_3 => ?_) (fun c_3 => ?_)
        ·
          have kc_3 : r_2.toInt = (42 : Int) := i_eq c_3
          refine lv_aload_n hx hb dX12_product_38 rfl (lv_at hl 0 rfl) ?_
          refine cV_ro (As := []) (rest := []) ⟨hx, hb, hml, hown, hg⟩ (k_X12_look l D cs A bd (va_up (va_up (va_up (va_up u 16 c4_u16) 17 c4_u17) 18 c4_u18) 19 c4_u19) (va_up (va_up b 20 c4_b20) 21 c4_b21) bw   (show 0 ≤ c4_u16.toInt by first | omega | decide) (show 0 ≤ (u 15).toInt by first | omega | decide) (show (u 15).toInt ≤ 120 by first | omega | decide)) ca_X12_look q6_66 ⟨rfl, rfl⟩ ⟨(show 0 + 1 ≤ 10 * n + 7 by omega), (show 8 + (1 + 11) + (0) ≤ 300 * n + 280 by omega)⟩ (rc_model hK hP) hK hP hD hS hZ rfl hl.1 rfl (Nat.le_of_ble_eq_true rfl) ⟨Nat.zero_le _, Nat.zero_le _⟩ dX12_product_39 (fun r_4 wr_4 => ?_)
          have wr_4_0 : (c4_u16.toInt < (u 15).toInt ∧ r_4.toInt = ((b 14) c4_u16.toNatClampNeg).toInt) ∨ ((u 15).toInt ≤ c4_u16.toInt ∧ r_4.toInt = -1) := wr_4
          refine lv_istore_n (lv' := [(1, .int r_4), (0, .ref (bd 0))]) hx hb dX12_product_42 rfl hl (by decide) rfl (fun ls hl => ?_)
          have hs_5 := jq8 (by omega)
          refine lv_aload_n hx hb dX12_product_43 rfl (lv_at hl 1 rfl) ?_
          refine lv_dup hx hb dX12_product_44 rfl ?_
          refine gr_here hx hb hg hown hK hP (x := c4_u16) rfl (hg _ q5_8) dX12_product_45 ?_
          refine lv_iconst (v := 1) hx hb dX12_product_48 (by decide) ?_
          refine lv_iadd hx hb dX12_product_49 ?_
          refine lv_topi (fun x_6 ex_6 => ?_)
          have fx_6 : x_6.toInt = c4_u16.toInt + (1 : Int) := by rw [ex_6]; exact i_add (by first | omega | (show (_ : Int) ≤ c4_u16.toInt + (1 : Int); omega)) (by first | omega | (show c4_u16.toInt + (1 : Int) ≤ (_ : Int); omega))
          refine pr_here hx hb hg hown hK hP hD hS (hg _ q5_8) dX12_product_50 (fun H locs hP hD hS => ?_)
          refine lv_aload_n hx hb dX12_product_53 rfl (lv_at hl 1 rfl) ?_
          refine cV_v (As := []) (rest := []) ⟨hx, hb, hml, hown, hg⟩ (h1n l D cs A bd (va_up (va_up (va_up (va_up u 17 c4_u17) 18 c4_u18) 19 c4_u19) 16 x_6) (va_up (va_up b 20 c4_b20) 21 c4_b21) bw   (show c4_u17.toInt = -1 by first | omega | decide) (show 0 ≤ x_6.toInt by first | omega | decide) (show x_6.toInt ≤ (u 15).toInt by first | omega | decide) (show 0 ≤ c4_u19.toInt by first | omega | decide) (show c4_u19.toInt ≤ x_6.toInt by first | omega | decide) (show 0 ≤ c4_u18.toInt by first | omega | decide) (show c4_u18.toInt ≤ 6 by first | omega | decide) (show 6 ≤ c4_u18.toInt + (n : Int) by first | omega | decide) (show 0 ≤ (u 15).toInt by first | omega | decide) (show (u 15).toInt ≤ 120 by first | omega | decide) jb20_0) ca_X12_operand q6_62 ⟨rfl, rfl⟩ ⟨(show 10 * n + 6 + 1 ≤ 10 * n + 7 by omega), (show 8 + (2 + 11) + (300 * n + 250) ≤ 300 * n + 280 by omega)⟩ (rc_model hK hP) hK hP hD hS hZ rfl hl.1 rfl (Nat.le_of_ble_eq_true rfl) ⟨Nat.zero_le _, Nat.zero_le _⟩ dX12_product_54 (fun z_14 H locs wr_7 hP hD hS => ?_)
          obtain ⟨o_u16_8, o_u17_9, o_u18_10, o_u19_11, o_b20_12, o_b21_13⟩ := z_14
          have hP : va_P D vwCl (RW cs bd (va_up (va_up (va_up (va_up u 16 o_u16_8) 17 o_u17_9) 18 o_u18_10) 19 o_u19_11) (va_up (va_up b 20 o_b20_12) 21 o_b21_13) bw) H := hP
          have hD : va_D A (RW cs bd (va_up (va_up (va_up (va_up u 16 o_u16_8) 17 o_u17_9) 18 o_u18_10) 19 o_u19_11) (va_up (va_up b 20 o_b20_12) 21 o_b21_13) bw) := hD
          obtain ⟨wr_7_0, wr_7_1, wr_7_2, wr_7_3, wr_7_4, wr_7_5, wr_7_6, wr_7_7, wr_7_8, wr_7_9⟩ : ((o_u17_9.toInt = -1 ∧ o_u18_10.toInt = c4_u18.toInt ∧ x_6.toInt < o_u16_8.toInt ∧ o_u19_11.toInt - c4_u19.toInt ≤ o_u16_8.toInt - x_6.toInt) ∨ (0 ≤ o_u17_9.toInt ∧ o_u19_11.toInt - c4_u19.toInt ≤ o_u16_8.toInt - x_6.toInt + 1)) ∧ (x_6.toInt ≤ o_u16_8.toInt) ∧ (o_u16_8.toInt ≤ (u 15).toInt) ∧ (c4_u18.toInt ≤ o_u18_10.toInt) ∧ (o_u18_10.toInt ≤ 6) ∧ (c4_u19.toInt ≤ o_u19_11.toInt) ∧ (FRM (130 + c4_u19.toInt.toNat) c4_b20 o_b20_12) ∧ (FRM (130 + c4_u19.toInt.toNat) c4_b21 o_b21_13) ∧ (o_u17_9.toInt = -1 → SEGI o_b20_12 o_b21_13 (130 + c4_u19.toInt.toNat) (130 + o_u19_11.toInt.toNat)) ∧ (AB (-128) 127 o_b20_12) := wr_7
          have hA_15 : FRM (130 + (u 19).toInt.toNat) (b 20) o_b20_12 := FRM_trans jq6 wr_7_6 (by omega)
          have hA_16 : FRM (130 + (u 19).toInt.toNat) (b 21) o_b21_13 := FRM_trans jq7 wr_7_7 (by omega)
          have hs_17 := SEG_frm hs_5 wr_7_6 wr_7_7 (by omega)
          refine lv_aload_n hx hb dX12_product_57 rfl (lv_at hl 1 rfl) ?_
          refine lv_iload_n hx hb dX12_product_58 rfl (lv_at hl 0 rfl) ?_
          refine lv_iconst (v := 0) hx hb dX12_product_59 (by decide) ?_
          refine cV_v (As := [.int r_4, .int 0]) (rest := []) ⟨hx, hb, hml, hown, hg⟩ (k_X12_addStep l D cs A bd (va_up (va_up (va_up (va_up u 16 o_u16_8) 17 o_u17_9) 18 o_u18_10) 19 o_u19_11) (va_up (va_up b 20 o_b20_12) 21 o_b21_13) bw  r_4 0 (show 0 ≤ o_u19_11.toInt by first | omega | decide) (show o_u19_11.toInt ≤ 129 by first | omega | decide) (show -128 ≤ r_4.toInt by first | omega | decide) (show r_4.toInt ≤ 127 by first | omega | decide) wr_7_9) ca_X12_addStep q6_73 ⟨rfl, rfl⟩ ⟨(show 0 + 1 ≤ 10 * n + 7 by omega), (show 8 + (3 + 11) + (0) ≤ 300 * n + 280 by omega)⟩ (rc_model hK hP) hK hP hD hS hZ rfl hl.1 rfl (Nat.le_of_ble_eq_true rfl) ⟨Nat.zero_le _, Nat.zero_le _⟩ dX12_product_60 (fun z_22 H locs wr_18 hP hD hS => ?_)
          obtain ⟨o_u19_19, o_b20_20, o_b21_21⟩ := z_22
          have hP : va_P D vwCl (RW cs bd (va_up (va_up (va_up (va_up u 16 o_u16_8) 17 o_u17_9) 18 o_u18_10) 19 o_u19_19) (va_up (va_up b 20 o_b20_20) 21 o_b21_21) bw) H := hP
          have hD : va_D A (RW cs bd (va_up (va_up (va_up (va_up u 16 o_u16_8) 17 o_u17_9) 18 o_u18_10) 19 o_u19_19) (va_up (va_up b 20 o_b20_20) 21 o_b21_21) bw) := hD
          obtain ⟨wr_18_0, wr_18_1, wr_18_2, wr_18_3, wr_18_4, wr_18_5⟩ : (o_u19_19.toInt = o_u19_11.toInt + 1) ∧ (FRM (130 + o_u19_11.toInt.toNat) o_b20_12 o_b20_20) ∧ (FRM (130 + o_u19_11.toInt.toNat) o_b21_13 o_b21_21) ∧ ((o_b20_20 (130 + o_u19_11.toInt.toNat)).toInt = r_4.toInt) ∧ ((o_b21_21 (130 + o_u19_11.toInt.toNat)).toInt = (0 : Int)) ∧ (AB (-128) 127 o_b20_20) := wr_18
          have hA_23 : FRM (130 + (u 19).toInt.toNat) (b 20) o_b20_20 := FRM_trans hA_15 wr_18_1 (by omega)
          have hA_24 : FRM (130 + (u 19).toInt.toNat) (b 21) o_b21_21 := FRM_trans hA_16 wr_18_2 (by omega)
          have hsg_25 : o_u17_9.toInt = -1 → SEGI o_b20_20 o_b21_21 (130 + (u 19).toInt.toNat) (130 + o_u19_19.toInt.toNat) := fun hq => SEG_bin (SEG_frm hs_17 wr_18_1 wr_18_2 (by omega)) (SEG_frm (wr_7_8 (by omega)) wr_18_1 wr_18_2 (by omega)) (by omega) (by omega)
          refine lv_goto (tgt := 4) hx hb dX12_product_63 (by decide) ?_
          exact ih o_u16_8 o_u17_9 o_u18_10 o_u19_19 o_b20_20 o_b21_21 _ _ (by omega) (by omega) (by omega) (by omega) (by omega) (by omega) hA_23 hA_24 hsg_25 wr_18_5 (by omega) hP hD hS ls (lv_sub hl [1] rfl)
        ·
          have kc_3 : r_2.toInt ≠ (42 : Int) := i_ne c_3
          refine lv_aload_n hx hb dX12_product_20 rfl (lv_at hl 0 rfl) ?_
          refine cV_ro (As := []) (rest := []) ⟨hx, hb, hml, hown, hg⟩ (k_X12_look l D cs A bd (va_up (va_up (va_up (va_up u 16 c4_u16) 17 c4_u17) 18 c4_u18) 19 c4_u19) (va_up (va_up b 20 c4_b20) 21 c4_b21) bw   (show 0 ≤ c4_u16.toInt by first | omega | decide) (show 0 ≤ (u 15).toInt by first | omega | decide) (show (u 15).toInt ≤ 120 by first | omega | decide)) ca_X12_look q6_66 ⟨rfl, rfl⟩ ⟨(show 0 + 1 ≤ 10 * n + 7 by omega), (show 8 + (1 + 11) + (0) ≤ 300 * n + 280 by omega)⟩ (rc_model hK hP) hK hP hD hS hZ rfl hl.1 rfl (Nat.le_of_ble_eq_true rfl) ⟨Nat.zero_le _, Nat.zero_le _⟩ dX12_product_21 (fun r_26 wr_26 => ?_)
          have wr_26_0 : (c4_u16.toInt < (u 15).toInt ∧ r_26.toInt = ((b 14) c4_u16.toNatClampNeg).toInt) ∨ ((u 15).toInt ≤ c4_u16.toInt ∧ r_26.toInt = -1) := wr_26
          refine lv_bipush (v := 47) hx hb dX12_product_24 (by decide) ?_
          refine lv_icmp_eq (tgt := 38) hx hb dX12_product_26 (by decide) (fun c_27 => ?_) (fun c_27 => ?_)
          ·
            have kc_27 : r_26.toInt = (47 : Int) := i_eq c_27
            refine lv_aload_n hx hb dX12_product_38 rfl (lv_at hl 0 rfl) ?_
            refine cV_ro (As := []) (rest := []) ⟨hx, hb, hml, hown, hg⟩ (k_X12_look l D cs A bd (va_up (va_up (va_up (va_up u 16 c4_u16) 17 c4_u17) 18 c4_u18) 19 c4_u19) (va_up (va_up b 20 c4_b20) 21 c4_b21) bw   (show 0 ≤ c4_u16.toInt by first | omega | decide) (show 0 ≤ (u 15).toInt by first | omega | decide) (show (u 15).toInt ≤ 120 by first | omega | decide)) ca_X12_look q6_66 ⟨rfl, rfl⟩ ⟨(show 0 + 1 ≤ 10 * n + 7 by omega), (show 8 + (1 + 11) + (0) ≤ 300 * n + 280 by omega)⟩ (rc_model hK hP) hK hP hD hS hZ rfl hl.1 rfl (Nat.le_of_ble_eq_true rfl) ⟨Nat.zero_le _, Nat.zero_le _⟩ dX12_product_39 (fun r_28 wr_28 => ?_)
            have wr_28_0 : (c4_u16.toInt < (u 15).toInt ∧ r_28.toInt = ((b 14) c4_u16.toNatClampNeg).toInt) ∨ ((u 15).toInt ≤ c4_u16.toInt ∧ r_28.toInt = -1) := wr_28
            refine lv_istore_n (lv' := [(1, .int r_28), (0, .ref (bd 0))]) hx hb dX12_product_42 rfl hl (by decide) rfl (fun ls hl => ?_)
            have hs_29 := jq8 (by omega)
            refine lv_aload_n hx hb dX12_product_43 rfl (lv_at hl 1 rfl) ?_
            refine lv_dup hx hb dX12_product_44 rfl ?_
            refine gr_here hx hb hg hown hK hP (x := c4_u16) rfl (hg _ q5_8) dX12_product_45 ?_
            refine lv_iconst (v := 1) hx hb dX12_product_48 (by decide) ?_
            refine lv_iadd hx hb dX12_product_49 ?_
            refine lv_topi (fun x_30 ex_30 => ?_)
            have fx_30 : x_30.toInt = c4_u16.toInt + (1 : Int) := by rw [ex_30]; exact i_add (by first | omega | (show (_ : Int) ≤ c4_u16.toInt + (1 : Int); omega)) (by first | omega | (show c4_u16.toInt + (1 : Int) ≤ (_ : Int); omega))
            refine pr_here hx hb hg hown hK hP hD hS (hg _ q5_8) dX12_product_50 (fun H locs hP hD hS => ?_)
            refine lv_aload_n hx hb dX12_product_53 rfl (lv_at hl 1 rfl) ?_
            refine cV_v (As := []) (rest := []) ⟨hx, hb, hml, hown, hg⟩ (h1n l D cs A bd (va_up (va_up (va_up (va_up u 17 c4_u17) 18 c4_u18) 19 c4_u19) 16 x_30) (va_up (va_up b 20 c4_b20) 21 c4_b21) bw   (show c4_u17.toInt = -1 by first | omega | decide) (show 0 ≤ x_30.toInt by first | omega | decide) (show x_30.toInt ≤ (u 15).toInt by first | omega | decide) (show 0 ≤ c4_u19.toInt by first | omega | decide) (show c4_u19.toInt ≤ x_30.toInt by first | omega | decide) (show 0 ≤ c4_u18.toInt by first | omega | decide) (show c4_u18.toInt ≤ 6 by first | omega | decide) (show 6 ≤ c4_u18.toInt + (n : Int) by first | omega | decide) (show 0 ≤ (u 15).toInt by first | omega | decide) (show (u 15).toInt ≤ 120 by first | omega | decide) jb20_0) ca_X12_operand q6_62 ⟨rfl, rfl⟩ ⟨(show 10 * n + 6 + 1 ≤ 10 * n + 7 by omega), (show 8 + (2 + 11) + (300 * n + 250) ≤ 300 * n + 280 by omega)⟩ (rc_model hK hP) hK hP hD hS hZ rfl hl.1 rfl (Nat.le_of_ble_eq_true rfl) ⟨Nat.zero_le _, Nat.zero_le _⟩ dX12_product_54 (fun z_38 H locs wr_31 hP hD hS => ?_)
            obtain ⟨o_u16_32, o_u17_33, o_u18_34, o_u19_35, o_b20_36, o_b21_37⟩ := z_38
            have hP : va_P D vwCl (RW cs bd (va_up (va_up (va_up (va_up u 16 o_u16_32) 17 o_u17_33) 18 o_u18_34) 19 o_u19_35) (va_up (va_up b 20 o_b20_36) 21 o_b21_37) bw) H := hP
            have hD : va_D A (RW cs bd (va_up (va_up (va_up (va_up u 16 o_u16_32) 17 o_u17_33) 18 o_u18_34) 19 o_u19_35) (va_up (va_up b 20 o_b20_36) 21 o_b21_37) bw) := hD
            obtain ⟨wr_31_0, wr_31_1, wr_31_2, wr_31_3, wr_31_4, wr_31_5, wr_31_6, wr_31_7, wr_31_8, wr_31_9⟩ : ((o_u17_33.toInt = -1 ∧ o_u18_34.toInt = c4_u18.toInt ∧ x_30.toInt < o_u16_32.toInt ∧ o_u19_35.toInt - c4_u19.toInt ≤ o_u16_32.toInt - x_30.toInt) ∨ (0 ≤ o_u17_33.toInt ∧ o_u19_35.toInt - c4_u19.toInt ≤ o_u16_32.toInt - x_30.toInt + 1)) ∧ (x_30.toInt ≤ o_u16_32.toInt) ∧ (o_u16_32.toInt ≤ (u 15).toInt) ∧ (c4_u18.toInt ≤ o_u18_34.toInt) ∧ (o_u18_34.toInt ≤ 6) ∧ (c4_u19.toInt ≤ o_u19_35.toInt) ∧ (FRM (130 + c4_u19.toInt.toNat) c4_b20 o_b20_36) ∧ (FRM (130 + c4_u19.toInt.toNat) c4_b21 o_b21_37) ∧ (o_u17_33.toInt = -1 → SEGI o_b20_36 o_b21_37 (130 + c4_u19.toInt.toNat) (130 + o_u19_35.toInt.toNat)) ∧ (AB (-128) 127 o_b20_36) := wr_31
            have hA_39 : FRM (130 + (u 19).toInt.toNat) (b 20) o_b20_36 := FRM_trans jq6 wr_31_6 (by omega)
            have hA_40 : FRM (130 + (u 19).toInt.toNat) (b 21) o_b21_37 := FRM_trans jq7 wr_31_7 (by omega)
            have hs_41 := SEG_frm hs_29 wr_31_6 wr_31_7 (by omega)
            refine lv_aload_n hx hb dX12_product_57 rfl (lv_at hl 1 rfl) ?_
            refine lv_iload_n hx hb dX12_product_58 rfl (lv_at hl 0 rfl) ?_
            refine lv_iconst (v := 0) hx hb dX12_product_59 (by decide) ?_
            refine cV_v (As := [.int r_28, .int 0]) (rest := []) ⟨hx, hb, hml, hown, hg⟩ (k_X12_addStep l D cs A bd (va_up (va_up (va_up (va_up u 16 o_u16_32) 17 o_u17_33) 18 o_u18_34) 19 o_u19_35) (va_up (va_up b 20 o_b20_36) 21 o_b21_37) bw  r_28 0 (show 0 ≤ o_u19_35.toInt by first | omega | decide) (show o_u19_35.toInt ≤ 129 by first | omega | decide) (show -128 ≤ r_28.toInt by first | omega | decide) (show r_28.toInt ≤ 127 by first | omega | decide) wr_31_9) ca_X12_addStep q6_73 ⟨rfl, rfl⟩ ⟨(show 0 + 1 ≤ 10 * n + 7 by omega), (show 8 + (3 + 11) + (0) ≤ 300 * n + 280 by omega)⟩ (rc_model hK hP) hK hP hD hS hZ rfl hl.1 rfl (Nat.le_of_ble_eq_true rfl) ⟨Nat.zero_le _, Nat.zero_le _⟩ dX12_product_60 (fun z_46 H locs wr_42 hP hD hS => ?_)
            obtain ⟨o_u19_43, o_b20_44, o_b21_45⟩ := z_46
            have hP : va_P D vwCl (RW cs bd (va_up (va_up (va_up (va_up u 16 o_u16_32) 17 o_u17_33) 18 o_u18_34) 19 o_u19_43) (va_up (va_up b 20 o_b20_44) 21 o_b21_45) bw) H := hP
            have hD : va_D A (RW cs bd (va_up (va_up (va_up (va_up u 16 o_u16_32) 17 o_u17_33) 18 o_u18_34) 19 o_u19_43) (va_up (va_up b 20 o_b20_44) 21 o_b21_45) bw) := hD
            obtain ⟨wr_42_0, wr_42_1, wr_42_2, wr_42_3, wr_42_4, wr_42_5⟩ : (o_u19_43.toInt = o_u19_35.toInt + 1) ∧ (FRM (130 + o_u19_35.toInt.toNat) o_b20_36 o_b20_44) ∧ (FRM (130 + o_u19_35.toInt.toNat) o_b21_37 o_b21_45) ∧ ((o_b20_44 (130 + o_u19_35.toInt.toNat)).toInt = r_28.toInt) ∧ ((o_b21_45 (130 + o_u19_35.toInt.toNat)).toInt = (0 : Int)) ∧ (AB (-128) 127 o_b20_44) := wr_42
            have hA_47 : FRM (130 + (u 19).toInt.toNat) (b 20) o_b20_44 := FRM_trans hA_39 wr_42_1 (by omega)
            have hA_48 : FRM (130 + (u 19).toInt.toNat) (b 21) o_b21_45 := FRM_trans hA_40 wr_42_2 (by omega)
            have hsg_49 : o_u17_33.toInt = -1 → SEGI o_b20_44 o_b21_45 (130 + (u 19).toInt.toNat) (130 + o_u19_43.toInt.toNat) := fun hq => SEG_bin (SEG_frm hs_41 wr_42_1 wr_42_2 (by omega)) (SEG_frm (wr_31_8 (by omega)) wr_42_1 wr_42_2 (by omega)) (by omega) (by omega)
            refine lv_goto (tgt := 4) hx hb dX12_product_63 (by decide) ?_
            exact ih o_u16_32 o_u17_33 o_u18_34 o_u19_43 o_b20_44 o_b21_45 _ _ (by omega) (by omega) (by omega) (by omega) (by omega) (by omega) hA_47 hA_48 hsg_49 wr_42_5 (by omega) hP hD hS ls (lv_sub hl [1] rfl)
          ·
            have kc_27 : r_26.toInt ≠ (47 : Int) := i_ne c_27
            refine lv_aload_n hx hb dX12_product_29 rfl (lv_at hl 0 rfl) ?_
            refine cV_ro (As := []) (rest := []) ⟨hx, hb, hml, hown, hg⟩ (k_X12_look l D cs A bd (va_up (va_up (va_up (va_up u 16 c4_u16) 17 c4_u17) 18 c4_u18) 19 c4_u19) (va_up (va_up b 20 c4_b20) 21 c4_b21) bw   (show 0 ≤ c4_u16.toInt by first | omega | decide) (show 0 ≤ (u 15).toInt by first | omega | decide) (show (u 15).toInt ≤ 120 by first | omega | decide)) ca_X12_look q6_66 ⟨rfl, rfl⟩ ⟨(show 0 + 1 ≤ 10 * n + 7 by omega), (show 8 + (1 + 11) + (0) ≤ 300 * n + 280 by omega)⟩ (rc_model hK hP) hK hP hD hS hZ rfl hl.1 rfl (Nat.le_of_ble_eq_true rfl) ⟨Nat.zero_le _, Nat.zero_le _⟩ dX12_product_30 (fun r_50 wr_50 => ?_)
            have wr_50_0 : (c4_u16.toInt < (u 15).toInt ∧ r_50.toInt = ((b 14) c4_u16.toNatClampNeg).toInt) ∨ ((u 15).toInt ≤ c4_u16.toInt ∧ r_50.toInt = -1) := wr_50
            refine lv_bipush (v := 37) hx hb dX12_product_33 (by decide) ?_
            refine lv_icmp_ne (tgt := 66) hx hb dX12_product_35 (by decide) (fun c_51 => ?_) (fun c_51 => ?_)
            ·
              have kc_51 : r_50.toInt ≠ (37 : Int) := i_ne c_51
              exact W.vret hx hb hr (fun tt ht hW => ⟨⟨⟨c4_u16, c4_u17, c4_u18, c4_u19, c4_b20, c4_b21⟩, rfl, ⟨(by first | rfl | omega | trivial | assumption | (dsimp only; first | omega | assumption)), (by first | rfl | omega | trivial | assumption | (dsimp only; first | omega | assumption)), (by first | rfl | omega | trivial | assumption | (dsimp only; first | omega | assumption)), (by first | rfl | omega | trivial | assumption | (dsimp only; first | omega | assumption)), (by first | rfl | omega | trivial | assumption | (dsimp only; first | omega | assumption)), (by first | rfl | omega | trivial | assumption | (dsimp only; first | omega | assumption)), jq6, jq7, jq8, jb20_0⟩, by rw [ht]; exact hP, hD⟩, hS.F ht⟩) hS.2.2 dX12_product_66
            ·
              have kc_51 : r_50.toInt = (37 : Int) := i_eq c_51
              refine lv_aload_n hx hb dX12_product_38 rfl (lv_at hl 0 rfl) ?_
              refine cV_ro (As := []) (rest := []) ⟨hx, hb, hml, hown, hg⟩ (k_X12_look l D cs A bd (va_up (va_up (va_up (va_up u 16 c4_u16) 17 c4_u17) 18 c4_u18) 19 c4_u19) (va_up (va_up b 20 c4_b20) 21 c4_b21) bw   (show 0 ≤ c4_u16.toInt by first | omega | decide) (show 0 ≤ (u 15).toInt by first | omega | decide) (show (u 15).toInt ≤ 120 by first | omega | decide)) ca_X12_look q6_66 ⟨rfl, rfl⟩ ⟨(show 0 + 1 ≤ 10 * n + 7 by omega), (show 8 + (1 + 11) + (0) ≤ 300 * n + 280 by omega)⟩ (rc_model hK hP) hK hP hD hS hZ rfl hl.1 rfl (Nat.le_of_ble_eq_true rfl) ⟨Nat.zero_le _, Nat.zero_le _⟩ dX12_product_39 (fun r_52 wr_52 => ?_)
              have wr_52_0 : (c4_u16.toInt < (u 15).toInt ∧ r_52.toInt = ((b 14) c4_u16.toNatClampNeg).toInt) ∨ ((u 15).toInt ≤ c4_u16.toInt ∧ r_52.toInt = -1) := wr_52
              refine lv_istore_n (lv' := [(1, .int r_52), (0, .ref (bd 0))]) hx hb dX12_product_42 rfl hl (by decide) rfl (fun ls hl => ?_)
              have hs_53 := jq8 (by omega)
              refine lv_aload_n hx hb dX12_product_43 rfl (lv_at hl 1 rfl) ?_
              refine lv_dup hx hb dX12_product_44 rfl ?_
              refine gr_here hx hb hg hown hK hP (x := c4_u16) rfl (hg _ q5_8) dX12_product_45 ?_
              refine lv_iconst (v := 1) hx hb dX12_product_48 (by decide) ?_
              refine lv_iadd hx hb dX12_product_49 ?_
              refine lv_topi (fun x_54 ex_54 => ?_)
              have fx_54 : x_54.toInt = c4_u16.toInt + (1 : Int) := by rw [ex_54]; exact i_add (by first | omega | (show (_ : Int) ≤ c4_u16.toInt + (1 : Int); omega)) (by first | omega | (show c4_u16.toInt + (1 : Int) ≤ (_ : Int); omega))
              refine pr_here hx hb hg hown hK hP hD hS (hg _ q5_8) dX12_product_50 (fun H locs hP hD hS => ?_)
              refine lv_aload_n hx hb dX12_product_53 rfl (lv_at hl 1 rfl) ?_
              refine cV_v (As := []) (rest := []) ⟨hx, hb, hml, hown, hg⟩ (h1n l D cs A bd (va_up (va_up (va_up (va_up u 17 c4_u17) 18 c4_u18) 19 c4_u19) 16 x_54) (va_up (va_up b 20 c4_b20) 21 c4_b21) bw   (show c4_u17.toInt = -1 by first | omega | decide) (show 0 ≤ x_54.toInt by first | omega | decide) (show x_54.toInt ≤ (u 15).toInt by first | omega | decide) (show 0 ≤ c4_u19.toInt by first | omega | decide) (show c4_u19.toInt ≤ x_54.toInt by first | omega | decide) (show 0 ≤ c4_u18.toInt by first | omega | decide) (show c4_u18.toInt ≤ 6 by first | omega | decide) (show 6 ≤ c4_u18.toInt + (n : Int) by first | omega | decide) (show 0 ≤ (u 15).toInt by first | omega | decide) (show (u 15).toInt ≤ 120 by first | omega | decide) jb20_0) ca_X12_operand q6_62 ⟨rfl, rfl⟩ ⟨(show 10 * n + 6 + 1 ≤ 10 * n + 7 by omega), (show 8 + (2 + 11) + (300 * n + 250) ≤ 300 * n + 280 by omega)⟩ (rc_model hK hP) hK hP hD hS hZ rfl hl.1 rfl (Nat.le_of_ble_eq_true rfl) ⟨Nat.zero_le _, Nat.zero_le _⟩ dX12_product_54 (fun z_62 H locs wr_55 hP hD hS => ?_)
              obtain ⟨o_u16_56, o_u17_57, o_u18_58, o_u19_59, o_b20_60, o_b21_61⟩ := z_62
              have hP : va_P D vwCl (RW cs bd (va_up (va_up (va_up (va_up u 16 o_u16_56) 17 o_u17_57) 18 o_u18_58) 19 o_u19_59) (va_up (va_up b 20 o_b20_60) 21 o_b21_61) bw) H := hP
              have hD : va_D A (RW cs bd (va_up (va_up (va_up (va_up u 16 o_u16_56) 17 o_u17_57) 18 o_u18_58) 19 o_u19_59) (va_up (va_up b 20 o_b20_60) 21 o_b21_61) bw) := hD
              obtain ⟨wr_55_0, wr_55_1, wr_55_2, wr_55_3, wr_55_4, wr_55_5, wr_55_6, wr_55_7, wr_55_8, wr_55_9⟩ : ((o_u17_57.toInt = -1 ∧ o_u18_58.toInt = c4_u18.toInt ∧ x_54.toInt < o_u16_56.toInt ∧ o_u19_59.toInt - c4_u19.toInt ≤ o_u16_56.toInt - x_54.toInt) ∨ (0 ≤ o_u17_57.toInt ∧ o_u19_59.toInt - c4_u19.toInt ≤ o_u16_56.toInt - x_54.toInt + 1)) ∧ (x_54.toInt ≤ o_u16_56.toInt) ∧ (o_u16_56.toInt ≤ (u 15).toInt) ∧ (c4_u18.toInt ≤ o_u18_58.toInt) ∧ (o_u18_58.toInt ≤ 6) ∧ (c4_u19.toInt ≤ o_u19_59.toInt) ∧ (FRM (130 + c4_u19.toInt.toNat) c4_b20 o_b20_60) ∧ (FRM (130 + c4_u19.toInt.toNat) c4_b21 o_b21_61) ∧ (o_u17_57.toInt = -1 → SEGI o_b20_60 o_b21_61 (130 + c4_u19.toInt.toNat) (130 + o_u19_59.toInt.toNat)) ∧ (AB (-128) 127 o_b20_60) := wr_55
              have hA_63 : FRM (130 + (u 19).toInt.toNat) (b 20) o_b20_60 := FRM_trans jq6 wr_55_6 (by omega)
              have hA_64 : FRM (130 + (u 19).toInt.toNat) (b 21) o_b21_61 := FRM_trans jq7 wr_55_7 (by omega)
              have hs_65 := SEG_frm hs_53 wr_55_6 wr_55_7 (by omega)
              refine lv_aload_n hx hb dX12_product_57 rfl (lv_at hl 1 rfl) ?_
              refine lv_iload_n hx hb dX12_product_58 rfl (lv_at hl 0 rfl) ?_
              refine lv_iconst (v := 0) hx hb dX12_product_59 (by decide) ?_
              refine cV_v (As := [.int r_52, .int 0]) (rest := []) ⟨hx, hb, hml, hown, hg⟩ (k_X12_addStep l D cs A bd (va_up (va_up (va_up (va_up u 16 o_u16_56) 17 o_u17_57) 18 o_u18_58) 19 o_u19_59) (va_up (va_up b 20 o_b20_60) 21 o_b21_61) bw  r_52 0 (show 0 ≤ o_u19_59.toInt by first | omega | decide) (show o_u19_59.toInt ≤ 129 by first | omega | decide) (show -128 ≤ r_52.toInt by first | omega | decide) (show r_52.toInt ≤ 127 by first | omega | decide) wr_55_9) ca_X12_addStep q6_73 ⟨rfl, rfl⟩ ⟨(show 0 + 1 ≤ 10 * n + 7 by omega), (show 8 + (3 + 11) + (0) ≤ 300 * n + 280 by omega)⟩ (rc_model hK hP) hK hP hD hS hZ rfl hl.1 rfl (Nat.le_of_ble_eq_true rfl) ⟨Nat.zero_le _, Nat.zero_le _⟩ dX12_product_60 (fun z_70 H locs wr_66 hP hD hS => ?_)
              obtain ⟨o_u19_67, o_b20_68, o_b21_69⟩ := z_70
              have hP : va_P D vwCl (RW cs bd (va_up (va_up (va_up (va_up u 16 o_u16_56) 17 o_u17_57) 18 o_u18_58) 19 o_u19_67) (va_up (va_up b 20 o_b20_68) 21 o_b21_69) bw) H := hP
              have hD : va_D A (RW cs bd (va_up (va_up (va_up (va_up u 16 o_u16_56) 17 o_u17_57) 18 o_u18_58) 19 o_u19_67) (va_up (va_up b 20 o_b20_68) 21 o_b21_69) bw) := hD
              obtain ⟨wr_66_0, wr_66_1, wr_66_2, wr_66_3, wr_66_4, wr_66_5⟩ : (o_u19_67.toInt = o_u19_59.toInt + 1) ∧ (FRM (130 + o_u19_59.toInt.toNat) o_b20_60 o_b20_68) ∧ (FRM (130 + o_u19_59.toInt.toNat) o_b21_61 o_b21_69) ∧ ((o_b20_68 (130 + o_u19_59.toInt.toNat)).toInt = r_52.toInt) ∧ ((o_b21_69 (130 + o_u19_59.toInt.toNat)).toInt = (0 : Int)) ∧ (AB (-128) 127 o_b20_68) := wr_66
              have hA_71 : FRM (130 + (u 19).toInt.toNat) (b 20) o_b20_68 := FRM_trans hA_63 wr_66_1 (by omega)
              have hA_72 : FRM (130 + (u 19).toInt.toNat) (b 21) o_b21_69 := FRM_trans hA_64 wr_66_2 (by omega)
              have hsg_73 : o_u17_57.toInt = -1 → SEGI o_b20_68 o_b21_69 (130 + (u 19).toInt.toNat) (130 + o_u19_67.toInt.toNat) := fun hq => SEG_bin (SEG_frm hs_65 wr_66_1 wr_66_2 (by omega)) (SEG_frm (wr_55_8 (by omega)) wr_66_1 wr_66_2 (by omega)) (by omega) (by omega)
              refine lv_goto (tgt := 4) hx hb dX12_product_63 (by decide) ?_
              exact ih o_u16_56 o_u17_57 o_u18_58 o_u19_67 o_b20_68 o_b21_69 _ _ (by omega) (by omega) (by omega) (by omega) (by omega) (by omega) hA_71 hA_72 hsg_73 wr_66_5 (by omega) hP hD hS ls (lv_sub hl [1] rfl)
  refine lv_aload_n hx hb dX12_product_0 rfl (lv_at hl 0 rfl) ?_
  refine cV_v (As := []) (rest := []) ⟨hx, hb, hml, hown, hg⟩ (h1n l D cs A bd u b bw   (show (u 17).toInt = -1 by first | omega | decide) (show 0 ≤ (u 16).toInt by first | omega | decide) (show (u 16).toInt ≤ (u 15).toInt by first | omega | decide) (show 0 ≤ (u 19).toInt by first | omega | decide) (show (u 19).toInt ≤ (u 16).toInt by first | omega | decide) (show 0 ≤ (u 18).toInt by first | omega | decide) (show (u 18).toInt ≤ 6 by first | omega | decide) (show 6 ≤ (u 18).toInt + (n : Int) by first | omega | decide) (show 0 ≤ (u 15).toInt by first | omega | decide) (show (u 15).toInt ≤ 120 by first | omega | decide) ib20_0) ca_X12_operand q6_62 ⟨rfl, rfl⟩ ⟨(show 10 * n + 6 + 1 ≤ 10 * n + 7 by omega), (show 8 + (2 + 11) + (300 * n + 250) ≤ 300 * n + 280 by omega)⟩ (rc_model hK hP) hK hP hD hS hZ rfl hl.1 rfl (Nat.le_of_ble_eq_true rfl) ⟨Nat.zero_le _, Nat.zero_le _⟩ dX12_product_1 (fun z_81 H locs wr_74 hP hD hS => ?_)
  obtain ⟨o_u16_75, o_u17_76, o_u18_77, o_u19_78, o_b20_79, o_b21_80⟩ := z_81
  have hP : va_P D vwCl (RW cs bd (va_up (va_up (va_up (va_up u 16 o_u16_75) 17 o_u17_76) 18 o_u18_77) 19 o_u19_78) (va_up (va_up b 20 o_b20_79) 21 o_b21_80) bw) H := hP
  have hD : va_D A (RW cs bd (va_up (va_up (va_up (va_up u 16 o_u16_75) 17 o_u17_76) 18 o_u18_77) 19 o_u19_78) (va_up (va_up b 20 o_b20_79) 21 o_b21_80) bw) := hD
  obtain ⟨wr_74_0, wr_74_1, wr_74_2, wr_74_3, wr_74_4, wr_74_5, wr_74_6, wr_74_7, wr_74_8, wr_74_9⟩ : ((o_u17_76.toInt = -1 ∧ o_u18_77.toInt = (u 18).toInt ∧ (u 16).toInt < o_u16_75.toInt ∧ o_u19_78.toInt - (u 19).toInt ≤ o_u16_75.toInt - (u 16).toInt) ∨ (0 ≤ o_u17_76.toInt ∧ o_u19_78.toInt - (u 19).toInt ≤ o_u16_75.toInt - (u 16).toInt + 1)) ∧ ((u 16).toInt ≤ o_u16_75.toInt) ∧ (o_u16_75.toInt ≤ (u 15).toInt) ∧ ((u 18).toInt ≤ o_u18_77.toInt) ∧ (o_u18_77.toInt ≤ 6) ∧ ((u 19).toInt ≤ o_u19_78.toInt) ∧ (FRM (130 + (u 19).toInt.toNat) (b 20) o_b20_79) ∧ (FRM (130 + (u 19).toInt.toNat) (b 21) o_b21_80) ∧ (o_u17_76.toInt = -1 → SEGI o_b20_79 o_b21_80 (130 + (u 19).toInt.toNat) (130 + o_u19_78.toInt.toNat)) ∧ (AB (-128) 127 o_b20_79) := wr_74
  have hA_82 : FRM (130 + (u 19).toInt.toNat) (b 20) o_b20_79 := FRM_trans FRM_refl wr_74_6 (by omega)
  have hA_83 : FRM (130 + (u 19).toInt.toNat) (b 21) o_b21_80 := FRM_trans FRM_refl wr_74_7 (by omega)
  exact (hcut ((((u 15).toInt - o_u16_75.toInt).toNat) + 1)) o_u16_75 o_u17_76 o_u18_77 o_u19_78 o_b20_79 o_b21_80 _ _ (by omega) (by omega) (by omega) (by omega) (by omega) (by omega) hA_82 hA_83 (fun hq => wr_74_8 (by first | omega | (dsimp only at hq; omega))) wr_74_9 (Nat.lt_succ_self _) hP hD hS ls (lv_sub hl [0] rfl)
set_option maxHeartbeats 4000000 in
set_option maxRecDepth 100000 in
theorem s_X12_sum (n : Nat) (h1n : C_X12_product n) : C_X12_sum n := by
  intro l D cs A bd u b bw hT hh0 hh1 hL0 hL1 ho0 ho6 hon iu15_0 iu15_1 ib20_0
  refine Met.ofW (cc := cX12_sum) (maxL := 2) (ret := none) (by decide) rfl ?_
  intro p e s m args below meth c s₁ B hml hv
  obtain ⟨rfl, hP, hK, hD, hZ⟩ := hv
  have hx := B.exec
  have hb := B.bytes
  have hr := B.returns
  have hts := atoms_spec (ws := (Cond.code yX12_sum cX12_sum 2 none :: gw)) B.pre
  have hg : ∀ w ∈ gw, w.before ([.ref (bd 0)] : List Value).toArray s = true := fun w h => hts w (List.mem_cons_of_mem _ h)
  have hown : s.vm.findClass RX12 = some m.cls := findClass_of_methodNamed B.named
  have hlocks := B.notSynchronized
  have hS : va_S A s.heap s.heap [] := va_S.rf
  have hP : va_P D vwCl (RW cs bd u b bw) s.heap := hP
  have hl := lv_entry ([.ref (bd 0)]) (n := 2) (Nat.le_of_ble_eq_true rfl)
  rw [lg_entry_eq]
  generalize (lg_sl ([.ref (bd 0)]) ++ List.replicate (2 - (lg_sl ([.ref (bd 0)])).length) Slot.unset).toArray = ls at hl ⊢
  have hl : lv_has ls 2 [(0, .ref (bd 0))] := hl
  have hcut : ∀ nk : Nat, (∀ (c4_u16 : Int32) (c4_u17 : Int32) (c4_u18 : Int32) (c4_u19 : Int32) (c4_b20 : Nat → Int32) (c4_b21 : Nat → Int32) (H : Heap) (locs : List Loc) (jq0 : (c4_u17.toInt = -1 ∧ c4_u18.toInt = (u 18).toInt ∧ (u 16).toInt < c4_u16.toInt ∧ c4_u19.toInt - (u 19).toInt ≤ c4_u16.toInt - (u 16).toInt) ∨ (0 ≤ c4_u17.toInt ∧ c4_u19.toInt - (u 19).toInt ≤ c4_u16.toInt - (u 16).toInt + 1)) (jq1 : (u 16).toInt ≤ c4_u16.toInt) (jq2 : c4_u16.toInt ≤ (u 15).toInt) (jq3 : (u 18).toInt ≤ c4_u18.toInt) (jq4 : c4_u18.toInt ≤ 6) (jq5 : (u 19).toInt ≤ c4_u19.toInt) (jq6 : FRM (130 + (u 19).toInt.toNat) (b 20) c4_b20) (jq7 : FRM (130 + (u 19).toInt.toNat) (b 21) c4_b21) (jq8 : c4_u17.toInt = -1 → SEGI c4_b20 c4_b21 (130 + (u 19).toInt.toNat) (130 + c4_u19.toInt.toNat)) (jb20_0 : AB (-128) 127 c4_b20) (hmu : ((u 15).toInt - c4_u16.toInt).toNat < nk) (hP : va_P D vwCl (RW cs bd (va_up (va_up (va_up (va_up u 16 c4_u16) 17 c4_u17) 18 c4_u18) 19 c4_u19) (va_up (va_up b 20 c4_b20) 21 c4_b21) bw) H) (hD : va_D A (RW cs bd (va_up (va_up (va_up (va_up u 16 c4_u16) 17 c4_u17) 18 c4_u18) 19 c4_u19) (va_up (va_up b 20 c4_b20) 21 c4_b21) bw)) (hS : va_S A s.heap H locs) (ls : Array Slot) (hl : lv_has ls 2 [(0, .ref (bd 0))]), W p l e (headSpec (Cond.code yX12_sum cX12_sum 2 none :: gw) ({ frames := 10 * n + 8, cells := 0, slots := 0, locals := 300 * n + 310 })).room s m ([.ref (bd 0)] : List Value).toArray below meth c H locs 0 0 (MQ below (va_Qv (fun (z : Int32 × Int32 × Int32 × Int32 × (Nat → Int32) × (Nat → Int32)) => ((z.2.1.toInt = -1 ∧ z.2.2.1.toInt = (u 18).toInt ∧ (u 16).toInt < z.1.toInt ∧ z.2.2.2.1.toInt - (u 19).toInt ≤ z.1.toInt - (u 16).toInt) ∨ (0 ≤ z.2.1.toInt ∧ z.2.2.2.1.toInt - (u 19).toInt ≤ z.1.toInt - (u 16).toInt + 1)) ∧ ((u 16).toInt ≤ z.1.toInt) ∧ (z.1.toInt ≤ (u 15).toInt) ∧ ((u 18).toInt ≤ z.2.2.1.toInt) ∧ (z.2.2.1.toInt ≤ 6) ∧ ((u 19).toInt ≤ z.2.2.2.1.toInt) ∧ (FRM (130 + (u 19).toInt.toNat) (b 20) z.2.2.2.2.1) ∧ (FRM (130 + (u 19).toInt.toNat) (b 21) z.2.2.2.2.2) ∧ (z.2.1.toInt = -1 → SEGI z.2.2.2.2.1 z.2.2.2.2.2 (130 + (u 19).toInt.toNat) (130 + z.2.2.2.1.toInt.toNat)) ∧ (AB (-128) 127 z.2.2.2.2.1)) (XPo D (fun (z : Int32 × Int32 × Int32 × Int32 × (Nat → Int32) × (Nat → Int32)) => RW cs bd (va_up (va_up (va_up (va_up u 16 z.1) 17 z.2.1) 18 z.2.2.1) 19 z.2.2.2.1) (va_up (va_up b 20 z.2.2.2.2.1) 21 z.2.2.2.2.2) bw) A) A) ([.ref (bd 0)] : List Value).toArray s 0 0 A) (F0 m 4 ls [])) := by
    intro nk
    induction nk with
    | zero => exact (fun c4_u16 c4_u17 c4_u18 c4_u19 c4_b20 c4_b21 H locs jq0 jq1 jq2 jq3 jq4 jq5 jq6 jq7 jq8 jb20_0 hmu hP hD hS ls hl => absurd hmu (Nat.not_lt_zero _))
    | succ nk ih =>
      intro c4_u16 c4_u17 c4_u18 c4_u19 c4_b20 c4_b21 H locs jq0 jq1 jq2 jq3 jq4 jq5 jq6 jq7 jq8 jb20_0 hmu hP hD hS ls hl
      refine lv_aload_n hx hb dX12_sum_4 rfl (lv_at hl 0 rfl) ?_
      refine gr_fault hx hb hg hown hK hP (x := c4_u17) rfl (hg _ q5_9) dX12_sum_5 ?_
      refine lv_if_ge (tgt := 57) hx hb dX12_sum_8 (by decide) (fun c_1 => ?_) (fun c_1 => ?_)
      ·
        have kc_1 : (0 : Int) ≤ c4_u17.toInt := i_le c_1
        exact W.vret hx hb hr (fun tt ht hW => ⟨⟨⟨c4_u16, c4_u17, c4_u18, c4_u19, c4_b20, c4_b21⟩, rfl, ⟨(by first | rfl | omega | trivial | assumption | (dsimp only; first | omega | assumption)), (by first | rfl | omega | trivial | assumption | (dsimp only; first | omega | assumption)), (by first | rfl | omega | trivial | assumption | (dsimp only; first | omega | assumption)), (by first | rfl | omega | trivial | assumption | (dsimp only; first | omega | assumption)), (by first | rfl | omega | trivial | assumption | (dsimp only; first | omega | assumption)), (by first | rfl | omega | trivial | assumption | (dsimp only; first | omega | assumption)), jq6, jq7, jq8, jb20_0⟩, by rw [ht]; exact hP, hD⟩, hS.F ht⟩) hS.2.2 dX12_sum_57
      ·
        have kc_1 : c4_u17.toInt < (0 : Int) := i_nle c_1
        refine lv_aload_n hx hb dX12_sum_11 rfl (lv_at hl 0 rfl) ?_
        refine cV_ro (As := []) (rest := []) ⟨hx, hb, hml, hown, hg⟩ (k_X12_look l D cs A bd (va_up (va_up (va_up (va_up u 16 c4_u16) 17 c4_u17) 18 c4_u18) 19 c4_u19) (va_up (va_up b 20 c4_b20) 21 c4_b21) bw   (show 0 ≤ c4_u16.toInt by first | omega | decide) (show 0 ≤ (u 15).toInt by first | omega | decide) (show (u 15).toInt ≤ 120 by first | omega | decide)) ca_X12_look q6_66 ⟨rfl, rfl⟩ ⟨(show 0 + 1 ≤ 10 * n + 8 by omega), (show 8 + (1 + 11) + (0) ≤ 300 * n + 310 by omega)⟩ (rc_model hK hP) hK hP hD hS hZ rfl hl.1 rfl (Nat.le_of_ble_eq_true rfl) ⟨Nat.zero_le _, Nat.zero_le _⟩ dX12_sum_12 (fun r_2 wr_2 => ?_)
        have wr_2_0 : (c4_u16.toInt < (u 15).toInt ∧ r_2.toInt = ((b 14) c4_u16.toNatClampNeg).toInt) ∨ ((u 15).toInt ≤ c4_u16.toInt ∧ r_2.toInt = -1) := wr_2
        refine lv_bipush (v := 43) hx hb dX12_sum_15 (by decide) ?_
        refine lv_icmp_eq (tgt := 29) hx hb dX12_sum_17 (by decide) (fun c_3 => ?_) (fun c_3 => ?_)
        ·
          have kc_3 : r_2.toInt = (43 : Int) := i_eq c_3
          refine lv_aload_n hx hb dX12_sum_29 rfl (lv_at hl 0 rfl) ?_
          refine cV_ro (As := []) (rest := []) ⟨hx, hb, hml, hown, hg⟩ (k_X12_look l D cs A bd (va_up (va_up (va_up (va_up u 16 c4_u16) 17 c4_u17) 18 c4_u18) 19 c4_u19) (va_up (va_up b 20 c4_b20) 21 c4_b21) bw   (show 0 ≤ c4_u16.toInt by first | omega | decide) (show 0 ≤ (u 15).toInt by first | omega | decide) (show (u 15).toInt ≤ 120 by first | omega | decide)) ca_X12_look q6_66 ⟨rfl, rfl⟩ ⟨(show 0 + 1 ≤ 10 * n + 8 by omega), (show 8 + (1 + 11) + (0) ≤ 300 * n + 310 by omega)⟩ (rc_model hK hP) hK hP hD hS hZ rfl hl.1 rfl (Nat.le_of_ble_eq_true rfl) ⟨Nat.zero_le _, Nat.zero_le _⟩ dX12_sum_30 (fun r_4 wr_4 => ?_)
          have wr_4_0 : (c4_u16.toInt < (u 15).toInt ∧ r_4.toInt = ((b 14) c4_u16.toNatClampNeg).toInt) ∨ ((u 15).toInt ≤ c4_u16.toInt ∧ r_4.toInt = -1) := wr_4
          refine lv_istore_n (lv' := [(1, .int r_4), (0, .ref (bd 0))]) hx hb dX12_sum_33 rfl hl (by decide) rfl (fun ls hl => ?_)
          have hs_5 := jq8 (by omega)
          refine lv_aload_n hx hb dX12_sum_34 rfl (lv_at hl 1 rfl) ?_
          refine lv_dup hx hb dX12_sum_35 rfl ?_
          refine gr_here hx hb hg hown hK hP (x := c4_u16) rfl (hg _ q5_8) dX12_sum_36 ?_
          refine lv_iconst (v := 1) hx hb dX12_sum_39 (by decide) ?_
          refine lv_iadd hx hb dX12_sum_40 ?_
          refine lv_topi (fun x_6 ex_6 => ?_)
          have fx_6 : x_6.toInt = c4_u16.toInt + (1 : Int) := by rw [ex_6]; exact i_add (by first | omega | (show (_ : Int) ≤ c4_u16.toInt + (1 : Int); omega)) (by first | omega | (show c4_u16.toInt + (1 : Int) ≤ (_ : Int); omega))
          refine pr_here hx hb hg hown hK hP hD hS (hg _ q5_8) dX12_sum_41 (fun H locs hP hD hS => ?_)
          refine lv_aload_n hx hb dX12_sum_44 rfl (lv_at hl 1 rfl) ?_
          refine cV_v (As := []) (rest := []) ⟨hx, hb, hml, hown, hg⟩ (h1n l D cs A bd (va_up (va_up (va_up (va_up u 17 c4_u17) 18 c4_u18) 19 c4_u19) 16 x_6) (va_up (va_up b 20 c4_b20) 21 c4_b21) bw   (show c4_u17.toInt = -1 by first | omega | decide) (show 0 ≤ x_6.toInt by first | omega | decide) (show x_6.toInt ≤ (u 15).toInt by first | omega | decide) (show 0 ≤ c4_u19.toInt by first | omega | decide) (show c4_u19.toInt ≤ x_6.toInt by first | omega | decide) (show 0 ≤ c4_u18.toInt by first | omega | decide) (show c4_u18.toInt ≤ 6 by first | omega | decide) (show 6 ≤ c4_u18.toInt + (n : Int) by first | omega | decide) (show 0 ≤ (u 15).toInt by first | omega | decide) (show (u 15).toInt ≤ 120 by first | omega | decide) jb20_0) ca_X12_product q6_58 ⟨rfl, rfl⟩ ⟨(show 10 * n + 7 + 1 ≤ 10 * n + 8 by omega), (show 8 + (2 + 11) + (300 * n + 280) ≤ 300 * n + 310 by omega)⟩ (rc_model hK hP) hK hP hD hS hZ rfl hl.1 rfl (Nat.le_of_ble_eq_true rfl) ⟨Nat.zero_le _, Nat.zero_le _⟩ dX12_sum_45 (fun z_14 H locs wr_7 hP hD hS => ?_)
          obtain ⟨o_u16_8, o_u17_9, o_u18_10, o_u19_11, o_b20_12, o_b21_13⟩ := z_14
          have hP : va_P D vwCl (RW cs bd (va_up (va_up (va_up (va_up u 16 o_u16_8) 17 o_u17_9) 18 o_u18_10) 19 o_u19_11) (va_up (va_up b 20 o_b20_12) 21 o_b21_13) bw) H := hP
          have hD : va_D A (RW cs bd (va_up (va_up (va_up (va_up u 16 o_u16_8) 17 o_u17_9) 18 o_u18_10) 19 o_u19_11) (va_up (va_up b 20 o_b20_12) 21 o_b21_13) bw) := hD
          obtain ⟨wr_7_0, wr_7_1, wr_7_2, wr_7_3, wr_7_4, wr_7_5, wr_7_6, wr_7_7, wr_7_8, wr_7_9⟩ : ((o_u17_9.toInt = -1 ∧ o_u18_10.toInt = c4_u18.toInt ∧ x_6.toInt < o_u16_8.toInt ∧ o_u19_11.toInt - c4_u19.toInt ≤ o_u16_8.toInt - x_6.toInt) ∨ (0 ≤ o_u17_9.toInt ∧ o_u19_11.toInt - c4_u19.toInt ≤ o_u16_8.toInt - x_6.toInt + 1)) ∧ (x_6.toInt ≤ o_u16_8.toInt) ∧ (o_u16_8.toInt ≤ (u 15).toInt) ∧ (c4_u18.toInt ≤ o_u18_10.toInt) ∧ (o_u18_10.toInt ≤ 6) ∧ (c4_u19.toInt ≤ o_u19_11.toInt) ∧ (FRM (130 + c4_u19.toInt.toNat) c4_b20 o_b20_12) ∧ (FRM (130 + c4_u19.toInt.toNat) c4_b21 o_b21_13) ∧ (o_u17_9.toInt = -1 → SEGI o_b20_12 o_b21_13 (130 + c4_u19.toInt.toNat) (130 + o_u19_11.toInt.toNat)) ∧ (AB (-128) 127 o_b20_12) := wr_7
          have hA_15 : FRM (130 + (u 19).toInt.toNat) (b 20) o_b20_12 := FRM_trans jq6 wr_7_6 (by omega)
          have hA_16 : FRM (130 + (u 19).toInt.toNat) (b 21) o_b21_13 := FRM_trans jq7 wr_7_7 (by omega)
          have hs_17 := SEG_frm hs_5 wr_7_6 wr_7_7 (by omega)
          refine lv_aload_n hx hb dX12_sum_48 rfl (lv_at hl 1 rfl) ?_
          refine lv_iload_n hx hb dX12_sum_49 rfl (lv_at hl 0 rfl) ?_
          refine lv_iconst (v := 0) hx hb dX12_sum_50 (by decide) ?_
          refine cV_v (As := [.int r_4, .int 0]) (rest := []) ⟨hx, hb, hml, hown, hg⟩ (k_X12_addStep l D cs A bd (va_up (va_up (va_up (va_up u 16 o_u16_8) 17 o_u17_9) 18 o_u18_10) 19 o_u19_11) (va_up (va_up b 20 o_b20_12) 21 o_b21_13) bw  r_4 0 (show 0 ≤ o_u19_11.toInt by first | omega | decide) (show o_u19_11.toInt ≤ 129 by first | omega | decide) (show -128 ≤ r_4.toInt by first | omega | decide) (show r_4.toInt ≤ 127 by first | omega | decide) wr_7_9) ca_X12_addStep q6_73 ⟨rfl, rfl⟩ ⟨(show 0 + 1 ≤ 10 * n + 8 by omega), (show 8 + (3 + 11) + (0) ≤ 300 * n + 310 by omega)⟩ (rc_model hK hP) hK hP hD hS hZ rfl hl.1 rfl (Nat.le_of_ble_eq_true rfl) ⟨Nat.zero_le _, Nat.zero_le _⟩ dX12_sum_51 (fun z_22 H locs wr_18 hP hD hS => ?_)
          obtain ⟨o_u19_19, o_b20_20, o_b21_21⟩ := z_22
          have hP : va_P D vwCl (RW cs bd (va_up (va_up (va_up (va_up u 16 o_u16_8) 17 o_u17_9) 18 o_u18_10) 19 o_u19_19) (va_up (va_up b 20 o_b20_20) 21 o_b21_21) bw) H := hP
          have hD : va_D A (RW cs bd (va_up (va_up (va_up (va_up u 16 o_u16_8) 17 o_u17_9) 18 o_u18_10) 19 o_u19_19) (va_up (va_up b 20 o_b20_20) 21 o_b21_21) bw) := hD
          obtain ⟨wr_18_0, wr_18_1, wr_18_2, wr_18_3, wr_18_4, wr_18_5⟩ : (o_u19_19.toInt = o_u19_11.toInt + 1) ∧ (FRM (130 + o_u19_11.toInt.toNat) o_b20_12 o_b20_20) ∧ (FRM (130 + o_u19_11.toInt.toNat) o_b21_13 o_b21_21) ∧ ((o_b20_20 (130 + o_u19_11.toInt.toNat)).toInt = r_4.toInt) ∧ ((o_b21_21 (130 + o_u19_11.toInt.toNat)).toInt = (0 : Int)) ∧ (AB (-128) 127 o_b20_20) := wr_18
          have hA_23 : FRM (130 + (u 19).toInt.toNat) (b 20) o_b20_20 := FRM_trans hA_15 wr_18_1 (by omega)
          have hA_24 : FRM (130 + (u 19).toInt.toNat) (b 21) o_b21_21 := FRM_trans hA_16 wr_18_2 (by omega)
          have hsg_25 : o_u17_9.toInt = -1 → SEGI o_b20_20 o_b21_21 (130 + (u 19).toInt.toNat) (130 + o_u19_19.toInt.toNat) := fun hq => SEG_bin (SEG_frm hs_17 wr_18_1 wr_18_2 (by omega)) (SEG_frm (wr_7_8 (by omega)) wr_18_1 wr_18_2 (by omega)) (by omega) (by omega)
          refine lv_goto (tgt := 4) hx hb dX12_sum_54 (by decide) ?_
          exact ih o_u16_8 o_u17_9 o_u18_10 o_u19_19 o_b20_20 o_b21_21 _ _ (by omega) (by omega) (by omega) (by omega) (by omega) (by omega) hA_23 hA_24 hsg_25 wr_18_5 (by omega) hP hD hS ls (lv_sub hl [1] rfl)
        ·
          have kc_3 : r_2.toInt ≠ (43 : Int) := i_ne c_3
          refine lv_aload_n hx hb dX12_sum_20 rfl (lv_at hl 0 rfl) ?_
          refine cV_ro (As := []) (rest := []) ⟨hx, hb, hml, hown, hg⟩ (k_X12_look l D cs A bd (va_up (va_up (va_up (va_up u 16 c4_u16) 17 c4_u17) 18 c4_u18) 19 c4_u19) (va_up (va_up b 20 c4_b20) 21 c4_b21) bw   (show 0 ≤ c4_u16.toInt by first | omega | decide) (show 0 ≤ (u 15).toInt by first | omega | decide) (show (u 15).toInt ≤ 120 by first | omega | decide)) ca_X12_look q6_66 ⟨rfl, rfl⟩ ⟨(show 0 + 1 ≤ 10 * n + 8 by omega), (show 8 + (1 + 11) + (0) ≤ 300 * n + 310 by omega)⟩ (rc_model hK hP) hK hP hD hS hZ rfl hl.1 rfl (Nat.le_of_ble_eq_true rfl) ⟨Nat.zero_le _, Nat.zero_le _⟩ dX12_sum_21 (fun r_26 wr_26 => ?_)
          have wr_26_0 : (c4_u16.toInt < (u 15).toInt ∧ r_26.toInt = ((b 14) c4_u16.toNatClampNeg).toInt) ∨ ((u 15).toInt ≤ c4_u16.toInt ∧ r_26.toInt = -1) := wr_26
          refine lv_bipush (v := 45) hx hb dX12_sum_24 (by decide) ?_
          refine lv_icmp_ne (tgt := 57) hx hb dX12_sum_26 (by decide) (fun c_27 => ?_) (fun c_27 => ?_)
          ·
            have kc_27 : r_26.toInt ≠ (45 : Int) := i_ne c_27
            exact W.vret hx hb hr (fun tt ht hW => ⟨⟨⟨c4_u16, c4_u17, c4_u18, c4_u19, c4_b20, c4_b21⟩, rfl, ⟨(by first | rfl | omega | trivial | assumption | (dsimp only; first | omega | assumption)), (by first | rfl | omega | trivial | assumption | (dsimp only; first | omega | assumption)), (by first | rfl | omega | trivial | assumption | (dsimp only; first | omega | assumption)), (by first | rfl | omega | trivial | assumption | (dsimp only; first | omega | assumption)), (by first | rfl | omega | trivial | assumption | (dsimp only; first | omega | assumption)), (by first | rfl | omega | trivial | assumption | (dsimp only; first | omega | assumption)), jq6, jq7, jq8, jb20_0⟩, by rw [ht]; exact hP, hD⟩, hS.F ht⟩) hS.2.2 dX12_sum_57
          ·
            have kc_27 : r_26.toInt = (45 : Int) := i_eq c_27
            refine lv_aload_n hx hb dX12_sum_29 rfl (lv_at hl 0 rfl) ?_
            refine cV_ro (As := []) (rest := []) ⟨hx, hb, hml, hown, hg⟩ (k_X12_look l D cs A bd (va_up (va_up (va_up (va_up u 16 c4_u16) 17 c4_u17) 18 c4_u18) 19 c4_u19) (va_up (va_up b 20 c4_b20) 21 c4_b21) bw   (show 0 ≤ c4_u16.toInt by first | omega | decide) (show 0 ≤ (u 15).toInt by first | omega | decide) (show (u 15).toInt ≤ 120 by first | omega | decide)) ca_X12_look q6_66 ⟨rfl, rfl⟩ ⟨(show 0 + 1 ≤ 10 * n + 8 by omega), (show 8 + (1 + 11) + (0) ≤ 300 * n + 310 by omega)⟩ (rc_model hK hP) hK hP hD hS hZ rfl hl.1 rfl (Nat.le_of_ble_eq_true rfl) ⟨Nat.zero_le _, Nat.zero_le _⟩ dX12_sum_30 (fun r_28 wr_28 => ?_)
            have wr_28_0 : (c4_u16.toInt < (u 15).toInt ∧ r_28.toInt = ((b 14) c4_u16.toNatClampNeg).toInt) ∨ ((u 15).toInt ≤ c4_u16.toInt ∧ r_28.toInt = -1) := wr_28
            refine lv_istore_n (lv' := [(1, .int r_28), (0, .ref (bd 0))]) hx hb dX12_sum_33 rfl hl (by decide) rfl (fun ls hl => ?_)
            have hs_29 := jq8 (by omega)
            refine lv_aload_n hx hb dX12_sum_34 rfl (lv_at hl 1 rfl) ?_
            refine lv_dup hx hb dX12_sum_35 rfl ?_
            refine gr_here hx hb hg hown hK hP (x := c4_u16) rfl (hg _ q5_8) dX12_sum_36 ?_
            refine lv_iconst (v := 1) hx hb dX12_sum_39 (by decide) ?_
            refine lv_iadd hx hb dX12_sum_40 ?_
            refine lv_topi (fun x_30 ex_30 => ?_)
            have fx_30 : x_30.toInt = c4_u16.toInt + (1 : Int) := by rw [ex_30]; exact i_add (by first | omega | (show (_ : Int) ≤ c4_u16.toInt + (1 : Int); omega)) (by first | omega | (show c4_u16.toInt + (1 : Int) ≤ (_ : Int); omega))
            refine pr_here hx hb hg hown hK hP hD hS (hg _ q5_8) dX12_sum_41 (fun H locs hP hD hS => ?_)
            refine lv_aload_n hx hb dX12_sum_44 rfl (lv_at hl 1 rfl) ?_
            refine cV_v (As := []) (rest := []) ⟨hx, hb, hml, hown, hg⟩ (h1n l D cs A bd (va_up (va_up (va_up (va_up u 17 c4_u17) 18 c4_u18) 19 c4_u19) 16 x_30) (va_up (va_up b 20 c4_b20) 21 c4_b21) bw   (show c4_u17.toInt = -1 by first | omega | decide) (show 0 ≤ x_30.toInt by first | omega | decide) (show x_30.toInt ≤ (u 15).toInt by first | omega | decide) (show 0 ≤ c4_u19.toInt by first | omega | decide) (show c4_u19.toInt ≤ x_30.toInt by first | omega | decide) (show 0 ≤ c4_u18.toInt by first | omega | decide) (show c4_u18.toInt ≤ 6 by first | omega | decide) (show 6 ≤ c4_u18.toInt + (n : Int) by first | omega | decide) (show 0 ≤ (u 15).toInt by first | omega | decide) (show (u 15).toInt ≤ 120 by first | omega | decide) jb20_0) ca_X12_product q6_58 ⟨rfl, rfl⟩ ⟨(show 10 * n + 7 + 1 ≤ 10 * n + 8 by omega), (show 8 + (2 + 11) + (300 * n + 280) ≤ 300 * n + 310 by omega)⟩ (rc_model hK hP) hK hP hD hS hZ rfl hl.1 rfl (Nat.le_of_ble_eq_true rfl) ⟨Nat.zero_le _, Nat.zero_le _⟩ dX12_sum_45 (fun z_38 H locs wr_31 hP hD hS => ?_)
            obtain ⟨o_u16_32, o_u17_33, o_u18_34, o_u19_35, o_b20_36, o_b21_37⟩ := z_38
            have hP : va_P D vwCl (RW cs bd (va_up (va_up (va_up (va_up u 16 o_u16_32) 17 o_u17_33) 18 o_u18_34) 19 o_u19_35) (va_up (va_up b 20 o_b20_36) 21 o_b21_37) bw) H := hP
            have hD : va_D A (RW cs bd (va_up (va_up (va_up (va_up u 16 o_u16_32) 17 o_u17_33) 18 o_u18_34) 19 o_u19_35) (va_up (va_up b 20 o_b20_36) 21 o_b21_37) bw) := hD
            obtain ⟨wr_31_0, wr_31_1, wr_31_2, wr_31_3, wr_31_4, wr_31_5, wr_31_6, wr_31_7, wr_31_8, wr_31_9⟩ : ((o_u17_33.toInt = -1 ∧ o_u18_34.toInt = c4_u18.toInt ∧ x_30.toInt < o_u16_32.toInt ∧ o_u19_35.toInt - c4_u19.toInt ≤ o_u16_32.toInt - x_30.toInt) ∨ (0 ≤ o_u17_33.toInt ∧ o_u19_35.toInt - c4_u19.toInt ≤ o_u16_32.toInt - x_30.toInt + 1)) ∧ (x_30.toInt ≤ o_u16_32.toInt) ∧ (o_u16_32.toInt ≤ (u 15).toInt) ∧ (c4_u18.toInt ≤ o_u18_34.toInt) ∧ (o_u18_34.toInt ≤ 6) ∧ (c4_u19.toInt ≤ o_u19_35.toInt) ∧ (FRM (130 + c4_u19.toInt.toNat) c4_b20 o_b20_36) ∧ (FRM (130 + c4_u19.toInt.toNat) c4_b21 o_b21_37) ∧ (o_u17_33.toInt = -1 → SEGI o_b20_36 o_b21_37 (130 + c4_u19.toInt.toNat) (130 + o_u19_35.toInt.toNat)) ∧ (AB (-128) 127 o_b20_36) := wr_31
            have hA_39 : FRM (130 + (u 19).toInt.toNat) (b 20) o_b20_36 := FRM_trans jq6 wr_31_6 (by omega)
            have hA_40 : FRM (130 + (u 19).toInt.toNat) (b 21) o_b21_37 := FRM_trans jq7 wr_31_7 (by omega)
            have hs_41 := SEG_frm hs_29 wr_31_6 wr_31_7 (by omega)
            refine lv_aload_n hx hb dX12_sum_48 rfl (lv_at hl 1 rfl) ?_
            refine lv_iload_n hx hb dX12_sum_49 rfl (lv_at hl 0 rfl) ?_
            refine lv_iconst (v := 0) hx hb dX12_sum_50 (by decide) ?_
            refine cV_v (As := [.int r_28, .int 0]) (rest := []) ⟨hx, hb, hml, hown, hg⟩ (k_X12_addStep l D cs A bd (va_up (va_up (va_up (va_up u 16 o_u16_32) 17 o_u17_33) 18 o_u18_34) 19 o_u19_35) (va_up (va_up b 20 o_b20_36) 21 o_b21_37) bw  r_28 0 (show 0 ≤ o_u19_35.toInt by first | omega | decide) (show o_u19_35.toInt ≤ 129 by first | omega | decide) (show -128 ≤ r_28.toInt by first | omega | decide) (show r_28.toInt ≤ 127 by first | omega | decide) wr_31_9) ca_X12_addStep q6_73 ⟨rfl, rfl⟩ ⟨(show 0 + 1 ≤ 10 * n + 8 by omega), (show 8 + (3 + 11) + (0) ≤ 300 * n + 310 by omega)⟩ (rc_model hK hP) hK hP hD hS hZ rfl hl.1 rfl (Nat.le_of_ble_eq_true rfl) ⟨Nat.zero_le _, Nat.zero_le _⟩ dX12_sum_51 (fun z_46 H locs wr_42 hP hD hS => ?_)
            obtain ⟨o_u19_43, o_b20_44, o_b21_45⟩ := z_46
            have hP : va_P D vwCl (RW cs bd (va_up (va_up (va_up (va_up u 16 o_u16_32) 17 o_u17_33) 18 o_u18_34) 19 o_u19_43) (va_up (va_up b 20 o_b20_44) 21 o_b21_45) bw) H := hP
            have hD : va_D A (RW cs bd (va_up (va_up (va_up (va_up u 16 o_u16_32) 17 o_u17_33) 18 o_u18_34) 19 o_u19_43) (va_up (va_up b 20 o_b20_44) 21 o_b21_45) bw) := hD
            obtain ⟨wr_42_0, wr_42_1, wr_42_2, wr_42_3, wr_42_4, wr_42_5⟩ : (o_u19_43.toInt = o_u19_35.toInt + 1) ∧ (FRM (130 + o_u19_35.toInt.toNat) o_b20_36 o_b20_44) ∧ (FRM (130 + o_u19_35.toInt.toNat) o_b21_37 o_b21_45) ∧ ((o_b20_44 (130 + o_u19_35.toInt.toNat)).toInt = r_28.toInt) ∧ ((o_b21_45 (130 + o_u19_35.toInt.toNat)).toInt = (0 : Int)) ∧ (AB (-128) 127 o_b20_44) := wr_42
            have hA_47 : FRM (130 + (u 19).toInt.toNat) (b 20) o_b20_44 := FRM_trans hA_39 wr_42_1 (by omega)
            have hA_48 : FRM (130 + (u 19).toInt.toNat) (b 21) o_b21_45 := FRM_trans hA_40 wr_42_2 (by omega)
            have hsg_49 : o_u17_33.toInt = -1 → SEGI o_b20_44 o_b21_45 (130 + (u 19).toInt.toNat) (130 + o_u19_43.toInt.toNat) := fun hq => SEG_bin (SEG_frm hs_41 wr_42_1 wr_42_2 (by omega)) (SEG_frm (wr_31_8 (by omega)) wr_42_1 wr_42_2 (by omega)) (by omega) (by omega)
            refine lv_goto (tgt := 4) hx hb dX12_sum_54 (by decide) ?_
            exact ih o_u16_32 o_u17_33 o_u18_34 o_u19_43 o_b20_44 o_b21_45 _ _ (by omega) (by omega) (by omega) (by omega) (by omega) (by omega) hA_47 hA_48 hsg_49 wr_42_5 (by omega) hP hD hS ls (lv_sub hl [1] rfl)
  refine lv_aload_n hx hb dX12_sum_0 rfl (lv_at hl 0 rfl) ?_
  refine cV_v (As := []) (rest := []) ⟨hx, hb, hml, hown, hg⟩ (h1n l D cs A bd u b bw   (show (u 17).toInt = -1 by first | omega | decide) (show 0 ≤ (u 16).toInt by first | omega | decide) (show (u 16).toInt ≤ (u 15).toInt by first | omega | decide) (show 0 ≤ (u 19).toInt by first | omega | decide) (show (u 19).toInt ≤ (u 16).toInt by first | omega | decide) (show 0 ≤ (u 18).toInt by first | omega | decide) (show (u 18).toInt ≤ 6 by first | omega | decide) (show 6 ≤ (u 18).toInt + (n : Int) by first | omega | decide) (show 0 ≤ (u 15).toInt by first | omega | decide) (show (u 15).toInt ≤ 120 by first | omega | decide) ib20_0) ca_X12_product q6_58 ⟨rfl, rfl⟩ ⟨(show 10 * n + 7 + 1 ≤ 10 * n + 8 by omega), (show 8 + (2 + 11) + (300 * n + 280) ≤ 300 * n + 310 by omega)⟩ (rc_model hK hP) hK hP hD hS hZ rfl hl.1 rfl (Nat.le_of_ble_eq_true rfl) ⟨Nat.zero_le _, Nat.zero_le _⟩ dX12_sum_1 (fun z_57 H locs wr_50 hP hD hS => ?_)
  obtain ⟨o_u16_51, o_u17_52, o_u18_53, o_u19_54, o_b20_55, o_b21_56⟩ := z_57
  have hP : va_P D vwCl (RW cs bd (va_up (va_up (va_up (va_up u 16 o_u16_51) 17 o_u17_52) 18 o_u18_53) 19 o_u19_54) (va_up (va_up b 20 o_b20_55) 21 o_b21_56) bw) H := hP
  have hD : va_D A (RW cs bd (va_up (va_up (va_up (va_up u 16 o_u16_51) 17 o_u17_52) 18 o_u18_53) 19 o_u19_54) (va_up (va_up b 20 o_b20_55) 21 o_b21_56) bw) := hD
  obtain ⟨wr_50_0, wr_50_1, wr_50_2, wr_50_3, wr_50_4, wr_50_5, wr_50_6, wr_50_7, wr_50_8, wr_50_9⟩ : ((o_u17_52.toInt = -1 ∧ o_u18_53.toInt = (u 18).toInt ∧ (u 16).toInt < o_u16_51.toInt ∧ o_u19_54.toInt - (u 19).toInt ≤ o_u16_51.toInt - (u 16).toInt) ∨ (0 ≤ o_u17_52.toInt ∧ o_u19_54.toInt - (u 19).toInt ≤ o_u16_51.toInt - (u 16).toInt + 1)) ∧ ((u 16).toInt ≤ o_u16_51.toInt) ∧ (o_u16_51.toInt ≤ (u 15).toInt) ∧ ((u 18).toInt ≤ o_u18_53.toInt) ∧ (o_u18_53.toInt ≤ 6) ∧ ((u 19).toInt ≤ o_u19_54.toInt) ∧ (FRM (130 + (u 19).toInt.toNat) (b 20) o_b20_55) ∧ (FRM (130 + (u 19).toInt.toNat) (b 21) o_b21_56) ∧ (o_u17_52.toInt = -1 → SEGI o_b20_55 o_b21_56 (130 + (u 19).toInt.toNat) (130 + o_u19_54.toInt.toNat)) ∧ (AB (-128) 127 o_b20_55) := wr_50
  have hA_58 : FRM (130 + (u 19).toInt.toNat) (b 20) o_b20_55 := FRM_trans FRM_refl wr_50_6 (by omega)
  have hA_59 : FRM (130 + (u 19).toInt.toNat) (b 21) o_b21_56 := FRM_trans FRM_refl wr_50_7 (by omega)
  exact (hcut ((((u 15).toInt - o_u16_51.toInt).toNat) + 1)) o_u16_51 o_u17_52 o_u18_53 o_u19_54 o_b20_55 o_b21_56 _ _ (by omega) (by omega) (by omega) (by omega) (by omega) (by omega) hA_58 hA_59 (fun hq => wr_50_8 (by first | omega | (dsimp only at hq; omega))) wr_50_9 (Nat.lt_succ_self _) hP hD hS ls (lv_sub hl [0] rfl)
set_option maxHeartbeats 4000000 in
set_option maxRecDepth 100000 in
theorem s_X12_compared (n : Nat) (h1n : C_X12_sum n) : C_X12_compared n := by
  intro l D cs A bd u b bw hT hh0 hh1 hL0 hL1 ho0 ho6 hon iu15_0 iu15_1 ib20_0
  refine Met.ofW (cc := cX12_compared) (maxL := 2) (ret := none) (by decide) rfl ?_
  intro p e s m args below meth c s₁ B hml hv
  obtain ⟨rfl, hP, hK, hD, hZ⟩ := hv
  have hx := B.exec
  have hb := B.bytes
  have hr := B.returns
  have hts := atoms_spec (ws := (Cond.code yX12_compared cX12_compared 2 none :: gw)) B.pre
  have hg : ∀ w ∈ gw, w.before ([.ref (bd 0)] : List Value).toArray s = true := fun w h => hts w (List.mem_cons_of_mem _ h)
  have hown : s.vm.findClass RX12 = some m.cls := findClass_of_methodNamed B.named
  have hlocks := B.notSynchronized
  have hS : va_S A s.heap s.heap [] := va_S.rf
  have hP : va_P D vwCl (RW cs bd u b bw) s.heap := hP
  have hl := lv_entry ([.ref (bd 0)]) (n := 2) (Nat.le_of_ble_eq_true rfl)
  rw [lg_entry_eq]
  generalize (lg_sl ([.ref (bd 0)]) ++ List.replicate (2 - (lg_sl ([.ref (bd 0)])).length) Slot.unset).toArray = ls at hl ⊢
  have hl : lv_has ls 2 [(0, .ref (bd 0))] := hl
  refine lv_aload_n hx hb dX12_compared_0 rfl (lv_at hl 0 rfl) ?_
  refine cV_v (As := []) (rest := []) ⟨hx, hb, hml, hown, hg⟩ (h1n l D cs A bd u b bw   (show (u 17).toInt = -1 by first | omega | decide) (show 0 ≤ (u 16).toInt by first | omega | decide) (show (u 16).toInt ≤ (u 15).toInt by first | omega | decide) (show 0 ≤ (u 19).toInt by first | omega | decide) (show (u 19).toInt ≤ (u 16).toInt by first | omega | decide) (show 0 ≤ (u 18).toInt by first | omega | decide) (show (u 18).toInt ≤ 6 by first | omega | decide) (show 6 ≤ (u 18).toInt + (n : Int) by first | omega | decide) (show 0 ≤ (u 15).toInt by first | omega | decide) (show (u 15).toInt ≤ 120 by first | omega | decide) ib20_0) ca_X12_sum q6_54 ⟨rfl, rfl⟩ ⟨(show 10 * n + 8 + 1 ≤ 10 * n + 9 by omega), (show 8 + (2 + 11) + (300 * n + 310) ≤ 300 * n + 340 by omega)⟩ (rc_model hK hP) hK hP hD hS hZ rfl hl.1 rfl (Nat.le_of_ble_eq_true rfl) ⟨Nat.zero_le _, Nat.zero_le _⟩ dX12_compared_1 (fun z_8 H locs wr_1 hP hD hS => ?_)
  obtain ⟨o_u16_2, o_u17_3, o_u18_4, o_u19_5, o_b20_6, o_b21_7⟩ := z_8
  have hP : va_P D vwCl (RW cs bd (va_up (va_up (va_up (va_up u 16 o_u16_2) 17 o_u17_3) 18 o_u18_4) 19 o_u19_5) (va_up (va_up b 20 o_b20_6) 21 o_b21_7) bw) H := hP
  have hD : va_D A (RW cs bd (va_up (va_up (va_up (va_up u 16 o_u16_2) 17 o_u17_3) 18 o_u18_4) 19 o_u19_5) (va_up (va_up b 20 o_b20_6) 21 o_b21_7) bw) := hD
  obtain ⟨wr_1_0, wr_1_1, wr_1_2, wr_1_3, wr_1_4, wr_1_5, wr_1_6, wr_1_7, wr_1_8, wr_1_9⟩ : ((o_u17_3.toInt = -1 ∧ o_u18_4.toInt = (u 18).toInt ∧ (u 16).toInt < o_u16_2.toInt ∧ o_u19_5.toInt - (u 19).toInt ≤ o_u16_2.toInt - (u 16).toInt) ∨ (0 ≤ o_u17_3.toInt ∧ o_u19_5.toInt - (u 19).toInt ≤ o_u16_2.toInt - (u 16).toInt + 1)) ∧ ((u 16).toInt ≤ o_u16_2.toInt) ∧ (o_u16_2.toInt ≤ (u 15).toInt) ∧ ((u 18).toInt ≤ o_u18_4.toInt) ∧ (o_u18_4.toInt ≤ 6) ∧ ((u 19).toInt ≤ o_u19_5.toInt) ∧ (FRM (130 + (u 19).toInt.toNat) (b 20) o_b20_6) ∧ (FRM (130 + (u 19).toInt.toNat) (b 21) o_b21_7) ∧ (o_u17_3.toInt = -1 → SEGI o_b20_6 o_b21_7 (130 + (u 19).toInt.toNat) (130 + o_u19_5.toInt.toNat)) ∧ (AB (-128) 127 o_b20_6) := wr_1
  have hA_9 : FRM (130 + (u 19).toInt.toNat) (b 20) o_b20_6 := FRM_trans FRM_refl wr_1_6 (by omega)
  have hA_10 : FRM (130 + (u 19).toInt.toNat) (b 21) o_b21_7 := FRM_trans FRM_refl wr_1_7 (by omega)
  refine lv_aload_n hx hb dX12_compared_4 rfl (lv_at hl 0 rfl) ?_
  refine cV_ro (As := []) (rest := []) ⟨hx, hb, hml, hown, hg⟩ (k_X12_look l D cs A bd (va_up (va_up (va_up (va_up u 16 o_u16_2) 17 o_u17_3) 18 o_u18_4) 19 o_u19_5) (va_up (va_up b 20 o_b20_6) 21 o_b21_7) bw   (show 0 ≤ o_u16_2.toInt by first | omega | decide) (show 0 ≤ (u 15).toInt by first | omega | decide) (show (u 15).toInt ≤ 120 by first | omega | decide)) ca_X12_look q6_66 ⟨rfl, rfl⟩ ⟨(show 0 + 1 ≤ 10 * n + 9 by omega), (show 8 + (1 + 11) + (0) ≤ 300 * n + 340 by omega)⟩ (rc_model hK hP) hK hP hD hS hZ rfl hl.1 rfl (Nat.le_of_ble_eq_true rfl) ⟨Nat.zero_le _, Nat.zero_le _⟩ dX12_compared_5 (fun r_11 wr_11 => ?_)
  have wr_11_0 : (o_u16_2.toInt < (u 15).toInt ∧ r_11.toInt = ((b 14) o_u16_2.toNatClampNeg).toInt) ∨ ((u 15).toInt ≤ o_u16_2.toInt ∧ r_11.toInt = -1) := wr_11
  refine lv_istore_n (lv' := [(1, .int r_11), (0, .ref (bd 0))]) hx hb dX12_compared_8 rfl hl (by decide) rfl (fun ls hl => ?_)
  refine lv_aload_n hx hb dX12_compared_9 rfl (lv_at hl 1 rfl) ?_
  refine gr_fault hx hb hg hown hK hP (x := o_u17_3) rfl (hg _ q5_9) dX12_compared_10 ?_
  refine lv_if_ge (tgt := 34) hx hb dX12_compared_13 (by decide) (fun c_12 => ?_) (fun c_12 => ?_)
  ·
    have kc_12 : (0 : Int) ≤ o_u17_3.toInt := i_le c_12
    exact W.vret hx hb hr (fun tt ht hW => ⟨⟨⟨o_u16_2, o_u17_3, o_u18_4, o_u19_5, o_b20_6, o_b21_7⟩, rfl, ⟨(by first | rfl | omega | trivial | assumption | (dsimp only; first | omega | assumption)), (by first | rfl | omega | trivial | assumption | (dsimp only; first | omega | assumption)), (by first | rfl | omega | trivial | assumption | (dsimp only; first | omega | assumption)), (by first | rfl | omega | trivial | assumption | (dsimp only; first | omega | assumption)), (by first | rfl | omega | trivial | assumption | (dsimp only; first | omega | assumption)), (by first | rfl | omega | trivial | assumption | (dsimp only; first | omega | assumption)), hA_9, hA_10, (fun hq => wr_1_8 (by first | omega | (dsimp only at hq; omega))), wr_1_9⟩, by rw [ht]; exact hP, hD⟩, hS.F ht⟩) hS.2.2 dX12_compared_34
  ·
    have kc_12 : o_u17_3.toInt < (0 : Int) := i_nle c_12
    refine lv_iload_n hx hb dX12_compared_16 rfl (lv_at hl 0 rfl) ?_
    refine lv_bipush (v := 60) hx hb dX12_compared_17 (by decide) ?_
    refine lv_icmp_eq (tgt := 35) hx hb dX12_compared_19 (by decide) (fun c_13 => ?_) (fun c_13 => ?_)
    ·
      have kc_13 : r_11.toInt = (60 : Int) := i_eq c_13
      have hs_14 := wr_1_8 (by omega)
      refine lv_aload_n hx hb dX12_compared_35 rfl (lv_at hl 1 rfl) ?_
      refine lv_dup hx hb dX12_compared_36 rfl ?_
      refine gr_here hx hb hg hown hK hP (x := o_u16_2) rfl (hg _ q5_8) dX12_compared_37 ?_
      refine lv_iconst (v := 1) hx hb dX12_compared_40 (by decide) ?_
      refine lv_iadd hx hb dX12_compared_41 ?_
      refine lv_topi (fun x_15 ex_15 => ?_)
      have fx_15 : x_15.toInt = o_u16_2.toInt + (1 : Int) := by rw [ex_15]; exact i_add (by first | omega | (show (_ : Int) ≤ o_u16_2.toInt + (1 : Int); omega)) (by first | omega | (show o_u16_2.toInt + (1 : Int) ≤ (_ : Int); omega))
      refine pr_here hx hb hg hown hK hP hD hS (hg _ q5_8) dX12_compared_42 (fun H locs hP hD hS => ?_)
      refine lv_aload_n hx hb dX12_compared_45 rfl (lv_at hl 1 rfl) ?_
      refine cV_v (As := []) (rest := []) ⟨hx, hb, hml, hown, hg⟩ (h1n l D cs A bd (va_up (va_up (va_up (va_up u 17 o_u17_3) 18 o_u18_4) 19 o_u19_5) 16 x_15) (va_up (va_up b 20 o_b20_6) 21 o_b21_7) bw   (show o_u17_3.toInt = -1 by first | omega | decide) (show 0 ≤ x_15.toInt by first | omega | decide) (show x_15.toInt ≤ (u 15).toInt by first | omega | decide) (show 0 ≤ o_u19_5.toInt by first | omega | decide) (show o_u19_5.toInt ≤ x_15.toInt by first | omega | decide) (show 0 ≤ o_u18_4.toInt by first | omega | decide) (show o_u18_4.toInt ≤ 6 by first | omega | decide) (show 6 ≤ o_u18_4.toInt + (n : Int) by first | omega | decide) (show 0 ≤ (u 15).toInt by first | omega | decide) (show (u 15).toInt ≤ 120 by first | omega | decide) wr_1_9) ca_X12_sum q6_54 ⟨rfl, rfl⟩ ⟨(show 10 * n + 8 + 1 ≤ 10 * n + 9 by omega), (show 8 + (2 + 11) + (300 * n + 310) ≤ 300 * n + 340 by omega)⟩ (rc_model hK hP) hK hP hD hS hZ rfl hl.1 rfl (Nat.le_of_ble_eq_true rfl) ⟨Nat.zero_le _, Nat.zero_le _⟩ dX12_compared_46 (fun z_23 H locs wr_16 hP hD hS => ?_)
      obtain ⟨o_u16_17, o_u17_18, o_u18_19, o_u19_20, o_b20_21, o_b21_22⟩ := z_23
      have hP : va_P D vwCl (RW cs bd (va_up (va_up (va_up (va_up u 16 o_u16_17) 17 o_u17_18) 18 o_u18_19) 19 o_u19_20) (va_up (va_up b 20 o_b20_21) 21 o_b21_22) bw) H := hP
      have hD : va_D A (RW cs bd (va_up (va_up (va_up (va_up u 16 o_u16_17) 17 o_u17_18) 18 o_u18_19) 19 o_u19_20) (va_up (va_up b 20 o_b20_21) 21 o_b21_22) bw) := hD
      obtain ⟨wr_16_0, wr_16_1, wr_16_2, wr_16_3, wr_16_4, wr_16_5, wr_16_6, wr_16_7, wr_16_8, wr_16_9⟩ : ((o_u17_18.toInt = -1 ∧ o_u18_19.toInt = o_u18_4.toInt ∧ x_15.toInt < o_u16_17.toInt ∧ o_u19_20.toInt - o_u19_5.toInt ≤ o_u16_17.toInt - x_15.toInt) ∨ (0 ≤ o_u17_18.toInt ∧ o_u19_20.toInt - o_u19_5.toInt ≤ o_u16_17.toInt - x_15.toInt + 1)) ∧ (x_15.toInt ≤ o_u16_17.toInt) ∧ (o_u16_17.toInt ≤ (u 15).toInt) ∧ (o_u18_4.toInt ≤ o_u18_19.toInt) ∧ (o_u18_19.toInt ≤ 6) ∧ (o_u19_5.toInt ≤ o_u19_20.toInt) ∧ (FRM (130 + o_u19_5.toInt.toNat) o_b20_6 o_b20_21) ∧ (FRM (130 + o_u19_5.toInt.toNat) o_b21_7 o_b21_22) ∧ (o_u17_18.toInt = -1 → SEGI o_b20_21 o_b21_22 (130 + o_u19_5.toInt.toNat) (130 + o_u19_20.toInt.toNat)) ∧ (AB (-128) 127 o_b20_21) := wr_16
      have hA_24 : FRM (130 + (u 19).toInt.toNat) (b 20) o_b20_21 := FRM_trans hA_9 wr_16_6 (by omega)
      have hA_25 : FRM (130 + (u 19).toInt.toNat) (b 21) o_b21_22 := FRM_trans hA_10 wr_16_7 (by omega)
      have hs_26 := SEG_frm hs_14 wr_16_6 wr_16_7 (by omega)
      refine lv_aload_n hx hb dX12_compared_49 rfl (lv_at hl 1 rfl) ?_
      refine lv_iload_n hx hb dX12_compared_50 rfl (lv_at hl 0 rfl) ?_
      refine lv_iconst (v := 0) hx hb dX12_compared_51 (by decide) ?_
      refine cV_v (As := [.int r_11, .int 0]) (rest := []) ⟨hx, hb, hml, hown, hg⟩ (k_X12_addStep l D cs A bd (va_up (va_up (va_up (va_up u 16 o_u16_17) 17 o_u17_18) 18 o_u18_19) 19 o_u19_20) (va_up (va_up b 20 o_b20_21) 21 o_b21_22) bw  r_11 0 (show 0 ≤ o_u19_20.toInt by first | omega | decide) (show o_u19_20.toInt ≤ 129 by first | omega | decide) (show -128 ≤ r_11.toInt by first | omega | decide) (show r_11.toInt ≤ 127 by first | omega | decide) wr_16_9) ca_X12_addStep q6_73 ⟨rfl, rfl⟩ ⟨(show 0 + 1 ≤ 10 * n + 9 by omega), (show 8 + (3 + 11) + (0) ≤ 300 * n + 340 by omega)⟩ (rc_model hK hP) hK hP hD hS hZ rfl hl.1 rfl (Nat.le_of_ble_eq_true rfl) ⟨Nat.zero_le _, Nat.zero_le _⟩ dX12_compared_52 (fun z_31 H locs wr_27 hP hD hS => ?_)
      obtain ⟨o_u19_28, o_b20_29, o_b21_30⟩ := z_31
      have hP : va_P D vwCl (RW cs bd (va_up (va_up (va_up (va_up u 16 o_u16_17) 17 o_u17_18) 18 o_u18_19) 19 o_u19_28) (va_up (va_up b 20 o_b20_29) 21 o_b21_30) bw) H := hP
      have hD : va_D A (RW cs bd (va_up (va_up (va_up (va_up u 16 o_u16_17) 17 o_u17_18) 18 o_u18_19) 19 o_u19_28) (va_up (va_up b 20 o_b20_29) 21 o_b21_30) bw) := hD
      obtain ⟨wr_27_0, wr_27_1, wr_27_2, wr_27_3, wr_27_4, wr_27_5⟩ : (o_u19_28.toInt = o_u19_20.toInt + 1) ∧ (FRM (130 + o_u19_20.toInt.toNat) o_b20_21 o_b20_29) ∧ (FRM (130 + o_u19_20.toInt.toNat) o_b21_22 o_b21_30) ∧ ((o_b20_29 (130 + o_u19_20.toInt.toNat)).toInt = r_11.toInt) ∧ ((o_b21_30 (130 + o_u19_20.toInt.toNat)).toInt = (0 : Int)) ∧ (AB (-128) 127 o_b20_29) := wr_27
      have hA_32 : FRM (130 + (u 19).toInt.toNat) (b 20) o_b20_29 := FRM_trans hA_24 wr_27_1 (by omega)
      have hA_33 : FRM (130 + (u 19).toInt.toNat) (b 21) o_b21_30 := FRM_trans hA_25 wr_27_2 (by omega)
      have hsg_34 : o_u17_18.toInt = -1 → SEGI o_b20_29 o_b21_30 (130 + (u 19).toInt.toNat) (130 + o_u19_28.toInt.toNat) := fun hq => SEG_bin (SEG_frm hs_26 wr_27_1 wr_27_2 (by omega)) (SEG_frm (wr_16_8 (by omega)) wr_27_1 wr_27_2 (by omega)) (by omega) (by omega)
      exact W.vret hx hb hr (fun tt ht hW => ⟨⟨⟨o_u16_17, o_u17_18, o_u18_19, o_u19_28, o_b20_29, o_b21_30⟩, rfl, ⟨(by first | rfl | omega | trivial | assumption | (dsimp only; first | omega | assumption)), (by first | rfl | omega | trivial | assumption | (dsimp only; first | omega | assumption)), (by first | rfl | omega | trivial | assumption | (dsimp only; first | omega | assumption)), (by first | rfl | omega | trivial | assumption | (dsimp only; first | omega | assumption)), (by first | rfl | omega | trivial | assumption | (dsimp only; first | omega | assumption)), (by first | rfl | omega | trivial | assumption | (dsimp only; first | omega | assumption)), hA_32, hA_33, hsg_34, wr_27_5⟩, by rw [ht]; exact hP, hD⟩, hS.F ht⟩) hS.2.2 dX12_compared_55
    ·
      have kc_13 : r_11.toInt ≠ (60 : Int) := i_ne c_13
      refine lv_iload_n hx hb dX12_compared_22 rfl (lv_at hl 0 rfl) ?_
      refine lv_bipush (v := 61) hx hb dX12_compared_23 (by decide) ?_
      refine lv_icmp_eq (tgt := 35) hx hb dX12_compared_25 (by decide) (fun c_35 => ?_) (fun c_35 => ?_)
      ·
        have kc_35 : r_11.toInt = (61 : Int) := i_eq c_35
        have hs_36 := wr_1_8 (by omega)
        refine lv_aload_n hx hb dX12_compared_35 rfl (lv_at hl 1 rfl) ?_
        refine lv_dup hx hb dX12_compared_36 rfl ?_
        refine gr_here hx hb hg hown hK hP (x := o_u16_2) rfl (hg _ q5_8) dX12_compared_37 ?_
        refine lv_iconst (v := 1) hx hb dX12_compared_40 (by decide) ?_
        refine lv_iadd hx hb dX12_compared_41 ?_
        refine lv_topi (fun x_37 ex_37 => ?_)
        have fx_37 : x_37.toInt = o_u16_2.toInt + (1 : Int) := by rw [ex_37]; exact i_add (by first | omega | (show (_ : Int) ≤ o_u16_2.toInt + (1 : Int); omega)) (by first | omega | (show o_u16_2.toInt + (1 : Int) ≤ (_ : Int); omega))
        refine pr_here hx hb hg hown hK hP hD hS (hg _ q5_8) dX12_compared_42 (fun H locs hP hD hS => ?_)
        refine lv_aload_n hx hb dX12_compared_45 rfl (lv_at hl 1 rfl) ?_
        refine cV_v (As := []) (rest := []) ⟨hx, hb, hml, hown, hg⟩ (h1n l D cs A bd (va_up (va_up (va_up (va_up u 17 o_u17_3) 18 o_u18_4) 19 o_u19_5) 16 x_37) (va_up (va_up b 20 o_b20_6) 21 o_b21_7) bw   (show o_u17_3.toInt = -1 by first | omega | decide) (show 0 ≤ x_37.toInt by first | omega | decide) (show x_37.toInt ≤ (u 15).toInt by first | omega | decide) (show 0 ≤ o_u19_5.toInt by first | omega | decide) (show o_u19_5.toInt ≤ x_37.toInt by first | omega | decide) (show 0 ≤ o_u18_4.toInt by first | omega | decide) (show o_u18_4.toInt ≤ 6 by first | omega | decide) (show 6 ≤ o_u18_4.toInt + (n : Int) by first | omega | decide) (show 0 ≤ (u 15).toInt by first | omega | decide) (show (u 15).toInt ≤ 120 by first | omega | decide) wr_1_9) ca_X12_sum q6_54 ⟨rfl, rfl⟩ ⟨(show 10 * n + 8 + 1 ≤ 10 * n + 9 by omega), (show 8 + (2 + 11) + (300 * n + 310) ≤ 300 * n + 340 by omega)⟩ (rc_model hK hP) hK hP hD hS hZ rfl hl.1 rfl (Nat.le_of_ble_eq_true rfl) ⟨Nat.zero_le _, Nat.zero_le _⟩ dX12_compared_46 (fun z_45 H locs wr_38 hP hD hS => ?_)
        obtain ⟨o_u16_39, o_u17_40, o_u18_41, o_u19_42, o_b20_43, o_b21_44⟩ := z_45
        have hP : va_P D vwCl (RW cs bd (va_up (va_up (va_up (va_up u 16 o_u16_39) 17 o_u17_40) 18 o_u18_41) 19 o_u19_42) (va_up (va_up b 20 o_b20_43) 21 o_b21_44) bw) H := hP
        have hD : va_D A (RW cs bd (va_up (va_up (va_up (va_up u 16 o_u16_39) 17 o_u17_40) 18 o_u18_41) 19 o_u19_42) (va_up (va_up b 20 o_b20_43) 21 o_b21_44) bw) := hD
        obtain ⟨wr_38_0, wr_38_1, wr_38_2, wr_38_3, wr_38_4, wr_38_5, wr_38_6, wr_38_7, wr_38_8, wr_38_9⟩ : ((o_u17_40.toInt = -1 ∧ o_u18_41.toInt = o_u18_4.toInt ∧ x_37.toInt < o_u16_39.toInt ∧ o_u19_42.toInt - o_u19_5.toInt ≤ o_u16_39.toInt - x_37.toInt) ∨ (0 ≤ o_u17_40.toInt ∧ o_u19_42.toInt - o_u19_5.toInt ≤ o_u16_39.toInt - x_37.toInt + 1)) ∧ (x_37.toInt ≤ o_u16_39.toInt) ∧ (o_u16_39.toInt ≤ (u 15).toInt) ∧ (o_u18_4.toInt ≤ o_u18_41.toInt) ∧ (o_u18_41.toInt ≤ 6) ∧ (o_u19_5.toInt ≤ o_u19_42.toInt) ∧ (FRM (130 + o_u19_5.toInt.toNat) o_b20_6 o_b20_43) ∧ (FRM (130 + o_u19_5.toInt.toNat) o_b21_7 o_b21_44) ∧ (o_u17_40.toInt = -1 → SEGI o_b20_43 o_b21_44 (130 + o_u19_5.toInt.toNat) (130 + o_u19_42.toInt.toNat)) ∧ (AB (-128) 127 o_b20_43) := wr_38
        have hA_46 : FRM (130 + (u 19).toInt.toNat) (b 20) o_b20_43 := FRM_trans hA_9 wr_38_6 (by omega)
        have hA_47 : FRM (130 + (u 19).toInt.toNat) (b 21) o_b21_44 := FRM_trans hA_10 wr_38_7 (by omega)
        have hs_48 := SEG_frm hs_36 wr_38_6 wr_38_7 (by omega)
        refine lv_aload_n hx hb dX12_compared_49 rfl (lv_at hl 1 rfl) ?_
        refine lv_iload_n hx hb dX12_compared_50 rfl (lv_at hl 0 rfl) ?_
        refine lv_iconst (v := 0) hx hb dX12_compared_51 (by decide) ?_
        refine cV_v (As := [.int r_11, .int 0]) (rest := []) ⟨hx, hb, hml, hown, hg⟩ (k_X12_addStep l D cs A bd (va_up (va_up (va_up (va_up u 16 o_u16_39) 17 o_u17_40) 18 o_u18_41) 19 o_u19_42) (va_up (va_up b 20 o_b20_43) 21 o_b21_44) bw  r_11 0 (show 0 ≤ o_u19_42.toInt by first | omega | decide) (show o_u19_42.toInt ≤ 129 by first | omega | decide) (show -128 ≤ r_11.toInt by first | omega | decide) (show r_11.toInt ≤ 127 by first | omega | decide) wr_38_9) ca_X12_addStep q6_73 ⟨rfl, rfl⟩ ⟨(show 0 + 1 ≤ 10 * n + 9 by omega), (show 8 + (3 + 11) + (0) ≤ 300 * n + 340 by omega)⟩ (rc_model hK hP) hK hP hD hS hZ rfl hl.1 rfl (Nat.le_of_ble_eq_true rfl) ⟨Nat.zero_le _, Nat.zero_le _⟩ dX12_compared_52 (fun z_53 H locs wr_49 hP hD hS => ?_)
        obtain ⟨o_u19_50, o_b20_51, o_b21_52⟩ := z_53
        have hP : va_P D vwCl (RW cs bd (va_up (va_up (va_up (va_up u 16 o_u16_39) 17 o_u17_40) 18 o_u18_41) 19 o_u19_50) (va_up (va_up b 20 o_b20_51) 21 o_b21_52) bw) H := hP
        have hD : va_D A (RW cs bd (va_up (va_up (va_up (va_up u 16 o_u16_39) 17 o_u17_40) 18 o_u18_41) 19 o_u19_50) (va_up (va_up b 20 o_b20_51) 21 o_b21_52) bw) := hD
        obtain ⟨wr_49_0, wr_49_1, wr_49_2, wr_49_3, wr_49_4, wr_49_5⟩ : (o_u19_50.toInt = o_u19_42.toInt + 1) ∧ (FRM (130 + o_u19_42.toInt.toNat) o_b20_43 o_b20_51) ∧ (FRM (130 + o_u19_42.toInt.toNat) o_b21_44 o_b21_52) ∧ ((o_b20_51 (130 + o_u19_42.toInt.toNat)).toInt = r_11.toInt) ∧ ((o_b21_52 (130 + o_u19_42.toInt.toNat)).toInt = (0 : Int)) ∧ (AB (-128) 127 o_b20_51) := wr_49
        have hA_54 : FRM (130 + (u 19).toInt.toNat) (b 20) o_b20_51 := FRM_trans hA_46 wr_49_1 (by omega)
        have hA_55 : FRM (130 + (u 19).toInt.toNat) (b 21) o_b21_52 := FRM_trans hA_47 wr_49_2 (by omega)
        have hsg_56 : o_u17_40.toInt = -1 → SEGI o_b20_51 o_b21_52 (130 + (u 19).toInt.toNat) (130 + o_u19_50.toInt.toNat) := fun hq => SEG_bin (SEG_frm hs_48 wr_49_1 wr_49_2 (by omega)) (SEG_frm (wr_38_8 (by omega)) wr_49_1 wr_49_2 (by omega)) (by omega) (by omega)
        exact W.vret hx hb hr (fun tt ht hW => ⟨⟨⟨o_u16_39, o_u17_40, o_u18_41, o_u19_50, o_b20_51, o_b21_52⟩, rfl, ⟨(by first | rfl | omega | trivial | assumption | (dsimp only; first | omega | assumption)), (by first | rfl | omega | trivial | assumption | (dsimp only; first | omega | assumption)), (by first | rfl | omega | trivial | assumption | (dsimp only; first | omega | assumption)), (by first | rfl | omega | trivial | assumption | (dsimp only; first | omega | assumption)), (by first | rfl | omega | trivial | assumption | (dsimp only; first | omega | assumption)), (by first | rfl | omega | trivial | assumption | (dsimp only; first | omega | assumption)), hA_54, hA_55, hsg_56, wr_49_5⟩, by rw [ht]; exact hP, hD⟩, hS.F ht⟩) hS.2.2 dX12_compared_55
      ·
        have kc_35 : r_11.toInt ≠ (61 : Int) := i_ne c_35
        refine lv_iload_n hx hb dX12_compared_28 rfl (lv_at hl 0 rfl) ?_
        refine lv_bipush (v := 62) hx hb dX12_compared_29 (by decide) ?_
        refine lv_icmp_eq (tgt := 35) hx hb dX12_compared_31 (by decide) (fun c_57 => ?_) (fun c_57 => ?_)
        ·
          have kc_57 : r_11.toInt = (62 : Int) := i_eq c_57
          have hs_58 := wr_1_8 (by omega)
          refine lv_aload_n hx hb dX12_compared_35 rfl (lv_at hl 1 rfl) ?_
          refine lv_dup hx hb dX12_compared_36 rfl ?_
          refine gr_here hx hb hg hown hK hP (x := o_u16_2) rfl (hg _ q5_8) dX12_compared_37 ?_
          refine lv_iconst (v := 1) hx hb dX12_compared_40 (by decide) ?_
          refine lv_iadd hx hb dX12_compared_41 ?_
          refine lv_topi (fun x_59 ex_59 => ?_)
          have fx_59 : x_59.toInt = o_u16_2.toInt + (1 : Int) := by rw [ex_59]; exact i_add (by first | omega | (show (_ : Int) ≤ o_u16_2.toInt + (1 : Int); omega)) (by first | omega | (show o_u16_2.toInt + (1 : Int) ≤ (_ : Int); omega))
          refine pr_here hx hb hg hown hK hP hD hS (hg _ q5_8) dX12_compared_42 (fun H locs hP hD hS => ?_)
          refine lv_aload_n hx hb dX12_compared_45 rfl (lv_at hl 1 rfl) ?_
          refine cV_v (As := []) (rest := []) ⟨hx, hb, hml, hown, hg⟩ (h1n l D cs A bd (va_up (va_up (va_up (va_up u 17 o_u17_3) 18 o_u18_4) 19 o_u19_5) 16 x_59) (va_up (va_up b 20 o_b20_6) 21 o_b21_7) bw   (show o_u17_3.toInt = -1 by first | omega | decide) (show 0 ≤ x_59.toInt by first | omega | decide) (show x_59.toInt ≤ (u 15).toInt by first | omega | decide) (show 0 ≤ o_u19_5.toInt by first | omega | decide) (show o_u19_5.toInt ≤ x_59.toInt by first | omega | decide) (show 0 ≤ o_u18_4.toInt by first | omega | decide) (show o_u18_4.toInt ≤ 6 by first | omega | decide) (show 6 ≤ o_u18_4.toInt + (n : Int) by first | omega | decide) (show 0 ≤ (u 15).toInt by first | omega | decide) (show (u 15).toInt ≤ 120 by first | omega | decide) wr_1_9) ca_X12_sum q6_54 ⟨rfl, rfl⟩ ⟨(show 10 * n + 8 + 1 ≤ 10 * n + 9 by omega), (show 8 + (2 + 11) + (300 * n + 310) ≤ 300 * n + 340 by omega)⟩ (rc_model hK hP) hK hP hD hS hZ rfl hl.1 rfl (Nat.le_of_ble_eq_true rfl) ⟨Nat.zero_le _, Nat.zero_le _⟩ dX12_compared_46 (fun z_67 H locs wr_60 hP hD hS => ?_)
          obtain ⟨o_u16_61, o_u17_62, o_u18_63, o_u19_64, o_b20_65, o_b21_66⟩ := z_67
          have hP : va_P D vwCl (RW cs bd (va_up (va_up (va_up (va_up u 16 o_u16_61) 17 o_u17_62) 18 o_u18_63) 19 o_u19_64) (va_up (va_up b 20 o_b20_65) 21 o_b21_66) bw) H := hP
          have hD : va_D A (RW cs bd (va_up (va_up (va_up (va_up u 16 o_u16_61) 17 o_u17_62) 18 o_u18_63) 19 o_u19_64) (va_up (va_up b 20 o_b20_65) 21 o_b21_66) bw) := hD
          obtain ⟨wr_60_0, wr_60_1, wr_60_2, wr_60_3, wr_60_4, wr_60_5, wr_60_6, wr_60_7, wr_60_8, wr_60_9⟩ : ((o_u17_62.toInt = -1 ∧ o_u18_63.toInt = o_u18_4.toInt ∧ x_59.toInt < o_u16_61.toInt ∧ o_u19_64.toInt - o_u19_5.toInt ≤ o_u16_61.toInt - x_59.toInt) ∨ (0 ≤ o_u17_62.toInt ∧ o_u19_64.toInt - o_u19_5.toInt ≤ o_u16_61.toInt - x_59.toInt + 1)) ∧ (x_59.toInt ≤ o_u16_61.toInt) ∧ (o_u16_61.toInt ≤ (u 15).toInt) ∧ (o_u18_4.toInt ≤ o_u18_63.toInt) ∧ (o_u18_63.toInt ≤ 6) ∧ (o_u19_5.toInt ≤ o_u19_64.toInt) ∧ (FRM (130 + o_u19_5.toInt.toNat) o_b20_6 o_b20_65) ∧ (FRM (130 + o_u19_5.toInt.toNat) o_b21_7 o_b21_66) ∧ (o_u17_62.toInt = -1 → SEGI o_b20_65 o_b21_66 (130 + o_u19_5.toInt.toNat) (130 + o_u19_64.toInt.toNat)) ∧ (AB (-128) 127 o_b20_65) := wr_60
          have hA_68 : FRM (130 + (u 19).toInt.toNat) (b 20) o_b20_65 := FRM_trans hA_9 wr_60_6 (by omega)
          have hA_69 : FRM (130 + (u 19).toInt.toNat) (b 21) o_b21_66 := FRM_trans hA_10 wr_60_7 (by omega)
          have hs_70 := SEG_frm hs_58 wr_60_6 wr_60_7 (by omega)
          refine lv_aload_n hx hb dX12_compared_49 rfl (lv_at hl 1 rfl) ?_
          refine lv_iload_n hx hb dX12_compared_50 rfl (lv_at hl 0 rfl) ?_
          refine lv_iconst (v := 0) hx hb dX12_compared_51 (by decide) ?_
          refine cV_v (As := [.int r_11, .int 0]) (rest := []) ⟨hx, hb, hml, hown, hg⟩ (k_X12_addStep l D cs A bd (va_up (va_up (va_up (va_up u 16 o_u16_61) 17 o_u17_62) 18 o_u18_63) 19 o_u19_64) (va_up (va_up b 20 o_b20_65) 21 o_b21_66) bw  r_11 0 (show 0 ≤ o_u19_64.toInt by first | omega | decide) (show o_u19_64.toInt ≤ 129 by first | omega | decide) (show -128 ≤ r_11.toInt by first | omega | decide) (show r_11.toInt ≤ 127 by first | omega | decide) wr_60_9) ca_X12_addStep q6_73 ⟨rfl, rfl⟩ ⟨(show 0 + 1 ≤ 10 * n + 9 by omega), (show 8 + (3 + 11) + (0) ≤ 300 * n + 340 by omega)⟩ (rc_model hK hP) hK hP hD hS hZ rfl hl.1 rfl (Nat.le_of_ble_eq_true rfl) ⟨Nat.zero_le _, Nat.zero_le _⟩ dX12_compared_52 (fun z_75 H locs wr_71 hP hD hS => ?_)
          obtain ⟨o_u19_72, o_b20_73, o_b21_74⟩ := z_75
          have hP : va_P D vwCl (RW cs bd (va_up (va_up (va_up (va_up u 16 o_u16_61) 17 o_u17_62) 18 o_u18_63) 19 o_u19_72) (va_up (va_up b 20 o_b20_73) 21 o_b21_74) bw) H := hP
          have hD : va_D A (RW cs bd (va_up (va_up (va_up (va_up u 16 o_u16_61) 17 o_u17_62) 18 o_u18_63) 19 o_u19_72) (va_up (va_up b 20 o_b20_73) 21 o_b21_74) bw) := hD
          obtain ⟨wr_71_0, wr_71_1, wr_71_2, wr_71_3, wr_71_4, wr_71_5⟩ : (o_u19_72.toInt = o_u19_64.toInt + 1) ∧ (FRM (130 + o_u19_64.toInt.toNat) o_b20_65 o_b20_73) ∧ (FRM (130 + o_u19_64.toInt.toNat) o_b21_66 o_b21_74) ∧ ((o_b20_73 (130 + o_u19_64.toInt.toNat)).toInt = r_11.toInt) ∧ ((o_b21_74 (130 + o_u19_64.toInt.toNat)).toInt = (0 : Int)) ∧ (AB (-128) 127 o_b20_73) := wr_71
          have hA_76 : FRM (130 + (u 19).toInt.toNat) (b 20) o_b20_73 := FRM_trans hA_68 wr_71_1 (by omega)
          have hA_77 : FRM (130 + (u 19).toInt.toNat) (b 21) o_b21_74 := FRM_trans hA_69 wr_71_2 (by omega)
          have hsg_78 : o_u17_62.toInt = -1 → SEGI o_b20_73 o_b21_74 (130 + (u 19).toInt.toNat) (130 + o_u19_72.toInt.toNat) := fun hq => SEG_bin (SEG_frm hs_70 wr_71_1 wr_71_2 (by omega)) (SEG_frm (wr_60_8 (by omega)) wr_71_1 wr_71_2 (by omega)) (by omega) (by omega)
          exact W.vret hx hb hr (fun tt ht hW => ⟨⟨⟨o_u16_61, o_u17_62, o_u18_63, o_u19_72, o_b20_73, o_b21_74⟩, rfl, ⟨(by first | rfl | omega | trivial | assumption | (dsimp only; first | omega | assumption)), (by first | rfl | omega | trivial | assumption | (dsimp only; first | omega | assumption)), (by first | rfl | omega | trivial | assumption | (dsimp only; first | omega | assumption)), (by first | rfl | omega | trivial | assumption | (dsimp only; first | omega | assumption)), (by first | rfl | omega | trivial | assumption | (dsimp only; first | omega | assumption)), (by first | rfl | omega | trivial | assumption | (dsimp only; first | omega | assumption)), hA_76, hA_77, hsg_78, wr_71_5⟩, by rw [ht]; exact hP, hD⟩, hS.F ht⟩) hS.2.2 dX12_compared_55
        ·
          have kc_57 : r_11.toInt ≠ (62 : Int) := i_ne c_57
          exact W.vret hx hb hr (fun tt ht hW => ⟨⟨⟨o_u16_2, o_u17_3, o_u18_4, o_u19_5, o_b20_6, o_b21_7⟩, rfl, ⟨(by first | rfl | omega | trivial | assumption | (dsimp only; first | omega | assumption)), (by first | rfl | omega | trivial | assumption | (dsimp only; first | omega | assumption)), (by first | rfl | omega | trivial | assumption | (dsimp only; first | omega | assumption)), (by first | rfl | omega | trivial | assumption | (dsimp only; first | omega | assumption)), (by first | rfl | omega | trivial | assumption | (dsimp only; first | omega | assumption)), (by first | rfl | omega | trivial | assumption | (dsimp only; first | omega | assumption)), hA_9, hA_10, (fun hq => wr_1_8 (by first | omega | (dsimp only at hq; omega))), wr_1_9⟩, by rw [ht]; exact hP, hD⟩, hS.F ht⟩) hS.2.2 dX12_compared_34
set_option maxHeartbeats 4000000 in
set_option maxRecDepth 100000 in
theorem s_X12_both (n : Nat) (h1n : C_X12_compared n) : C_X12_both n := by
  intro l D cs A bd u b bw hT hh0 hh1 hL0 hL1 ho0 ho6 hon iu15_0 iu15_1 ib20_0
  refine Met.ofW (cc := cX12_both) (maxL := 1) (ret := none) (by decide) rfl ?_
  intro p e s m args below meth c s₁ B hml hv
  obtain ⟨rfl, hP, hK, hD, hZ⟩ := hv
  have hx := B.exec
  have hb := B.bytes
  have hr := B.returns
  have hts := atoms_spec (ws := (Cond.code yX12_both cX12_both 1 none :: gw)) B.pre
  have hg : ∀ w ∈ gw, w.before ([.ref (bd 0)] : List Value).toArray s = true := fun w h => hts w (List.mem_cons_of_mem _ h)
  have hown : s.vm.findClass RX12 = some m.cls := findClass_of_methodNamed B.named
  have hlocks := B.notSynchronized
  have hS : va_S A s.heap s.heap [] := va_S.rf
  have hP : va_P D vwCl (RW cs bd u b bw) s.heap := hP
  have hl := lv_entry ([.ref (bd 0)]) (n := 1) (Nat.le_of_ble_eq_true rfl)
  rw [lg_entry_eq]
  generalize (lg_sl ([.ref (bd 0)]) ++ List.replicate (1 - (lg_sl ([.ref (bd 0)])).length) Slot.unset).toArray = ls at hl ⊢
  have hl : lv_has ls 1 [(0, .ref (bd 0))] := hl
  have hcut : ∀ nk : Nat, (∀ (c4_u16 : Int32) (c4_u17 : Int32) (c4_u18 : Int32) (c4_u19 : Int32) (c4_b20 : Nat → Int32) (c4_b21 : Nat → Int32) (H : Heap) (locs : List Loc) (jq0 : (c4_u17.toInt = -1 ∧ c4_u18.toInt = (u 18).toInt ∧ (u 16).toInt < c4_u16.toInt ∧ c4_u19.toInt - (u 19).toInt ≤ c4_u16.toInt - (u 16).toInt) ∨ (0 ≤ c4_u17.toInt ∧ c4_u19.toInt - (u 19).toInt ≤ c4_u16.toInt - (u 16).toInt + 1)) (jq1 : (u 16).toInt ≤ c4_u16.toInt) (jq2 : c4_u16.toInt ≤ (u 15).toInt) (jq3 : (u 18).toInt ≤ c4_u18.toInt) (jq4 : c4_u18.toInt ≤ 6) (jq5 : (u 19).toInt ≤ c4_u19.toInt) (jq6 : FRM (130 + (u 19).toInt.toNat) (b 20) c4_b20) (jq7 : FRM (130 + (u 19).toInt.toNat) (b 21) c4_b21) (jq8 : c4_u17.toInt = -1 → SEGI c4_b20 c4_b21 (130 + (u 19).toInt.toNat) (130 + c4_u19.toInt.toNat)) (jb20_0 : AB (-128) 127 c4_b20) (hmu : ((u 15).toInt - c4_u16.toInt).toNat < nk) (hP : va_P D vwCl (RW cs bd (va_up (va_up (va_up (va_up u 16 c4_u16) 17 c4_u17) 18 c4_u18) 19 c4_u19) (va_up (va_up b 20 c4_b20) 21 c4_b21) bw) H) (hD : va_D A (RW cs bd (va_up (va_up (va_up (va_up u 16 c4_u16) 17 c4_u17) 18 c4_u18) 19 c4_u19) (va_up (va_up b 20 c4_b20) 21 c4_b21) bw)) (hS : va_S A s.heap H locs) (ls : Array Slot) (hl : lv_has ls 1 [(0, .ref (bd 0))]), W p l e (headSpec (Cond.code yX12_both cX12_both 1 none :: gw) ({ frames := 10 * n + 10, cells := 0, slots := 0, locals := 300 * n + 370 })).room s m ([.ref (bd 0)] : List Value).toArray below meth c H locs 0 0 (MQ below (va_Qv (fun (z : Int32 × Int32 × Int32 × Int32 × (Nat → Int32) × (Nat → Int32)) => ((z.2.1.toInt = -1 ∧ z.2.2.1.toInt = (u 18).toInt ∧ (u 16).toInt < z.1.toInt ∧ z.2.2.2.1.toInt - (u 19).toInt ≤ z.1.toInt - (u 16).toInt) ∨ (0 ≤ z.2.1.toInt ∧ z.2.2.2.1.toInt - (u 19).toInt ≤ z.1.toInt - (u 16).toInt + 1)) ∧ ((u 16).toInt ≤ z.1.toInt) ∧ (z.1.toInt ≤ (u 15).toInt) ∧ ((u 18).toInt ≤ z.2.2.1.toInt) ∧ (z.2.2.1.toInt ≤ 6) ∧ ((u 19).toInt ≤ z.2.2.2.1.toInt) ∧ (FRM (130 + (u 19).toInt.toNat) (b 20) z.2.2.2.2.1) ∧ (FRM (130 + (u 19).toInt.toNat) (b 21) z.2.2.2.2.2) ∧ (z.2.1.toInt = -1 → SEGI z.2.2.2.2.1 z.2.2.2.2.2 (130 + (u 19).toInt.toNat) (130 + z.2.2.2.1.toInt.toNat)) ∧ (AB (-128) 127 z.2.2.2.2.1)) (XPo D (fun (z : Int32 × Int32 × Int32 × Int32 × (Nat → Int32) × (Nat → Int32)) => RW cs bd (va_up (va_up (va_up (va_up u 16 z.1) 17 z.2.1) 18 z.2.2.1) 19 z.2.2.2.1) (va_up (va_up b 20 z.2.2.2.2.1) 21 z.2.2.2.2.2) bw) A) A) ([.ref (bd 0)] : List Value).toArray s 0 0 A) (F0 m 4 ls [])) := by
    intro nk
    induction nk with
    | zero => exact (fun c4_u16 c4_u17 c4_u18 c4_u19 c4_b20 c4_b21 H locs jq0 jq1 jq2 jq3 jq4 jq5 jq6 jq7 jq8 jb20_0 hmu hP hD hS ls hl => absurd hmu (Nat.not_lt_zero _))
    | succ nk ih =>
      intro c4_u16 c4_u17 c4_u18 c4_u19 c4_b20 c4_b21 H locs jq0 jq1 jq2 jq3 jq4 jq5 jq6 jq7 jq8 jb20_0 hmu hP hD hS ls hl
      refine lv_aload_n hx hb dX12_both_4 rfl (lv_at hl 0 rfl) ?_
      refine gr_fault hx hb hg hown hK hP (x := c4_u17) rfl (hg _ q5_9) dX12_both_5 ?_
      refine lv_if_ge (tgt := 44) hx hb dX12_both_8 (by decide) (fun c_1 => ?_) (fun c_1 => ?_)
      ·
        have kc_1 : (0 : Int) ≤ c4_u17.toInt := i_le c_1
        exact W.vret hx hb hr (fun tt ht hW => ⟨⟨⟨c4_u16, c4_u17, c4_u18, c4_u19, c4_b20, c4_b21⟩, rfl, ⟨(by first | rfl | omega | trivial | assumption | (dsimp only; first | omega | assumption)), (by first | rfl | omega | trivial | assumption | (dsimp only; first | omega | assumption)), (by first | rfl | omega | trivial | assumption | (dsimp only; first | omega | assumption)), (by first | rfl | omega | trivial | assumption | (dsimp only; first | omega | assumption)), (by first | rfl | omega | trivial | assumption | (dsimp only; first | omega | assumption)), (by first | rfl | omega | trivial | assumption | (dsimp only; first | omega | assumption)), jq6, jq7, jq8, jb20_0⟩, by rw [ht]; exact hP, hD⟩, hS.F ht⟩) hS.2.2 dX12_both_44
      ·
        have kc_1 : c4_u17.toInt < (0 : Int) := i_nle c_1
        refine lv_aload_n hx hb dX12_both_11 rfl (lv_at hl 0 rfl) ?_
        refine cV_ro (As := []) (rest := []) ⟨hx, hb, hml, hown, hg⟩ (k_X12_look l D cs A bd (va_up (va_up (va_up (va_up u 16 c4_u16) 17 c4_u17) 18 c4_u18) 19 c4_u19) (va_up (va_up b 20 c4_b20) 21 c4_b21) bw   (show 0 ≤ c4_u16.toInt by first | omega | decide) (show 0 ≤ (u 15).toInt by first | omega | decide) (show (u 15).toInt ≤ 120 by first | omega | decide)) ca_X12_look q6_66 ⟨rfl, rfl⟩ ⟨(show 0 + 1 ≤ 10 * n + 10 by omega), (show 8 + (1 + 11) + (0) ≤ 300 * n + 370 by omega)⟩ (rc_model hK hP) hK hP hD hS hZ rfl hl.1 rfl (Nat.le_of_ble_eq_true rfl) ⟨Nat.zero_le _, Nat.zero_le _⟩ dX12_both_12 (fun r_2 wr_2 => ?_)
        have wr_2_0 : (c4_u16.toInt < (u 15).toInt ∧ r_2.toInt = ((b 14) c4_u16.toNatClampNeg).toInt) ∨ ((u 15).toInt ≤ c4_u16.toInt ∧ r_2.toInt = -1) := wr_2
        refine lv_bipush (v := 38) hx hb dX12_both_15 (by decide) ?_
        refine lv_icmp_ne (tgt := 44) hx hb dX12_both_17 (by decide) (fun c_3 => ?_) (fun c_3 => ?_)
        ·
          have kc_3 : r_2.toInt ≠ (38 : Int) := i_ne c_3
          exact W.vret hx hb hr (fun tt ht hW => ⟨⟨⟨c4_u16, c4_u17, c4_u18, c4_u19, c4_b20, c4_b21⟩, rfl, ⟨(by first | rfl | omega | trivial | assumption | (dsimp only; first | omega | assumption)), (by first | rfl | omega | trivial | assumption | (dsimp only; first | omega | assumption)), (by first | rfl | omega | trivial | assumption | (dsimp only; first | omega | assumption)), (by first | rfl | omega | trivial | assumption | (dsimp only; first | omega | assumption)), (by first | rfl | omega | trivial | assumption | (dsimp only; first | omega | assumption)), (by first | rfl | omega | trivial | assumption | (dsimp only; first | omega | assumption)), jq6, jq7, jq8, jb20_0⟩, by rw [ht]; exact hP, hD⟩, hS.F ht⟩) hS.2.2 dX12_both_44
        ·
          have kc_3 : r_2.toInt = (38 : Int) := i_eq c_3
          have hs_4 := jq8 (by omega)
          refine lv_aload_n hx hb dX12_both_20 rfl (lv_at hl 0 rfl) ?_
          refine lv_dup hx hb dX12_both_21 rfl ?_
          refine gr_here hx hb hg hown hK hP (x := c4_u16) rfl (hg _ q5_8) dX12_both_22 ?_
          refine lv_iconst (v := 1) hx hb dX12_both_25 (by decide) ?_
          refine lv_iadd hx hb dX12_both_26 ?_
          refine lv_topi (fun x_5 ex_5 => ?_)
          have fx_5 : x_5.toInt = c4_u16.toInt + (1 : Int) := by rw [ex_5]; exact i_add (by first | omega | (show (_ : Int) ≤ c4_u16.toInt + (1 : Int); omega)) (by first | omega | (show c4_u16.toInt + (1 : Int) ≤ (_ : Int); omega))
          refine pr_here hx hb hg hown hK hP hD hS (hg _ q5_8) dX12_both_27 (fun H locs hP hD hS => ?_)
          refine lv_aload_n hx hb dX12_both_30 rfl (lv_at hl 0 rfl) ?_
          refine cV_v (As := []) (rest := []) ⟨hx, hb, hml, hown, hg⟩ (h1n l D cs A bd (va_up (va_up (va_up (va_up u 17 c4_u17) 18 c4_u18) 19 c4_u19) 16 x_5) (va_up (va_up b 20 c4_b20) 21 c4_b21) bw   (show c4_u17.toInt = -1 by first | omega | decide) (show 0 ≤ x_5.toInt by first | omega | decide) (show x_5.toInt ≤ (u 15).toInt by first | omega | decide) (show 0 ≤ c4_u19.toInt by first | omega | decide) (show c4_u19.toInt ≤ x_5.toInt by first | omega | decide) (show 0 ≤ c4_u18.toInt by first | omega | decide) (show c4_u18.toInt ≤ 6 by first | omega | decide) (show 6 ≤ c4_u18.toInt + (n : Int) by first | omega | decide) (show 0 ≤ (u 15).toInt by first | omega | decide) (show (u 15).toInt ≤ 120 by first | omega | decide) jb20_0) ca_X12_compared q6_50 ⟨rfl, rfl⟩ ⟨(show 10 * n + 9 + 1 ≤ 10 * n + 10 by omega), (show 8 + (2 + 11) + (300 * n + 340) ≤ 300 * n + 370 by omega)⟩ (rc_model hK hP) hK hP hD hS hZ rfl hl.1 rfl (Nat.le_of_ble_eq_true rfl) ⟨Nat.zero_le _, Nat.zero_le _⟩ dX12_both_31 (fun z_13 H locs wr_6 hP hD hS => ?_)
          obtain ⟨o_u16_7, o_u17_8, o_u18_9, o_u19_10, o_b20_11, o_b21_12⟩ := z_13
          have hP : va_P D vwCl (RW cs bd (va_up (va_up (va_up (va_up u 16 o_u16_7) 17 o_u17_8) 18 o_u18_9) 19 o_u19_10) (va_up (va_up b 20 o_b20_11) 21 o_b21_12) bw) H := hP
          have hD : va_D A (RW cs bd (va_up (va_up (va_up (va_up u 16 o_u16_7) 17 o_u17_8) 18 o_u18_9) 19 o_u19_10) (va_up (va_up b 20 o_b20_11) 21 o_b21_12) bw) := hD
          obtain ⟨wr_6_0, wr_6_1, wr_6_2, wr_6_3, wr_6_4, wr_6_5, wr_6_6, wr_6_7, wr_6_8, wr_6_9⟩ : ((o_u17_8.toInt = -1 ∧ o_u18_9.toInt = c4_u18.toInt ∧ x_5.toInt < o_u16_7.toInt ∧ o_u19_10.toInt - c4_u19.toInt ≤ o_u16_7.toInt - x_5.toInt) ∨ (0 ≤ o_u17_8.toInt ∧ o_u19_10.toInt - c4_u19.toInt ≤ o_u16_7.toInt - x_5.toInt + 1)) ∧ (x_5.toInt ≤ o_u16_7.toInt) ∧ (o_u16_7.toInt ≤ (u 15).toInt) ∧ (c4_u18.toInt ≤ o_u18_9.toInt) ∧ (o_u18_9.toInt ≤ 6) ∧ (c4_u19.toInt ≤ o_u19_10.toInt) ∧ (FRM (130 + c4_u19.toInt.toNat) c4_b20 o_b20_11) ∧ (FRM (130 + c4_u19.toInt.toNat) c4_b21 o_b21_12) ∧ (o_u17_8.toInt = -1 → SEGI o_b20_11 o_b21_12 (130 + c4_u19.toInt.toNat) (130 + o_u19_10.toInt.toNat)) ∧ (AB (-128) 127 o_b20_11) := wr_6
          have hA_14 : FRM (130 + (u 19).toInt.toNat) (b 20) o_b20_11 := FRM_trans jq6 wr_6_6 (by omega)
          have hA_15 : FRM (130 + (u 19).toInt.toNat) (b 21) o_b21_12 := FRM_trans jq7 wr_6_7 (by omega)
          have hs_16 := SEG_frm hs_4 wr_6_6 wr_6_7 (by omega)
          refine lv_aload_n hx hb dX12_both_34 rfl (lv_at hl 0 rfl) ?_
          refine lv_bipush (v := 38) hx hb dX12_both_35 (by decide) ?_
          refine lv_iconst (v := 0) hx hb dX12_both_37 (by decide) ?_
          refine cV_v (As := [.int 38, .int 0]) (rest := []) ⟨hx, hb, hml, hown, hg⟩ (k_X12_addStep l D cs A bd (va_up (va_up (va_up (va_up u 16 o_u16_7) 17 o_u17_8) 18 o_u18_9) 19 o_u19_10) (va_up (va_up b 20 o_b20_11) 21 o_b21_12) bw  38 0 (show 0 ≤ o_u19_10.toInt by first | omega | decide) (show o_u19_10.toInt ≤ 129 by first | omega | decide) (show -128 ≤ (38 : Int) by first | omega | decide) (show (38 : Int) ≤ 127 by first | omega | decide) wr_6_9) ca_X12_addStep q6_73 ⟨rfl, rfl⟩ ⟨(show 0 + 1 ≤ 10 * n + 10 by omega), (show 8 + (3 + 11) + (0) ≤ 300 * n + 370 by omega)⟩ (rc_model hK hP) hK hP hD hS hZ rfl hl.1 rfl (Nat.le_of_ble_eq_true rfl) ⟨Nat.zero_le _, Nat.zero_le _⟩ dX12_both_38 (fun z_21 H locs wr_17 hP hD hS => ?_)
          obtain ⟨o_u19_18, o_b20_19, o_b21_20⟩ := z_21
          have hP : va_P D vwCl (RW cs bd (va_up (va_up (va_up (va_up u 16 o_u16_7) 17 o_u17_8) 18 o_u18_9) 19 o_u19_18) (va_up (va_up b 20 o_b20_19) 21 o_b21_20) bw) H := hP
          have hD : va_D A (RW cs bd (va_up (va_up (va_up (va_up u 16 o_u16_7) 17 o_u17_8) 18 o_u18_9) 19 o_u19_18) (va_up (va_up b 20 o_b20_19) 21 o_b21_20) bw) := hD
          obtain ⟨wr_17_0, wr_17_1, wr_17_2, wr_17_3, wr_17_4, wr_17_5⟩ : (o_u19_18.toInt = o_u19_10.toInt + 1) ∧ (FRM (130 + o_u19_10.toInt.toNat) o_b20_11 o_b20_19) ∧ (FRM (130 + o_u19_10.toInt.toNat) o_b21_12 o_b21_20) ∧ ((o_b20_19 (130 + o_u19_10.toInt.toNat)).toInt = (38 : Int)) ∧ ((o_b21_20 (130 + o_u19_10.toInt.toNat)).toInt = (0 : Int)) ∧ (AB (-128) 127 o_b20_19) := wr_17
          have hA_22 : FRM (130 + (u 19).toInt.toNat) (b 20) o_b20_19 := FRM_trans hA_14 wr_17_1 (by omega)
          have hA_23 : FRM (130 + (u 19).toInt.toNat) (b 21) o_b21_20 := FRM_trans hA_15 wr_17_2 (by omega)
          have hsg_24 : o_u17_8.toInt = -1 → SEGI o_b20_19 o_b21_20 (130 + (u 19).toInt.toNat) (130 + o_u19_18.toInt.toNat) := fun hq => SEG_bin (SEG_frm hs_16 wr_17_1 wr_17_2 (by omega)) (SEG_frm (wr_6_8 (by omega)) wr_17_1 wr_17_2 (by omega)) (by omega) (by omega)
          refine lv_goto (tgt := 4) hx hb dX12_both_41 (by decide) ?_
          exact ih o_u16_7 o_u17_8 o_u18_9 o_u19_18 o_b20_19 o_b21_20 _ _ (by omega) (by omega) (by omega) (by omega) (by omega) (by omega) hA_22 hA_23 hsg_24 wr_17_5 (by omega) hP hD hS ls (lv_sub hl [0] rfl)
  refine lv_aload_n hx hb dX12_both_0 rfl (lv_at hl 0 rfl) ?_
  refine cV_v (As := []) (rest := []) ⟨hx, hb, hml, hown, hg⟩ (h1n l D cs A bd u b bw   (show (u 17).toInt = -1 by first | omega | decide) (show 0 ≤ (u 16).toInt by first | omega | decide) (show (u 16).toInt ≤ (u 15).toInt by first | omega | decide) (show 0 ≤ (u 19).toInt by first | omega | decide) (show (u 19).toInt ≤ (u 16).toInt by first | omega | decide) (show 0 ≤ (u 18).toInt by first | omega | decide) (show (u 18).toInt ≤ 6 by first | omega | decide) (show 6 ≤ (u 18).toInt + (n : Int) by first | omega | decide) (show 0 ≤ (u 15).toInt by first | omega | decide) (show (u 15).toInt ≤ 120 by first | omega | decide) ib20_0) ca_X12_compared q6_50 ⟨rfl, rfl⟩ ⟨(show 10 * n + 9 + 1 ≤ 10 * n + 10 by omega), (show 8 + (2 + 11) + (300 * n + 340) ≤ 300 * n + 370 by omega)⟩ (rc_model hK hP) hK hP hD hS hZ rfl hl.1 rfl (Nat.le_of_ble_eq_true rfl) ⟨Nat.zero_le _, Nat.zero_le _⟩ dX12_both_1 (fun z_32 H locs wr_25 hP hD hS => ?_)
  obtain ⟨o_u16_26, o_u17_27, o_u18_28, o_u19_29, o_b20_30, o_b21_31⟩ := z_32
  have hP : va_P D vwCl (RW cs bd (va_up (va_up (va_up (va_up u 16 o_u16_26) 17 o_u17_27) 18 o_u18_28) 19 o_u19_29) (va_up (va_up b 20 o_b20_30) 21 o_b21_31) bw) H := hP
  have hD : va_D A (RW cs bd (va_up (va_up (va_up (va_up u 16 o_u16_26) 17 o_u17_27) 18 o_u18_28) 19 o_u19_29) (va_up (va_up b 20 o_b20_30) 21 o_b21_31) bw) := hD
  obtain ⟨wr_25_0, wr_25_1, wr_25_2, wr_25_3, wr_25_4, wr_25_5, wr_25_6, wr_25_7, wr_25_8, wr_25_9⟩ : ((o_u17_27.toInt = -1 ∧ o_u18_28.toInt = (u 18).toInt ∧ (u 16).toInt < o_u16_26.toInt ∧ o_u19_29.toInt - (u 19).toInt ≤ o_u16_26.toInt - (u 16).toInt) ∨ (0 ≤ o_u17_27.toInt ∧ o_u19_29.toInt - (u 19).toInt ≤ o_u16_26.toInt - (u 16).toInt + 1)) ∧ ((u 16).toInt ≤ o_u16_26.toInt) ∧ (o_u16_26.toInt ≤ (u 15).toInt) ∧ ((u 18).toInt ≤ o_u18_28.toInt) ∧ (o_u18_28.toInt ≤ 6) ∧ ((u 19).toInt ≤ o_u19_29.toInt) ∧ (FRM (130 + (u 19).toInt.toNat) (b 20) o_b20_30) ∧ (FRM (130 + (u 19).toInt.toNat) (b 21) o_b21_31) ∧ (o_u17_27.toInt = -1 → SEGI o_b20_30 o_b21_31 (130 + (u 19).toInt.toNat) (130 + o_u19_29.toInt.toNat)) ∧ (AB (-128) 127 o_b20_30) := wr_25
  have hA_33 : FRM (130 + (u 19).toInt.toNat) (b 20) o_b20_30 := FRM_trans FRM_refl wr_25_6 (by omega)
  have hA_34 : FRM (130 + (u 19).toInt.toNat) (b 21) o_b21_31 := FRM_trans FRM_refl wr_25_7 (by omega)
  exact (hcut ((((u 15).toInt - o_u16_26.toInt).toNat) + 1)) o_u16_26 o_u17_27 o_u18_28 o_u19_29 o_b20_30 o_b21_31 _ _ (by omega) (by omega) (by omega) (by omega) (by omega) (by omega) hA_33 hA_34 (fun hq => wr_25_8 (by first | omega | (dsimp only at hq; omega))) wr_25_9 (Nat.lt_succ_self _) hP hD hS ls (lv_sub hl [0] rfl)
set_option maxHeartbeats 4000000 in
set_option maxRecDepth 100000 in
theorem s_X12_either (n : Nat) (h1n : C_X12_both n) : C_X12_either n := by
  intro l D cs A bd u b bw hT hh0 hh1 hL0 hL1 ho0 ho6 hon iu15_0 iu15_1 ib20_0
  refine Met.ofW (cc := cX12_either) (maxL := 1) (ret := none) (by decide) rfl ?_
  intro p e s m args below meth c s₁ B hml hv
  obtain ⟨rfl, hP, hK, hD, hZ⟩ := hv
  have hx := B.exec
  have hb := B.bytes
  have hr := B.returns
  have hts := atoms_spec (ws := (Cond.code yX12_either cX12_either 1 none :: gw)) B.pre
  have hg : ∀ w ∈ gw, w.before ([.ref (bd 0)] : List Value).toArray s = true := fun w h => hts w (List.mem_cons_of_mem _ h)
  have hown : s.vm.findClass RX12 = some m.cls := findClass_of_methodNamed B.named
  have hlocks := B.notSynchronized
  have hS : va_S A s.heap s.heap [] := va_S.rf
  have hP : va_P D vwCl (RW cs bd u b bw) s.heap := hP
  have hl := lv_entry ([.ref (bd 0)]) (n := 1) (Nat.le_of_ble_eq_true rfl)
  rw [lg_entry_eq]
  generalize (lg_sl ([.ref (bd 0)]) ++ List.replicate (1 - (lg_sl ([.ref (bd 0)])).length) Slot.unset).toArray = ls at hl ⊢
  have hl : lv_has ls 1 [(0, .ref (bd 0))] := hl
  have hcut : ∀ nk : Nat, (∀ (c4_u16 : Int32) (c4_u17 : Int32) (c4_u18 : Int32) (c4_u19 : Int32) (c4_b20 : Nat → Int32) (c4_b21 : Nat → Int32) (H : Heap) (locs : List Loc) (jq0 : (c4_u17.toInt = -1 ∧ c4_u18.toInt = (u 18).toInt ∧ (u 16).toInt < c4_u16.toInt ∧ c4_u19.toInt - (u 19).toInt ≤ c4_u16.toInt - (u 16).toInt) ∨ (0 ≤ c4_u17.toInt ∧ c4_u19.toInt - (u 19).toInt ≤ c4_u16.toInt - (u 16).toInt + 1)) (jq1 : (u 16).toInt ≤ c4_u16.toInt) (jq2 : c4_u16.toInt ≤ (u 15).toInt) (jq3 : (u 18).toInt ≤ c4_u18.toInt) (jq4 : c4_u18.toInt ≤ 6) (jq5 : (u 19).toInt ≤ c4_u19.toInt) (jq6 : FRM (130 + (u 19).toInt.toNat) (b 20) c4_b20) (jq7 : FRM (130 + (u 19).toInt.toNat) (b 21) c4_b21) (jq8 : c4_u17.toInt = -1 → SEGI c4_b20 c4_b21 (130 + (u 19).toInt.toNat) (130 + c4_u19.toInt.toNat)) (jb20_0 : AB (-128) 127 c4_b20) (hmu : ((u 15).toInt - c4_u16.toInt).toNat < nk) (hP : va_P D vwCl (RW cs bd (va_up (va_up (va_up (va_up u 16 c4_u16) 17 c4_u17) 18 c4_u18) 19 c4_u19) (va_up (va_up b 20 c4_b20) 21 c4_b21) bw) H) (hD : va_D A (RW cs bd (va_up (va_up (va_up (va_up u 16 c4_u16) 17 c4_u17) 18 c4_u18) 19 c4_u19) (va_up (va_up b 20 c4_b20) 21 c4_b21) bw)) (hS : va_S A s.heap H locs) (ls : Array Slot) (hl : lv_has ls 1 [(0, .ref (bd 0))]), W p l e (headSpec (Cond.code yX12_either cX12_either 1 none :: gw) ({ frames := 10 * n + 11, cells := 0, slots := 0, locals := 300 * n + 400 })).room s m ([.ref (bd 0)] : List Value).toArray below meth c H locs 0 0 (MQ below (va_Qv (fun (z : Int32 × Int32 × Int32 × Int32 × (Nat → Int32) × (Nat → Int32)) => ((z.2.1.toInt = -1 ∧ z.2.2.1.toInt = (u 18).toInt ∧ (u 16).toInt < z.1.toInt ∧ z.2.2.2.1.toInt - (u 19).toInt ≤ z.1.toInt - (u 16).toInt) ∨ (0 ≤ z.2.1.toInt ∧ z.2.2.2.1.toInt - (u 19).toInt ≤ z.1.toInt - (u 16).toInt + 1)) ∧ ((u 16).toInt ≤ z.1.toInt) ∧ (z.1.toInt ≤ (u 15).toInt) ∧ ((u 18).toInt ≤ z.2.2.1.toInt) ∧ (z.2.2.1.toInt ≤ 6) ∧ ((u 19).toInt ≤ z.2.2.2.1.toInt) ∧ (FRM (130 + (u 19).toInt.toNat) (b 20) z.2.2.2.2.1) ∧ (FRM (130 + (u 19).toInt.toNat) (b 21) z.2.2.2.2.2) ∧ (z.2.1.toInt = -1 → SEGI z.2.2.2.2.1 z.2.2.2.2.2 (130 + (u 19).toInt.toNat) (130 + z.2.2.2.1.toInt.toNat)) ∧ (AB (-128) 127 z.2.2.2.2.1)) (XPo D (fun (z : Int32 × Int32 × Int32 × Int32 × (Nat → Int32) × (Nat → Int32)) => RW cs bd (va_up (va_up (va_up (va_up u 16 z.1) 17 z.2.1) 18 z.2.2.1) 19 z.2.2.2.1) (va_up (va_up b 20 z.2.2.2.2.1) 21 z.2.2.2.2.2) bw) A) A) ([.ref (bd 0)] : List Value).toArray s 0 0 A) (F0 m 4 ls [])) := by
    intro nk
    induction nk with
    | zero => exact (fun c4_u16 c4_u17 c4_u18 c4_u19 c4_b20 c4_b21 H locs jq0 jq1 jq2 jq3 jq4 jq5 jq6 jq7 jq8 jb20_0 hmu hP hD hS ls hl => absurd hmu (Nat.not_lt_zero _))
    | succ nk ih =>
      intro c4_u16 c4_u17 c4_u18 c4_u19 c4_b20 c4_b21 H locs jq0 jq1 jq2 jq3 jq4 jq5 jq6 jq7 jq8 jb20_0 hmu hP hD hS ls hl
      refine lv_aload_n hx hb dX12_either_4 rfl (lv_at hl 0 rfl) ?_
      refine gr_fault hx hb hg hown hK hP (x := c4_u17) rfl (hg _ q5_9) dX12_either_5 ?_
      refine lv_if_ge (tgt := 44) hx hb dX12_either_8 (by decide) (fun c_1 => ?_) (fun c_1 => ?_)
      ·
        have kc_1 : (0 : Int) ≤ c4_u17.toInt := i_le c_1
        exact W.vret hx hb hr (fun tt ht hW => ⟨⟨⟨c4_u16, c4_u17, c4_u18, c4_u19, c4_b20, c4_b21⟩, rfl, ⟨(by first | rfl | omega | trivial | assumption | (dsimp only; first | omega | assumption)), (by first | rfl | omega | trivial | assumption | (dsimp only; first | omega | assumption)), (by first | rfl | omega | trivial | assumption | (dsimp only; first | omega | assumption)), (by first | rfl | omega | trivial | assumption | (dsimp only; first | omega | assumption)), (by first | rfl | omega | trivial | assumption | (dsimp only; first | omega | assumption)), (by first | rfl | omega | trivial | assumption | (dsimp only; first | omega | assumption)), jq6, jq7, jq8, jb20_0⟩, by rw [ht]; exact hP, hD⟩, hS.F ht⟩) hS.2.2 dX12_either_44
      ·
        have kc_1 : c4_u17.toInt < (0 : Int) := i_nle c_1
        refine lv_aload_n hx hb dX12_either_11 rfl (lv_at hl 0 rfl) ?_
        refine cV_ro (As := []) (rest := []) ⟨hx, hb, hml, hown, hg⟩ (k_X12_look l D cs A bd (va_up (va_up (va_up (va_up u 16 c4_u16) 17 c4_u17) 18 c4_u18) 19 c4_u19) (va_up (va_up b 20 c4_b20) 21 c4_b21) bw   (show 0 ≤ c4_u16.toInt by first | omega | decide) (show 0 ≤ (u 15).toInt by first | omega | decide) (show (u 15).toInt ≤ 120 by first | omega | decide)) ca_X12_look q6_66 ⟨rfl, rfl⟩ ⟨(show 0 + 1 ≤ 10 * n + 11 by omega), (show 8 + (1 + 11) + (0) ≤ 300 * n + 400 by omega)⟩ (rc_model hK hP) hK hP hD hS hZ rfl hl.1 rfl (Nat.le_of_ble_eq_true rfl) ⟨Nat.zero_le _, Nat.zero_le _⟩ dX12_either_12 (fun r_2 wr_2 => ?_)
        have wr_2_0 : (c4_u16.toInt < (u 15).toInt ∧ r_2.toInt = ((b 14) c4_u16.toNatClampNeg).toInt) ∨ ((u 15).toInt ≤ c4_u16.toInt ∧ r_2.toInt = -1) := wr_2
        refine lv_bipush (v := 124) hx hb dX12_either_15 (by decide) ?_
        refine lv_icmp_ne (tgt := 44) hx hb dX12_either_17 (by decide) (fun c_3 => ?_) (fun c_3 => ?_)
        ·
          have kc_3 : r_2.toInt ≠ (124 : Int) := i_ne c_3
          exact W.vret hx hb hr (fun tt ht hW => ⟨⟨⟨c4_u16, c4_u17, c4_u18, c4_u19, c4_b20, c4_b21⟩, rfl, ⟨(by first | rfl | omega | trivial | assumption | (dsimp only; first | omega | assumption)), (by first | rfl | omega | trivial | assumption | (dsimp only; first | omega | assumption)), (by first | rfl | omega | trivial | assumption | (dsimp only; first | omega | assumption)), (by first | rfl | omega | trivial | assumption | (dsimp only; first | omega | assumption)), (by first | rfl | omega | trivial | assumption | (dsimp only; first | omega | assumption)), (by first | rfl | omega | trivial | assumption | (dsimp only; first | omega | assumption)), jq6, jq7, jq8, jb20_0⟩, by rw [ht]; exact hP, hD⟩, hS.F ht⟩) hS.2.2 dX12_either_44
        ·
          have kc_3 : r_2.toInt = (124 : Int) := i_eq c_3
          have hs_4 := jq8 (by omega)
          refine lv_aload_n hx hb dX12_either_20 rfl (lv_at hl 0 rfl) ?_
          refine lv_dup hx hb dX12_either_21 rfl ?_
          refine gr_here hx hb hg hown hK hP (x := c4_u16) rfl (hg _ q5_8) dX12_either_22 ?_
          refine lv_iconst (v := 1) hx hb dX12_either_25 (by decide) ?_
          refine lv_iadd hx hb dX12_either_26 ?_
          refine lv_topi (fun x_5 ex_5 => ?_)
          have fx_5 : x_5.toInt = c4_u16.toInt + (1 : Int) := by rw [ex_5]; exact i_add (by first | omega | (show (_ : Int) ≤ c4_u16.toInt + (1 : Int); omega)) (by first | omega | (show c4_u16.toInt + (1 : Int) ≤ (_ : Int); omega))
          refine pr_here hx hb hg hown hK hP hD hS (hg _ q5_8) dX12_either_27 (fun H locs hP hD hS => ?_)
          refine lv_aload_n hx hb dX12_either_30 rfl (lv_at hl 0 rfl) ?_
          refine cV_v (As := []) (rest := []) ⟨hx, hb, hml, hown, hg⟩ (h1n l D cs A bd (va_up (va_up (va_up (va_up u 17 c4_u17) 18 c4_u18) 19 c4_u19) 16 x_5) (va_up (va_up b 20 c4_b20) 21 c4_b21) bw   (show c4_u17.toInt = -1 by first | omega | decide) (show 0 ≤ x_5.toInt by first | omega | decide) (show x_5.toInt ≤ (u 15).toInt by first | omega | decide) (show 0 ≤ c4_u19.toInt by first | omega | decide) (show c4_u19.toInt ≤ x_5.toInt by first | omega | decide) (show 0 ≤ c4_u18.toInt by first | omega | decide) (show c4_u18.toInt ≤ 6 by first | omega | decide) (show 6 ≤ c4_u18.toInt + (n : Int) by first | omega | decide) (show 0 ≤ (u 15).toInt by first | omega | decide) (show (u 15).toInt ≤ 120 by first | omega | decide) jb20_0) ca_X12_both q6_46 ⟨rfl, rfl⟩ ⟨(show 10 * n + 10 + 1 ≤ 10 * n + 11 by omega), (show 8 + (1 + 11) + (300 * n + 370) ≤ 300 * n + 400 by omega)⟩ (rc_model hK hP) hK hP hD hS hZ rfl hl.1 rfl (Nat.le_of_ble_eq_true rfl) ⟨Nat.zero_le _, Nat.zero_le _⟩ dX12_either_31 (fun z_13 H locs wr_6 hP hD hS => ?_)
          obtain ⟨o_u16_7, o_u17_8, o_u18_9, o_u19_10, o_b20_11, o_b21_12⟩ := z_13
          have hP : va_P D vwCl (RW cs bd (va_up (va_up (va_up (va_up u 16 o_u16_7) 17 o_u17_8) 18 o_u18_9) 19 o_u19_10) (va_up (va_up b 20 o_b20_11) 21 o_b21_12) bw) H := hP
          have hD : va_D A (RW cs bd (va_up (va_up (va_up (va_up u 16 o_u16_7) 17 o_u17_8) 18 o_u18_9) 19 o_u19_10) (va_up (va_up b 20 o_b20_11) 21 o_b21_12) bw) := hD
          obtain ⟨wr_6_0, wr_6_1, wr_6_2, wr_6_3, wr_6_4, wr_6_5, wr_6_6, wr_6_7, wr_6_8, wr_6_9⟩ : ((o_u17_8.toInt = -1 ∧ o_u18_9.toInt = c4_u18.toInt ∧ x_5.toInt < o_u16_7.toInt ∧ o_u19_10.toInt - c4_u19.toInt ≤ o_u16_7.toInt - x_5.toInt) ∨ (0 ≤ o_u17_8.toInt ∧ o_u19_10.toInt - c4_u19.toInt ≤ o_u16_7.toInt - x_5.toInt + 1)) ∧ (x_5.toInt ≤ o_u16_7.toInt) ∧ (o_u16_7.toInt ≤ (u 15).toInt) ∧ (c4_u18.toInt ≤ o_u18_9.toInt) ∧ (o_u18_9.toInt ≤ 6) ∧ (c4_u19.toInt ≤ o_u19_10.toInt) ∧ (FRM (130 + c4_u19.toInt.toNat) c4_b20 o_b20_11) ∧ (FRM (130 + c4_u19.toInt.toNat) c4_b21 o_b21_12) ∧ (o_u17_8.toInt = -1 → SEGI o_b20_11 o_b21_12 (130 + c4_u19.toInt.toNat) (130 + o_u19_10.toInt.toNat)) ∧ (AB (-128) 127 o_b20_11) := wr_6
          have hA_14 : FRM (130 + (u 19).toInt.toNat) (b 20) o_b20_11 := FRM_trans jq6 wr_6_6 (by omega)
          have hA_15 : FRM (130 + (u 19).toInt.toNat) (b 21) o_b21_12 := FRM_trans jq7 wr_6_7 (by omega)
          have hs_16 := SEG_frm hs_4 wr_6_6 wr_6_7 (by omega)
          refine lv_aload_n hx hb dX12_either_34 rfl (lv_at hl 0 rfl) ?_
          refine lv_bipush (v := 124) hx hb dX12_either_35 (by decide) ?_
          refine lv_iconst (v := 0) hx hb dX12_either_37 (by decide) ?_
          refine cV_v (As := [.int 124, .int 0]) (rest := []) ⟨hx, hb, hml, hown, hg⟩ (k_X12_addStep l D cs A bd (va_up (va_up (va_up (va_up u 16 o_u16_7) 17 o_u17_8) 18 o_u18_9) 19 o_u19_10) (va_up (va_up b 20 o_b20_11) 21 o_b21_12) bw  124 0 (show 0 ≤ o_u19_10.toInt by first | omega | decide) (show o_u19_10.toInt ≤ 129 by first | omega | decide) (show -128 ≤ (124 : Int) by first | omega | decide) (show (124 : Int) ≤ 127 by first | omega | decide) wr_6_9) ca_X12_addStep q6_73 ⟨rfl, rfl⟩ ⟨(show 0 + 1 ≤ 10 * n + 11 by omega), (show 8 + (3 + 11) + (0) ≤ 300 * n + 400 by omega)⟩ (rc_model hK hP) hK hP hD hS hZ rfl hl.1 rfl (Nat.le_of_ble_eq_true rfl) ⟨Nat.zero_le _, Nat.zero_le _⟩ dX12_either_38 (fun z_21 H locs wr_17 hP hD hS => ?_)
          obtain ⟨o_u19_18, o_b20_19, o_b21_20⟩ := z_21
          have hP : va_P D vwCl (RW cs bd (va_up (va_up (va_up (va_up u 16 o_u16_7) 17 o_u17_8) 18 o_u18_9) 19 o_u19_18) (va_up (va_up b 20 o_b20_19) 21 o_b21_20) bw) H := hP
          have hD : va_D A (RW cs bd (va_up (va_up (va_up (va_up u 16 o_u16_7) 17 o_u17_8) 18 o_u18_9) 19 o_u19_18) (va_up (va_up b 20 o_b20_19) 21 o_b21_20) bw) := hD
          obtain ⟨wr_17_0, wr_17_1, wr_17_2, wr_17_3, wr_17_4, wr_17_5⟩ : (o_u19_18.toInt = o_u19_10.toInt + 1) ∧ (FRM (130 + o_u19_10.toInt.toNat) o_b20_11 o_b20_19) ∧ (FRM (130 + o_u19_10.toInt.toNat) o_b21_12 o_b21_20) ∧ ((o_b20_19 (130 + o_u19_10.toInt.toNat)).toInt = (124 : Int)) ∧ ((o_b21_20 (130 + o_u19_10.toInt.toNat)).toInt = (0 : Int)) ∧ (AB (-128) 127 o_b20_19) := wr_17
          have hA_22 : FRM (130 + (u 19).toInt.toNat) (b 20) o_b20_19 := FRM_trans hA_14 wr_17_1 (by omega)
          have hA_23 : FRM (130 + (u 19).toInt.toNat) (b 21) o_b21_20 := FRM_trans hA_15 wr_17_2 (by omega)
          have hsg_24 : o_u17_8.toInt = -1 → SEGI o_b20_19 o_b21_20 (130 + (u 19).toInt.toNat) (130 + o_u19_18.toInt.toNat) := fun hq => SEG_bin (SEG_frm hs_16 wr_17_1 wr_17_2 (by omega)) (SEG_frm (wr_6_8 (by omega)) wr_17_1 wr_17_2 (by omega)) (by omega) (by omega)
          refine lv_goto (tgt := 4) hx hb dX12_either_41 (by decide) ?_
          exact ih o_u16_7 o_u17_8 o_u18_9 o_u19_18 o_b20_19 o_b21_20 _ _ (by omega) (by omega) (by omega) (by omega) (by omega) (by omega) hA_22 hA_23 hsg_24 wr_17_5 (by omega) hP hD hS ls (lv_sub hl [0] rfl)
  refine lv_aload_n hx hb dX12_either_0 rfl (lv_at hl 0 rfl) ?_
  refine cV_v (As := []) (rest := []) ⟨hx, hb, hml, hown, hg⟩ (h1n l D cs A bd u b bw   (show (u 17).toInt = -1 by first | omega | decide) (show 0 ≤ (u 16).toInt by first | omega | decide) (show (u 16).toInt ≤ (u 15).toInt by first | omega | decide) (show 0 ≤ (u 19).toInt by first | omega | decide) (show (u 19).toInt ≤ (u 16).toInt by first | omega | decide) (show 0 ≤ (u 18).toInt by first | omega | decide) (show (u 18).toInt ≤ 6 by first | omega | decide) (show 6 ≤ (u 18).toInt + (n : Int) by first | omega | decide) (show 0 ≤ (u 15).toInt by first | omega | decide) (show (u 15).toInt ≤ 120 by first | omega | decide) ib20_0) ca_X12_both q6_46 ⟨rfl, rfl⟩ ⟨(show 10 * n + 10 + 1 ≤ 10 * n + 11 by omega), (show 8 + (1 + 11) + (300 * n + 370) ≤ 300 * n + 400 by omega)⟩ (rc_model hK hP) hK hP hD hS hZ rfl hl.1 rfl (Nat.le_of_ble_eq_true rfl) ⟨Nat.zero_le _, Nat.zero_le _⟩ dX12_either_1 (fun z_32 H locs wr_25 hP hD hS => ?_)
  obtain ⟨o_u16_26, o_u17_27, o_u18_28, o_u19_29, o_b20_30, o_b21_31⟩ := z_32
  have hP : va_P D vwCl (RW cs bd (va_up (va_up (va_up (va_up u 16 o_u16_26) 17 o_u17_27) 18 o_u18_28) 19 o_u19_29) (va_up (va_up b 20 o_b20_30) 21 o_b21_31) bw) H := hP
  have hD : va_D A (RW cs bd (va_up (va_up (va_up (va_up u 16 o_u16_26) 17 o_u17_27) 18 o_u18_28) 19 o_u19_29) (va_up (va_up b 20 o_b20_30) 21 o_b21_31) bw) := hD
  obtain ⟨wr_25_0, wr_25_1, wr_25_2, wr_25_3, wr_25_4, wr_25_5, wr_25_6, wr_25_7, wr_25_8, wr_25_9⟩ : ((o_u17_27.toInt = -1 ∧ o_u18_28.toInt = (u 18).toInt ∧ (u 16).toInt < o_u16_26.toInt ∧ o_u19_29.toInt - (u 19).toInt ≤ o_u16_26.toInt - (u 16).toInt) ∨ (0 ≤ o_u17_27.toInt ∧ o_u19_29.toInt - (u 19).toInt ≤ o_u16_26.toInt - (u 16).toInt + 1)) ∧ ((u 16).toInt ≤ o_u16_26.toInt) ∧ (o_u16_26.toInt ≤ (u 15).toInt) ∧ ((u 18).toInt ≤ o_u18_28.toInt) ∧ (o_u18_28.toInt ≤ 6) ∧ ((u 19).toInt ≤ o_u19_29.toInt) ∧ (FRM (130 + (u 19).toInt.toNat) (b 20) o_b20_30) ∧ (FRM (130 + (u 19).toInt.toNat) (b 21) o_b21_31) ∧ (o_u17_27.toInt = -1 → SEGI o_b20_30 o_b21_31 (130 + (u 19).toInt.toNat) (130 + o_u19_29.toInt.toNat)) ∧ (AB (-128) 127 o_b20_30) := wr_25
  have hA_33 : FRM (130 + (u 19).toInt.toNat) (b 20) o_b20_30 := FRM_trans FRM_refl wr_25_6 (by omega)
  have hA_34 : FRM (130 + (u 19).toInt.toNat) (b 21) o_b21_31 := FRM_trans FRM_refl wr_25_7 (by omega)
  exact (hcut ((((u 15).toInt - o_u16_26.toInt).toNat) + 1)) o_u16_26 o_u17_27 o_u18_28 o_u19_29 o_b20_30 o_b21_31 _ _ (by omega) (by omega) (by omega) (by omega) (by omega) (by omega) hA_33 hA_34 (fun hq => wr_25_8 (by first | omega | (dsimp only at hq; omega))) wr_25_9 (Nat.lt_succ_self _) hP hD hS ls (lv_sub hl [0] rfl)
theorem rr_all : ∀ n, C_X12_operand n ∧ C_X12_either n := by
  intro n
  induction n with
  | zero =>
    have h0 := s_X12_operand 0 (fun k h => absurd h (by omega)) (fun k h => absurd h (by omega))
    exact ⟨h0, s_X12_either 0 (s_X12_both 0 (s_X12_compared 0 (s_X12_sum 0 (s_X12_product 0 h0))))⟩
  | succ n ih =>
    have h0 := s_X12_operand (n + 1) (fun k h => by (have e : k = n := by omega); subst e; exact ih.2) (fun k h => by (have e : k = n := by omega); subst e; exact ih.1)
    exact ⟨h0, s_X12_either _ (s_X12_both _ (s_X12_compared _ (s_X12_sum _ (s_X12_product _ h0))))⟩
