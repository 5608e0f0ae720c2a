set_option maxHeartbeats 4000000 in
set_option maxRecDepth 100000 in
theorem k_X12_look (l : Launch) (D : va_G) (cs : Nat → ClassId) (A : Nat → Prop) (bd : Nat → Nat) (u : Nat → Int32) (b : Nat → Nat → Int32) (bw : Nat → Nat → Int64)   (hh0 : 0 ≤ (u 16).toInt) (iu15_0 : 0 ≤ (u 15).toInt) (iu15_1 : (u 15).toInt ≤ 120) (ib14_0 : AB (-128) 127 (b 14)) : Met l yX12_look (Cond.code yX12_look cX12_look 1 (some .int) :: gw) ({ frames := 0, cells := 0, slots := 0, locals := 0 }) (va_Pc [.ref (bd 0)] (XPre D (TY cs) (RW cs bd u b bw) A)) (vp_Si (fun (r : Int32) => (((u 16).toInt < (u 15).toInt ∧ r.toInt = ((b 14) (u 16).toNatClampNeg).toInt) ∨ ((u 15).toInt ≤ (u 16).toInt ∧ r.toInt = -1)) ∧ ((r.toInt = (TKR (b 14) (u 15).toInt) (u 16).toInt.toNat ∧ -1 ≤ r.toInt ∧ r.toInt ≤ 127) ∨ (r.toInt = (TKR (b 14) (u 15).toInt) (u 16).toInt.toNat - 256 ∧ 128 ≤ (TKR (b 14) (u 15).toInt) (u 16).toInt.toNat ∧ (TKR (b 14) (u 15).toInt) (u 16).toInt.toNat ≤ 255 ∧ r.toInt < 0)))) 0 0 (fun _ => False) := by
  refine Met.ofW (cc := cX12_look) (maxL := 1) (ret := (some .int)) (by decide) rfl ?_
  intro p e s m args below meth c s₁ B hml hv
  obtain ⟨rfl, hP, hK, hD, hZ⟩ := hv
  have hx := B.exec
  have hb := B.bytes
  have hr := B.returns
  have hts := atoms_spec (ws := (Cond.code yX12_look cX12_look 1 (some .int) :: gw)) B.pre
  have hg : ∀ w ∈ gw, w.before ([.ref (bd 0)] : List Value).toArray s = true := fun w h => hts w (List.mem_cons_of_mem _ h)
  have hown : s.vm.findClass RX12 = some m.cls := findClass_of_methodNamed B.named
  have hlocks := B.notSynchronized
  have hS : va_S A s.heap s.heap [] := va_S.rf
  have hl := lv_entry ([.ref (bd 0)]) (n := 1) (Nat.le_of_ble_eq_true rfl)
  rw [lg_entry_eq]
  generalize (lg_sl ([.ref (bd 0)]) ++ List.replicate (1 - (lg_sl ([.ref (bd 0)])).length) Slot.unset).toArray = ls at hl ⊢
  have hl : lv_has ls 1 [(0, .ref (bd 0))] := hl
  refine lv_aload_n hx hb dX12_look_0 rfl (lv_at hl 0 rfl) ?_
  refine gr_here hx hb hg hown hK hP (x := (u 16)) rfl (hg _ q5_8) dX12_look_1 ?_
  refine lv_aload_n hx hb dX12_look_4 rfl (lv_at hl 0 rfl) ?_
  refine gr_taped hx hb hg hown hK hP (x := (u 15)) rfl (hg _ q5_7) dX12_look_5 ?_
  refine lv_icmp_ge (tgt := 23) hx hb dX12_look_8 (by decide) (fun c_1 => ?_) (fun c_1 => ?_)
  ·
    have kc_1 : (u 15).toInt ≤ (u 16).toInt := i_le c_1
    refine lv_iconst (v := (-1)) hx hb dX12_look_23 (by decide) ?_
    have q0_m1 : ((-1) : Int32).toInt = (-1) := rfl
    exact W.iret (v := (-1)) hx hb hr (fun tt ht hW => ⟨(-1), rfl, ⟨(by first | rfl | omega | trivial | assumption | (dsimp only; first | omega | assumption)), (TKR_look (by first | exact Or.inl ⟨by omega, by rw [e-1]; rfl, by omega, by omega⟩ | exact Or.inr ⟨by omega, by omega⟩))⟩, ht⟩) (fun _ h => by cases h) dX12_look_24
  ·
    have kc_1 : (u 16).toInt < (u 15).toInt := i_nle c_1
    refine lv_aload_n hx hb dX12_look_11 rfl (lv_at hl 0 rfl) ?_
    refine gr_tape hx hb hg hown hK hP (hg _ q5_6) dX12_look_12 ?_
    refine lv_aload_n hx hb dX12_look_15 rfl (lv_at hl 0 rfl) ?_
    refine gr_here hx hb hg hown hK hP (x := (u 16)) rfl (hg _ q5_8) dX12_look_16 ?_
    refine lr_tape hx hb hK hP (i_in (by omega) (by omega)) dX12_look_19 ?_
    refine lv_topi (fun x_2 ex_2 => ?_)
    have ex_2 : x_2 = (b 14) (u 16).toNatClampNeg := ex_2
    have hx_2 : x_2.toInt = ((b 14) (u 16).toNatClampNeg).toInt := by rw [ex_2]
    have bx_2 := ib14_0 (u 16).toNatClampNeg
    rw [← ex_2] at bx_2
    refine lv_goto (tgt := 24) hx hb dX12_look_20 (by decide) ?_
    exact W.iret (v := x_2) hx hb hr (fun tt ht hW => ⟨x_2, rfl, ⟨(by first | rfl | omega | trivial | assumption | (dsimp only; first | omega | assumption)), (TKR_look (by first | exact Or.inl ⟨by omega, by rw [ex_2]; rfl, by omega, by omega⟩ | exact Or.inr ⟨by omega, by omega⟩))⟩, ht⟩) (fun _ h => by cases h) dX12_look_24
set_option maxHeartbeats 4000000 in
set_option maxRecDepth 100000 in
theorem k_X12_wrong (l : Launch) (D : va_G) (cs : Nat → ClassId) (A : Nat → Prop) (bd : Nat → Nat) (u : Nat → Int32) (b : Nat → Nat → Int32) (bw : Nat → Nat → Int64)    : Met l yX12_wrong (Cond.code yX12_wrong cX12_wrong 1 none :: gw) ({ frames := 0, cells := 0, slots := 0, locals := 0 }) (va_Pc [.ref (bd 0)] (XPre D (TY cs) (RW cs bd u b bw) A)) (va_Qv (fun (z : Int32) => (((u 17).toInt < 0 ∧ z.toInt = (u 16).toInt) ∨ (0 ≤ (u 17).toInt ∧ z.toInt = (u 17).toInt))) (XPo D (fun (z : Int32) => RW cs bd (va_up u 17 z) b bw) A) A) 0 0 A := by
  refine Met.ofW (cc := cX12_wrong) (maxL := 1) (ret := none) (by decide) rfl ?_
  intro p e s m args below meth c s₁ B hml hv
  obtain ⟨rfl, hP, hK, hD, hZ⟩ := hv
  have hx := B.exec
  have hb := B.bytes
  have hr := B.returns
  have hts := atoms_spec (ws := (Cond.code yX12_wrong cX12_wrong 1 none :: gw)) B.pre
  have hg : ∀ w ∈ gw, w.before ([.ref (bd 0)] : List Value).toArray s = true := fun w h => hts w (List.mem_cons_of_mem _ h)
  have hown : s.vm.findClass RX12 = some m.cls := findClass_of_methodNamed B.named
  have hlocks := B.notSynchronized
  have hS : va_S A s.heap s.heap [] := va_S.rf
  have hP : va_P D vwCl (RW cs bd u b bw) s.heap := hP
  have hl := lv_entry ([.ref (bd 0)]) (n := 1) (Nat.le_of_ble_eq_true rfl)
  rw [lg_entry_eq]
  generalize (lg_sl ([.ref (bd 0)]) ++ List.replicate (1 - (lg_sl ([.ref (bd 0)])).length) Slot.unset).toArray = ls at hl ⊢
  have hl : lv_has ls 1 [(0, .ref (bd 0))] := hl
  refine lv_aload_n hx hb dX12_wrong_0 rfl (lv_at hl 0 rfl) ?_
  refine gr_fault hx hb hg hown hK hP (x := (u 17)) rfl (hg _ q5_9) dX12_wrong_1 ?_
  refine lv_if_ge (tgt := 15) hx hb dX12_wrong_4 (by decide) (fun c_1 => ?_) (fun c_1 => ?_)
  ·
    have kc_1 : (0 : Int) ≤ (u 17).toInt := i_le c_1
    have hP : va_P D vwCl (RW cs bd (va_up u 17 (u 17)) b bw) _ := hP
    have hD : va_D A (RW cs bd (va_up u 17 (u 17)) b bw) := hD
    exact W.vret hx hb hr (fun tt ht hW => ⟨⟨(u 17), rfl, (by first | rfl | omega | trivial | assumption | (dsimp only; first | omega | assumption)), by rw [ht]; exact hP, hD⟩, hS.F ht⟩) hS.2.2 dX12_wrong_15
  ·
    have kc_1 : (u 17).toInt < (0 : Int) := i_nle c_1
    refine lv_aload_n hx hb dX12_wrong_7 rfl (lv_at hl 0 rfl) ?_
    refine lv_aload_n hx hb dX12_wrong_8 rfl (lv_at hl 0 rfl) ?_
    refine gr_here hx hb hg hown hK hP (x := (u 16)) rfl (hg _ q5_8) dX12_wrong_9 ?_
    refine pr_fault hx hb hg hown hK hP hD hS (hg _ q5_9) dX12_wrong_12 (fun H locs hP hD hS => ?_)
    exact W.vret hx hb hr (fun tt ht hW => ⟨⟨(u 16), rfl, (by first | rfl | omega | trivial | assumption | (dsimp only; first | omega | assumption)), by rw [ht]; exact hP, hD⟩, hS.F ht⟩) hS.2.2 dX12_wrong_15
set_option maxHeartbeats 4000000 in
set_option maxRecDepth 100000 in
theorem k_X12_addStep (l : Launch) (D : va_G) (cs : Nat → ClassId) (A : Nat → Prop) (bd : Nat → Nat) (u : Nat → Int32) (b : Nat → Nat → Int32) (bw : Nat → Nat → Int64)  (p1 : Int32) (p2 : Int32) (hL0 : 0 ≤ (u 19).toInt) (hL9 : (u 19).toInt ≤ 129) (h1 : -128 ≤ p1.toInt) (h2 : p1.toInt ≤ 127) (ib20_0 : AB (-128) 127 (b 20)) : Met l yX12_addStep (Cond.code yX12_addStep cX12_addStep 3 none :: gw) ({ frames := 0, cells := 0, slots := 0, locals := 0 }) (va_Pc [.ref (bd 0), .int p1, .int p2] (XPre D (TY cs) (RW cs bd u b bw) A)) (va_Qv (fun (z : Int32 × (Nat → Int32) × (Nat → Int32)) => (z.1.toInt = (u 19).toInt + 1) ∧ (FRM (130 + (u 19).toInt.toNat) (b 20) z.2.1) ∧ (FRM (130 + (u 19).toInt.toNat) (b 21) z.2.2) ∧ ((z.2.1 (130 + (u 19).toInt.toNat)).toInt = p1.toInt) ∧ ((z.2.2 (130 + (u 19).toInt.toNat)).toInt = p2.toInt) ∧ (AB (-128) 127 z.2.1)) (XPo D (fun (z : Int32 × (Nat → Int32) × (Nat → Int32)) => RW cs bd (va_up u 19 z.1) (va_up (va_up b 20 z.2.1) 21 z.2.2) bw) A) A) 0 0 A := by
  refine Met.ofW (cc := cX12_addStep) (maxL := 3) (ret := none) (by decide) rfl ?_
  intro p e s m args below meth c s₁ B hml hv
  obtain ⟨rfl, hP, hK, hD, hZ⟩ := hv
  have hx := B.exec
  have hb := B.bytes
  have hr := B.returns
  have hts := atoms_spec (ws := (Cond.code yX12_addStep cX12_addStep 3 none :: gw)) B.pre
  have hg : ∀ w ∈ gw, w.before ([.ref (bd 0), .int p1, .int p2] : List Value).toArray s = true := fun w h => hts w (List.mem_cons_of_mem _ h)
  have hown : s.vm.findClass RX12 = some m.cls := findClass_of_methodNamed B.named
  have hlocks := B.notSynchronized
  have hS : va_S A s.heap s.heap [] := va_S.rf
  have hP : va_P D vwCl (RW cs bd u b bw) s.heap := hP
  have hl := lv_entry ([.ref (bd 0), .int p1, .int p2]) (n := 3) (Nat.le_of_ble_eq_true rfl)
  rw [lg_entry_eq]
  generalize (lg_sl ([.ref (bd 0), .int p1, .int p2]) ++ List.replicate (3 - (lg_sl ([.ref (bd 0), .int p1, .int p2])).length) Slot.unset).toArray = ls at hl ⊢
  have hl : lv_has ls 3 [(0, .ref (bd 0)), (1, .int p1), (2, .int p2)] := hl
  refine lv_aload_n hx hb dX12_addStep_0 rfl (lv_at hl 0 rfl) ?_
  refine gr_act hx hb hg hown hK hP (hg _ q5_12) dX12_addStep_1 ?_
  refine lv_sipush (v := 130) hx hb dX12_addStep_4 (by decide) ?_
  refine lv_aload_n hx hb dX12_addStep_7 rfl (lv_at hl 0 rfl) ?_
  refine gr_laid hx hb hg hown hK hP (x := (u 19)) rfl (hg _ q5_11) dX12_addStep_8 ?_
  refine lv_iadd hx hb dX12_addStep_11 ?_
  refine lv_topi (fun x_1 ex_1 => ?_)
  have fx_1 : x_1.toInt = (130 : Int) + (u 19).toInt := by rw [ex_1]; exact i_add (by first | omega | (show (_ : Int) ≤ (130 : Int) + (u 19).toInt; omega)) (by first | omega | (show (130 : Int) + (u 19).toInt ≤ (_ : Int); omega))
  refine lv_iload_n hx hb dX12_addStep_12 rfl (lv_at hl 1 rfl) ?_
  refine lv_i2b hx hb dX12_addStep_13 rfl ?_
  refine lv_topi (fun x_2 ex_2 => ?_)
  refine sr_act hx hb hK hP hD hS (i_in (by omega) (by omega)) dX12_addStep_14 (fun H locs hP hD hS => ?_)
  have hab_3 : AB (-128) 127 (upd (b 20) x_1.toNatClampNeg (vp_nar .byte x_2)) := AB_upd ib20_0 (nar_b_rg _).1 (nar_b_rg _).2
  refine lv_aload_n hx hb dX12_addStep_15 rfl (lv_at hl 0 rfl) ?_
  refine gr_with hx hb hg hown hK hP (hg _ q5_13) dX12_addStep_16 ?_
  refine lv_sipush (v := 130) hx hb dX12_addStep_19 (by decide) ?_
  refine lv_aload_n hx hb dX12_addStep_22 rfl (lv_at hl 0 rfl) ?_
  refine gr_laid hx hb hg hown hK hP (x := (u 19)) rfl (hg _ q5_11) dX12_addStep_23 ?_
  refine lv_iadd hx hb dX12_addStep_26 ?_
  refine lv_topi (fun x_4 ex_4 => ?_)
  have fx_4 : x_4.toInt = (130 : Int) + (u 19).toInt := by rw [ex_4]; exact i_add (by first | omega | (show (_ : Int) ≤ (130 : Int) + (u 19).toInt; omega)) (by first | omega | (show (130 : Int) + (u 19).toInt ≤ (_ : Int); omega))
  refine lv_iload_n hx hb dX12_addStep_27 rfl (lv_at hl 2 rfl) ?_
  refine sr_with hx hb hK hP hD hS (i_in (by omega) (by omega)) dX12_addStep_28 (fun H locs hP hD hS => ?_)
  refine lv_aload_n hx hb dX12_addStep_29 rfl (lv_at hl 0 rfl) ?_
  refine lv_dup hx hb dX12_addStep_30 rfl ?_
  refine gr_laid hx hb hg hown hK hP (x := (u 19)) rfl (hg _ q5_11) dX12_addStep_31 ?_
  refine lv_iconst (v := 1) hx hb dX12_addStep_34 (by decide) ?_
  refine lv_iadd hx hb dX12_addStep_35 ?_
  refine lv_topi (fun x_5 ex_5 => ?_)
  have fx_5 : x_5.toInt = (u 19).toInt + (1 : Int) := by rw [ex_5]; exact i_add (by first | omega | (show (_ : Int) ≤ (u 19).toInt + (1 : Int); omega)) (by first | omega | (show (u 19).toInt + (1 : Int) ≤ (_ : Int); omega))
  refine pr_laid hx hb hg hown hK hP hD hS (hg _ q5_11) dX12_addStep_36 (fun H locs hP hD hS => ?_)
  exact W.vret hx hb hr (fun tt ht hW => ⟨⟨⟨x_5, (upd (b 20) x_1.toNatClampNeg (vp_nar .byte x_2)), (upd (b 21) x_4.toNatClampNeg p2)⟩, rfl, ⟨(by omega), (FRM_upd FRM_refl (by show 130 + (u 19).toInt.toNat ≤ x_1.toInt.toNat; omega)), (FRM_upd FRM_refl (by show 130 + (u 19).toInt.toNat ≤ x_4.toInt.toNat; omega)), (by dsimp only; rw [upd_at (show 130 + (u 19).toInt.toNat = x_1.toNatClampNeg from (by show _ = x_1.toInt.toNat; omega))]; exact nar_b ex_2 h1 h2), (by dsimp only; rw [upd_at (show 130 + (u 19).toInt.toNat = x_4.toNatClampNeg from (by show _ = x_4.toInt.toNat; omega))]), hab_3⟩, by rw [ht]; exact hP, hD⟩, hS.F ht⟩) hS.2.2 dX12_addStep_39
set_option maxHeartbeats 4000000 in
set_option maxRecDepth 100000 in
theorem k_X12_opens (l : Launch) (D : va_G) (cs : Nat → ClassId) (A : Nat → Prop) (bd : Nat → Nat) (u : Nat → Int32) (b : Nat → Nat → Int32) (bw : Nat → Nat → Int64)   (hT : (u 17).toInt = -1) (hh0 : 0 ≤ (u 16).toInt) (hh1 : (u 16).toInt ≤ (u 15).toInt) (hL0 : 0 ≤ (u 19).toInt) (hL1 : (u 19).toInt ≤ (u 16).toInt) (ho0 : 0 ≤ (u 18).toInt) (ho6 : (u 18).toInt ≤ 6) (hlt : (u 16).toInt < (u 15).toInt) (h15 : (u 15).toInt ≤ 120) : Met l yX12_opens (Cond.code yX12_opens cX12_opens 1 (some .boolean) :: gw) ({ frames := 1, cells := 0, slots := 0, locals := 20 }) (va_Pc [.ref (bd 0)] (XPre D (TY cs) (RW cs bd u b bw) A)) (va_Qi (fun (r : Int32) (z : Int32 × Int32 × Int32) => ((r.toInt = 1 ∧ (u 18).toInt ≤ 5 ∧ z.1.toInt = (u 18).toInt + 1 ∧ z.2.1.toInt = (u 16).toInt + 1 ∧ z.2.2.toInt = -1 ∧ z.1.toInt ≤ 6) ∨ (r.toInt = 0 ∧ (u 18).toInt = 6 ∧ 0 ≤ z.2.2.toInt ∧ z.2.2.toInt = (u 16).toInt ∧ z.1.toInt = (u 18).toInt ∧ z.2.1.toInt = (u 16).toInt))) (XPo D (fun (z : Int32 × Int32 × Int32) => RW cs bd (va_up (va_up (va_up u 18 z.1) 16 z.2.1) 17 z.2.2) b bw) A) A) 0 0 A := by
  refine Met.ofW (cc := cX12_opens) (maxL := 1) (ret := (some .boolean)) (by decide) rfl ?_
  intro p e s m args below meth c s₁ B hml hv
  obtain ⟨rfl, hP, hK, hD, hZ⟩ := hv
  have hx := B.exec
  have hb := B.bytes
  have hr := B.returns
  have hts := atoms_spec (ws := (Cond.code yX12_opens cX12_opens 1 (some .boolean) :: gw)) B.pre
  have hg : ∀ w ∈ gw, w.before ([.ref (bd 0)] : List Value).toArray s = true := fun w h => hts w (List.mem_cons_of_mem _ h)
  have hown : s.vm.findClass RX12 = some m.cls := findClass_of_methodNamed B.named
  have hlocks := B.notSynchronized
  have hS : va_S A s.heap s.heap [] := va_S.rf
  have hP : va_P D vwCl (RW cs bd u b bw) s.heap := hP
  have hl := lv_entry ([.ref (bd 0)]) (n := 1) (Nat.le_of_ble_eq_true rfl)
  rw [lg_entry_eq]
  generalize (lg_sl ([.ref (bd 0)]) ++ List.replicate (1 - (lg_sl ([.ref (bd 0)])).length) Slot.unset).toArray = ls at hl ⊢
  have hl : lv_has ls 1 [(0, .ref (bd 0))] := hl
  refine lv_aload_n hx hb dX12_opens_0 rfl (lv_at hl 0 rfl) ?_
  refine gr_open hx hb hg hown hK hP (x := (u 18)) rfl (hg _ q5_10) dX12_opens_1 ?_
  refine lv_bipush (v := 6) hx hb dX12_opens_4 (by decide) ?_
  refine lv_icmp_ne (tgt := 15) hx hb dX12_opens_6 (by decide) (fun c_1 => ?_) (fun c_1 => ?_)
  ·
    have kc_1 : (u 18).toInt ≠ (6 : Int) := i_ne c_1
    refine lv_aload_n hx hb dX12_opens_15 rfl (lv_at hl 0 rfl) ?_
    refine lv_dup hx hb dX12_opens_16 rfl ?_
    refine gr_open hx hb hg hown hK hP (x := (u 18)) rfl (hg _ q5_10) dX12_opens_17 ?_
    refine lv_iconst (v := 1) hx hb dX12_opens_20 (by decide) ?_
    refine lv_iadd hx hb dX12_opens_21 ?_
    refine lv_topi (fun x_2 ex_2 => ?_)
    have fx_2 : x_2.toInt = (u 18).toInt + (1 : Int) := by rw [ex_2]; exact i_add (by first | omega | (show (_ : Int) ≤ (u 18).toInt + (1 : Int); omega)) (by first | omega | (show (u 18).toInt + (1 : Int) ≤ (_ : Int); omega))
    refine pr_open hx hb hg hown hK hP hD hS (hg _ q5_10) dX12_opens_22 (fun H locs hP hD hS => ?_)
    refine lv_aload_n hx hb dX12_opens_25 rfl (lv_at hl 0 rfl) ?_
    refine lv_dup hx hb dX12_opens_26 rfl ?_
    refine gr_here hx hb hg hown hK hP (x := (u 16)) rfl (hg _ q5_8) dX12_opens_27 ?_
    refine lv_iconst (v := 1) hx hb dX12_opens_30 (by decide) ?_
    refine lv_iadd hx hb dX12_opens_31 ?_
    refine lv_topi (fun x_3 ex_3 => ?_)
    have fx_3 : x_3.toInt = (u 16).toInt + (1 : Int) := by rw [ex_3]; exact i_add (by first | omega | (show (_ : Int) ≤ (u 16).toInt + (1 : Int); omega)) (by first | omega | (show (u 16).toInt + (1 : Int) ≤ (_ : Int); omega))
    refine pr_here hx hb hg hown hK hP hD hS (hg _ q5_8) dX12_opens_32 (fun H locs hP hD hS => ?_)
    refine lv_iconst (v := 1) hx hb dX12_opens_35 (by decide) ?_
    have q0_1 : (1 : Int32).toInt = 1 := rfl
    have hP : va_P D vwCl (RW cs bd (va_up (va_up (va_up u 18 x_2) 16 x_3) 17 (u 17)) b bw) _ := hP
    have hD : va_D A (RW cs bd (va_up (va_up (va_up u 18 x_2) 16 x_3) 17 (u 17)) b bw) := hD
    exact W.zret (v := 1) hx hb hr rfl (fun tt ht hW => ⟨⟨1, ⟨x_2, x_3, (u 17)⟩, rfl, (by first | rfl | omega | trivial | assumption | (dsimp only; first | omega | assumption)), by rw [ht]; exact hP, hD⟩, hS.F ht⟩) hS.2.2 dX12_opens_36
  ·
    have kc_1 : (u 18).toInt = (6 : Int) := i_eq c_1
    refine lv_aload_n hx hb dX12_opens_9 rfl (lv_at hl 0 rfl) ?_
    refine cV_v (As := []) (rest := []) ⟨hx, hb, hml, hown, hg⟩ (k_X12_wrong l D cs A bd u b bw   ) ca_X12_wrong q6_81 ⟨rfl, rfl⟩ ⟨Nat.le_of_ble_eq_true rfl, Nat.le_of_ble_eq_true rfl⟩ (rc_model hK hP) hK hP hD hS hZ rfl hl.1 rfl (Nat.le_of_ble_eq_true rfl) ⟨Nat.zero_le _, Nat.zero_le _⟩ dX12_opens_10 (fun o_u17_5 H locs wr_4 hP hD hS => ?_)
    have hP : va_P D vwCl (RW cs bd (va_up u 17 o_u17_5) b bw) H := hP
    have hD : va_D A (RW cs bd (va_up u 17 o_u17_5) b bw) := hD
    have wr_4_0 : ((u 17).toInt < 0 ∧ o_u17_5.toInt = (u 16).toInt) ∨ (0 ≤ (u 17).toInt ∧ o_u17_5.toInt = (u 17).toInt) := wr_4
    refine lv_iconst (v := 0) hx hb dX12_opens_13 (by decide) ?_
    have q0_0 : (0 : Int32).toInt = 0 := rfl
    have hP : va_P D vwCl (RW cs bd (va_up (va_up (va_up u 18 (u 18)) 16 (u 16)) 17 o_u17_5) b bw) _ := hP
    have hD : va_D A (RW cs bd (va_up (va_up (va_up u 18 (u 18)) 16 (u 16)) 17 o_u17_5) b bw) := hD
    exact W.zret (v := 0) hx hb hr rfl (fun tt ht hW => ⟨⟨0, ⟨(u 18), (u 16), o_u17_5⟩, rfl, (by first | rfl | omega | trivial | assumption | (dsimp only; first | omega | assumption)), by rw [ht]; exact hP, hD⟩, hS.F ht⟩) hS.2.2 dX12_opens_14
set_option maxHeartbeats 4000000 in
set_option maxRecDepth 100000 in
theorem k_X12_figure (l : Launch) (D : va_G) (cs : Nat → ClassId) (A : Nat → Prop) (bd : Nat → Nat) (u : Nat → Int32) (b : Nat → Nat → Int32) (bw : Nat → Nat → Int64)   (hT : (u 17).toInt = -1) (hh0 : 0 ≤ (u 16).toInt) (hh1 : (u 16).toInt ≤ (u 15).toInt) (hL0 : 0 ≤ (u 19).toInt) (hL1 : (u 19).toInt ≤ (u 16).toInt) (ho0 : 0 ≤ (u 18).toInt) (ho6 : (u 18).toInt ≤ 6) (iu15_0 : 0 ≤ (u 15).toInt) (iu15_1 : (u 15).toInt ≤ 120) (ib14_0 : AB (-128) 127 (b 14)) (ib20_0 : AB (-128) 127 (b 20)) : Met l yX12_figure (Cond.code yX12_figure cX12_figure 3 none :: gw) ({ frames := 1, cells := 0, slots := 0, locals := 22 }) (va_Pc [.ref (bd 0)] (XPre D (TY cs) (RW cs bd u b bw) A)) (va_Qv (fun (z : Int32 × Int32 × Int32 × Int32 × (Nat → Int32) × (Nat → Int32)) => ((z.2.1.toInt = -1 ∧ z.2.2.1.toInt = (u 18).toInt ∧ (u 16).toInt < z.1.toInt ∧ z.2.2.2.1.toInt - (u 19).toInt ≤ z.1.toInt - (u 16).toInt) ∨ (0 ≤ z.2.1.toInt ∧ z.2.2.2.1.toInt - (u 19).toInt ≤ z.1.toInt - (u 16).toInt + 1)) ∧ ((u 16).toInt ≤ z.1.toInt) ∧ (z.1.toInt ≤ (u 15).toInt) ∧ ((u 18).toInt ≤ z.2.2.1.toInt) ∧ (z.2.2.1.toInt ≤ 6) ∧ ((u 19).toInt ≤ z.2.2.2.1.toInt) ∧ (FRM (130 + (u 19).toInt.toNat) (b 20) z.2.2.2.2.1) ∧ (FRM (130 + (u 19).toInt.toNat) (b 21) z.2.2.2.2.2) ∧ (z.2.1.toInt = -1 → SEGI z.2.2.2.2.1 z.2.2.2.2.2 (130 + (u 19).toInt.toNat) (130 + z.2.2.2.1.toInt.toNat)) ∧ (RESR (FIGF (TKR (b 14) (u 15).toInt) (u 16).toInt.toNat) z.2.1.toInt z.1.toInt.toNat) ∧ (AB (-128) 127 z.2.2.2.2.1)) (XPo D (fun (z : Int32 × Int32 × Int32 × Int32 × (Nat → Int32) × (Nat → Int32)) => RW cs bd (va_up (va_up (va_up (va_up u 16 z.1) 17 z.2.1) 18 z.2.2.1) 19 z.2.2.2.1) (va_up (va_up b 20 z.2.2.2.2.1) 21 z.2.2.2.2.2) bw) A) A) 0 0 A := by
  refine Met.ofW (cc := cX12_figure) (maxL := 3) (ret := none) (by decide) rfl ?_
  intro p e s m args below meth c s₁ B hml hv
  obtain ⟨rfl, hP, hK, hD, hZ⟩ := hv
  have hx := B.exec
  have hb := B.bytes
  have hr := B.returns
  have hts := atoms_spec (ws := (Cond.code yX12_figure cX12_figure 3 none :: gw)) B.pre
  have hg : ∀ w ∈ gw, w.before ([.ref (bd 0)] : List Value).toArray s = true := fun w h => hts w (List.mem_cons_of_mem _ h)
  have hown : s.vm.findClass RX12 = some m.cls := findClass_of_methodNamed B.named
  have hlocks := B.notSynchronized
  have hS : va_S A s.heap s.heap [] := va_S.rf
  have hP : va_P D vwCl (RW cs bd u b bw) s.heap := hP
  have hl := lv_entry ([.ref (bd 0)]) (n := 3) (Nat.le_of_ble_eq_true rfl)
  rw [lg_entry_eq]
  generalize (lg_sl ([.ref (bd 0)]) ++ List.replicate (3 - (lg_sl ([.ref (bd 0)])).length) Slot.unset).toArray = ls at hl ⊢
  have hl : lv_has ls 3 [(0, .ref (bd 0))] := hl
  have hcut : ∀ nk : Nat, (∀ (x1 : Int32) (x2 : Int32) (c4_u16 : Int32) (H : Heap) (locs : List Loc) (hn : (u 16).toInt + x2.toInt = c4_u16.toInt) (hn0 : 0 ≤ x2.toInt) (hn4 : x2.toInt ≤ 4) (hc15 : c4_u16.toInt ≤ (u 15).toInt) (hnq : NUMQ (TKR (b 14) (u 15).toInt) 4 (u 16).toInt.toNat = NUMQ (TKR (b 14) (u 15).toInt) (4 - x2.toInt.toNat) c4_u16.toInt.toNat) (hdg : 0 < x2.toInt → 48 ≤ (TKR (b 14) (u 15).toInt) (u 16).toInt.toNat ∧ (TKR (b 14) (u 15).toInt) (u 16).toInt.toNat ≤ 57) (hmu : (4 - x2.toInt).toNat < nk) (hP : va_P D vwCl (RW cs bd (va_up u 16 c4_u16) b bw) H) (hD : va_D A (RW cs bd (va_up u 16 c4_u16) b bw)) (hS : va_S A s.heap H locs) (ls : Array Slot) (hl : lv_has ls 3 [(0, .ref (bd 0)), (1, .int x1), (2, .int x2)]), W p l e (headSpec (Cond.code yX12_figure cX12_figure 3 none :: gw) ({ frames := 1, cells := 0, slots := 0, locals := 22 })).room s m ([.ref (bd 0)] : List Value).toArray below meth c H locs 0 0 (MQ below (va_Qv (fun (z : Int32 × Int32 × Int32 × Int32 × (Nat → Int32) × (Nat → Int32)) => ((z.2.1.toInt = -1 ∧ z.2.2.1.toInt = (u 18).toInt ∧ (u 16).toInt < z.1.toInt ∧ z.2.2.2.1.toInt - (u 19).toInt ≤ z.1.toInt - (u 16).toInt) ∨ (0 ≤ z.2.1.toInt ∧ z.2.2.2.1.toInt - (u 19).toInt ≤ z.1.toInt - (u 16).toInt + 1)) ∧ ((u 16).toInt ≤ z.1.toInt) ∧ (z.1.toInt ≤ (u 15).toInt) ∧ ((u 18).toInt ≤ z.2.2.1.toInt) ∧ (z.2.2.1.toInt ≤ 6) ∧ ((u 19).toInt ≤ z.2.2.2.1.toInt) ∧ (FRM (130 + (u 19).toInt.toNat) (b 20) z.2.2.2.2.1) ∧ (FRM (130 + (u 19).toInt.toNat) (b 21) z.2.2.2.2.2) ∧ (z.2.1.toInt = -1 → SEGI z.2.2.2.2.1 z.2.2.2.2.2 (130 + (u 19).toInt.toNat) (130 + z.2.2.2.1.toInt.toNat)) ∧ (RESR (FIGF (TKR (b 14) (u 15).toInt) (u 16).toInt.toNat) z.2.1.toInt z.1.toInt.toNat) ∧ (AB (-128) 127 z.2.2.2.2.1)) (XPo D (fun (z : Int32 × Int32 × Int32 × Int32 × (Nat → Int32) × (Nat → Int32)) => RW cs bd (va_up (va_up (va_up (va_up u 16 z.1) 17 z.2.1) 18 z.2.2.1) 19 z.2.2.2.1) (va_up (va_up b 20 z.2.2.2.2.1) 21 z.2.2.2.2.2) bw) A) A) ([.ref (bd 0)] : List Value).toArray s 0 0 A) (F0 m 4 ls [])) := by
    intro nk
    induction nk with
    | zero => exact (fun x1 x2 c4_u16 H locs hn hn0 hn4 hc15 hnq hdg hmu hP hD hS ls hl => absurd hmu (Nat.not_lt_zero _))
    | succ nk ih =>
      intro x1 x2 c4_u16 H locs hn hn0 hn4 hc15 hnq hdg hmu hP hD hS ls hl
      refine lv_iload_n hx hb dX12_figure_4 rfl (lv_at hl 2 rfl) ?_
      refine lv_iconst (v := 4) hx hb dX12_figure_5 (by decide) ?_
      refine lv_icmp_ge (tgt := 52) hx hb dX12_figure_6 (by decide) (fun c_1 => ?_) (fun c_1 => ?_)
      ·
        have kc_1 : (4 : Int) ≤ x2.toInt := i_le c_1
        refine lv_iload_n hx hb dX12_figure_52 rfl (lv_at hl 2 rfl) ?_
        refine lv_if_eq (tgt := 70) hx hb dX12_figure_53 (by decide) (fun c_2 => ?_) (fun c_2 => ?_)
        ·
          have kc_2 : x2.toInt = (0 : Int) := i_eq c_2
          exfalso; omega
        ·
          have kc_2 : x2.toInt ≠ (0 : Int) := i_ne c_2
          refine lv_aload_n hx hb dX12_figure_56 rfl (lv_at hl 0 rfl) ?_
          refine cV_ro (As := []) (rest := []) ⟨hx, hb, hml, hown, hg⟩ (k_X12_look l D cs A bd (va_up u 16 c4_u16) b bw   (show 0 ≤ c4_u16.toInt by first | omega | decide) (show 0 ≤ (u 15).toInt by first | omega | decide) (show (u 15).toInt ≤ 120 by first | omega | decide) ib14_0) ca_X12_look q6_66 ⟨rfl, rfl⟩ ⟨Nat.le_of_ble_eq_true rfl, Nat.le_of_ble_eq_true rfl⟩ (rc_model hK hP) hK hP hD hS hZ rfl hl.1 rfl (Nat.le_of_ble_eq_true rfl) ⟨Nat.zero_le _, Nat.zero_le _⟩ dX12_figure_57 (fun r_3 wr_3 => ?_)
          obtain ⟨wr_3_0, wr_3_1⟩ : ((c4_u16.toInt < (u 15).toInt ∧ r_3.toInt = ((b 14) c4_u16.toNatClampNeg).toInt) ∨ ((u 15).toInt ≤ c4_u16.toInt ∧ r_3.toInt = -1)) ∧ ((r_3.toInt = (TKR (b 14) (u 15).toInt) c4_u16.toInt.toNat ∧ -1 ≤ r_3.toInt ∧ r_3.toInt ≤ 127) ∨ (r_3.toInt = (TKR (b 14) (u 15).toInt) c4_u16.toInt.toNat - 256 ∧ 128 ≤ (TKR (b 14) (u 15).toInt) c4_u16.toInt.toNat ∧ (TKR (b 14) (u 15).toInt) c4_u16.toInt.toNat ≤ 255 ∧ r_3.toInt < 0)) := wr_3
          refine lv_bipush (v := 48) hx hb dX12_figure_60 (by decide) ?_
          refine lv_bipush (v := 57) hx hb dX12_figure_62 (by decide) ?_
          refine cS_p (As := [.int r_3, .int 48, .int 57]) (rest := []) ⟨hx, hb, hml, hown, hg⟩ (k_X12_in l   r_3 48 57 ) ca_X12_in q5_212 ⟨rfl, rfl⟩ ⟨Nat.le_of_ble_eq_true rfl, Nat.le_of_ble_eq_true rfl⟩ rfl hl.1 rfl (Nat.le_of_ble_eq_true rfl) ⟨Nat.zero_le _, Nat.zero_le _⟩ dX12_figure_64 (fun r_4 wr_4 => ?_)
          have wr_4 : (r_4.toInt = 1 ∧ (48 : Int) ≤ r_3.toInt ∧ r_3.toInt ≤ (57 : Int)) ∨ (r_4.toInt = 0 ∧ ¬ ((48 : Int) ≤ r_3.toInt ∧ r_3.toInt ≤ (57 : Int))) := wr_4
          refine lv_if_eq (tgt := 74) hx hb dX12_figure_67 (by decide) (fun c_5 => ?_) (fun c_5 => ?_)
          ·
            have kc_5 : r_4.toInt = (0 : Int) := i_eq c_5
            have hd2 : ¬ (48 ≤ (TKR (b 14) (u 15).toInt) c4_u16.toInt.toNat ∧ (TKR (b 14) (u 15).toInt) c4_u16.toInt.toNat ≤ 57) := by omega
            clear wr_3_0 wr_3_1
            refine lv_aload_n hx hb dX12_figure_74 rfl (lv_at hl 0 rfl) ?_
            refine lv_iconst (v := 1) hx hb dX12_figure_75 (by decide) ?_
            refine lv_iload_n hx hb dX12_figure_76 rfl (lv_at hl 1 rfl) ?_
            refine cV_v (As := [.int 1, .int x1]) (rest := []) ⟨hx, hb, hml, hown, hg⟩ (k_X12_addStep l D cs A bd (va_up u 16 c4_u16) b bw  1 x1 (show 0 ≤ (u 19).toInt by first | omega | decide) (show (u 19).toInt ≤ 129 by first | omega | decide) (show -128 ≤ (1 : Int) by first | omega | decide) (show (1 : Int) ≤ 127 by first | omega | decide) ib20_0) ca_X12_addStep q6_73 ⟨rfl, rfl⟩ ⟨Nat.le_of_ble_eq_true rfl, Nat.le_of_ble_eq_true rfl⟩ (rc_model hK hP) hK hP hD hS hZ rfl hl.1 rfl (Nat.le_of_ble_eq_true rfl) ⟨Nat.zero_le _, Nat.zero_le _⟩ dX12_figure_77 (fun z_10 H locs wr_6 hP hD hS => ?_)
            obtain ⟨o_u19_7, o_b20_8, o_b21_9⟩ := z_10
            have hP : va_P D vwCl (RW cs bd (va_up (va_up u 16 c4_u16) 19 o_u19_7) (va_up (va_up b 20 o_b20_8) 21 o_b21_9) bw) H := hP
            have hD : va_D A (RW cs bd (va_up (va_up u 16 c4_u16) 19 o_u19_7) (va_up (va_up b 20 o_b20_8) 21 o_b21_9) bw) := hD
            obtain ⟨wr_6_0, wr_6_1, wr_6_2, wr_6_3, wr_6_4, wr_6_5⟩ : (o_u19_7.toInt = (u 19).toInt + 1) ∧ (FRM (130 + (u 19).toInt.toNat) (b 20) o_b20_8) ∧ (FRM (130 + (u 19).toInt.toNat) (b 21) o_b21_9) ∧ ((o_b20_8 (130 + (u 19).toInt.toNat)).toInt = (1 : Int)) ∧ ((o_b21_9 (130 + (u 19).toInt.toNat)).toInt = x1.toInt) ∧ (AB (-128) 127 o_b20_8) := wr_6
            have hA_11 : FRM (130 + (u 19).toInt.toNat) (b 20) o_b20_8 := FRM_trans FRM_refl wr_6_1 (by omega)
            have hA_12 : FRM (130 + (u 19).toInt.toNat) (b 21) o_b21_9 := FRM_trans FRM_refl wr_6_2 (by omega)
            have hsg_13 : (u 17).toInt = -1 → SEGI o_b20_8 o_b21_9 (130 + (u 19).toInt.toNat) (130 + o_u19_7.toInt.toNat) := fun hq => SEG_push (by omega) (by omega)
            have hP : va_P D vwCl (RW cs bd (va_up (va_up (va_up (va_up u 16 c4_u16) 17 (u 17)) 18 (u 18)) 19 o_u19_7) (va_up (va_up b 20 o_b20_8) 21 o_b21_9) bw) _ := hP
            have hD : va_D A (RW cs bd (va_up (va_up (va_up (va_up u 16 c4_u16) 17 (u 17)) 18 (u 18)) 19 o_u19_7) (va_up (va_up b 20 o_b20_8) 21 o_b21_9) bw) := hD
            exact W.vret hx hb hr (fun tt ht hW => ⟨⟨⟨c4_u16, (u 17), (u 18), o_u19_7, o_b20_8, o_b21_9⟩, rfl, ⟨(by first | rfl | omega | trivial | assumption | (dsimp only; first | omega | assumption)), (by first | rfl | omega | trivial | assumption | (dsimp only; first | omega | assumption)), (by first | rfl | omega | trivial | assumption | (dsimp only; first | omega | assumption)), (by first | rfl | omega | trivial | assumption | (dsimp only; first | omega | assumption)), (by first | rfl | omega | trivial | assumption | (dsimp only; first | omega | assumption)), (by first | rfl | omega | trivial | assumption | (dsimp only; first | omega | assumption)), hA_11, hA_12, hsg_13, (by (try dsimp only); exact (FIG_res (k := x2.toInt) (hnq.trans (by first | exact NUMQ_no (by omega) | (rw [show 4 - x2.toInt.toNat = 0 from by omega]; rfl))) (fun q => ⟨by omega, by rw [show (u 16).toInt.toNat = c4_u16.toInt.toNat from by omega]; omega⟩) (fun q => hdg (by omega)) (by omega))), wr_6_5⟩, by rw [ht]; exact hP, hD⟩, hS.F ht⟩) hS.2.2 dX12_figure_80
          ·
            have kc_5 : r_4.toInt ≠ (0 : Int) := i_ne c_5
            have hd2 : 48 ≤ (TKR (b 14) (u 15).toInt) c4_u16.toInt.toNat ∧ (TKR (b 14) (u 15).toInt) c4_u16.toInt.toNat ≤ 57 := by omega
            clear wr_3_0 wr_3_1
            refine lv_aload_n hx hb dX12_figure_70 rfl (lv_at hl 0 rfl) ?_
            refine cV_v (As := []) (rest := []) ⟨hx, hb, hml, hown, hg⟩ (k_X12_wrong l D cs A bd (va_up u 16 c4_u16) b bw   ) ca_X12_wrong q6_81 ⟨rfl, rfl⟩ ⟨Nat.le_of_ble_eq_true rfl, Nat.le_of_ble_eq_true rfl⟩ (rc_model hK hP) hK hP hD hS hZ rfl hl.1 rfl (Nat.le_of_ble_eq_true rfl) ⟨Nat.zero_le _, Nat.zero_le _⟩ dX12_figure_71 (fun o_u17_15 H locs wr_14 hP hD hS => ?_)
            have hP : va_P D vwCl (RW cs bd (va_up (va_up u 16 c4_u16) 17 o_u17_15) b bw) H := hP
            have hD : va_D A (RW cs bd (va_up (va_up u 16 c4_u16) 17 o_u17_15) b bw) := hD
            have wr_14_0 : ((u 17).toInt < 0 ∧ o_u17_15.toInt = c4_u16.toInt) ∨ (0 ≤ (u 17).toInt ∧ o_u17_15.toInt = (u 17).toInt) := wr_14
            refine lv_aload_n hx hb dX12_figure_74 rfl (lv_at hl 0 rfl) ?_
            refine lv_iconst (v := 1) hx hb dX12_figure_75 (by decide) ?_
            refine lv_iload_n hx hb dX12_figure_76 rfl (lv_at hl 1 rfl) ?_
            refine cV_v (As := [.int 1, .int x1]) (rest := []) ⟨hx, hb, hml, hown, hg⟩ (k_X12_addStep l D cs A bd (va_up (va_up u 16 c4_u16) 17 o_u17_15) b bw  1 x1 (show 0 ≤ (u 19).toInt by first | omega | decide) (show (u 19).toInt ≤ 129 by first | omega | decide) (show -128 ≤ (1 : Int) by first | omega | decide) (show (1 : Int) ≤ 127 by first | omega | decide) ib20_0) ca_X12_addStep q6_73 ⟨rfl, rfl⟩ ⟨Nat.le_of_ble_eq_true rfl, Nat.le_of_ble_eq_true rfl⟩ (rc_model hK hP) hK hP hD hS hZ rfl hl.1 rfl (Nat.le_of_ble_eq_true rfl) ⟨Nat.zero_le _, Nat.zero_le _⟩ dX12_figure_77 (fun z_20 H locs wr_16 hP hD hS => ?_)
            obtain ⟨o_u19_17, o_b20_18, o_b21_19⟩ := z_20
            have hP : va_P D vwCl (RW cs bd (va_up (va_up (va_up u 16 c4_u16) 17 o_u17_15) 19 o_u19_17) (va_up (va_up b 20 o_b20_18) 21 o_b21_19) bw) H := hP
            have hD : va_D A (RW cs bd (va_up (va_up (va_up u 16 c4_u16) 17 o_u17_15) 19 o_u19_17) (va_up (va_up b 20 o_b20_18) 21 o_b21_19) bw) := hD
            obtain ⟨wr_16_0, wr_16_1, wr_16_2, wr_16_3, wr_16_4, wr_16_5⟩ : (o_u19_17.toInt = (u 19).toInt + 1) ∧ (FRM (130 + (u 19).toInt.toNat) (b 20) o_b20_18) ∧ (FRM (130 + (u 19).toInt.toNat) (b 21) o_b21_19) ∧ ((o_b20_18 (130 + (u 19).toInt.toNat)).toInt = (1 : Int)) ∧ ((o_b21_19 (130 + (u 19).toInt.toNat)).toInt = x1.toInt) ∧ (AB (-128) 127 o_b20_18) := wr_16
            have hA_21 : FRM (130 + (u 19).toInt.toNat) (b 20) o_b20_18 := FRM_trans FRM_refl wr_16_1 (by omega)
            have hA_22 : FRM (130 + (u 19).toInt.toNat) (b 21) o_b21_19 := FRM_trans FRM_refl wr_16_2 (by omega)
            have hsg_23 : o_u17_15.toInt = -1 → SEGI o_b20_18 o_b21_19 (130 + (u 19).toInt.toNat) (130 + o_u19_17.toInt.toNat) := fun hq => SEG_push (by omega) (by omega)
            have hP : va_P D vwCl (RW cs bd (va_up (va_up (va_up (va_up u 16 c4_u16) 17 o_u17_15) 18 (u 18)) 19 o_u19_17) (va_up (va_up b 20 o_b20_18) 21 o_b21_19) bw) _ := hP
            have hD : va_D A (RW cs bd (va_up (va_up (va_up (va_up u 16 c4_u16) 17 o_u17_15) 18 (u 18)) 19 o_u19_17) (va_up (va_up b 20 o_b20_18) 21 o_b21_19) bw) := hD
            exact W.vret hx hb hr (fun tt ht hW => ⟨⟨⟨c4_u16, o_u17_15, (u 18), o_u19_17, o_b20_18, o_b21_19⟩, rfl, ⟨(by first | rfl | omega | trivial | assumption | (dsimp only; first | omega | assumption)), (by first | rfl | omega | trivial | assumption | (dsimp only; first | omega | assumption)), (by first | rfl | omega | trivial | assumption | (dsimp only; first | omega | assumption)), (by first | rfl | omega | trivial | assumption | (dsimp only; first | omega | assumption)), (by first | rfl | omega | trivial | assumption | (dsimp only; first | omega | assumption)), (by first | rfl | omega | trivial | assumption | (dsimp only; first | omega | assumption)), hA_21, hA_22, hsg_23, (by (try dsimp only); exact (FIG_res (k := x2.toInt) (hnq.trans (by first | exact NUMQ_no (by omega) | (rw [show 4 - x2.toInt.toNat = 0 from by omega]; rfl))) (fun q => ⟨by omega, by rw [show (u 16).toInt.toNat = c4_u16.toInt.toNat from by omega]; omega⟩) (fun q => hdg (by omega)) (by omega))), wr_16_5⟩, by rw [ht]; exact hP, hD⟩, hS.F ht⟩) hS.2.2 dX12_figure_80
      ·
        have kc_1 : x2.toInt < (4 : Int) := i_nle c_1
        refine lv_aload_n hx hb dX12_figure_9 rfl (lv_at hl 0 rfl) ?_
        refine cV_ro (As := []) (rest := []) ⟨hx, hb, hml, hown, hg⟩ (k_X12_look l D cs A bd (va_up u 16 c4_u16) b bw   (show 0 ≤ c4_u16.toInt by first | omega | decide) (show 0 ≤ (u 15).toInt by first | omega | decide) (show (u 15).toInt ≤ 120 by first | omega | decide) ib14_0) ca_X12_look q6_66 ⟨rfl, rfl⟩ ⟨Nat.le_of_ble_eq_true rfl, Nat.le_of_ble_eq_true rfl⟩ (rc_model hK hP) hK hP hD hS hZ rfl hl.1 rfl (Nat.le_of_ble_eq_true rfl) ⟨Nat.zero_le _, Nat.zero_le _⟩ dX12_figure_10 (fun r_24 wr_24 => ?_)
        obtain ⟨wr_24_0, wr_24_1⟩ : ((c4_u16.toInt < (u 15).toInt ∧ r_24.toInt = ((b 14) c4_u16.toNatClampNeg).toInt) ∨ ((u 15).toInt ≤ c4_u16.toInt ∧ r_24.toInt = -1)) ∧ ((r_24.toInt = (TKR (b 14) (u 15).toInt) c4_u16.toInt.toNat ∧ -1 ≤ r_24.toInt ∧ r_24.toInt ≤ 127) ∨ (r_24.toInt = (TKR (b 14) (u 15).toInt) c4_u16.toInt.toNat - 256 ∧ 128 ≤ (TKR (b 14) (u 15).toInt) c4_u16.toInt.toNat ∧ (TKR (b 14) (u 15).toInt) c4_u16.toInt.toNat ≤ 255 ∧ r_24.toInt < 0)) := wr_24
        refine lv_bipush (v := 48) hx hb dX12_figure_13 (by decide) ?_
        refine lv_bipush (v := 57) hx hb dX12_figure_15 (by decide) ?_
        refine cS_p (As := [.int r_24, .int 48, .int 57]) (rest := []) ⟨hx, hb, hml, hown, hg⟩ (k_X12_in l   r_24 48 57 ) ca_X12_in q5_212 ⟨rfl, rfl⟩ ⟨Nat.le_of_ble_eq_true rfl, Nat.le_of_ble_eq_true rfl⟩ rfl hl.1 rfl (Nat.le_of_ble_eq_true rfl) ⟨Nat.zero_le _, Nat.zero_le _⟩ dX12_figure_17 (fun r_25 wr_25 => ?_)
        have wr_25 : (r_25.toInt = 1 ∧ (48 : Int) ≤ r_24.toInt ∧ r_24.toInt ≤ (57 : Int)) ∨ (r_25.toInt = 0 ∧ ¬ ((48 : Int) ≤ r_24.toInt ∧ r_24.toInt ≤ (57 : Int))) := wr_25
        refine lv_if_eq (tgt := 52) hx hb dX12_figure_20 (by decide) (fun c_26 => ?_) (fun c_26 => ?_)
        ·
          have kc_26 : r_25.toInt = (0 : Int) := i_eq c_26
          have hdc : ¬ (48 ≤ (TKR (b 14) (u 15).toInt) c4_u16.toInt.toNat ∧ (TKR (b 14) (u 15).toInt) c4_u16.toInt.toNat ≤ 57) := by omega
          clear wr_24_0 wr_24_1
          refine lv_iload_n hx hb dX12_figure_52 rfl (lv_at hl 2 rfl) ?_
          refine lv_if_eq (tgt := 70) hx hb dX12_figure_53 (by decide) (fun c_27 => ?_) (fun c_27 => ?_)
          ·
            have kc_27 : x2.toInt = (0 : Int) := i_eq c_27
            refine lv_aload_n hx hb dX12_figure_70 rfl (lv_at hl 0 rfl) ?_
            refine cV_v (As := []) (rest := []) ⟨hx, hb, hml, hown, hg⟩ (k_X12_wrong l D cs A bd (va_up u 16 c4_u16) b bw   ) ca_X12_wrong q6_81 ⟨rfl, rfl⟩ ⟨Nat.le_of_ble_eq_true rfl, Nat.le_of_ble_eq_true rfl⟩ (rc_model hK hP) hK hP hD hS hZ rfl hl.1 rfl (Nat.le_of_ble_eq_true rfl) ⟨Nat.zero_le _, Nat.zero_le _⟩ dX12_figure_71 (fun o_u17_29 H locs wr_28 hP hD hS => ?_)
            have hP : va_P D vwCl (RW cs bd (va_up (va_up u 16 c4_u16) 17 o_u17_29) b bw) H := hP
            have hD : va_D A (RW cs bd (va_up (va_up u 16 c4_u16) 17 o_u17_29) b bw) := hD
            have wr_28_0 : ((u 17).toInt < 0 ∧ o_u17_29.toInt = c4_u16.toInt) ∨ (0 ≤ (u 17).toInt ∧ o_u17_29.toInt = (u 17).toInt) := wr_28
            refine lv_aload_n hx hb dX12_figure_74 rfl (lv_at hl 0 rfl) ?_
            refine lv_iconst (v := 1) hx hb dX12_figure_75 (by decide) ?_
            refine lv_iload_n hx hb dX12_figure_76 rfl (lv_at hl 1 rfl) ?_
            refine cV_v (As := [.int 1, .int x1]) (rest := []) ⟨hx, hb, hml, hown, hg⟩ (k_X12_addStep l D cs A bd (va_up (va_up u 16 c4_u16) 17 o_u17_29) b bw  1 x1 (show 0 ≤ (u 19).toInt by first | omega | decide) (show (u 19).toInt ≤ 129 by first | omega | decide) (show -128 ≤ (1 : Int) by first | omega | decide) (show (1 : Int) ≤ 127 by first | omega | decide) ib20_0) ca_X12_addStep q6_73 ⟨rfl, rfl⟩ ⟨Nat.le_of_ble_eq_true rfl, Nat.le_of_ble_eq_true rfl⟩ (rc_model hK hP) hK hP hD hS hZ rfl hl.1 rfl (Nat.le_of_ble_eq_true rfl) ⟨Nat.zero_le _, Nat.zero_le _⟩ dX12_figure_77 (fun z_34 H locs wr_30 hP hD hS => ?_)
            obtain ⟨o_u19_31, o_b20_32, o_b21_33⟩ := z_34
            have hP : va_P D vwCl (RW cs bd (va_up (va_up (va_up u 16 c4_u16) 17 o_u17_29) 19 o_u19_31) (va_up (va_up b 20 o_b20_32) 21 o_b21_33) bw) H := hP
            have hD : va_D A (RW cs bd (va_up (va_up (va_up u 16 c4_u16) 17 o_u17_29) 19 o_u19_31) (va_up (va_up b 20 o_b20_32) 21 o_b21_33) bw) := hD
            obtain ⟨wr_30_0, wr_30_1, wr_30_2, wr_30_3, wr_30_4, wr_30_5⟩ : (o_u19_31.toInt = (u 19).toInt + 1) ∧ (FRM (130 + (u 19).toInt.toNat) (b 20) o_b20_32) ∧ (FRM (130 + (u 19).toInt.toNat) (b 21) o_b21_33) ∧ ((o_b20_32 (130 + (u 19).toInt.toNat)).toInt = (1 : Int)) ∧ ((o_b21_33 (130 + (u 19).toInt.toNat)).toInt = x1.toInt) ∧ (AB (-128) 127 o_b20_32) := wr_30
            have hA_35 : FRM (130 + (u 19).toInt.toNat) (b 20) o_b20_32 := FRM_trans FRM_refl wr_30_1 (by omega)
            have hA_36 : FRM (130 + (u 19).toInt.toNat) (b 21) o_b21_33 := FRM_trans FRM_refl wr_30_2 (by omega)
            have hsg_37 : o_u17_29.toInt = -1 → SEGI o_b20_32 o_b21_33 (130 + (u 19).toInt.toNat) (130 + o_u19_31.toInt.toNat) := fun hq => SEG_push (by omega) (by omega)
            have hP : va_P D vwCl (RW cs bd (va_up (va_up (va_up (va_up u 16 c4_u16) 17 o_u17_29) 18 (u 18)) 19 o_u19_31) (va_up (va_up b 20 o_b20_32) 21 o_b21_33) bw) _ := hP
            have hD : va_D A (RW cs bd (va_up (va_up (va_up (va_up u 16 c4_u16) 17 o_u17_29) 18 (u 18)) 19 o_u19_31) (va_up (va_up b 20 o_b20_32) 21 o_b21_33) bw) := hD
            exact W.vret hx hb hr (fun tt ht hW => ⟨⟨⟨c4_u16, o_u17_29, (u 18), o_u19_31, o_b20_32, o_b21_33⟩, rfl, ⟨(by first | rfl | omega | trivial | assumption | (dsimp only; first | omega | assumption)), (by first | rfl | omega | trivial | assumption | (dsimp only; first | omega | assumption)), (by first | rfl | omega | trivial | assumption | (dsimp only; first | omega | assumption)), (by first | rfl | omega | trivial | assumption | (dsimp only; first | omega | assumption)), (by first | rfl | omega | trivial | assumption | (dsimp only; first | omega | assumption)), (by first | rfl | omega | trivial | assumption | (dsimp only; first | omega | assumption)), hA_35, hA_36, hsg_37, (by (try dsimp only); exact (FIG_res (k := x2.toInt) (hnq.trans (by first | exact NUMQ_no (by omega) | (rw [show 4 - x2.toInt.toNat = 0 from by omega]; rfl))) (fun q => ⟨by omega, by rw [show (u 16).toInt.toNat = c4_u16.toInt.toNat from by omega]; omega⟩) (fun q => hdg (by omega)) (by omega))), wr_30_5⟩, by rw [ht]; exact hP, hD⟩, hS.F ht⟩) hS.2.2 dX12_figure_80
          ·
            have kc_27 : x2.toInt ≠ (0 : Int) := i_ne c_27
            refine lv_aload_n hx hb dX12_figure_56 rfl (lv_at hl 0 rfl) ?_
            refine cV_ro (As := []) (rest := []) ⟨hx, hb, hml, hown, hg⟩ (k_X12_look l D cs A bd (va_up u 16 c4_u16) b bw   (show 0 ≤ c4_u16.toInt by first | omega | decide) (show 0 ≤ (u 15).toInt by first | omega | decide) (show (u 15).toInt ≤ 120 by first | omega | decide) ib14_0) ca_X12_look q6_66 ⟨rfl, rfl⟩ ⟨Nat.le_of_ble_eq_true rfl, Nat.le_of_ble_eq_true rfl⟩ (rc_model hK hP) hK hP hD hS hZ rfl hl.1 rfl (Nat.le_of_ble_eq_true rfl) ⟨Nat.zero_le _, Nat.zero_le _⟩ dX12_figure_57 (fun r_38 wr_38 => ?_)
            obtain ⟨wr_38_0, wr_38_1⟩ : ((c4_u16.toInt < (u 15).toInt ∧ r_38.toInt = ((b 14) c4_u16.toNatClampNeg).toInt) ∨ ((u 15).toInt ≤ c4_u16.toInt ∧ r_38.toInt = -1)) ∧ ((r_38.toInt = (TKR (b 14) (u 15).toInt) c4_u16.toInt.toNat ∧ -1 ≤ r_38.toInt ∧ r_38.toInt ≤ 127) ∨ (r_38.toInt = (TKR (b 14) (u 15).toInt) c4_u16.toInt.toNat - 256 ∧ 128 ≤ (TKR (b 14) (u 15).toInt) c4_u16.toInt.toNat ∧ (TKR (b 14) (u 15).toInt) c4_u16.toInt.toNat ≤ 255 ∧ r_38.toInt < 0)) := wr_38
            refine lv_bipush (v := 48) hx hb dX12_figure_60 (by decide) ?_
            refine lv_bipush (v := 57) hx hb dX12_figure_62 (by decide) ?_
            refine cS_p (As := [.int r_38, .int 48, .int 57]) (rest := []) ⟨hx, hb, hml, hown, hg⟩ (k_X12_in l   r_38 48 57 ) ca_X12_in q5_212 ⟨rfl, rfl⟩ ⟨Nat.le_of_ble_eq_true rfl, Nat.le_of_ble_eq_true rfl⟩ rfl hl.1 rfl (Nat.le_of_ble_eq_true rfl) ⟨Nat.zero_le _, Nat.zero_le _⟩ dX12_figure_64 (fun r_39 wr_39 => ?_)
            have wr_39 : (r_39.toInt = 1 ∧ (48 : Int) ≤ r_38.toInt ∧ r_38.toInt ≤ (57 : Int)) ∨ (r_39.toInt = 0 ∧ ¬ ((48 : Int) ≤ r_38.toInt ∧ r_38.toInt ≤ (57 : Int))) := wr_39
            refine lv_if_eq (tgt := 74) hx hb dX12_figure_67 (by decide) (fun c_40 => ?_) (fun c_40 => ?_)
            ·
              have kc_40 : r_39.toInt = (0 : Int) := i_eq c_40
              have hd2 : ¬ (48 ≤ (TKR (b 14) (u 15).toInt) c4_u16.toInt.toNat ∧ (TKR (b 14) (u 15).toInt) c4_u16.toInt.toNat ≤ 57) := by omega
              clear wr_38_0 wr_38_1
              refine lv_aload_n hx hb dX12_figure_74 rfl (lv_at hl 0 rfl) ?_
              refine lv_iconst (v := 1) hx hb dX12_figure_75 (by decide) ?_
              refine lv_iload_n hx hb dX12_figure_76 rfl (lv_at hl 1 rfl) ?_
              refine cV_v (As := [.int 1, .int x1]) (rest := []) ⟨hx, hb, hml, hown, hg⟩ (k_X12_addStep l D cs A bd (va_up u 16 c4_u16) b bw  1 x1 (show 0 ≤ (u 19).toInt by first | omega | decide) (show (u 19).toInt ≤ 129 by first | omega | decide) (show -128 ≤ (1 : Int) by first | omega | decide) (show (1 : Int) ≤ 127 by first | omega | decide) ib20_0) ca_X12_addStep q6_73 ⟨rfl, rfl⟩ ⟨Nat.le_of_ble_eq_true rfl, Nat.le_of_ble_eq_true rfl⟩ (rc_model hK hP) hK hP hD hS hZ rfl hl.1 rfl (Nat.le_of_ble_eq_true rfl) ⟨Nat.zero_le _, Nat.zero_le _⟩ dX12_figure_77 (fun z_45 H locs wr_41 hP hD hS => ?_)
              obtain ⟨o_u19_42, o_b20_43, o_b21_44⟩ := z_45
              have hP : va_P D vwCl (RW cs bd (va_up (va_up u 16 c4_u16) 19 o_u19_42) (va_up (va_up b 20 o_b20_43) 21 o_b21_44) bw) H := hP
              have hD : va_D A (RW cs bd (va_up (va_up u 16 c4_u16) 19 o_u19_42) (va_up (va_up b 20 o_b20_43) 21 o_b21_44) bw) := hD
              obtain ⟨wr_41_0, wr_41_1, wr_41_2, wr_41_3, wr_41_4, wr_41_5⟩ : (o_u19_42.toInt = (u 19).toInt + 1) ∧ (FRM (130 + (u 19).toInt.toNat) (b 20) o_b20_43) ∧ (FRM (130 + (u 19).toInt.toNat) (b 21) o_b21_44) ∧ ((o_b20_43 (130 + (u 19).toInt.toNat)).toInt = (1 : Int)) ∧ ((o_b21_44 (130 + (u 19).toInt.toNat)).toInt = x1.toInt) ∧ (AB (-128) 127 o_b20_43) := wr_41
              have hA_46 : FRM (130 + (u 19).toInt.toNat) (b 20) o_b20_43 := FRM_trans FRM_refl wr_41_1 (by omega)
              have hA_47 : FRM (130 + (u 19).toInt.toNat) (b 21) o_b21_44 := FRM_trans FRM_refl wr_41_2 (by omega)
              have hsg_48 : (u 17).toInt = -1 → SEGI o_b20_43 o_b21_44 (130 + (u 19).toInt.toNat) (130 + o_u19_42.toInt.toNat) := fun hq => SEG_push (by omega) (by omega)
              have hP : va_P D vwCl (RW cs bd (va_up (va_up (va_up (va_up u 16 c4_u16) 17 (u 17)) 18 (u 18)) 19 o_u19_42) (va_up (va_up b 20 o_b20_43) 21 o_b21_44) bw) _ := hP
              have hD : va_D A (RW cs bd (va_up (va_up (va_up (va_up u 16 c4_u16) 17 (u 17)) 18 (u 18)) 19 o_u19_42) (va_up (va_up b 20 o_b20_43) 21 o_b21_44) bw) := hD
              exact W.vret hx hb hr (fun tt ht hW => ⟨⟨⟨c4_u16, (u 17), (u 18), o_u19_42, o_b20_43, o_b21_44⟩, rfl, ⟨(by first | rfl | omega | trivial | assumption | (dsimp only; first | omega | assumption)), (by first | rfl | omega | trivial | assumption | (dsimp only; first | omega | assumption)), (by first | rfl | omega | trivial | assumption | (dsimp only; first | omega | assumption)), (by first | rfl | omega | trivial | assumption | (dsimp only; first | omega | assumption)), (by first | rfl | omega | trivial | assumption | (dsimp only; first | omega | assumption)), (by first | rfl | omega | trivial | assumption | (dsimp only; first | omega | assumption)), hA_46, hA_47, hsg_48, (by (try dsimp only); exact (FIG_res (k := x2.toInt) (hnq.trans (by first | exact NUMQ_no (by omega) | (rw [show 4 - x2.toInt.toNat = 0 from by omega]; rfl))) (fun q => ⟨by omega, by rw [show (u 16).toInt.toNat = c4_u16.toInt.toNat from by omega]; omega⟩) (fun q => hdg (by omega)) (by omega))), wr_41_5⟩, by rw [ht]; exact hP, hD⟩, hS.F ht⟩) hS.2.2 dX12_figure_80
            ·
              have kc_40 : r_39.toInt ≠ (0 : Int) := i_ne c_40
              have hd2 : 48 ≤ (TKR (b 14) (u 15).toInt) c4_u16.toInt.toNat ∧ (TKR (b 14) (u 15).toInt) c4_u16.toInt.toNat ≤ 57 := by omega
              clear wr_38_0 wr_38_1
              refine lv_aload_n hx hb dX12_figure_70 rfl (lv_at hl 0 rfl) ?_
              refine cV_v (As := []) (rest := []) ⟨hx, hb, hml, hown, hg⟩ (k_X12_wrong l D cs A bd (va_up u 16 c4_u16) b bw   ) ca_X12_wrong q6_81 ⟨rfl, rfl⟩ ⟨Nat.le_of_ble_eq_true rfl, Nat.le_of_ble_eq_true rfl⟩ (rc_model hK hP) hK hP hD hS hZ rfl hl.1 rfl (Nat.le_of_ble_eq_true rfl) ⟨Nat.zero_le _, Nat.zero_le _⟩ dX12_figure_71 (fun o_u17_50 H locs wr_49 hP hD hS => ?_)
              have hP : va_P D vwCl (RW cs bd (va_up (va_up u 16 c4_u16) 17 o_u17_50) b bw) H := hP
              have hD : va_D A (RW cs bd (va_up (va_up u 16 c4_u16) 17 o_u17_50) b bw) := hD
              have wr_49_0 : ((u 17).toInt < 0 ∧ o_u17_50.toInt = c4_u16.toInt) ∨ (0 ≤ (u 17).toInt ∧ o_u17_50.toInt = (u 17).toInt) := wr_49
              refine lv_aload_n hx hb dX12_figure_74 rfl (lv_at hl 0 rfl) ?_
              refine lv_iconst (v := 1) hx hb dX12_figure_75 (by decide) ?_
              refine lv_iload_n hx hb dX12_figure_76 rfl (lv_at hl 1 rfl) ?_
              refine cV_v (As := [.int 1, .int x1]) (rest := []) ⟨hx, hb, hml, hown, hg⟩ (k_X12_addStep l D cs A bd (va_up (va_up u 16 c4_u16) 17 o_u17_50) b bw  1 x1 (show 0 ≤ (u 19).toInt by first | omega | decide) (show (u 19).toInt ≤ 129 by first | omega | decide) (show -128 ≤ (1 : Int) by first | omega | decide) (show (1 : Int) ≤ 127 by first | omega | decide) ib20_0) ca_X12_addStep q6_73 ⟨rfl, rfl⟩ ⟨Nat.le_of_ble_eq_true rfl, Nat.le_of_ble_eq_true rfl⟩ (rc_model hK hP) hK hP hD hS hZ rfl hl.1 rfl (Nat.le_of_ble_eq_true rfl) ⟨Nat.zero_le _, Nat.zero_le _⟩ dX12_figure_77 (fun z_55 H locs wr_51 hP hD hS => ?_)
              obtain ⟨o_u19_52, o_b20_53, o_b21_54⟩ := z_55
              have hP : va_P D vwCl (RW cs bd (va_up (va_up (va_up u 16 c4_u16) 17 o_u17_50) 19 o_u19_52) (va_up (va_up b 20 o_b20_53) 21 o_b21_54) bw) H := hP
              have hD : va_D A (RW cs bd (va_up (va_up (va_up u 16 c4_u16) 17 o_u17_50) 19 o_u19_52) (va_up (va_up b 20 o_b20_53) 21 o_b21_54) bw) := hD
              obtain ⟨wr_51_0, wr_51_1, wr_51_2, wr_51_3, wr_51_4, wr_51_5⟩ : (o_u19_52.toInt = (u 19).toInt + 1) ∧ (FRM (130 + (u 19).toInt.toNat) (b 20) o_b20_53) ∧ (FRM (130 + (u 19).toInt.toNat) (b 21) o_b21_54) ∧ ((o_b20_53 (130 + (u 19).toInt.toNat)).toInt = (1 : Int)) ∧ ((o_b21_54 (130 + (u 19).toInt.toNat)).toInt = x1.toInt) ∧ (AB (-128) 127 o_b20_53) := wr_51
              have hA_56 : FRM (130 + (u 19).toInt.toNat) (b 20) o_b20_53 := FRM_trans FRM_refl wr_51_1 (by omega)
              have hA_57 : FRM (130 + (u 19).toInt.toNat) (b 21) o_b21_54 := FRM_trans FRM_refl wr_51_2 (by omega)
              have hsg_58 : o_u17_50.toInt = -1 → SEGI o_b20_53 o_b21_54 (130 + (u 19).toInt.toNat) (130 + o_u19_52.toInt.toNat) := fun hq => SEG_push (by omega) (by omega)
              have hP : va_P D vwCl (RW cs bd (va_up (va_up (va_up (va_up u 16 c4_u16) 17 o_u17_50) 18 (u 18)) 19 o_u19_52) (va_up (va_up b 20 o_b20_53) 21 o_b21_54) bw) _ := hP
              have hD : va_D A (RW cs bd (va_up (va_up (va_up (va_up u 16 c4_u16) 17 o_u17_50) 18 (u 18)) 19 o_u19_52) (va_up (va_up b 20 o_b20_53) 21 o_b21_54) bw) := hD
              exact W.vret hx hb hr (fun tt ht hW => ⟨⟨⟨c4_u16, o_u17_50, (u 18), o_u19_52, o_b20_53, o_b21_54⟩, rfl, ⟨(by first | rfl | omega | trivial | assumption | (dsimp only; first | omega | assumption)), (by first | rfl | omega | trivial | assumption | (dsimp only; first | omega | assumption)), (by first | rfl | omega | trivial | assumption | (dsimp only; first | omega | assumption)), (by first | rfl | omega | trivial | assumption | (dsimp only; first | omega | assumption)), (by first | rfl | omega | trivial | assumption | (dsimp only; first | omega | assumption)), (by first | rfl | omega | trivial | assumption | (dsimp only; first | omega | assumption)), hA_56, hA_57, hsg_58, (by (try dsimp only); exact (FIG_res (k := x2.toInt) (hnq.trans (by first | exact NUMQ_no (by omega) | (rw [show 4 - x2.toInt.toNat = 0 from by omega]; rfl))) (fun q => ⟨by omega, by rw [show (u 16).toInt.toNat = c4_u16.toInt.toNat from by omega]; omega⟩) (fun q => hdg (by omega)) (by omega))), wr_51_5⟩, by rw [ht]; exact hP, hD⟩, hS.F ht⟩) hS.2.2 dX12_figure_80
        ·
          have kc_26 : r_25.toInt ≠ (0 : Int) := i_ne c_26
          have hdc : 48 ≤ (TKR (b 14) (u 15).toInt) c4_u16.toInt.toNat ∧ (TKR (b 14) (u 15).toInt) c4_u16.toInt.toNat ≤ 57 := by omega
          have hlt0 : c4_u16.toInt < (u 15).toInt := by omega
          clear wr_24_0 wr_24_1
          have knq : NUMQ (TKR (b 14) (u 15).toInt) 4 (u 16).toInt.toNat = NUMQ (TKR (b 14) (u 15).toInt) (4 - x2.toInt.toNat - 1) (c4_u16.toInt.toNat + 1) := hnq.trans (NUMQ_yes (by omega) (by omega))
          refine lv_bipush (v := 10) hx hb dX12_figure_23 (by decide) ?_
          refine lv_iload_n hx hb dX12_figure_25 rfl (lv_at hl 1 rfl) ?_
          refine lv_imul hx hb dX12_figure_26 ?_
          refine lv_topi (fun x_59 ex_59 => ?_)
          refine lv_aload_n hx hb dX12_figure_27 rfl (lv_at hl 0 rfl) ?_
          refine cV_ro (As := []) (rest := [.int x_59]) ⟨hx, hb, hml, hown, hg⟩ (k_X12_look l D cs A bd (va_up u 16 c4_u16) b bw   (show 0 ≤ c4_u16.toInt by first | omega | decide) (show 0 ≤ (u 15).toInt by first | omega | decide) (show (u 15).toInt ≤ 120 by first | omega | decide) ib14_0) ca_X12_look q6_66 ⟨rfl, rfl⟩ ⟨Nat.le_of_ble_eq_true rfl, Nat.le_of_ble_eq_true rfl⟩ (rc_model hK hP) hK hP hD hS hZ rfl hl.1 rfl (Nat.le_of_ble_eq_true rfl) ⟨Nat.zero_le _, Nat.zero_le _⟩ dX12_figure_28 (fun r_60 wr_60 => ?_)
          obtain ⟨wr_60_0, wr_60_1⟩ : ((c4_u16.toInt < (u 15).toInt ∧ r_60.toInt = ((b 14) c4_u16.toNatClampNeg).toInt) ∨ ((u 15).toInt ≤ c4_u16.toInt ∧ r_60.toInt = -1)) ∧ ((r_60.toInt = (TKR (b 14) (u 15).toInt) c4_u16.toInt.toNat ∧ -1 ≤ r_60.toInt ∧ r_60.toInt ≤ 127) ∨ (r_60.toInt = (TKR (b 14) (u 15).toInt) c4_u16.toInt.toNat - 256 ∧ 128 ≤ (TKR (b 14) (u 15).toInt) c4_u16.toInt.toNat ∧ (TKR (b 14) (u 15).toInt) c4_u16.toInt.toNat ≤ 255 ∧ r_60.toInt < 0)) := wr_60
          have hdv : 48 ≤ r_60.toInt ∧ r_60.toInt ≤ 57 := by omega
          clear wr_60_0 wr_60_1
          refine lv_iadd hx hb dX12_figure_31 ?_
          refine lv_topi (fun x_61 ex_61 => ?_)
          refine lv_bipush (v := 48) hx hb dX12_figure_32 (by decide) ?_
          refine lv_isub hx hb dX12_figure_34 ?_
          refine lv_topi (fun x_62 ex_62 => ?_)
          refine lv_istore_n (lv' := [(1, .int x_62), (0, .ref (bd 0)), (2, .int x2)]) hx hb dX12_figure_35 rfl hl (by decide) rfl (fun ls hl => ?_)
          obtain ⟨x_63, ex_63⟩ : ∃ y : Int32, y = x2 + 1 := ⟨_, rfl⟩
          have fx_63 : x_63.toInt = x2.toInt + 1 := by rw [ex_63]; exact i_add (by first | omega | (show (_ : Int) ≤ x2.toInt + 1; omega)) (by first | omega | (show x2.toInt + 1 ≤ (_ : Int); omega))
          refine lv_iinc (v := x_63) (lv' := [(2, .int x_63), (1, .int x_62), (0, .ref (bd 0))]) hx hb dX12_figure_36 hl (k := 2) rfl (by rw [ex_63]; rfl) (by decide) rfl (fun ls hl => ?_)
          refine lv_aload_n hx hb dX12_figure_39 rfl (lv_at hl 2 rfl) ?_
          refine lv_dup hx hb dX12_figure_40 rfl ?_
          refine gr_here hx hb hg hown hK hP (x := c4_u16) rfl (hg _ q5_8) dX12_figure_41 ?_
          refine lv_iconst (v := 1) hx hb dX12_figure_44 (by decide) ?_
          refine lv_iadd hx hb dX12_figure_45 ?_
          refine lv_topi (fun x_64 ex_64 => ?_)
          have fx_64 : x_64.toInt = c4_u16.toInt + (1 : Int) := by rw [ex_64]; exact i_add (by first | omega | (show (_ : Int) ≤ c4_u16.toInt + (1 : Int); omega)) (by first | omega | (show c4_u16.toInt + (1 : Int) ≤ (_ : Int); omega))
          refine pr_here hx hb hg hown hK hP hD hS (hg _ q5_8) dX12_figure_46 (fun H locs hP hD hS => ?_)
          refine lv_goto (tgt := 4) hx hb dX12_figure_49 (by decide) ?_
          exact ih x_62 x_63 x_64 _ _ (by omega) (by omega) (by omega) (by omega) (knq.trans (by congr 1 <;> omega)) (fun q => (show x2.toInt = 0 ∨ 0 < x2.toInt by omega).elim (fun z => by rw [show (u 16).toInt.toNat = c4_u16.toInt.toNat from by omega]; omega) hdg) (by omega) hP hD hS ls (lv_sub hl [2, 1, 0] rfl)
  refine lv_iconst (v := 0) hx hb dX12_figure_0 (by decide) ?_
  refine lv_istore_n (lv' := [(1, .int 0), (0, .ref (bd 0))]) hx hb dX12_figure_1 rfl hl (by decide) rfl (fun ls hl => ?_)
  refine lv_iconst (v := 0) hx hb dX12_figure_2 (by decide) ?_
  refine lv_istore_n (lv' := [(2, .int 0), (1, .int 0), (0, .ref (bd 0))]) hx hb dX12_figure_3 rfl hl (by decide) rfl (fun ls hl => ?_)
  have q0_0 : (0 : Int32).toInt = 0 := rfl
  exact (hcut (((4 - (0 : Int32).toInt).toNat) + 1)) 0 0 (u 16) _ _ (by omega) (by omega) (by omega) (by omega) rfl (fun q => absurd q (by decide)) (Nat.lt_succ_self _) hP hD hS ls (lv_sub hl [2, 1, 0] rfl)
