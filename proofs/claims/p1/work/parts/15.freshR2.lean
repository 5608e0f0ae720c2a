set_option maxHeartbeats 4000000 in
set_option maxRecDepth 100000 in
theorem k_F_X12_line (l : Launch) (D : va_G) (cs : Nat → ClassId) (A : Nat → Prop) (bd : Nat → Nat) (u : Nat → Int32) (b : Nat → Nat → Int32) (bw : Nat → Nat → Int64)   (h15 : u 15 = 0) (h16 : u 16 = 0) (h17 : u 17 = -1) (h18 : u 18 = 0) (h19 : u 19 = 0) (hl22 : b 22 1 = 0) : Met l yX12_line (Cond.code yX12_line cX12_line 2 none :: gw) ({ frames := 8, cells := 0, slots := 0, locals := 168 }) (va_Pc [.ref (bd 0)] (XPre D (TY cs) (RW cs bd u b bw) A)) (va_Qv (fun (z : Int32 × Int32 × (Nat → Int32) × (Nat → Int32) × (Nat → Int32) × (Nat → Int32) × (Nat → Int32)) => (z.1.toInt = 0) ∧ (z.2.1.toInt = 1)) (XPo D (fun (z : Int32 × Int32 × (Nat → Int32) × (Nat → Int32) × (Nat → Int32) × (Nat → Int32) × (Nat → Int32)) => RW cs bd (va_up (va_up u 17 z.1) 19 z.2.1) (va_up (va_up (va_up (va_up (va_up b 23 z.2.2.1) 20 z.2.2.2.1) 21 z.2.2.2.2.1) 24 z.2.2.2.2.2.1) 22 z.2.2.2.2.2.2) bw) A) A) 0 0 A := by
  refine Met.ofW (cc := cX12_line) (maxL := 2) (ret := none) (by decide) rfl ?_
  intro p e s m args below meth c s₁ B hml hv
  obtain ⟨rfl, hP, hK, hD, hZ⟩ := hv
  have hx := B.exec
  have hb := B.bytes
  have hr := B.returns
  have hts := atoms_spec (ws := (Cond.code yX12_line cX12_line 2 none :: gw)) B.pre
  have hg : ∀ w ∈ gw, w.before ([.ref (bd 0)] : List Value).toArray s = true := fun w h => hts w (List.mem_cons_of_mem _ h)
  have hown : s.vm.findClass RX12 = some m.cls := findClass_of_methodNamed B.named
  have hlocks := B.notSynchronized
  have hS : va_S A s.heap s.heap [] := va_S.rf
  have hP : va_P D vwCl (RW cs bd u b bw) s.heap := hP
  have hl := lv_entry ([.ref (bd 0)]) (n := 2) (Nat.le_of_ble_eq_true rfl)
  rw [lg_entry_eq]
  generalize (lg_sl ([.ref (bd 0)]) ++ List.replicate (2 - (lg_sl ([.ref (bd 0)])).length) Slot.unset).toArray = ls at hl ⊢
  have hl : lv_has ls 2 [(0, .ref (bd 0))] := hl
  refine lv_bipush (v := 61) hx hb dX12_line_0 (by decide) ?_
  refine lv_aload_n hx hb dX12_line_2 rfl (lv_at hl 0 rfl) ?_
  refine gr_lineMany hx hb hg hown hK hP (hg _ q5_14) dX12_line_3 ?_
  refine lv_iconst (v := 1) hx hb dX12_line_6 (by decide) ?_
  refine lr_lineMany hx hb hK hP (i_in (by decide) (by decide)) dX12_line_7 ?_
  refine lv_topi (fun x_1 ex_1 => ?_)
  have ex_1 : x_1 = (b 22) (1 : Int32).toNatClampNeg := ex_1
  have hx_1 : x_1.toInt = ((b 22) (1 : Int32).toNatClampNeg).toInt := by rw [ex_1]
  have fx_1 : x_1 = 0 := by rw [ex_1]; exact hl22
  subst fx_1
  refine lv_iadd hx hb dX12_line_8 ?_
  refine lv_topi (fun x_2 ex_2 => ?_)
  have fx_2 : x_2.toInt = (61 : Int) := by rw [ex_2]; rfl
  refine lv_istore_n (lv' := [(1, .int x_2), (0, .ref (bd 0))]) hx hb dX12_line_9 rfl hl (by decide) rfl (fun ls hl => ?_)
  refine lv_aload_n hx hb dX12_line_10 rfl (lv_at hl 1 rfl) ?_
  refine gr_testEnd hx hb hg hown hK hP (hg _ q5_15) dX12_line_11 ?_
  refine lv_iload_n hx hb dX12_line_14 rfl (lv_at hl 0 rfl) ?_
  refine lv_aload_n hx hb dX12_line_15 rfl (lv_at hl 1 rfl) ?_
  refine gr_laid hx hb hg hown hK hP (x := 0) h19 (hg _ q5_11) dX12_line_16 ?_
  refine lv_i2s hx hb dX12_line_19 rfl ?_
  refine lv_topi (fun x_3 ex_3 => ?_)
  refine sr_testEnd hx hb hK hP hD hS (i_in (by omega) (by omega)) dX12_line_20 (fun H locs hP hD hS => ?_)
  refine lv_aload_n hx hb dX12_line_21 rfl (lv_at hl 1 rfl) ?_
  refine cV_v (As := []) (rest := []) ⟨hx, hb, hml, hown, hg⟩ (k_F_X12_either l D cs A bd u (va_up b 23 (upd (b 23) x_2.toNatClampNeg (vp_nar .short x_3))) bw   h15 h16 h17 h18 h19) ca_X12_either q6_42 ⟨rfl, rfl⟩ ⟨Nat.le_of_ble_eq_true rfl, Nat.le_of_ble_eq_true rfl⟩ (rc_model hK hP) hK hP hD hS hZ rfl hl.1 rfl (Nat.le_of_ble_eq_true rfl) ⟨Nat.zero_le _, Nat.zero_le _⟩ dX12_line_22 (fun z_9 H locs wr_4 hP hD hS => ?_)
  obtain ⟨fl_5, ld_6, g20_7, g21_8⟩ := z_9
  have hP : va_P D vwCl (RW cs bd (va_up (va_up u 17 fl_5) 19 ld_6) (va_up (va_up (va_up b 23 (upd (b 23) x_2.toNatClampNeg (vp_nar .short x_3))) 20 g20_7) 21 g21_8) bw) H := hP
  have hD : va_D A (RW cs bd (va_up (va_up u 17 fl_5) 19 ld_6) (va_up (va_up (va_up b 23 (upd (b 23) x_2.toNatClampNeg (vp_nar .short x_3))) 20 g20_7) 21 g21_8) bw) := hD
  obtain ⟨wr_4_0, wr_4_1⟩ : (fl_5.toInt = 0) ∧ (ld_6.toInt = 1) := wr_4
  refine lv_aload_n hx hb dX12_line_25 rfl (lv_at hl 1 rfl) ?_
  refine gr_fault hx hb hg hown hK hP (x := fl_5) rfl (hg _ q5_9) dX12_line_26 ?_
  refine lv_if_ge (tgt := 66) hx hb dX12_line_29 (by decide) (fun c_10 => ?_) (fun c_10 => ?_)
  ·
    have kc_10 : (0 : Int) ≤ fl_5.toInt := i_le c_10
    refine lv_aload_n hx hb dX12_line_66 rfl (lv_at hl 1 rfl) ?_
    refine gr_lineEnd hx hb hg hown hK hP (hg _ q5_16) dX12_line_67 ?_
    refine lv_iload_n hx hb dX12_line_70 rfl (lv_at hl 0 rfl) ?_
    refine lv_aload_n hx hb dX12_line_71 rfl (lv_at hl 1 rfl) ?_
    refine gr_laid hx hb hg hown hK hP (x := ld_6) rfl (hg _ q5_11) dX12_line_72 ?_
    refine lv_i2s hx hb dX12_line_75 rfl ?_
    refine lv_topi (fun x_11 ex_11 => ?_)
    refine sr_lineEnd hx hb hK hP hD hS (i_in (by omega) (by omega)) dX12_line_76 (fun H locs hP hD hS => ?_)
    refine lv_aload_n hx hb dX12_line_77 rfl (lv_at hl 1 rfl) ?_
    refine gr_lineMany hx hb hg hown hK hP (hg _ q5_14) dX12_line_78 ?_
    refine lv_iconst (v := 1) hx hb dX12_line_81 (by decide) ?_
    refine lv_dup2_11 hx hb dX12_line_82 rfl rfl ?_
    refine lr_lineMany hx hb hK hP (i_in (by decide) (by decide)) dX12_line_83 ?_
    refine lv_topi (fun x_12 ex_12 => ?_)
    have ex_12 : x_12 = (b 22) (1 : Int32).toNatClampNeg := ex_12
    have hx_12 : x_12.toInt = ((b 22) (1 : Int32).toNatClampNeg).toInt := by rw [ex_12]
    have fx_12 : x_12 = 0 := by rw [ex_12]; exact hl22
    subst fx_12
    refine lv_iconst (v := 1) hx hb dX12_line_84 (by decide) ?_
    refine lv_iadd hx hb dX12_line_85 ?_
    refine lv_topi (fun x_13 ex_13 => ?_)
    have fx_13 : x_13 = 1 := by rw [ex_13]; rfl
    subst fx_13
    refine sr_lineMany hx hb hK hP hD hS (i_in (by decide) (by decide)) dX12_line_86 (fun H locs hP hD hS => ?_)
    exact W.vret hx hb hr (fun tt ht hW => ⟨⟨⟨fl_5, ld_6, (upd (b 23) x_2.toNatClampNeg (vp_nar .short x_3)), g20_7, g21_8, (upd (b 24) x_2.toNatClampNeg (vp_nar .short x_11)), (upd (b 22) (1 : Int32).toNatClampNeg 1)⟩, rfl, ⟨(by first | rfl | omega | trivial | assumption), (by first | rfl | omega | trivial | assumption)⟩, by rw [ht]; exact hP, hD⟩, hS.F ht⟩) hS.2.2 dX12_line_87
  ·
    have kc_10 : fl_5.toInt < (0 : Int) := i_nle c_10
    exfalso; omega
set_option maxHeartbeats 4000000 in
set_option maxRecDepth 100000 in
theorem k_F_X12_readText (l : Launch) (D : va_G) (cs : Nat → ClassId) (A : Nat → Prop) (bd : Nat → Nat) (u : Nat → Int32) (b : Nat → Nat → Int32) (bw : Nat → Nat → Int64)  (p1 : Int32) (hR : FrR u b) : Met l yX12_readText (Cond.code yX12_readText cX12_readText 3 (some .int) :: gw) ({ frames := 9, cells := 0, slots := 0, locals := 189 }) (va_Pc [.ref (bd 0), .int p1] (XPre D (TY cs) (RW cs bd u b bw) A)) (va_Qi (fun (r : Int32) (z : Int32 × Int32 × Int32 × Int32 × Int32 × (Nat → Int32) × (Nat → Int32) × (Nat → Int32) × (Nat → Int32) × (Nat → Int32)) => r.toInt = 0) (XPo D (fun (z : Int32 × Int32 × Int32 × Int32 × Int32 × (Nat → Int32) × (Nat → Int32) × (Nat → Int32) × (Nat → Int32) × (Nat → Int32)) => RW cs bd (va_up (va_up (va_up (va_up (va_up u 15 z.1) 16 z.2.1) 17 z.2.2.1) 18 z.2.2.2.1) 19 z.2.2.2.2.1) (va_up (va_up (va_up (va_up (va_up b 20 z.2.2.2.2.2.1) 21 z.2.2.2.2.2.2.1) 22 z.2.2.2.2.2.2.2.1) 23 z.2.2.2.2.2.2.2.2.1) 24 z.2.2.2.2.2.2.2.2.2) bw) A) A) 0 0 A := by
  refine Met.ofW (cc := cX12_readText) (maxL := 3) (ret := (some .int)) (by decide) rfl ?_
  intro p e s m args below meth c s₁ B hml hv
  obtain ⟨rfl, hP, hK, hD, hZ⟩ := hv
  have hx := B.exec
  have hb := B.bytes
  have hr := B.returns
  have hts := atoms_spec (ws := (Cond.code yX12_readText cX12_readText 3 (some .int) :: gw)) B.pre
  have hg : ∀ w ∈ gw, w.before ([.ref (bd 0), .int p1] : List Value).toArray s = true := fun w h => hts w (List.mem_cons_of_mem _ h)
  have hown : s.vm.findClass RX12 = some m.cls := findClass_of_methodNamed B.named
  have hlocks := B.notSynchronized
  have hS : va_S A s.heap s.heap [] := va_S.rf
  have hP : va_P D vwCl (RW cs bd u b bw) s.heap := hP
  have hu1 : (u 1).toInt = 0 := by rw [hR.1]; rfl
  have q6_0 : (0 : Int32).toInt = 0 := rfl
  have q6_2 : (2 : Int32).toInt = 2 := rfl
  have hl := lv_entry ([.ref (bd 0), .int p1]) (n := 3) (Nat.le_of_ble_eq_true rfl)
  rw [lg_entry_eq]
  generalize (lg_sl ([.ref (bd 0), .int p1]) ++ List.replicate (3 - (lg_sl ([.ref (bd 0), .int p1])).length) Slot.unset).toArray = ls at hl ⊢
  have hl : lv_has ls 3 [(0, .ref (bd 0)), (1, .int p1)] := hl
  refine lv_aload_n hx hb dX12_readText_0 rfl (lv_at hl 0 rfl) ?_
  refine lv_iconst (v := 0) hx hb dX12_readText_1 (by decide) ?_
  refine pr_here hx hb hg hown hK hP hD hS (hg _ q5_8) dX12_readText_2 (fun H locs hP hD hS => ?_)
  refine lv_aload_n hx hb dX12_readText_5 rfl (lv_at hl 0 rfl) ?_
  refine lv_iconst (v := (-1)) hx hb dX12_readText_6 (by decide) ?_
  refine pr_fault hx hb hg hown hK hP hD hS (hg _ q5_9) dX12_readText_7 (fun H locs hP hD hS => ?_)
  refine lv_aload_n hx hb dX12_readText_10 rfl (lv_at hl 0 rfl) ?_
  refine lv_iconst (v := 0) hx hb dX12_readText_11 (by decide) ?_
  refine pr_open hx hb hg hown hK hP hD hS (hg _ q5_10) dX12_readText_12 (fun H locs hP hD hS => ?_)
  refine lv_aload_n hx hb dX12_readText_15 rfl (lv_at hl 0 rfl) ?_
  refine lv_iconst (v := 0) hx hb dX12_readText_16 (by decide) ?_
  refine pr_laid hx hb hg hown hK hP hD hS (hg _ q5_11) dX12_readText_17 (fun H locs hP hD hS => ?_)
  refine lv_aload_n hx hb dX12_readText_20 rfl (lv_at hl 0 rfl) ?_
  refine gr_lineMany hx hb hg hown hK hP (hg _ q5_14) dX12_readText_21 ?_
  refine lv_iconst (v := 1) hx hb dX12_readText_24 (by decide) ?_
  refine lv_iconst (v := 0) hx hb dX12_readText_25 (by decide) ?_
  refine sr_lineMany hx hb hK hP hD hS (i_in (by decide) (by decide)) dX12_readText_26 (fun H locs hP hD hS => ?_)
  refine lv_aload_n hx hb dX12_readText_27 rfl (lv_at hl 0 rfl) ?_
  refine cV_v (As := []) (rest := []) ⟨hx, hb, hml, hown, hg⟩ (k_F_X12_line l D cs A bd (va_up (va_up (va_up (va_up u 16 0) 17 (-1)) 18 0) 19 0) (va_up b 22 (upd (b 22) (1 : Int32).toNatClampNeg 0)) bw   hR.2.2.2.2.1 rfl rfl rfl rfl rfl) ca_X12_line q6_38 ⟨rfl, rfl⟩ ⟨Nat.le_of_ble_eq_true rfl, Nat.le_of_ble_eq_true rfl⟩ (rc_model hK hP) hK hP hD hS hZ rfl hl.1 rfl (Nat.le_of_ble_eq_true rfl) ⟨Nat.zero_le _, Nat.zero_le _⟩ dX12_readText_28 (fun z_9 H locs wr_1 hP hD hS => ?_)
  obtain ⟨fl_2, ld_3, g23_4, g20_5, g21_6, g24_7, g22_8⟩ := z_9
  have hP : va_P D vwCl (RW cs bd (va_up (va_up (va_up (va_up u 16 0) 18 0) 17 fl_2) 19 ld_3) (va_up (va_up (va_up (va_up (va_up b 23 g23_4) 20 g20_5) 21 g21_6) 24 g24_7) 22 g22_8) bw) H := hP
  have hD : va_D A (RW cs bd (va_up (va_up (va_up (va_up u 16 0) 18 0) 17 fl_2) 19 ld_3) (va_up (va_up (va_up (va_up (va_up b 23 g23_4) 20 g20_5) 21 g21_6) 24 g24_7) 22 g22_8) bw) := hD
  obtain ⟨wr_1_0, wr_1_1⟩ : (fl_2.toInt = 0) ∧ (ld_3.toInt = 1) := wr_1
  refine lv_aload_n hx hb dX12_readText_31 rfl (lv_at hl 0 rfl) ?_
  refine gr_fault hx hb hg hown hK hP (x := fl_2) rfl (hg _ q5_9) dX12_readText_32 ?_
  refine lv_if_ge (tgt := 64) hx hb dX12_readText_35 (by decide) (fun c_10 => ?_) (fun c_10 => ?_)
  ·
    have kc_10 : (0 : Int) ≤ fl_2.toInt := i_le c_10
    refine lv_aload_n hx hb dX12_readText_64 rfl (lv_at hl 0 rfl) ?_
    refine gr_fault hx hb hg hown hK hP (x := fl_2) rfl (hg _ q5_9) dX12_readText_65 ?_
    refine lv_if_ge (tgt := 86) hx hb dX12_readText_68 (by decide) (fun c_11 => ?_) (fun c_11 => ?_)
    ·
      have kc_11 : (0 : Int) ≤ fl_2.toInt := i_le c_11
      refine lv_aload_n hx hb dX12_readText_86 rfl (lv_at hl 0 rfl) ?_
      refine lv_iconst (v := 0) hx hb dX12_readText_87 (by decide) ?_
      refine pr_taped hx hb hg hown hK hP hD hS (hg _ q5_7) dX12_readText_88 (fun H locs hP hD hS => ?_)
      refine lv_aload_n hx hb dX12_readText_91 rfl (lv_at hl 0 rfl) ?_
      refine gr_fault hx hb hg hown hK hP (x := fl_2) rfl (hg _ q5_9) dX12_readText_92 ?_
      refine lv_if_lt (tgt := 103) hx hb dX12_readText_95 (by decide) (fun c_12 => ?_) (fun c_12 => ?_)
      ·
        have kc_12 : fl_2.toInt < (0 : Int) := i_lt c_12
        exfalso; omega
      ·
        have kc_12 : (0 : Int) ≤ fl_2.toInt := i_nlt c_12
        refine lv_aload_n hx hb dX12_readText_98 rfl (lv_at hl 0 rfl) ?_
        refine gr_fault hx hb hg hown hK hP (x := fl_2) rfl (hg _ q5_9) dX12_readText_99 ?_
        have q0_0 : (0 : Int32).toInt = 0 := rfl
        have q0_0 : (0 : Int32).toInt = 0 := rfl
        have q0_0 : (0 : Int32).toInt = 0 := rfl
        have hP : va_P D vwCl (RW cs bd (va_up (va_up (va_up (va_up (va_up u 15 0) 16 0) 17 fl_2) 18 0) 19 ld_3) (va_up (va_up (va_up (va_up (va_up b 20 g20_5) 21 g21_6) 22 g22_8) 23 g23_4) 24 g24_7) bw) _ := hP
        have hD : va_D A (RW cs bd (va_up (va_up (va_up (va_up (va_up u 15 0) 16 0) 17 fl_2) 18 0) 19 ld_3) (va_up (va_up (va_up (va_up (va_up b 20 g20_5) 21 g21_6) 22 g22_8) 23 g23_4) 24 g24_7) bw) := hD
        exact W.iret (v := fl_2) hx hb hr (fun tt ht hW => ⟨⟨fl_2, ⟨0, 0, fl_2, 0, ld_3, g20_5, g21_6, g22_8, g23_4, g24_7⟩, rfl, (by first | rfl | omega | trivial | assumption), by rw [ht]; exact hP, hD⟩, hS.F ht⟩) hS.2.2 dX12_readText_102
    ·
      have kc_11 : fl_2.toInt < (0 : Int) := i_nle c_11
      exfalso; omega
  ·
    have kc_10 : fl_2.toInt < (0 : Int) := i_nle c_10
    exfalso; omega
set_option maxHeartbeats 4000000 in
set_option maxRecDepth 100000 in
theorem k_F_X12_law (l : Launch) (D : va_G) (cs : Nat → ClassId) (A : Nat → Prop) (bd : Nat → Nat) (u : Nat → Int32) (b : Nat → Nat → Int32) (bw : Nat → Nat → Int64)   (hR : FrR u b) : Met l yX12_law (Cond.code yX12_law cX12_law 2 (some .int) :: gw) ({ frames := 10, cells := 0, slots := 0, locals := 211 }) (va_Pc [.ref (bd 0)] (XPre D (TY cs) (RW cs bd u b bw) A)) (va_Qi (fun (r : Int32) (z : Int32 × Int32 × Int32 × Int32 × Int32 × (Nat → Int32) × (Nat → Int32) × (Nat → Int32) × (Nat → Int32) × (Nat → Int32)) => r.toInt = -100) (XPo D (fun (z : Int32 × Int32 × Int32 × Int32 × Int32 × (Nat → Int32) × (Nat → Int32) × (Nat → Int32) × (Nat → Int32) × (Nat → Int32)) => RW cs bd (va_up (va_up (va_up (va_up (va_up u 15 z.1) 16 z.2.1) 17 z.2.2.1) 18 z.2.2.2.1) 19 z.2.2.2.2.1) (va_up (va_up (va_up (va_up (va_up b 20 z.2.2.2.2.2.1) 21 z.2.2.2.2.2.2.1) 22 z.2.2.2.2.2.2.2.1) 23 z.2.2.2.2.2.2.2.2.1) 24 z.2.2.2.2.2.2.2.2.2) bw) A) A) 0 0 A := by
  refine Met.ofW (cc := cX12_law) (maxL := 2) (ret := (some .int)) (by decide) rfl ?_
  intro p e s m args below meth c s₁ B hml hv
  obtain ⟨rfl, hP, hK, hD, hZ⟩ := hv
  have hx := B.exec
  have hb := B.bytes
  have hr := B.returns
  have hts := atoms_spec (ws := (Cond.code yX12_law cX12_law 2 (some .int) :: gw)) B.pre
  have hg : ∀ w ∈ gw, w.before ([.ref (bd 0)] : List Value).toArray s = true := fun w h => hts w (List.mem_cons_of_mem _ h)
  have hown : s.vm.findClass RX12 = some m.cls := findClass_of_methodNamed B.named
  have hlocks := B.notSynchronized
  have hS : va_S A s.heap s.heap [] := va_S.rf
  have hP : va_P D vwCl (RW cs bd u b bw) s.heap := hP
  have hu1 : (u 1).toInt = 0 := by rw [hR.1]; rfl
  have q6_0 : (0 : Int32).toInt = 0 := rfl
  have q6_2 : (2 : Int32).toInt = 2 := rfl
  have hl := lv_entry ([.ref (bd 0)]) (n := 2) (Nat.le_of_ble_eq_true rfl)
  rw [lg_entry_eq]
  generalize (lg_sl ([.ref (bd 0)]) ++ List.replicate (2 - (lg_sl ([.ref (bd 0)])).length) Slot.unset).toArray = ls at hl ⊢
  have hl : lv_has ls 2 [(0, .ref (bd 0))] := hl
  refine lv_aload_n hx hb dX12_law_0 rfl (lv_at hl 0 rfl) ?_
  refine lv_iconst (v := 0) hx hb dX12_law_1 (by decide) ?_
  refine cV_i (As := [.int 0]) (rest := []) ⟨hx, hb, hml, hown, hg⟩ (k_F_X12_readText l D cs A bd u b bw  0 hR) ca_X12_readText q6_34 ⟨rfl, rfl⟩ ⟨Nat.le_of_ble_eq_true rfl, Nat.le_of_ble_eq_true rfl⟩ (rc_model hK hP) hK hP hD hS hZ rfl hl.1 rfl (Nat.le_of_ble_eq_true rfl) ⟨Nat.zero_le _, Nat.zero_le _⟩ dX12_law_2 (fun r_1 z_12 H locs wr_1 hP hD hS => ?_)
  obtain ⟨tp_2, hr_3, fl_4, op_5, ld_6, g20_7, g21_8, g22_9, g23_10, g24_11⟩ := z_12
  have hP : va_P D vwCl (RW cs bd (va_up (va_up (va_up (va_up (va_up u 15 tp_2) 16 hr_3) 17 fl_4) 18 op_5) 19 ld_6) (va_up (va_up (va_up (va_up (va_up b 20 g20_7) 21 g21_8) 22 g22_9) 23 g23_10) 24 g24_11) bw) H := hP
  have hD : va_D A (RW cs bd (va_up (va_up (va_up (va_up (va_up u 15 tp_2) 16 hr_3) 17 fl_4) 18 op_5) 19 ld_6) (va_up (va_up (va_up (va_up (va_up b 20 g20_7) 21 g21_8) 22 g22_9) 23 g23_10) 24 g24_11) bw) := hD
  have wr_1 : r_1.toInt = 0 := wr_1
  refine lv_istore_n (lv' := [(1, .int r_1), (0, .ref (bd 0))]) hx hb dX12_law_5 rfl hl (by decide) rfl (fun ls hl => ?_)
  refine lv_iload_n hx hb dX12_law_6 rfl (lv_at hl 0 rfl) ?_
  refine lv_if_lt (tgt := 15) hx hb dX12_law_7 (by decide) (fun c_13 => ?_) (fun c_13 => ?_)
  ·
    have kc_13 : r_1.toInt < (0 : Int) := i_lt c_13
    exfalso; omega
  ·
    have kc_13 : (0 : Int) ≤ r_1.toInt := i_nlt c_13
    refine lv_bipush (v := (-100)) hx hb dX12_law_10 (by decide) ?_
    refine lv_iload_n hx hb dX12_law_12 rfl (lv_at hl 0 rfl) ?_
    refine lv_isub hx hb dX12_law_13 ?_
    refine lv_topi (fun x_14 ex_14 => ?_)
    have fx_14 : x_14.toInt = (-100 : Int) - r_1.toInt := by rw [ex_14]; exact i_sub (by first | omega | (show (_ : Int) ≤ (-100 : Int) - r_1.toInt; omega)) (by first | omega | (show (-100 : Int) - r_1.toInt ≤ (_ : Int); omega))
    exact W.iret (v := x_14) hx hb hr (fun tt ht hW => ⟨⟨x_14, ⟨tp_2, hr_3, fl_4, op_5, ld_6, g20_7, g21_8, g22_9, g23_10, g24_11⟩, rfl, (by first | rfl | omega | trivial | assumption), by rw [ht]; exact hP, hD⟩, hS.F ht⟩) hS.2.2 dX12_law_14
set_option maxHeartbeats 4000000 in
set_option maxRecDepth 100000 in
theorem k_F_X12_rowFault (l : Launch) (D : va_G) (cs : Nat → ClassId) (A : Nat → Prop) (bd : Nat → Nat) (u : Nat → Int32) (b : Nat → Nat → Int32) (bw : Nat → Nat → Int64)  (p1 : Int32) (p2 : Int32) (hR : FrR u b) (h1 : 0 ≤ p1.toInt) (h2 : p1.toInt < 6) : Met l yX12_rowFault (Cond.code yX12_rowFault cX12_rowFault 3 (some .int) :: gw) ({ frames := 0, cells := 0, slots := 0, locals := 0 }) (va_Pc [.ref (bd 0), .int p1, .int p2] (XPre D (TY cs) (RW cs bd u b bw) A)) (vp_Si (fun (r : Int32) => r.toInt = -11)) 0 0 (fun _ => False) := by
  refine Met.ofW (cc := cX12_rowFault) (maxL := 3) (ret := (some .int)) (by decide) rfl ?_
  intro p e s m args below meth c s₁ B hml hv
  obtain ⟨rfl, hP, hK, hD, hZ⟩ := hv
  have hx := B.exec
  have hb := B.bytes
  have hr := B.returns
  have hts := atoms_spec (ws := (Cond.code yX12_rowFault cX12_rowFault 3 (some .int) :: gw)) B.pre
  have hg : ∀ w ∈ gw, w.before ([.ref (bd 0), .int p1, .int p2] : List Value).toArray s = true := fun w h => hts w (List.mem_cons_of_mem _ h)
  have hown : s.vm.findClass RX12 = some m.cls := findClass_of_methodNamed B.named
  have hlocks := B.notSynchronized
  have hS : va_S A s.heap s.heap [] := va_S.rf
  have hu1 : (u 1).toInt = 0 := by rw [hR.1]; rfl
  have q6_0 : (0 : Int32).toInt = 0 := rfl
  have q6_2 : (2 : Int32).toInt = 2 := rfl
  have hl := lv_entry ([.ref (bd 0), .int p1, .int p2]) (n := 3) (Nat.le_of_ble_eq_true rfl)
  rw [lg_entry_eq]
  generalize (lg_sl ([.ref (bd 0), .int p1, .int p2]) ++ List.replicate (3 - (lg_sl ([.ref (bd 0), .int p1, .int p2])).length) Slot.unset).toArray = ls at hl ⊢
  have hl : lv_has ls 3 [(0, .ref (bd 0)), (1, .int p1), (2, .int p2)] := hl
  refine lv_aload_n hx hb dX12_rowFault_0 rfl (lv_at hl 0 rfl) ?_
  refine gr_holds hx hb hg hown hK hP (hg _ q5_58) dX12_rowFault_1 ?_
  refine lv_iload_n hx hb dX12_rowFault_4 rfl (lv_at hl 1 rfl) ?_
  refine lr_holds hx hb hK hP (i_in (by omega) (by omega)) dX12_rowFault_5 ?_
  refine lv_topi (fun x_1 ex_1 => ?_)
  have ex_1 : x_1 = (b 66) p1.toNatClampNeg := ex_1
  have hx_1 : x_1.toInt = ((b 66) p1.toNatClampNeg).toInt := by rw [ex_1]
  have fx_1 : x_1 = (-1) := by rw [ex_1]; exact hR.2.2.2.2.2.2.2.2.2.1 _ (by show (p1).toInt.toNat < 6; omega)
  subst fx_1
  refine lv_iconst (v := (-1)) hx hb dX12_rowFault_6 (by decide) ?_
  refine lv_icmp_ne (tgt := 15) hx hb dX12_rowFault_7 (by decide) (fun c_2 => absurd c_2 (by decide)) (fun c_2 => ?_)
  refine lv_bipush (v := (-11)) hx hb dX12_rowFault_10 (by decide) ?_
  refine lv_goto (tgt := 34) hx hb dX12_rowFault_12 (by decide) ?_
  have q0_m11 : ((-11) : Int32).toInt = (-11) := rfl
  exact W.iret (v := (-11)) hx hb hr (fun tt ht hW => ⟨(-11), rfl, (by first | rfl | omega | trivial | assumption), ht⟩) (fun _ h => by cases h) dX12_rowFault_34
set_option maxHeartbeats 4000000 in
set_option maxRecDepth 100000 in
theorem k_F_X12_whyNoPlace (l : Launch) (D : va_G) (cs : Nat → ClassId) (A : Nat → Prop) (bd : Nat → Nat) (u : Nat → Int32) (b : Nat → Nat → Int32) (bw : Nat → Nat → Int64)  (p1 : Int32) (p2 : Int32) (hR : FrR u b) : Met l yX12_whyNoPlace (Cond.code yX12_whyNoPlace cX12_whyNoPlace 3 (some .int) :: gw) ({ frames := 2, cells := 0, slots := 0, locals := 42 }) (va_Pc [.ref (bd 0), .int p1, .int p2] (XPre D (TY cs) (RW cs bd u b bw) A)) (vp_Si (fun (r : Int32) => ((0 ≤ p1.toInt ∧ p1.toInt < 6) ∧ r.toInt = -11) ∨ (¬ (0 ≤ p1.toInt ∧ p1.toInt < 6) ∧ r.toInt = -1))) 0 0 (fun _ => False) := by
  refine Met.ofW (cc := cX12_whyNoPlace) (maxL := 3) (ret := (some .int)) (by decide) rfl ?_
  intro p e s m args below meth c s₁ B hml hv
  obtain ⟨rfl, hP, hK, hD, hZ⟩ := hv
  have hx := B.exec
  have hb := B.bytes
  have hr := B.returns
  have hts := atoms_spec (ws := (Cond.code yX12_whyNoPlace cX12_whyNoPlace 3 (some .int) :: gw)) B.pre
  have hg : ∀ w ∈ gw, w.before ([.ref (bd 0), .int p1, .int p2] : List Value).toArray s = true := fun w h => hts w (List.mem_cons_of_mem _ h)
  have hown : s.vm.findClass RX12 = some m.cls := findClass_of_methodNamed B.named
  have hlocks := B.notSynchronized
  have hS : va_S A s.heap s.heap [] := va_S.rf
  have hu1 : (u 1).toInt = 0 := by rw [hR.1]; rfl
  have q6_0 : (0 : Int32).toInt = 0 := rfl
  have q6_2 : (2 : Int32).toInt = 2 := rfl
  have hl := lv_entry ([.ref (bd 0), .int p1, .int p2]) (n := 3) (Nat.le_of_ble_eq_true rfl)
  rw [lg_entry_eq]
  generalize (lg_sl ([.ref (bd 0), .int p1, .int p2]) ++ List.replicate (3 - (lg_sl ([.ref (bd 0), .int p1, .int p2])).length) Slot.unset).toArray = ls at hl ⊢
  have hl : lv_has ls 3 [(0, .ref (bd 0)), (1, .int p1), (2, .int p2)] := hl
  refine lv_iload_n hx hb dX12_whyNoPlace_0 rfl (lv_at hl 1 rfl) ?_
  refine cS_p (As := [.int p1]) (rest := []) ⟨hx, hb, hml, hown, hg⟩ (k_X12_isShelf l   p1 ) ca_X12_isShelf q5_223 ⟨rfl, rfl⟩ ⟨Nat.le_of_ble_eq_true rfl, Nat.le_of_ble_eq_true rfl⟩ rfl hl.1 rfl (Nat.le_of_ble_eq_true rfl) ⟨Nat.zero_le _, Nat.zero_le _⟩ dX12_whyNoPlace_1 (fun r_1 wr_1 => ?_)
  have wr_1 : (r_1.toInt = 1 ∧ 0 ≤ p1.toInt ∧ p1.toInt < 6) ∨ (r_1.toInt = 0 ∧ ¬ (0 ≤ p1.toInt ∧ p1.toInt < 6)) := wr_1
  refine lv_if_ne (tgt := 9) hx hb dX12_whyNoPlace_4 (by decide) (fun c_2 => ?_) (fun c_2 => ?_)
  ·
    have kc_2 : r_1.toInt ≠ (0 : Int) := i_ne c_2
    refine lv_aload_n hx hb dX12_whyNoPlace_9 rfl (lv_at hl 0 rfl) ?_
    refine gr_holds hx hb hg hown hK hP (hg _ q5_58) dX12_whyNoPlace_10 ?_
    refine lv_iload_n hx hb dX12_whyNoPlace_13 rfl (lv_at hl 1 rfl) ?_
    refine lr_holds hx hb hK hP (i_in (by omega) (by omega)) dX12_whyNoPlace_14 ?_
    refine lv_topi (fun x_3 ex_3 => ?_)
    have ex_3 : x_3 = (b 66) p1.toNatClampNeg := ex_3
    have hx_3 : x_3.toInt = ((b 66) p1.toNatClampNeg).toInt := by rw [ex_3]
    have fx_3 : x_3 = (-1) := by rw [ex_3]; exact hR.2.2.2.2.2.2.2.2.2.1 _ (by show (p1).toInt.toNat < 6; omega)
    subst fx_3
    refine lv_iconst (v := (-1)) hx hb dX12_whyNoPlace_15 (by decide) ?_
    refine lv_icmp_ne (tgt := 22) hx hb dX12_whyNoPlace_16 (by decide) (fun c_4 => absurd c_4 (by decide)) (fun c_4 => ?_)
    refine lv_bipush (v := (-11)) hx hb dX12_whyNoPlace_19 (by decide) ?_
    have q0_m11 : ((-11) : Int32).toInt = (-11) := rfl
    exact W.iret (v := (-11)) hx hb hr (fun tt ht hW => ⟨(-11), rfl, (by first | rfl | omega | trivial | assumption), ht⟩) (fun _ h => by cases h) dX12_whyNoPlace_21
  ·
    have kc_2 : r_1.toInt = (0 : Int) := i_eq c_2
    refine lv_iconst (v := (-1)) hx hb dX12_whyNoPlace_7 (by decide) ?_
    have q0_m1 : ((-1) : Int32).toInt = (-1) := rfl
    exact W.iret (v := (-1)) hx hb hr (fun tt ht hW => ⟨(-1), rfl, (by first | rfl | omega | trivial | assumption), ht⟩) (fun _ h => by cases h) dX12_whyNoPlace_8
set_option maxHeartbeats 4000000 in
set_option maxRecDepth 100000 in
theorem k_F_X12_within (l : Launch) (D : va_G) (cs : Nat → ClassId) (A : Nat → Prop) (bd : Nat → Nat) (u : Nat → Int32) (b : Nat → Nat → Int32) (bw : Nat → Nat → Int64)  (p1 : Int32) (hR : FrR u b) : Met l yX12_within (Cond.code yX12_within cX12_within 4 (some .int) :: gw) ({ frames := 0, cells := 0, slots := 0, locals := 0 }) (va_Pc [.ref (bd 0), .int p1] (XPre D (TY cs) (RW cs bd u b bw) A)) (vp_Si (fun (r : Int32) => r.toInt = 0)) 0 0 (fun _ => False) := by
  refine Met.ofW (cc := cX12_within) (maxL := 4) (ret := (some .int)) (by decide) rfl ?_
  intro p e s m args below meth c s₁ B hml hv
  obtain ⟨rfl, hP, hK, hD, hZ⟩ := hv
  have hx := B.exec
  have hb := B.bytes
  have hr := B.returns
  have hts := atoms_spec (ws := (Cond.code yX12_within cX12_within 4 (some .int) :: gw)) B.pre
  have hg : ∀ w ∈ gw, w.before ([.ref (bd 0), .int p1] : List Value).toArray s = true := fun w h => hts w (List.mem_cons_of_mem _ h)
  have hown : s.vm.findClass RX12 = some m.cls := findClass_of_methodNamed B.named
  have hlocks := B.notSynchronized
  have hS : va_S A s.heap s.heap [] := va_S.rf
  have hu1 : (u 1).toInt = 0 := by rw [hR.1]; rfl
  have q6_0 : (0 : Int32).toInt = 0 := rfl
  have q6_2 : (2 : Int32).toInt = 2 := rfl
  have hl := lv_entry ([.ref (bd 0), .int p1]) (n := 4) (Nat.le_of_ble_eq_true rfl)
  rw [lg_entry_eq]
  generalize (lg_sl ([.ref (bd 0), .int p1]) ++ List.replicate (4 - (lg_sl ([.ref (bd 0), .int p1])).length) Slot.unset).toArray = ls at hl ⊢
  have hl : lv_has ls 4 [(0, .ref (bd 0)), (1, .int p1)] := hl
  refine lv_iconst (v := 0) hx hb dX12_within_0 (by decide) ?_
  refine lv_istore_n (lv' := [(2, .int 0), (0, .ref (bd 0)), (1, .int p1)]) hx hb dX12_within_1 rfl hl (by decide) rfl (fun ls hl => ?_)
  refine lv_iconst (v := 0) hx hb dX12_within_2 (by decide) ?_
  refine lv_istore_n (lv' := [(3, .int 0), (2, .int 0), (0, .ref (bd 0)), (1, .int p1)]) hx hb dX12_within_3 rfl hl (by decide) rfl (fun ls hl => ?_)
  refine lv_iload_n hx hb dX12_within_4 rfl (lv_at hl 0 rfl) ?_
  refine lv_aload_n hx hb dX12_within_5 rfl (lv_at hl 2 rfl) ?_
  refine gr_people1 hx hb hg hown hK hP (x := 0) hR.1 (hg _ q4_233) dX12_within_6 ?_
  refine lv_icmp_ge (tgt := 43) hx hb dX12_within_9 (by decide) (fun c_1 => ?_) (fun c_1 => absurd c_1 (by decide))
  refine lv_iload_n hx hb dX12_within_43 rfl (lv_at hl 1 rfl) ?_
  have q0_0 : (0 : Int32).toInt = 0 := rfl
  exact W.iret (v := 0) hx hb hr (fun tt ht hW => ⟨0, rfl, (by first | rfl | omega | trivial | assumption), ht⟩) (fun _ h => by cases h) dX12_within_44
set_option maxHeartbeats 4000000 in
set_option maxRecDepth 100000 in
theorem k_F_X12_reach (l : Launch) (D : va_G) (cs : Nat → ClassId) (A : Nat → Prop) (bd : Nat → Nat) (u : Nat → Int32) (b : Nat → Nat → Int32) (bw : Nat → Nat → Int64)   (hR : FrR u b) : Met l yX12_reach (Cond.code yX12_reach cX12_reach 1 (some .int) :: gw) ({ frames := 1, cells := 0, slots := 0, locals := 23 }) (va_Pc [.ref (bd 0)] (XPre D (TY cs) (RW cs bd u b bw) A)) (vp_Si (fun (r : Int32) => r.toInt = 0)) 0 0 (fun _ => False) := by
  refine Met.ofW (cc := cX12_reach) (maxL := 1) (ret := (some .int)) (by decide) rfl ?_
  intro p e s m args below meth c s₁ B hml hv
  obtain ⟨rfl, hP, hK, hD, hZ⟩ := hv
  have hx := B.exec
  have hb := B.bytes
  have hr := B.returns
  have hts := atoms_spec (ws := (Cond.code yX12_reach cX12_reach 1 (some .int) :: gw)) B.pre
  have hg : ∀ w ∈ gw, w.before ([.ref (bd 0)] : List Value).toArray s = true := fun w h => hts w (List.mem_cons_of_mem _ h)
  have hown : s.vm.findClass RX12 = some m.cls := findClass_of_methodNamed B.named
  have hlocks := B.notSynchronized
  have hS : va_S A s.heap s.heap [] := va_S.rf
  have hu1 : (u 1).toInt = 0 := by rw [hR.1]; rfl
  have q6_0 : (0 : Int32).toInt = 0 := rfl
  have q6_2 : (2 : Int32).toInt = 2 := rfl
  have hl := lv_entry ([.ref (bd 0)]) (n := 1) (Nat.le_of_ble_eq_true rfl)
  rw [lg_entry_eq]
  generalize (lg_sl ([.ref (bd 0)]) ++ List.replicate (1 - (lg_sl ([.ref (bd 0)])).length) Slot.unset).toArray = ls at hl ⊢
  have hl : lv_has ls 1 [(0, .ref (bd 0))] := hl
  refine lv_aload_n hx hb dX12_reach_0 rfl (lv_at hl 0 rfl) ?_
  refine lv_aload_n hx hb dX12_reach_1 rfl (lv_at hl 0 rfl) ?_
  refine gr_told hx hb hg hown hK hP (hg _ q4_238) dX12_reach_2 ?_
  refine lv_iconst (v := 0) hx hb dX12_reach_5 (by decide) ?_
  refine lr_told hx hb hK hP (i_in (by decide) (by decide)) dX12_reach_6 ?_
  refine lv_topi (fun x_1 ex_1 => ?_)
  have ex_1 : x_1 = (b 6) (0 : Int32).toNatClampNeg := ex_1
  have hx_1 : x_1.toInt = ((b 6) (0 : Int32).toNatClampNeg).toInt := by rw [ex_1]
  have ftx_1 := told4 hR.2.2.2.2.2.2.2.2.2.2.2.1 hR.2.2.2.2.2.2.2.2.2.2.2.2.1 hR.2.2.2.2.2.2.2.2.2.2.2.2.2.1 hR.2.2.2.2.2.2.2.2.2.2.2.2.2.2 0
  rw [← ex_1] at ftx_1
  refine cV_ro (As := [.int x_1]) (rest := []) ⟨hx, hb, hml, hown, hg⟩ (k_F_X12_within l D cs A bd u b bw  x_1 hR) ca_X12_within q6_107 ⟨rfl, rfl⟩ ⟨Nat.le_of_ble_eq_true rfl, Nat.le_of_ble_eq_true rfl⟩ (rc_model hK hP) hK hP hD hS hZ rfl hl.1 rfl (Nat.le_of_ble_eq_true rfl) ⟨Nat.zero_le _, Nat.zero_le _⟩ dX12_reach_7 (fun r_2 wr_2 => ?_)
  have wr_2 : r_2.toInt = 0 := wr_2
  exact W.iret (v := r_2) hx hb hr (fun tt ht hW => ⟨r_2, rfl, (by first | rfl | omega | trivial | assumption), ht⟩) (fun _ h => by cases h) dX12_reach_10
set_option maxHeartbeats 4000000 in
set_option maxRecDepth 100000 in
theorem k_F_X12_person (l : Launch) (D : va_G) (cs : Nat → ClassId) (A : Nat → Prop) (bd : Nat → Nat) (u : Nat → Int32) (b : Nat → Nat → Int32) (bw : Nat → Nat → Int64)  (p1 : Int32) (hR : FrR u b) : Met l yX12_person (Cond.code yX12_person cX12_person 2 (some .int) :: gw) ({ frames := 2, cells := 0, slots := 0, locals := 42 }) (va_Pc [.ref (bd 0), .int p1] (XPre D (TY cs) (RW cs bd u b bw) A)) (va_Qi (fun (r : Int32) (z : Int32 × (Nat → Int32) × (Nat → Int32) × (Nat → Int32) × (Nat → Int32)) => ((0 ≤ p1.toInt ∧ p1.toInt < 256) ∧ r.toInt = 0) ∨ (¬ (0 ≤ p1.toInt ∧ p1.toInt < 256) ∧ r.toInt = -1)) (XPo D (fun (z : Int32 × (Nat → Int32) × (Nat → Int32) × (Nat → Int32) × (Nat → Int32)) => RW cs bd (va_up u 1 z.1) (va_up (va_up (va_up (va_up b 2 z.2.1) 3 z.2.2.1) 4 z.2.2.2.1) 5 z.2.2.2.2) bw) A) A) 0 0 A := by
  refine Met.ofW (cc := cX12_person) (maxL := 2) (ret := (some .int)) (by decide) rfl ?_
  intro p e s m args below meth c s₁ B hml hv
  obtain ⟨rfl, hP, hK, hD, hZ⟩ := hv
  have hx := B.exec
  have hb := B.bytes
  have hr := B.returns
  have hts := atoms_spec (ws := (Cond.code yX12_person cX12_person 2 (some .int) :: gw)) B.pre
  have hg : ∀ w ∈ gw, w.before ([.ref (bd 0), .int p1] : List Value).toArray s = true := fun w h => hts w (List.mem_cons_of_mem _ h)
  have hown : s.vm.findClass RX12 = some m.cls := findClass_of_methodNamed B.named
  have hlocks := B.notSynchronized
  have hS : va_S A s.heap s.heap [] := va_S.rf
  have hP : va_P D vwCl (RW cs bd u b bw) s.heap := hP
  have hu1 : (u 1).toInt = 0 := by rw [hR.1]; rfl
  have q6_0 : (0 : Int32).toInt = 0 := rfl
  have q6_2 : (2 : Int32).toInt = 2 := rfl
  have hl := lv_entry ([.ref (bd 0), .int p1]) (n := 2) (Nat.le_of_ble_eq_true rfl)
  rw [lg_entry_eq]
  generalize (lg_sl ([.ref (bd 0), .int p1]) ++ List.replicate (2 - (lg_sl ([.ref (bd 0), .int p1])).length) Slot.unset).toArray = ls at hl ⊢
  have hl : lv_has ls 2 [(0, .ref (bd 0)), (1, .int p1)] := hl
  refine lv_iload_n hx hb dX12_person_0 rfl (lv_at hl 1 rfl) ?_
  refine cS_p (As := [.int p1]) (rest := []) ⟨hx, hb, hml, hown, hg⟩ (k_X12_isCell l   p1 ) ca_X12_isCell q5_209 ⟨rfl, rfl⟩ ⟨Nat.le_of_ble_eq_true rfl, Nat.le_of_ble_eq_true rfl⟩ rfl hl.1 rfl (Nat.le_of_ble_eq_true rfl) ⟨Nat.zero_le _, Nat.zero_le _⟩ dX12_person_1 (fun r_1 wr_1 => ?_)
  have wr_1 : (r_1.toInt = 1 ∧ 0 ≤ p1.toInt ∧ p1.toInt < 256) ∨ (r_1.toInt = 0 ∧ ¬ (0 ≤ p1.toInt ∧ p1.toInt < 256)) := wr_1
  refine lv_if_ne (tgt := 9) hx hb dX12_person_4 (by decide) (fun c_2 => ?_) (fun c_2 => ?_)
  ·
    have kc_2 : r_1.toInt ≠ (0 : Int) := i_ne c_2
    refine lv_aload_n hx hb dX12_person_9 rfl (lv_at hl 0 rfl) ?_
    refine gr_people1 hx hb hg hown hK hP (x := 0) hR.1 (hg _ q4_233) dX12_person_10 ?_
    refine lv_bipush (v := 8) hx hb dX12_person_13 (by decide) ?_
    refine lv_icmp_ne (tgt := 23) hx hb dX12_person_15 (by decide) (fun c_3 => ?_) (fun c_3 => absurd c_3 (by decide))
    refine lv_aload_n hx hb dX12_person_23 rfl (lv_at hl 0 rfl) ?_
    refine lv_iload_n hx hb dX12_person_24 rfl (lv_at hl 1 rfl) ?_
    refine lv_bipush (v := 6) hx hb dX12_person_25 (by decide) ?_
    refine lv_iconst (v := 0) hx hb dX12_person_27 (by decide) ?_
    refine cV_i (As := [.int p1, .int 6, .int 0]) (rest := []) ⟨hx, hb, hml, hown, hg⟩ (k_X12_addOne l D cs A bd u b bw  p1 6 0 (show 0 ≤ (u 1).toInt by first | omega | decide) (show (u 1).toInt ≤ 7 by first | omega | decide)) ca_X12_addOne q5_215 ⟨rfl, rfl⟩ ⟨Nat.le_of_ble_eq_true rfl, Nat.le_of_ble_eq_true rfl⟩ (rc_model hK hP) hK hP hD hS hZ rfl hl.1 rfl (Nat.le_of_ble_eq_true rfl) ⟨Nat.zero_le _, Nat.zero_le _⟩ dX12_person_28 (fun r_4 z_10 H locs wr_4 hP hD hS => ?_)
    obtain ⟨pn_5, g2_6, g3_7, g4_8, g5_9⟩ := z_10
    have hP : va_P D vwCl (RW cs bd (va_up u 1 pn_5) (va_up (va_up (va_up (va_up b 2 g2_6) 3 g3_7) 4 g4_8) 5 g5_9) bw) H := hP
    have hD : va_D A (RW cs bd (va_up u 1 pn_5) (va_up (va_up (va_up (va_up b 2 g2_6) 3 g3_7) 4 g4_8) 5 g5_9) bw) := hD
    obtain ⟨wr_4_0, wr_4_1⟩ : (r_4.toInt = (u 1).toInt) ∧ (pn_5.toInt = (u 1).toInt + 1) := wr_4
    exact W.iret (v := r_4) hx hb hr (fun tt ht hW => ⟨⟨r_4, ⟨pn_5, g2_6, g3_7, g4_8, g5_9⟩, rfl, (by first | rfl | omega | trivial | assumption), by rw [ht]; exact hP, hD⟩, hS.F ht⟩) hS.2.2 dX12_person_31
  ·
    have kc_2 : r_1.toInt = (0 : Int) := i_eq c_2
    refine lv_iconst (v := (-1)) hx hb dX12_person_7 (by decide) ?_
    have q0_m1 : ((-1) : Int32).toInt = (-1) := rfl
    have hP : va_P D vwCl (RW cs bd (va_up u 1 (u 1)) (va_up (va_up (va_up (va_up b 2 (b 2)) 3 (b 3)) 4 (b 4)) 5 (b 5)) bw) _ := hP
    have hD : va_D A (RW cs bd (va_up u 1 (u 1)) (va_up (va_up (va_up (va_up b 2 (b 2)) 3 (b 3)) 4 (b 4)) 5 (b 5)) bw) := hD
    exact W.iret (v := (-1)) hx hb hr (fun tt ht hW => ⟨⟨(-1), ⟨(u 1), (b 2), (b 3), (b 4), (b 5)⟩, rfl, (by first | rfl | omega | trivial | assumption), by rw [ht]; exact hP, hD⟩, hS.F ht⟩) hS.2.2 dX12_person_8
set_option maxHeartbeats 4000000 in
set_option maxRecDepth 100000 in
theorem k_F_X12_people (l : Launch) (D : va_G) (cs : Nat → ClassId) (A : Nat → Prop) (bd : Nat → Nat) (u : Nat → Int32) (b : Nat → Nat → Int32) (bw : Nat → Nat → Int64)  (p1 : Int32) (p2 : Int32) (p3 : Int32) (hR : FrR u b) : Met l yX12_people (Cond.code yX12_people cX12_people 8 (some .int) :: gw) ({ frames := 2, cells := 0, slots := 0, locals := 42 }) (va_Pc [.ref (bd 0), .int p1, .int p2, .int p3] (XPre D (TY cs) (RW cs bd u b bw) A)) (vp_Si (fun (r : Int32) => ((0 ≤ p1.toInt ∧ p1.toInt < 6 ∧ 1 ≤ p3.toInt ∧ p3.toInt ≤ 8) ∧ r.toInt = 0) ∨ (¬ (0 ≤ p1.toInt ∧ p1.toInt < 6 ∧ 1 ≤ p3.toInt ∧ p3.toInt ≤ 8) ∧ r.toInt = -1))) 0 0 (fun _ => False) := by
  refine Met.ofW (cc := cX12_people) (maxL := 8) (ret := (some .int)) (by decide) rfl ?_
  intro p e s m args below meth c s₁ B hml hv
  obtain ⟨rfl, hP, hK, hD, hZ⟩ := hv
  have hx := B.exec
  have hb := B.bytes
  have hr := B.returns
  have hts := atoms_spec (ws := (Cond.code yX12_people cX12_people 8 (some .int) :: gw)) B.pre
  have hg : ∀ w ∈ gw, w.before ([.ref (bd 0), .int p1, .int p2, .int p3] : List Value).toArray s = true := fun w h => hts w (List.mem_cons_of_mem _ h)
  have hown : s.vm.findClass RX12 = some m.cls := findClass_of_methodNamed B.named
  have hlocks := B.notSynchronized
  have hS : va_S A s.heap s.heap [] := va_S.rf
  have hu1 : (u 1).toInt = 0 := by rw [hR.1]; rfl
  have q6_0 : (0 : Int32).toInt = 0 := rfl
  have q6_2 : (2 : Int32).toInt = 2 := rfl
  have hl := lv_entry ([.ref (bd 0), .int p1, .int p2, .int p3]) (n := 8) (Nat.le_of_ble_eq_true rfl)
  rw [lg_entry_eq]
  generalize (lg_sl ([.ref (bd 0), .int p1, .int p2, .int p3]) ++ List.replicate (8 - (lg_sl ([.ref (bd 0), .int p1, .int p2, .int p3])).length) Slot.unset).toArray = ls at hl ⊢
  have hl : lv_has ls 8 [(0, .ref (bd 0)), (1, .int p1), (2, .int p2), (3, .int p3)] := hl
  refine lv_iload_n hx hb dX12_people_0 rfl (lv_at hl 1 rfl) ?_
  refine cS_p (As := [.int p1]) (rest := []) ⟨hx, hb, hml, hown, hg⟩ (k_X12_isShelf l   p1 ) ca_X12_isShelf q5_223 ⟨rfl, rfl⟩ ⟨Nat.le_of_ble_eq_true rfl, Nat.le_of_ble_eq_true rfl⟩ rfl hl.1 rfl (Nat.le_of_ble_eq_true rfl) ⟨Nat.zero_le _, Nat.zero_le _⟩ dX12_people_1 (fun r_1 wr_1 => ?_)
  have wr_1 : (r_1.toInt = 1 ∧ 0 ≤ p1.toInt ∧ p1.toInt < 6) ∨ (r_1.toInt = 0 ∧ ¬ (0 ≤ p1.toInt ∧ p1.toInt < 6)) := wr_1
  refine lv_if_eq (tgt := 17) hx hb dX12_people_4 (by decide) (fun c_2 => ?_) (fun c_2 => ?_)
  ·
    have kc_2 : r_1.toInt = (0 : Int) := i_eq c_2
    refine lv_iconst (v := (-1)) hx hb dX12_people_17 (by decide) ?_
    have q0_m1 : ((-1) : Int32).toInt = (-1) := rfl
    exact W.iret (v := (-1)) hx hb hr (fun tt ht hW => ⟨(-1), rfl, (by first | rfl | omega | trivial | assumption), ht⟩) (fun _ h => by cases h) dX12_people_18
  ·
    have kc_2 : r_1.toInt ≠ (0 : Int) := i_ne c_2
    refine lv_iload_n hx hb dX12_people_7 rfl (lv_at hl 3 rfl) ?_
    refine lv_iconst (v := 1) hx hb dX12_people_8 (by decide) ?_
    refine lv_bipush (v := 8) hx hb dX12_people_9 (by decide) ?_
    refine cS_p (As := [.int p3, .int 1, .int 8]) (rest := []) ⟨hx, hb, hml, hown, hg⟩ (k_X12_in l   p3 1 8 ) ca_X12_in q5_212 ⟨rfl, rfl⟩ ⟨Nat.le_of_ble_eq_true rfl, Nat.le_of_ble_eq_true rfl⟩ rfl hl.1 rfl (Nat.le_of_ble_eq_true rfl) ⟨Nat.zero_le _, Nat.zero_le _⟩ dX12_people_11 (fun r_3 wr_3 => ?_)
    have wr_3 : (r_3.toInt = 1 ∧ (1 : Int) ≤ p3.toInt ∧ p3.toInt ≤ (8 : Int)) ∨ (r_3.toInt = 0 ∧ ¬ ((1 : Int) ≤ p3.toInt ∧ p3.toInt ≤ (8 : Int))) := wr_3
    refine lv_if_ne (tgt := 19) hx hb dX12_people_14 (by decide) (fun c_4 => ?_) (fun c_4 => ?_)
    ·
      have kc_4 : r_3.toInt ≠ (0 : Int) := i_ne c_4
      refine lv_aload_n hx hb dX12_people_19 rfl (lv_at hl 0 rfl) ?_
      refine gr_holds hx hb hg hown hK hP (hg _ q5_58) dX12_people_20 ?_
      refine lv_iload_n hx hb dX12_people_23 rfl (lv_at hl 1 rfl) ?_
      refine lr_holds hx hb hK hP (i_in (by omega) (by omega)) dX12_people_24 ?_
      refine lv_topi (fun x_5 ex_5 => ?_)
      have ex_5 : x_5 = (b 66) p1.toNatClampNeg := ex_5
      have hx_5 : x_5.toInt = ((b 66) p1.toNatClampNeg).toInt := by rw [ex_5]
      have fx_5 : x_5 = (-1) := by rw [ex_5]; exact hR.2.2.2.2.2.2.2.2.2.1 _ (by show (p1).toInt.toNat < 6; omega)
      subst fx_5
      refine lv_iconst (v := (-1)) hx hb dX12_people_25 (by decide) ?_
      refine lv_icmp_eq (tgt := 43) hx hb dX12_people_26 (by decide) (fun c_6 => ?_) (fun c_6 => absurd c_6 (by decide))
      refine lv_aload_n hx hb dX12_people_43 rfl (lv_at hl 0 rfl) ?_
      refine gr_holds hx hb hg hown hK hP (hg _ q5_58) dX12_people_44 ?_
      refine lv_iload_n hx hb dX12_people_47 rfl (lv_at hl 1 rfl) ?_
      refine lr_holds hx hb hK hP (i_in (by omega) (by omega)) dX12_people_48 ?_
      refine lv_topi (fun x_7 ex_7 => ?_)
      have ex_7 : x_7 = (b 66) p1.toNatClampNeg := ex_7
      have hx_7 : x_7.toInt = ((b 66) p1.toNatClampNeg).toInt := by rw [ex_7]
      have fx_7 : x_7 = (-1) := by rw [ex_7]; exact hR.2.2.2.2.2.2.2.2.2.1 _ (by show (p1).toInt.toNat < 6; omega)
      subst fx_7
      refine lv_iconst (v := (-1)) hx hb dX12_people_49 (by decide) ?_
      refine lv_icmp_ne (tgt := 55) hx hb dX12_people_50 (by decide) (fun c_8 => absurd c_8 (by decide)) (fun c_8 => ?_)
      refine lv_iconst (v := 0) hx hb dX12_people_53 (by decide) ?_
      have q0_0 : (0 : Int32).toInt = 0 := rfl
      exact W.iret (v := 0) hx hb hr (fun tt ht hW => ⟨0, rfl, (by first | rfl | omega | trivial | assumption), ht⟩) (fun _ h => by cases h) dX12_people_54
    ·
      have kc_4 : r_3.toInt = (0 : Int) := i_eq c_4
      refine lv_iconst (v := (-1)) hx hb dX12_people_17 (by decide) ?_
      have q0_m1 : ((-1) : Int32).toInt = (-1) := rfl
      exact W.iret (v := (-1)) hx hb hr (fun tt ht hW => ⟨(-1), rfl, (by first | rfl | omega | trivial | assumption), ht⟩) (fun _ h => by cases h) dX12_people_18
set_option maxHeartbeats 4000000 in
set_option maxRecDepth 100000 in
theorem k_F_X12_mend (l : Launch) (D : va_G) (cs : Nat → ClassId) (A : Nat → Prop) (bd : Nat → Nat) (u : Nat → Int32) (b : Nat → Nat → Int32) (bw : Nat → Nat → Int64)  (p1 : Int32) (p2 : Int32) (p3 : Int32) (hR : FrR u b) : Met l yX12_mend (Cond.code yX12_mend cX12_mend 4 (some .int) :: gw) ({ frames := 3, cells := 0, slots := 0, locals := 65 }) (va_Pc [.ref (bd 0), .int p1, .int p2, .int p3] (XPre D (TY cs) (RW cs bd u b bw) A)) (va_Qi (fun (r : Int32) (z : Int32 × Int32 × (Nat → Int32) × (Nat → Int32) × (Nat → Int32) × (Nat → Int32) × (Nat → Int32)) => ((p1.toInt = 0 ∧ ((p2.toInt = 4 ∧ 0 ≤ p3.toInt ∧ p3.toInt ≤ 255) ∨ (p2.toInt = 5 ∧ 1 ≤ p3.toInt ∧ p3.toInt ≤ 20) ∨ (p2.toInt = 6 ∧ 0 ≤ p3.toInt ∧ p3.toInt ≤ 23) ∨ (p2.toInt = 7 ∧ 1 ≤ p3.toInt ∧ p3.toInt ≤ 9))) ∧ ((p2.toInt = 4 ∧ r.toInt = 0) ∨ (p2.toInt = 5 ∧ r.toInt = 8) ∨ (p2.toInt = 6 ∧ r.toInt = 8) ∨ (p2.toInt = 7 ∧ r.toInt = 4))) ∨ (¬ (p1.toInt = 0 ∧ ((p2.toInt = 4 ∧ 0 ≤ p3.toInt ∧ p3.toInt ≤ 255) ∨ (p2.toInt = 5 ∧ 1 ≤ p3.toInt ∧ p3.toInt ≤ 20) ∨ (p2.toInt = 6 ∧ 0 ≤ p3.toInt ∧ p3.toInt ≤ 23) ∨ (p2.toInt = 7 ∧ 1 ≤ p3.toInt ∧ p3.toInt ≤ 9))) ∧ r.toInt = -1)) (XPo D (fun (z : Int32 × Int32 × (Nat → Int32) × (Nat → Int32) × (Nat → Int32) × (Nat → Int32) × (Nat → Int32)) => RW cs bd (va_up (va_up u 8 z.1) 9 z.2.1) (va_up (va_up (va_up (va_up (va_up b 6 z.2.2.1) 10 z.2.2.2.1) 11 z.2.2.2.2.1) 12 z.2.2.2.2.2.1) 13 z.2.2.2.2.2.2) bw) A) A) 0 0 A := by
  refine Met.ofW (cc := cX12_mend) (maxL := 4) (ret := (some .int)) (by decide) rfl ?_
  intro p e s m args below meth c s₁ B hml hv
  obtain ⟨rfl, hP, hK, hD, hZ⟩ := hv
  have hx := B.exec
  have hb := B.bytes
  have hr := B.returns
  have hts := atoms_spec (ws := (Cond.code yX12_mend cX12_mend 4 (some .int) :: gw)) B.pre
  have hg : ∀ w ∈ gw, w.before ([.ref (bd 0), .int p1, .int p2, .int p3] : List Value).toArray s = true := fun w h => hts w (List.mem_cons_of_mem _ h)
  have hown : s.vm.findClass RX12 = some m.cls := findClass_of_methodNamed B.named
  have hlocks := B.notSynchronized
  have hS : va_S A s.heap s.heap [] := va_S.rf
  have hP : va_P D vwCl (RW cs bd u b bw) s.heap := hP
  have hu1 : (u 1).toInt = 0 := by rw [hR.1]; rfl
  have q6_0 : (0 : Int32).toInt = 0 := rfl
  have q6_2 : (2 : Int32).toInt = 2 := rfl
  have hl := lv_entry ([.ref (bd 0), .int p1, .int p2, .int p3]) (n := 4) (Nat.le_of_ble_eq_true rfl)
  rw [lg_entry_eq]
  generalize (lg_sl ([.ref (bd 0), .int p1, .int p2, .int p3]) ++ List.replicate (4 - (lg_sl ([.ref (bd 0), .int p1, .int p2, .int p3])).length) Slot.unset).toArray = ls at hl ⊢
  have hl : lv_has ls 4 [(0, .ref (bd 0)), (1, .int p1), (2, .int p2), (3, .int p3)] := hl
  refine lv_aload_n hx hb dX12_mend_0 rfl (lv_at hl 0 rfl) ?_
  refine lv_iload_n hx hb dX12_mend_1 rfl (lv_at hl 1 rfl) ?_
  refine lv_iload_n hx hb dX12_mend_2 rfl (lv_at hl 2 rfl) ?_
  refine cV_ro (As := [.int p1, .int p2]) (rest := []) ⟨hx, hb, hml, hown, hg⟩ (k_X12_isPlace l D cs A bd u b bw  p1 p2 (show 0 ≤ (u 1).toInt by first | omega | decide) (show (u 1).toInt ≤ 8 by first | omega | decide)) ca_X12_isPlace q6_3 ⟨rfl, rfl⟩ ⟨Nat.le_of_ble_eq_true rfl, Nat.le_of_ble_eq_true rfl⟩ (rc_model hK hP) hK hP hD hS hZ rfl hl.1 rfl (Nat.le_of_ble_eq_true rfl) ⟨Nat.zero_le _, Nat.zero_le _⟩ dX12_mend_3 (fun r_1 wr_1 => ?_)
  have wr_1 : (r_1.toInt = 1 ∧ ((0 ≤ p2.toInt ∧ p2.toInt ≤ 3 ∧ 0 ≤ p1.toInt ∧ p1.toInt < (u 1).toInt) ∨ (4 ≤ p2.toInt ∧ p2.toInt ≤ 7 ∧ p1.toInt = 0))) ∨ (r_1.toInt = 0 ∧ ¬ (((0 ≤ p2.toInt ∧ p2.toInt ≤ 3 ∧ 0 ≤ p1.toInt ∧ p1.toInt < (u 1).toInt) ∨ (4 ≤ p2.toInt ∧ p2.toInt ≤ 7 ∧ p1.toInt = 0)))) := wr_1
  refine lv_if_eq (tgt := 27) hx hb dX12_mend_6 (by decide) (fun c_2 => ?_) (fun c_2 => ?_)
  ·
    have kc_2 : r_1.toInt = (0 : Int) := i_eq c_2
    refine lv_iconst (v := (-1)) hx hb dX12_mend_27 (by decide) ?_
    have q0_m1 : ((-1) : Int32).toInt = (-1) := rfl
    have hP : va_P D vwCl (RW cs bd (va_up (va_up u 8 (u 8)) 9 (u 9)) (va_up (va_up (va_up (va_up (va_up b 6 (b 6)) 10 (b 10)) 11 (b 11)) 12 (b 12)) 13 (b 13)) bw) _ := hP
    have hD : va_D A (RW cs bd (va_up (va_up u 8 (u 8)) 9 (u 9)) (va_up (va_up (va_up (va_up (va_up b 6 (b 6)) 10 (b 10)) 11 (b 11)) 12 (b 12)) 13 (b 13)) bw) := hD
    exact W.iret (v := (-1)) hx hb hr (fun tt ht hW => ⟨⟨(-1), ⟨(u 8), (u 9), (b 6), (b 10), (b 11), (b 12), (b 13)⟩, rfl, (by first | rfl | omega | trivial | assumption), by rw [ht]; exact hP, hD⟩, hS.F ht⟩) hS.2.2 dX12_mend_28
  ·
    have kc_2 : r_1.toInt ≠ (0 : Int) := i_ne c_2
    refine lv_iload_n hx hb dX12_mend_9 rfl (lv_at hl 2 rfl) ?_
    refine lv_iload_n hx hb dX12_mend_10 rfl (lv_at hl 3 rfl) ?_
    refine cS_p (As := [.int p2, .int p3]) (rest := []) ⟨hx, hb, hml, hown, hg⟩ (k_X12_mayHave l   p2 p3 ) ca_X12_mayHave q6_11 ⟨rfl, rfl⟩ ⟨Nat.le_of_ble_eq_true rfl, Nat.le_of_ble_eq_true rfl⟩ rfl hl.1 rfl (Nat.le_of_ble_eq_true rfl) ⟨Nat.zero_le _, Nat.zero_le _⟩ dX12_mend_11 (fun r_3 wr_3 => ?_)
    have wr_3 : (r_3.toInt = 1 ∧ ((p2.toInt = 1 ∧ 0 ≤ p3.toInt ∧ p3.toInt ≤ 12) ∨ (p2.toInt = 2 ∧ 0 ≤ p3.toInt ∧ p3.toInt ≤ 9) ∨ (p2.toInt = 3 ∧ 0 ≤ p3.toInt ∧ p3.toInt ≤ 99) ∨ (p2.toInt = 5 ∧ 1 ≤ p3.toInt ∧ p3.toInt ≤ 20) ∨ (p2.toInt = 6 ∧ 0 ≤ p3.toInt ∧ p3.toInt ≤ 23) ∨ (p2.toInt = 7 ∧ 1 ≤ p3.toInt ∧ p3.toInt ≤ 9) ∨ ((p2.toInt < 1 ∨ p2.toInt = 4 ∨ 7 < p2.toInt) ∧ 0 ≤ p3.toInt ∧ p3.toInt < 256))) ∨ (r_3.toInt = 0 ∧ ¬ (((p2.toInt = 1 ∧ 0 ≤ p3.toInt ∧ p3.toInt ≤ 12) ∨ (p2.toInt = 2 ∧ 0 ≤ p3.toInt ∧ p3.toInt ≤ 9) ∨ (p2.toInt = 3 ∧ 0 ≤ p3.toInt ∧ p3.toInt ≤ 99) ∨ (p2.toInt = 5 ∧ 1 ≤ p3.toInt ∧ p3.toInt ≤ 20) ∨ (p2.toInt = 6 ∧ 0 ≤ p3.toInt ∧ p3.toInt ≤ 23) ∨ (p2.toInt = 7 ∧ 1 ≤ p3.toInt ∧ p3.toInt ≤ 9) ∨ ((p2.toInt < 1 ∨ p2.toInt = 4 ∨ 7 < p2.toInt) ∧ 0 ≤ p3.toInt ∧ p3.toInt < 256)))) := wr_3
    refine lv_if_eq (tgt := 27) hx hb dX12_mend_14 (by decide) (fun c_4 => ?_) (fun c_4 => ?_)
    ·
      have kc_4 : r_3.toInt = (0 : Int) := i_eq c_4
      refine lv_iconst (v := (-1)) hx hb dX12_mend_27 (by decide) ?_
      have q0_m1 : ((-1) : Int32).toInt = (-1) := rfl
      have hP : va_P D vwCl (RW cs bd (va_up (va_up u 8 (u 8)) 9 (u 9)) (va_up (va_up (va_up (va_up (va_up b 6 (b 6)) 10 (b 10)) 11 (b 11)) 12 (b 12)) 13 (b 13)) bw) _ := hP
      have hD : va_D A (RW cs bd (va_up (va_up u 8 (u 8)) 9 (u 9)) (va_up (va_up (va_up (va_up (va_up b 6 (b 6)) 10 (b 10)) 11 (b 11)) 12 (b 12)) 13 (b 13)) bw) := hD
      exact W.iret (v := (-1)) hx hb hr (fun tt ht hW => ⟨⟨(-1), ⟨(u 8), (u 9), (b 6), (b 10), (b 11), (b 12), (b 13)⟩, rfl, (by first | rfl | omega | trivial | assumption), by rw [ht]; exact hP, hD⟩, hS.F ht⟩) hS.2.2 dX12_mend_28
    ·
      have kc_4 : r_3.toInt ≠ (0 : Int) := i_ne c_4
      refine lv_aload_n hx hb dX12_mend_17 rfl (lv_at hl 0 rfl) ?_
      refine lv_iload_n hx hb dX12_mend_18 rfl (lv_at hl 2 rfl) ?_
      refine lv_iload_n hx hb dX12_mend_19 rfl (lv_at hl 1 rfl) ?_
      refine lv_iload_n hx hb dX12_mend_20 rfl (lv_at hl 3 rfl) ?_
      refine cV_i (As := [.int p2, .int p1, .int p3]) (rest := []) ⟨hx, hb, hml, hown, hg⟩ (k_F_X12_changes l D cs A bd u b bw  p2 p1 p3 hR (show 4 ≤ p2.toInt by first | omega | decide) (show p2.toInt ≤ 7 by first | omega | decide)) ca_X12_changes q6_14 ⟨rfl, rfl⟩ ⟨Nat.le_of_ble_eq_true rfl, Nat.le_of_ble_eq_true rfl⟩ (rc_model hK hP) hK hP hD hS hZ rfl hl.1 rfl (Nat.le_of_ble_eq_true rfl) ⟨Nat.zero_le _, Nat.zero_le _⟩ dX12_mend_21 (fun r_5 z_13 H locs wr_5 hP hD hS => ?_)
      obtain ⟨done_6, undone_7, gt_8, g0_9, g1_10, g2_11, g3_12⟩ := z_13
      have hP : va_P D vwCl (RW cs bd (va_up (va_up u 8 done_6) 9 undone_7) (va_up (va_up (va_up (va_up (va_up b 6 gt_8) 10 g0_9) 11 g1_10) 12 g2_11) 13 g3_12) bw) H := hP
      have hD : va_D A (RW cs bd (va_up (va_up u 8 done_6) 9 undone_7) (va_up (va_up (va_up (va_up (va_up b 6 gt_8) 10 g0_9) 11 g1_10) 12 g2_11) 13 g3_12) bw) := hD
      have wr_5 : ((p2.toInt = 4 ∧ r_5.toInt = 0) ∨ (p2.toInt = 5 ∧ r_5.toInt = 8) ∨ (p2.toInt = 6 ∧ r_5.toInt = 8) ∨ (p2.toInt = 7 ∧ r_5.toInt = 4)) := wr_5
      refine lv_goto (tgt := 28) hx hb dX12_mend_24 (by decide) ?_
      exact W.iret (v := r_5) hx hb hr (fun tt ht hW => ⟨⟨r_5, ⟨done_6, undone_7, gt_8, g0_9, g1_10, g2_11, g3_12⟩, rfl, (by first | rfl | omega | trivial | assumption), by rw [ht]; exact hP, hD⟩, hS.F ht⟩) hS.2.2 dX12_mend_28
set_option maxHeartbeats 4000000 in
set_option maxRecDepth 100000 in
theorem k_F_X12_of (l : Launch) (D : va_G) (cs : Nat → ClassId) (A : Nat → Prop) (bd : Nat → Nat) (u : Nat → Int32) (b : Nat → Nat → Int32) (bw : Nat → Nat → Int64)  (p1 : Int32) (p2 : Int32) (hR : FrR u b) : Met l yX12_of (Cond.code yX12_of cX12_of 3 (some .int) :: gw) ({ frames := 3, cells := 0, slots := 0, locals := 65 }) (va_Pc [.ref (bd 0), .int p1, .int p2] (XPre D (TY cs) (RW cs bd u b bw) A)) (vp_Si (fun (r : Int32) => ((p1.toInt = 0 ∧ 4 ≤ p2.toInt ∧ p2.toInt ≤ 7) ∧ ((p2.toInt = 4 ∧ r.toInt = 0) ∨ (p2.toInt = 5 ∧ r.toInt = 8) ∨ (p2.toInt = 6 ∧ r.toInt = 8) ∨ (p2.toInt = 7 ∧ r.toInt = 4))) ∨ (¬ (p1.toInt = 0 ∧ 4 ≤ p2.toInt ∧ p2.toInt ≤ 7) ∧ r.toInt = -1))) 0 0 (fun _ => False) := by
  refine Met.ofW (cc := cX12_of) (maxL := 3) (ret := (some .int)) (by decide) rfl ?_
  intro p e s m args below meth c s₁ B hml hv
  obtain ⟨rfl, hP, hK, hD, hZ⟩ := hv
  have hx := B.exec
  have hb := B.bytes
  have hr := B.returns
  have hts := atoms_spec (ws := (Cond.code yX12_of cX12_of 3 (some .int) :: gw)) B.pre
  have hg : ∀ w ∈ gw, w.before ([.ref (bd 0), .int p1, .int p2] : List Value).toArray s = true := fun w h => hts w (List.mem_cons_of_mem _ h)
  have hown : s.vm.findClass RX12 = some m.cls := findClass_of_methodNamed B.named
  have hlocks := B.notSynchronized
  have hS : va_S A s.heap s.heap [] := va_S.rf
  have hu1 : (u 1).toInt = 0 := by rw [hR.1]; rfl
  have q6_0 : (0 : Int32).toInt = 0 := rfl
  have q6_2 : (2 : Int32).toInt = 2 := rfl
  have hl := lv_entry ([.ref (bd 0), .int p1, .int p2]) (n := 3) (Nat.le_of_ble_eq_true rfl)
  rw [lg_entry_eq]
  generalize (lg_sl ([.ref (bd 0), .int p1, .int p2]) ++ List.replicate (3 - (lg_sl ([.ref (bd 0), .int p1, .int p2])).length) Slot.unset).toArray = ls at hl ⊢
  have hl : lv_has ls 3 [(0, .ref (bd 0)), (1, .int p1), (2, .int p2)] := hl
  refine lv_aload_n hx hb dX12_of_0 rfl (lv_at hl 0 rfl) ?_
  refine lv_iload_n hx hb dX12_of_1 rfl (lv_at hl 1 rfl) ?_
  refine lv_iload_n hx hb dX12_of_2 rfl (lv_at hl 2 rfl) ?_
  refine cV_ro (As := [.int p1, .int p2]) (rest := []) ⟨hx, hb, hml, hown, hg⟩ (k_X12_isPlace l D cs A bd u b bw  p1 p2 (show 0 ≤ (u 1).toInt by first | omega | decide) (show (u 1).toInt ≤ 8 by first | omega | decide)) ca_X12_isPlace q6_3 ⟨rfl, rfl⟩ ⟨Nat.le_of_ble_eq_true rfl, Nat.le_of_ble_eq_true rfl⟩ (rc_model hK hP) hK hP hD hS hZ rfl hl.1 rfl (Nat.le_of_ble_eq_true rfl) ⟨Nat.zero_le _, Nat.zero_le _⟩ dX12_of_3 (fun r_1 wr_1 => ?_)
  have wr_1 : (r_1.toInt = 1 ∧ ((0 ≤ p2.toInt ∧ p2.toInt ≤ 3 ∧ 0 ≤ p1.toInt ∧ p1.toInt < (u 1).toInt) ∨ (4 ≤ p2.toInt ∧ p2.toInt ≤ 7 ∧ p1.toInt = 0))) ∨ (r_1.toInt = 0 ∧ ¬ (((0 ≤ p2.toInt ∧ p2.toInt ≤ 3 ∧ 0 ≤ p1.toInt ∧ p1.toInt < (u 1).toInt) ∨ (4 ≤ p2.toInt ∧ p2.toInt ≤ 7 ∧ p1.toInt = 0)))) := wr_1
  refine lv_if_eq (tgt := 18) hx hb dX12_of_6 (by decide) (fun c_2 => ?_) (fun c_2 => ?_)
  ·
    have kc_2 : r_1.toInt = (0 : Int) := i_eq c_2
    refine lv_iconst (v := (-1)) hx hb dX12_of_18 (by decide) ?_
    have q0_m1 : ((-1) : Int32).toInt = (-1) := rfl
    exact W.iret (v := (-1)) hx hb hr (fun tt ht hW => ⟨(-1), rfl, (by first | rfl | omega | trivial | assumption), ht⟩) (fun _ h => by cases h) dX12_of_19
  ·
    have kc_2 : r_1.toInt ≠ (0 : Int) := i_ne c_2
    refine lv_aload_n hx hb dX12_of_9 rfl (lv_at hl 0 rfl) ?_
    refine lv_iload_n hx hb dX12_of_10 rfl (lv_at hl 2 rfl) ?_
    refine lv_iload_n hx hb dX12_of_11 rfl (lv_at hl 1 rfl) ?_
    refine cV_ro (As := [.int p2, .int p1]) (rest := []) ⟨hx, hb, hml, hown, hg⟩ (k_F_X12_valueAt l D cs A bd u b bw  p2 p1 hR (show 4 ≤ p2.toInt by first | omega | decide) (show p2.toInt ≤ 7 by first | omega | decide)) ca_X12_valueAt q6_18 ⟨rfl, rfl⟩ ⟨Nat.le_of_ble_eq_true rfl, Nat.le_of_ble_eq_true rfl⟩ (rc_model hK hP) hK hP hD hS hZ rfl hl.1 rfl (Nat.le_of_ble_eq_true rfl) ⟨Nat.zero_le _, Nat.zero_le _⟩ dX12_of_12 (fun r_3 wr_3 => ?_)
    have wr_3 : ((p2.toInt = 4 ∧ r_3.toInt = 0) ∨ (p2.toInt = 5 ∧ r_3.toInt = 8) ∨ (p2.toInt = 6 ∧ r_3.toInt = 8) ∨ (p2.toInt = 7 ∧ r_3.toInt = 4)) := wr_3
    refine lv_goto (tgt := 19) hx hb dX12_of_15 (by decide) ?_
    exact W.iret (v := r_3) hx hb hr (fun tt ht hW => ⟨r_3, rfl, (by first | rfl | omega | trivial | assumption), ht⟩) (fun _ h => by cases h) dX12_of_19
set_option maxHeartbeats 4000000 in
set_option maxRecDepth 100000 in
theorem k_F_X12_feed (l : Launch) (D : va_G) (cs : Nat → ClassId) (A : Nat → Prop) (bd : Nat → Nat) (u : Nat → Int32) (b : Nat → Nat → Int32) (bw : Nat → Nat → Int64)  (p1 : Int32) (hR : FrR u b) : Met l yX12_feed (Cond.code yX12_feed cX12_feed 2 (some .int) :: gw) ({ frames := 1, cells := 0, slots := 0, locals := 22 }) (va_Pc [.ref (bd 0), .int p1] (XPre D (TY cs) (RW cs bd u b bw) A)) (va_Qi (fun (r : Int32) (z : Int32 × (Nat → Int32)) => ((0 ≤ p1.toInt ∧ p1.toInt ≤ 255) ∧ r.toInt = 1) ∨ (¬ (0 ≤ p1.toInt ∧ p1.toInt ≤ 255) ∧ r.toInt = -1)) (XPo D (fun (z : Int32 × (Nat → Int32)) => RW cs bd (va_up u 15 z.1) (va_up b 14 z.2) bw) A) A) 0 0 A := by
  refine Met.ofW (cc := cX12_feed) (maxL := 2) (ret := (some .int)) (by decide) rfl ?_
  intro p e s m args below meth c s₁ B hml hv
  obtain ⟨rfl, hP, hK, hD, hZ⟩ := hv
  have hx := B.exec
  have hb := B.bytes
  have hr := B.returns
  have hts := atoms_spec (ws := (Cond.code yX12_feed cX12_feed 2 (some .int) :: gw)) B.pre
  have hg : ∀ w ∈ gw, w.before ([.ref (bd 0), .int p1] : List Value).toArray s = true := fun w h => hts w (List.mem_cons_of_mem _ h)
  have hown : s.vm.findClass RX12 = some m.cls := findClass_of_methodNamed B.named
  have hlocks := B.notSynchronized
  have hS : va_S A s.heap s.heap [] := va_S.rf
  have hP : va_P D vwCl (RW cs bd u b bw) s.heap := hP
  have hu1 : (u 1).toInt = 0 := by rw [hR.1]; rfl
  have q6_0 : (0 : Int32).toInt = 0 := rfl
  have q6_2 : (2 : Int32).toInt = 2 := rfl
  have hl := lv_entry ([.ref (bd 0), .int p1]) (n := 2) (Nat.le_of_ble_eq_true rfl)
  rw [lg_entry_eq]
  generalize (lg_sl ([.ref (bd 0), .int p1]) ++ List.replicate (2 - (lg_sl ([.ref (bd 0), .int p1])).length) Slot.unset).toArray = ls at hl ⊢
  have hl : lv_has ls 2 [(0, .ref (bd 0)), (1, .int p1)] := hl
  refine lv_iload_n hx hb dX12_feed_0 rfl (lv_at hl 1 rfl) ?_
  refine lv_iconst (v := 0) hx hb dX12_feed_1 (by decide) ?_
  refine lv_sipush (v := 255) hx hb dX12_feed_2 (by decide) ?_
  refine cS_p (As := [.int p1, .int 0, .int 255]) (rest := []) ⟨hx, hb, hml, hown, hg⟩ (k_X12_in l   p1 0 255 ) ca_X12_in q5_212 ⟨rfl, rfl⟩ ⟨Nat.le_of_ble_eq_true rfl, Nat.le_of_ble_eq_true rfl⟩ rfl hl.1 rfl (Nat.le_of_ble_eq_true rfl) ⟨Nat.zero_le _, Nat.zero_le _⟩ dX12_feed_5 (fun r_1 wr_1 => ?_)
  have wr_1 : (r_1.toInt = 1 ∧ (0 : Int) ≤ p1.toInt ∧ p1.toInt ≤ (255 : Int)) ∨ (r_1.toInt = 0 ∧ ¬ ((0 : Int) ≤ p1.toInt ∧ p1.toInt ≤ (255 : Int))) := wr_1
  refine lv_if_ne (tgt := 13) hx hb dX12_feed_8 (by decide) (fun c_2 => ?_) (fun c_2 => ?_)
  ·
    have kc_2 : r_1.toInt ≠ (0 : Int) := i_ne c_2
    refine lv_aload_n hx hb dX12_feed_13 rfl (lv_at hl 0 rfl) ?_
    refine gr_taped hx hb hg hown hK hP (x := 0) hR.2.2.2.2.1 (hg _ q5_7) dX12_feed_14 ?_
    refine lv_bipush (v := 120) hx hb dX12_feed_17 (by decide) ?_
    refine lv_icmp_ne (tgt := 25) hx hb dX12_feed_19 (by decide) (fun c_3 => ?_) (fun c_3 => absurd c_3 (by decide))
    refine lv_aload_n hx hb dX12_feed_25 rfl (lv_at hl 0 rfl) ?_
    refine gr_tape hx hb hg hown hK hP (hg _ q5_6) dX12_feed_26 ?_
    refine lv_aload_n hx hb dX12_feed_29 rfl (lv_at hl 0 rfl) ?_
    refine gr_taped hx hb hg hown hK hP (x := 0) hR.2.2.2.2.1 (hg _ q5_7) dX12_feed_30 ?_
    refine lv_iload_n hx hb dX12_feed_33 rfl (lv_at hl 1 rfl) ?_
    refine lv_i2b hx hb dX12_feed_34 rfl ?_
    refine lv_topi (fun x_4 ex_4 => ?_)
    refine sr_tape hx hb hK hP hD hS (i_in (by decide) (by decide)) dX12_feed_35 (fun H locs hP hD hS => ?_)
    refine lv_aload_n hx hb dX12_feed_36 rfl (lv_at hl 0 rfl) ?_
    refine lv_dup hx hb dX12_feed_37 rfl ?_
    refine gr_taped hx hb hg hown hK hP (x := 0) hR.2.2.2.2.1 (hg _ q5_7) dX12_feed_38 ?_
    refine lv_iconst (v := 1) hx hb dX12_feed_41 (by decide) ?_
    refine lv_iadd hx hb dX12_feed_42 ?_
    refine lv_topi (fun x_5 ex_5 => ?_)
    have fx_5 : x_5 = 1 := by rw [ex_5]; rfl
    subst fx_5
    refine pr_taped hx hb hg hown hK hP hD hS (hg _ q5_7) dX12_feed_43 (fun H locs hP hD hS => ?_)
    refine lv_aload_n hx hb dX12_feed_46 rfl (lv_at hl 0 rfl) ?_
    refine gr_taped hx hb hg hown hK hP (x := 1) rfl (hg _ q5_7) dX12_feed_47 ?_
    have q0_1 : (1 : Int32).toInt = 1 := rfl
    have q0_1 : (1 : Int32).toInt = 1 := rfl
    exact W.iret (v := 1) hx hb hr (fun tt ht hW => ⟨⟨1, ⟨1, (upd (b 14) (0 : Int32).toNatClampNeg (vp_nar .byte x_4))⟩, rfl, (by first | rfl | omega | trivial | assumption), by rw [ht]; exact hP, hD⟩, hS.F ht⟩) hS.2.2 dX12_feed_50
  ·
    have kc_2 : r_1.toInt = (0 : Int) := i_eq c_2
    refine lv_iconst (v := (-1)) hx hb dX12_feed_11 (by decide) ?_
    have q0_m1 : ((-1) : Int32).toInt = (-1) := rfl
    have hP : va_P D vwCl (RW cs bd (va_up u 15 (u 15)) (va_up b 14 (b 14)) bw) _ := hP
    have hD : va_D A (RW cs bd (va_up u 15 (u 15)) (va_up b 14 (b 14)) bw) := hD
    exact W.iret (v := (-1)) hx hb hr (fun tt ht hW => ⟨⟨(-1), ⟨(u 15), (b 14)⟩, rfl, (by first | rfl | omega | trivial | assumption), by rw [ht]; exact hP, hD⟩, hS.F ht⟩) hS.2.2 dX12_feed_12
set_option maxHeartbeats 4000000 in
set_option maxRecDepth 100000 in
theorem k_F_X12_loud (l : Launch) (D : va_G) (cs : Nat → ClassId) (A : Nat → Prop) (bd : Nat → Nat) (u : Nat → Int32) (b : Nat → Nat → Int32) (bw : Nat → Nat → Int64)  (p1 : Int32) (hR : FrR u b) : Met l yX12_loud (Cond.code yX12_loud cX12_loud 2 (some .int) :: gw) ({ frames := 2, cells := 0, slots := 0, locals := 43 }) (va_Pc [.ref (bd 0), .int p1] (XPre D (TY cs) (RW cs bd u b bw) A)) (vp_Si (fun (r : Int32) => r.toInt = -1)) 0 0 (fun _ => False) := by
  refine Met.ofW (cc := cX12_loud) (maxL := 2) (ret := (some .int)) (by decide) rfl ?_
  intro p e s m args below meth c s₁ B hml hv
  obtain ⟨rfl, hP, hK, hD, hZ⟩ := hv
  have hx := B.exec
  have hb := B.bytes
  have hr := B.returns
  have hts := atoms_spec (ws := (Cond.code yX12_loud cX12_loud 2 (some .int) :: gw)) B.pre
  have hg : ∀ w ∈ gw, w.before ([.ref (bd 0), .int p1] : List Value).toArray s = true := fun w h => hts w (List.mem_cons_of_mem _ h)
  have hown : s.vm.findClass RX12 = some m.cls := findClass_of_methodNamed B.named
  have hlocks := B.notSynchronized
  have hS : va_S A s.heap s.heap [] := va_S.rf
  have hu1 : (u 1).toInt = 0 := by rw [hR.1]; rfl
  have q6_0 : (0 : Int32).toInt = 0 := rfl
  have q6_2 : (2 : Int32).toInt = 2 := rfl
  have hl := lv_entry ([.ref (bd 0), .int p1]) (n := 2) (Nat.le_of_ble_eq_true rfl)
  rw [lg_entry_eq]
  generalize (lg_sl ([.ref (bd 0), .int p1]) ++ List.replicate (2 - (lg_sl ([.ref (bd 0), .int p1])).length) Slot.unset).toArray = ls at hl ⊢
  have hl : lv_has ls 2 [(0, .ref (bd 0)), (1, .int p1)] := hl
  refine lv_aload_n hx hb dX12_loud_0 rfl (lv_at hl 0 rfl) ?_
  refine lv_iload_n hx hb dX12_loud_1 rfl (lv_at hl 1 rfl) ?_
  refine cV_ro (As := [.int p1]) (rest := []) ⟨hx, hb, hml, hown, hg⟩ (k_F_X12_isOne l D cs A bd u b bw  p1 hR.1) ca_X12_isOne q6_7 ⟨rfl, rfl⟩ ⟨Nat.le_of_ble_eq_true rfl, Nat.le_of_ble_eq_true rfl⟩ (rc_model hK hP) hK hP hD hS hZ rfl hl.1 rfl (Nat.le_of_ble_eq_true rfl) ⟨Nat.zero_le _, Nat.zero_le _⟩ dX12_loud_2 (fun r_1 wr_1 => ?_)
  have wr_1 : r_1.toInt = 0 := wr_1
  refine lv_if_ne (tgt := 10) hx hb dX12_loud_5 (by decide) (fun c_2 => ?_) (fun c_2 => ?_)
  ·
    have kc_2 : r_1.toInt ≠ (0 : Int) := i_ne c_2
    exfalso; omega
  ·
    have kc_2 : r_1.toInt = (0 : Int) := i_eq c_2
    refine lv_iconst (v := (-1)) hx hb dX12_loud_8 (by decide) ?_
    have q0_m1 : ((-1) : Int32).toInt = (-1) := rfl
    exact W.iret (v := (-1)) hx hb hr (fun tt ht hW => ⟨(-1), rfl, (by first | rfl | omega | trivial | assumption), ht⟩) (fun _ h => by cases h) dX12_loud_9
set_option maxHeartbeats 4000000 in
set_option maxRecDepth 100000 in
theorem k_F_X12_day (l : Launch) (D : va_G) (cs : Nat → ClassId) (A : Nat → Prop) (bd : Nat → Nat) (u : Nat → Int32) (b : Nat → Nat → Int32) (bw : Nat → Nat → Int64)  (p1 : Int32) (p2 : Int32) (p3 : Int32) (hR : FrR u b) : Met l yX12_day (Cond.code yX12_day cX12_day 4 (some .int) :: gw) ({ frames := 2, cells := 0, slots := 0, locals := 42 }) (va_Pc [.ref (bd 0), .int p1, .int p2, .int p3] (XPre D (TY cs) (RW cs bd u b bw) A)) (vp_Si (fun (r : Int32) => ((0 ≤ p1.toInt ∧ p1.toInt < 6 ∧ 0 ≤ p2.toInt ∧ p2.toInt ≤ 24 ∧ 0 ≤ p3.toInt ∧ p3.toInt ≤ 2) ∧ r.toInt = -11) ∨ (¬ (0 ≤ p1.toInt ∧ p1.toInt < 6 ∧ 0 ≤ p2.toInt ∧ p2.toInt ≤ 24 ∧ 0 ≤ p3.toInt ∧ p3.toInt ≤ 2) ∧ r.toInt = -1))) 0 0 (fun _ => False) := by
  refine Met.ofW (cc := cX12_day) (maxL := 4) (ret := (some .int)) (by decide) rfl ?_
  intro p e s m args below meth c s₁ B hml hv
  obtain ⟨rfl, hP, hK, hD, hZ⟩ := hv
  have hx := B.exec
  have hb := B.bytes
  have hr := B.returns
  have hts := atoms_spec (ws := (Cond.code yX12_day cX12_day 4 (some .int) :: gw)) B.pre
  have hg : ∀ w ∈ gw, w.before ([.ref (bd 0), .int p1, .int p2, .int p3] : List Value).toArray s = true := fun w h => hts w (List.mem_cons_of_mem _ h)
  have hown : s.vm.findClass RX12 = some m.cls := findClass_of_methodNamed B.named
  have hlocks := B.notSynchronized
  have hS : va_S A s.heap s.heap [] := va_S.rf
  have hu1 : (u 1).toInt = 0 := by rw [hR.1]; rfl
  have q6_0 : (0 : Int32).toInt = 0 := rfl
  have q6_2 : (2 : Int32).toInt = 2 := rfl
  have hl := lv_entry ([.ref (bd 0), .int p1, .int p2, .int p3]) (n := 4) (Nat.le_of_ble_eq_true rfl)
  rw [lg_entry_eq]
  generalize (lg_sl ([.ref (bd 0), .int p1, .int p2, .int p3]) ++ List.replicate (4 - (lg_sl ([.ref (bd 0), .int p1, .int p2, .int p3])).length) Slot.unset).toArray = ls at hl ⊢
  have hl : lv_has ls 4 [(0, .ref (bd 0)), (1, .int p1), (2, .int p2), (3, .int p3)] := hl
  refine lv_iload_n hx hb dX12_day_0 rfl (lv_at hl 1 rfl) ?_
  refine cS_p (As := [.int p1]) (rest := []) ⟨hx, hb, hml, hown, hg⟩ (k_X12_isShelf l   p1 ) ca_X12_isShelf q5_223 ⟨rfl, rfl⟩ ⟨Nat.le_of_ble_eq_true rfl, Nat.le_of_ble_eq_true rfl⟩ rfl hl.1 rfl (Nat.le_of_ble_eq_true rfl) ⟨Nat.zero_le _, Nat.zero_le _⟩ dX12_day_1 (fun r_1 wr_1 => ?_)
  have wr_1 : (r_1.toInt = 1 ∧ 0 ≤ p1.toInt ∧ p1.toInt < 6) ∨ (r_1.toInt = 0 ∧ ¬ (0 ≤ p1.toInt ∧ p1.toInt < 6)) := wr_1
  refine lv_if_eq (tgt := 23) hx hb dX12_day_4 (by decide) (fun c_2 => ?_) (fun c_2 => ?_)
  ·
    have kc_2 : r_1.toInt = (0 : Int) := i_eq c_2
    refine lv_iconst (v := (-1)) hx hb dX12_day_23 (by decide) ?_
    have q0_m1 : ((-1) : Int32).toInt = (-1) := rfl
    exact W.iret (v := (-1)) hx hb hr (fun tt ht hW => ⟨(-1), rfl, (by first | rfl | omega | trivial | assumption), ht⟩) (fun _ h => by cases h) dX12_day_24
  ·
    have kc_2 : r_1.toInt ≠ (0 : Int) := i_ne c_2
    refine lv_iload_n hx hb dX12_day_7 rfl (lv_at hl 2 rfl) ?_
    refine cS_p (As := [.int p2]) (rest := []) ⟨hx, hb, hml, hown, hg⟩ (k_X12_areMany l   p2 ) ca_X12_areMany q6_129 ⟨rfl, rfl⟩ ⟨Nat.le_of_ble_eq_true rfl, Nat.le_of_ble_eq_true rfl⟩ rfl hl.1 rfl (Nat.le_of_ble_eq_true rfl) ⟨Nat.zero_le _, Nat.zero_le _⟩ dX12_day_8 (fun r_3 wr_3 => ?_)
    have wr_3 : (r_3.toInt = 1 ∧ 0 ≤ p2.toInt ∧ p2.toInt ≤ 24) ∨ (r_3.toInt = 0 ∧ ¬ (0 ≤ p2.toInt ∧ p2.toInt ≤ 24)) := wr_3
    refine lv_if_eq (tgt := 23) hx hb dX12_day_11 (by decide) (fun c_4 => ?_) (fun c_4 => ?_)
    ·
      have kc_4 : r_3.toInt = (0 : Int) := i_eq c_4
      refine lv_iconst (v := (-1)) hx hb dX12_day_23 (by decide) ?_
      have q0_m1 : ((-1) : Int32).toInt = (-1) := rfl
      exact W.iret (v := (-1)) hx hb hr (fun tt ht hW => ⟨(-1), rfl, (by first | rfl | omega | trivial | assumption), ht⟩) (fun _ h => by cases h) dX12_day_24
    ·
      have kc_4 : r_3.toInt ≠ (0 : Int) := i_ne c_4
      refine lv_iload_n hx hb dX12_day_14 rfl (lv_at hl 3 rfl) ?_
      refine lv_iconst (v := 0) hx hb dX12_day_15 (by decide) ?_
      refine lv_iconst (v := 2) hx hb dX12_day_16 (by decide) ?_
      refine cS_p (As := [.int p3, .int 0, .int 2]) (rest := []) ⟨hx, hb, hml, hown, hg⟩ (k_X12_in l   p3 0 2 ) ca_X12_in q5_212 ⟨rfl, rfl⟩ ⟨Nat.le_of_ble_eq_true rfl, Nat.le_of_ble_eq_true rfl⟩ rfl hl.1 rfl (Nat.le_of_ble_eq_true rfl) ⟨Nat.zero_le _, Nat.zero_le _⟩ dX12_day_17 (fun r_5 wr_5 => ?_)
      have wr_5 : (r_5.toInt = 1 ∧ (0 : Int) ≤ p3.toInt ∧ p3.toInt ≤ (2 : Int)) ∨ (r_5.toInt = 0 ∧ ¬ ((0 : Int) ≤ p3.toInt ∧ p3.toInt ≤ (2 : Int))) := wr_5
      refine lv_if_ne (tgt := 25) hx hb dX12_day_20 (by decide) (fun c_6 => ?_) (fun c_6 => ?_)
      ·
        have kc_6 : r_5.toInt ≠ (0 : Int) := i_ne c_6
        refine lv_aload_n hx hb dX12_day_25 rfl (lv_at hl 0 rfl) ?_
        refine lv_iload_n hx hb dX12_day_26 rfl (lv_at hl 1 rfl) ?_
        refine lv_iconst (v := 0) hx hb dX12_day_27 (by decide) ?_
        refine cV_ro (As := [.int p1, .int 0]) (rest := []) ⟨hx, hb, hml, hown, hg⟩ (k_F_X12_rowFault l D cs A bd u b bw  p1 0 hR (show 0 ≤ p1.toInt by first | omega | decide) (show p1.toInt < 6 by first | omega | decide)) ca_X12_rowFault q6_132 ⟨rfl, rfl⟩ ⟨Nat.le_of_ble_eq_true rfl, Nat.le_of_ble_eq_true rfl⟩ (rc_model hK hP) hK hP hD hS hZ rfl hl.1 rfl (Nat.le_of_ble_eq_true rfl) ⟨Nat.zero_le _, Nat.zero_le _⟩ dX12_day_28 (fun r_7 wr_7 => ?_)
        have wr_7 : r_7.toInt = -11 := wr_7
        refine lv_if_ge (tgt := 41) hx hb dX12_day_31 (by decide) (fun c_8 => ?_) (fun c_8 => ?_)
        ·
          have kc_8 : (0 : Int) ≤ r_7.toInt := i_le c_8
          exfalso; omega
        ·
          have kc_8 : r_7.toInt < (0 : Int) := i_nle c_8
          refine lv_aload_n hx hb dX12_day_34 rfl (lv_at hl 0 rfl) ?_
          refine lv_iload_n hx hb dX12_day_35 rfl (lv_at hl 1 rfl) ?_
          refine lv_iconst (v := 0) hx hb dX12_day_36 (by decide) ?_
          refine cV_ro (As := [.int p1, .int 0]) (rest := []) ⟨hx, hb, hml, hown, hg⟩ (k_F_X12_rowFault l D cs A bd u b bw  p1 0 hR (show 0 ≤ p1.toInt by first | omega | decide) (show p1.toInt < 6 by first | omega | decide)) ca_X12_rowFault q6_132 ⟨rfl, rfl⟩ ⟨Nat.le_of_ble_eq_true rfl, Nat.le_of_ble_eq_true rfl⟩ (rc_model hK hP) hK hP hD hS hZ rfl hl.1 rfl (Nat.le_of_ble_eq_true rfl) ⟨Nat.zero_le _, Nat.zero_le _⟩ dX12_day_37 (fun r_9 wr_9 => ?_)
          have wr_9 : r_9.toInt = -11 := wr_9
          exact W.iret (v := r_9) hx hb hr (fun tt ht hW => ⟨r_9, rfl, (by first | rfl | omega | trivial | assumption), ht⟩) (fun _ h => by cases h) dX12_day_40
      ·
        have kc_6 : r_5.toInt = (0 : Int) := i_eq c_6
        refine lv_iconst (v := (-1)) hx hb dX12_day_23 (by decide) ?_
        have q0_m1 : ((-1) : Int32).toInt = (-1) := rfl
        exact W.iret (v := (-1)) hx hb hr (fun tt ht hW => ⟨(-1), rfl, (by first | rfl | omega | trivial | assumption), ht⟩) (fun _ h => by cases h) dX12_day_24
set_option maxHeartbeats 4000000 in
set_option maxRecDepth 100000 in
theorem k_F_X12_stung (l : Launch) (D : va_G) (cs : Nat → ClassId) (A : Nat → Prop) (bd : Nat → Nat) (u : Nat → Int32) (b : Nat → Nat → Int32) (bw : Nat → Nat → Int64)  (p1 : Int32) (p2 : Int32) (p3 : Int32) (p4 : Int32) (hR : FrR u b) : Met l yX12_stung (Cond.code yX12_stung cX12_stung 5 (some .int) :: gw) ({ frames := 2, cells := 0, slots := 0, locals := 43 }) (va_Pc [.ref (bd 0), .int p1, .int p2, .int p3, .int p4] (XPre D (TY cs) (RW cs bd u b bw) A)) (vp_Si (fun (r : Int32) => r.toInt = -1)) 0 0 (fun _ => False) := by
  refine Met.ofW (cc := cX12_stung) (maxL := 5) (ret := (some .int)) (by decide) rfl ?_
  intro p e s m args below meth c s₁ B hml hv
  obtain ⟨rfl, hP, hK, hD, hZ⟩ := hv
  have hx := B.exec
  have hb := B.bytes
  have hr := B.returns
  have hts := atoms_spec (ws := (Cond.code yX12_stung cX12_stung 5 (some .int) :: gw)) B.pre
  have hg : ∀ w ∈ gw, w.before ([.ref (bd 0), .int p1, .int p2, .int p3, .int p4] : List Value).toArray s = true := fun w h => hts w (List.mem_cons_of_mem _ h)
  have hown : s.vm.findClass RX12 = some m.cls := findClass_of_methodNamed B.named
  have hlocks := B.notSynchronized
  have hS : va_S A s.heap s.heap [] := va_S.rf
  have hu1 : (u 1).toInt = 0 := by rw [hR.1]; rfl
  have q6_0 : (0 : Int32).toInt = 0 := rfl
  have q6_2 : (2 : Int32).toInt = 2 := rfl
  have hl := lv_entry ([.ref (bd 0), .int p1, .int p2, .int p3, .int p4]) (n := 5) (Nat.le_of_ble_eq_true rfl)
  rw [lg_entry_eq]
  generalize (lg_sl ([.ref (bd 0), .int p1, .int p2, .int p3, .int p4]) ++ List.replicate (5 - (lg_sl ([.ref (bd 0), .int p1, .int p2, .int p3, .int p4])).length) Slot.unset).toArray = ls at hl ⊢
  have hl : lv_has ls 5 [(0, .ref (bd 0)), (1, .int p1), (2, .int p2), (3, .int p3), (4, .int p4)] := hl
  refine lv_iload_n hx hb dX12_stung_0 rfl (lv_at hl 1 rfl) ?_
  refine cS_p (As := [.int p1]) (rest := []) ⟨hx, hb, hml, hown, hg⟩ (k_X12_isShelf l   p1 ) ca_X12_isShelf q5_223 ⟨rfl, rfl⟩ ⟨Nat.le_of_ble_eq_true rfl, Nat.le_of_ble_eq_true rfl⟩ rfl hl.1 rfl (Nat.le_of_ble_eq_true rfl) ⟨Nat.zero_le _, Nat.zero_le _⟩ dX12_stung_1 (fun r_1 wr_1 => ?_)
  have wr_1 : (r_1.toInt = 1 ∧ 0 ≤ p1.toInt ∧ p1.toInt < 6) ∨ (r_1.toInt = 0 ∧ ¬ (0 ≤ p1.toInt ∧ p1.toInt < 6)) := wr_1
  refine lv_if_eq (tgt := 32) hx hb dX12_stung_4 (by decide) (fun c_2 => ?_) (fun c_2 => ?_)
  ·
    have kc_2 : r_1.toInt = (0 : Int) := i_eq c_2
    refine lv_iconst (v := (-1)) hx hb dX12_stung_32 (by decide) ?_
    have q0_m1 : ((-1) : Int32).toInt = (-1) := rfl
    exact W.iret (v := (-1)) hx hb hr (fun tt ht hW => ⟨(-1), rfl, (by first | rfl | omega | trivial | assumption), ht⟩) (fun _ h => by cases h) dX12_stung_33
  ·
    have kc_2 : r_1.toInt ≠ (0 : Int) := i_ne c_2
    refine lv_iload_n hx hb dX12_stung_7 rfl (lv_at hl 2 rfl) ?_
    refine cS_p (As := [.int p2]) (rest := []) ⟨hx, hb, hml, hown, hg⟩ (k_X12_areMany l   p2 ) ca_X12_areMany q6_129 ⟨rfl, rfl⟩ ⟨Nat.le_of_ble_eq_true rfl, Nat.le_of_ble_eq_true rfl⟩ rfl hl.1 rfl (Nat.le_of_ble_eq_true rfl) ⟨Nat.zero_le _, Nat.zero_le _⟩ dX12_stung_8 (fun r_3 wr_3 => ?_)
    have wr_3 : (r_3.toInt = 1 ∧ 0 ≤ p2.toInt ∧ p2.toInt ≤ 24) ∨ (r_3.toInt = 0 ∧ ¬ (0 ≤ p2.toInt ∧ p2.toInt ≤ 24)) := wr_3
    refine lv_if_eq (tgt := 32) hx hb dX12_stung_11 (by decide) (fun c_4 => ?_) (fun c_4 => ?_)
    ·
      have kc_4 : r_3.toInt = (0 : Int) := i_eq c_4
      refine lv_iconst (v := (-1)) hx hb dX12_stung_32 (by decide) ?_
      have q0_m1 : ((-1) : Int32).toInt = (-1) := rfl
      exact W.iret (v := (-1)) hx hb hr (fun tt ht hW => ⟨(-1), rfl, (by first | rfl | omega | trivial | assumption), ht⟩) (fun _ h => by cases h) dX12_stung_33
    ·
      have kc_4 : r_3.toInt ≠ (0 : Int) := i_ne c_4
      refine lv_aload_n hx hb dX12_stung_14 rfl (lv_at hl 0 rfl) ?_
      refine lv_iload_n hx hb dX12_stung_15 rfl (lv_at hl 3 rfl) ?_
      refine cV_ro (As := [.int p3]) (rest := []) ⟨hx, hb, hml, hown, hg⟩ (k_F_X12_isOne l D cs A bd u b bw  p3 hR.1) ca_X12_isOne q6_7 ⟨rfl, rfl⟩ ⟨Nat.le_of_ble_eq_true rfl, Nat.le_of_ble_eq_true rfl⟩ (rc_model hK hP) hK hP hD hS hZ rfl hl.1 rfl (Nat.le_of_ble_eq_true rfl) ⟨Nat.zero_le _, Nat.zero_le _⟩ dX12_stung_16 (fun r_5 wr_5 => ?_)
      have wr_5 : r_5.toInt = 0 := wr_5
      refine lv_if_eq (tgt := 32) hx hb dX12_stung_19 (by decide) (fun c_6 => ?_) (fun c_6 => ?_)
      ·
        have kc_6 : r_5.toInt = (0 : Int) := i_eq c_6
        refine lv_iconst (v := (-1)) hx hb dX12_stung_32 (by decide) ?_
        have q0_m1 : ((-1) : Int32).toInt = (-1) := rfl
        exact W.iret (v := (-1)) hx hb hr (fun tt ht hW => ⟨(-1), rfl, (by first | rfl | omega | trivial | assumption), ht⟩) (fun _ h => by cases h) dX12_stung_33
      ·
        have kc_6 : r_5.toInt ≠ (0 : Int) := i_ne c_6
        exfalso; omega
set_option maxHeartbeats 4000000 in
set_option maxRecDepth 100000 in
theorem k_F_X12_soon (l : Launch) (D : va_G) (cs : Nat → ClassId) (A : Nat → Prop) (bd : Nat → Nat) (u : Nat → Int32) (b : Nat → Nat → Int32) (bw : Nat → Nat → Int64)  (p1 : Int32) (hR : FrR u b) : Met l yX12_soon (Cond.code yX12_soon cX12_soon 2 (some .int) :: gw) ({ frames := 2, cells := 0, slots := 0, locals := 43 }) (va_Pc [.ref (bd 0), .int p1] (XPre D (TY cs) (RW cs bd u b bw) A)) (vp_Si (fun (r : Int32) => r.toInt = -1)) 0 0 (fun _ => False) := by
  refine Met.ofW (cc := cX12_soon) (maxL := 2) (ret := (some .int)) (by decide) rfl ?_
  intro p e s m args below meth c s₁ B hml hv
  obtain ⟨rfl, hP, hK, hD, hZ⟩ := hv
  have hx := B.exec
  have hb := B.bytes
  have hr := B.returns
  have hts := atoms_spec (ws := (Cond.code yX12_soon cX12_soon 2 (some .int) :: gw)) B.pre
  have hg : ∀ w ∈ gw, w.before ([.ref (bd 0), .int p1] : List Value).toArray s = true := fun w h => hts w (List.mem_cons_of_mem _ h)
  have hown : s.vm.findClass RX12 = some m.cls := findClass_of_methodNamed B.named
  have hlocks := B.notSynchronized
  have hS : va_S A s.heap s.heap [] := va_S.rf
  have hu1 : (u 1).toInt = 0 := by rw [hR.1]; rfl
  have q6_0 : (0 : Int32).toInt = 0 := rfl
  have q6_2 : (2 : Int32).toInt = 2 := rfl
  have hl := lv_entry ([.ref (bd 0), .int p1]) (n := 2) (Nat.le_of_ble_eq_true rfl)
  rw [lg_entry_eq]
  generalize (lg_sl ([.ref (bd 0), .int p1]) ++ List.replicate (2 - (lg_sl ([.ref (bd 0), .int p1])).length) Slot.unset).toArray = ls at hl ⊢
  have hl : lv_has ls 2 [(0, .ref (bd 0)), (1, .int p1)] := hl
  refine lv_aload_n hx hb dX12_soon_0 rfl (lv_at hl 0 rfl) ?_
  refine lv_iload_n hx hb dX12_soon_1 rfl (lv_at hl 1 rfl) ?_
  refine cV_ro (As := [.int p1]) (rest := []) ⟨hx, hb, hml, hown, hg⟩ (k_F_X12_isOne l D cs A bd u b bw  p1 hR.1) ca_X12_isOne q6_7 ⟨rfl, rfl⟩ ⟨Nat.le_of_ble_eq_true rfl, Nat.le_of_ble_eq_true rfl⟩ (rc_model hK hP) hK hP hD hS hZ rfl hl.1 rfl (Nat.le_of_ble_eq_true rfl) ⟨Nat.zero_le _, Nat.zero_le _⟩ dX12_soon_2 (fun r_1 wr_1 => ?_)
  have wr_1 : r_1.toInt = 0 := wr_1
  refine lv_if_ne (tgt := 10) hx hb dX12_soon_5 (by decide) (fun c_2 => ?_) (fun c_2 => ?_)
  ·
    have kc_2 : r_1.toInt ≠ (0 : Int) := i_ne c_2
    exfalso; omega
  ·
    have kc_2 : r_1.toInt = (0 : Int) := i_eq c_2
    refine lv_iconst (v := (-1)) hx hb dX12_soon_8 (by decide) ?_
    have q0_m1 : ((-1) : Int32).toInt = (-1) := rfl
    exact W.iret (v := (-1)) hx hb hr (fun tt ht hW => ⟨(-1), rfl, (by first | rfl | omega | trivial | assumption), ht⟩) (fun _ h => by cases h) dX12_soon_9
set_option maxHeartbeats 4000000 in
set_option maxRecDepth 100000 in
theorem k_F_X12_passOn (l : Launch) (D : va_G) (cs : Nat → ClassId) (A : Nat → Prop) (bd : Nat → Nat) (u : Nat → Int32) (b : Nat → Nat → Int32) (bw : Nat → Nat → Int64)  (p1 : Int32) (p2 : Int32) (p3 : Int32) (hR : FrR u b) : Met l yX12_passOn (Cond.code yX12_passOn cX12_passOn 8 (some .int) :: gw) ({ frames := 2, cells := 0, slots := 0, locals := 43 }) (va_Pc [.ref (bd 0), .int p1, .int p2, .int p3] (XPre D (TY cs) (RW cs bd u b bw) A)) (vp_Si (fun (r : Int32) => r.toInt = -1)) 0 0 (fun _ => False) := by
  refine Met.ofW (cc := cX12_passOn) (maxL := 8) (ret := (some .int)) (by decide) rfl ?_
  intro p e s m args below meth c s₁ B hml hv
  obtain ⟨rfl, hP, hK, hD, hZ⟩ := hv
  have hx := B.exec
  have hb := B.bytes
  have hr := B.returns
  have hts := atoms_spec (ws := (Cond.code yX12_passOn cX12_passOn 8 (some .int) :: gw)) B.pre
  have hg : ∀ w ∈ gw, w.before ([.ref (bd 0), .int p1, .int p2, .int p3] : List Value).toArray s = true := fun w h => hts w (List.mem_cons_of_mem _ h)
  have hown : s.vm.findClass RX12 = some m.cls := findClass_of_methodNamed B.named
  have hlocks := B.notSynchronized
  have hS : va_S A s.heap s.heap [] := va_S.rf
  have hu1 : (u 1).toInt = 0 := by rw [hR.1]; rfl
  have q6_0 : (0 : Int32).toInt = 0 := rfl
  have q6_2 : (2 : Int32).toInt = 2 := rfl
  have hl := lv_entry ([.ref (bd 0), .int p1, .int p2, .int p3]) (n := 8) (Nat.le_of_ble_eq_true rfl)
  rw [lg_entry_eq]
  generalize (lg_sl ([.ref (bd 0), .int p1, .int p2, .int p3]) ++ List.replicate (8 - (lg_sl ([.ref (bd 0), .int p1, .int p2, .int p3])).length) Slot.unset).toArray = ls at hl ⊢
  have hl : lv_has ls 8 [(0, .ref (bd 0)), (1, .int p1), (2, .int p2), (3, .int p3)] := hl
  refine lv_iload_n hx hb dX12_passOn_0 rfl (lv_at hl 1 rfl) ?_
  refine cS_p (As := [.int p1]) (rest := []) ⟨hx, hb, hml, hown, hg⟩ (k_X12_isShelf l   p1 ) ca_X12_isShelf q5_223 ⟨rfl, rfl⟩ ⟨Nat.le_of_ble_eq_true rfl, Nat.le_of_ble_eq_true rfl⟩ rfl hl.1 rfl (Nat.le_of_ble_eq_true rfl) ⟨Nat.zero_le _, Nat.zero_le _⟩ dX12_passOn_1 (fun r_1 wr_1 => ?_)
  have wr_1 : (r_1.toInt = 1 ∧ 0 ≤ p1.toInt ∧ p1.toInt < 6) ∨ (r_1.toInt = 0 ∧ ¬ (0 ≤ p1.toInt ∧ p1.toInt < 6)) := wr_1
  refine lv_if_eq (tgt := 24) hx hb dX12_passOn_4 (by decide) (fun c_2 => ?_) (fun c_2 => ?_)
  ·
    have kc_2 : r_1.toInt = (0 : Int) := i_eq c_2
    refine lv_iconst (v := (-1)) hx hb dX12_passOn_24 (by decide) ?_
    have q0_m1 : ((-1) : Int32).toInt = (-1) := rfl
    exact W.iret (v := (-1)) hx hb hr (fun tt ht hW => ⟨(-1), rfl, (by first | rfl | omega | trivial | assumption), ht⟩) (fun _ h => by cases h) dX12_passOn_25
  ·
    have kc_2 : r_1.toInt ≠ (0 : Int) := i_ne c_2
    refine lv_aload_n hx hb dX12_passOn_7 rfl (lv_at hl 0 rfl) ?_
    refine lv_iload_n hx hb dX12_passOn_8 rfl (lv_at hl 2 rfl) ?_
    refine cV_ro (As := [.int p2]) (rest := []) ⟨hx, hb, hml, hown, hg⟩ (k_F_X12_isOne l D cs A bd u b bw  p2 hR.1) ca_X12_isOne q6_7 ⟨rfl, rfl⟩ ⟨Nat.le_of_ble_eq_true rfl, Nat.le_of_ble_eq_true rfl⟩ (rc_model hK hP) hK hP hD hS hZ rfl hl.1 rfl (Nat.le_of_ble_eq_true rfl) ⟨Nat.zero_le _, Nat.zero_le _⟩ dX12_passOn_9 (fun r_3 wr_3 => ?_)
    have wr_3 : r_3.toInt = 0 := wr_3
    refine lv_if_eq (tgt := 24) hx hb dX12_passOn_12 (by decide) (fun c_4 => ?_) (fun c_4 => ?_)
    ·
      have kc_4 : r_3.toInt = (0 : Int) := i_eq c_4
      refine lv_iconst (v := (-1)) hx hb dX12_passOn_24 (by decide) ?_
      have q0_m1 : ((-1) : Int32).toInt = (-1) := rfl
      exact W.iret (v := (-1)) hx hb hr (fun tt ht hW => ⟨(-1), rfl, (by first | rfl | omega | trivial | assumption), ht⟩) (fun _ h => by cases h) dX12_passOn_25
    ·
      have kc_4 : r_3.toInt ≠ (0 : Int) := i_ne c_4
      exfalso; omega
set_option maxHeartbeats 4000000 in
set_option maxRecDepth 100000 in
theorem k_F_X12_orders (l : Launch) (D : va_G) (cs : Nat → ClassId) (A : Nat → Prop) (bd : Nat → Nat) (u : Nat → Int32) (b : Nat → Nat → Int32) (bw : Nat → Nat → Int64)  (p1 : Int32) (p2 : Int32) (hR : FrR u b) : Met l yX12_orders (Cond.code yX12_orders cX12_orders 3 (some .int) :: gw) ({ frames := 2, cells := 0, slots := 0, locals := 42 }) (va_Pc [.ref (bd 0), .int p1, .int p2] (XPre D (TY cs) (RW cs bd u b bw) A)) (vp_Si (fun (r : Int32) => ((0 ≤ p1.toInt ∧ p1.toInt < 6 ∧ -2 ≤ p2.toInt) ∧ r.toInt = -11) ∨ (¬ (0 ≤ p1.toInt ∧ p1.toInt < 6 ∧ -2 ≤ p2.toInt) ∧ r.toInt = -1))) 0 0 (fun _ => False) := by
  refine Met.ofW (cc := cX12_orders) (maxL := 3) (ret := (some .int)) (by decide) rfl ?_
  intro p e s m args below meth c s₁ B hml hv
  obtain ⟨rfl, hP, hK, hD, hZ⟩ := hv
  have hx := B.exec
  have hb := B.bytes
  have hr := B.returns
  have hts := atoms_spec (ws := (Cond.code yX12_orders cX12_orders 3 (some .int) :: gw)) B.pre
  have hg : ∀ w ∈ gw, w.before ([.ref (bd 0), .int p1, .int p2] : List Value).toArray s = true := fun w h => hts w (List.mem_cons_of_mem _ h)
  have hown : s.vm.findClass RX12 = some m.cls := findClass_of_methodNamed B.named
  have hlocks := B.notSynchronized
  have hS : va_S A s.heap s.heap [] := va_S.rf
  have hu1 : (u 1).toInt = 0 := by rw [hR.1]; rfl
  have q6_0 : (0 : Int32).toInt = 0 := rfl
  have q6_2 : (2 : Int32).toInt = 2 := rfl
  have hl := lv_entry ([.ref (bd 0), .int p1, .int p2]) (n := 3) (Nat.le_of_ble_eq_true rfl)
  rw [lg_entry_eq]
  generalize (lg_sl ([.ref (bd 0), .int p1, .int p2]) ++ List.replicate (3 - (lg_sl ([.ref (bd 0), .int p1, .int p2])).length) Slot.unset).toArray = ls at hl ⊢
  have hl : lv_has ls 3 [(0, .ref (bd 0)), (1, .int p1), (2, .int p2)] := hl
  refine lv_iload_n hx hb dX12_orders_0 rfl (lv_at hl 1 rfl) ?_
  refine cS_p (As := [.int p1]) (rest := []) ⟨hx, hb, hml, hown, hg⟩ (k_X12_isShelf l   p1 ) ca_X12_isShelf q5_223 ⟨rfl, rfl⟩ ⟨Nat.le_of_ble_eq_true rfl, Nat.le_of_ble_eq_true rfl⟩ rfl hl.1 rfl (Nat.le_of_ble_eq_true rfl) ⟨Nat.zero_le _, Nat.zero_le _⟩ dX12_orders_1 (fun r_1 wr_1 => ?_)
  have wr_1 : (r_1.toInt = 1 ∧ 0 ≤ p1.toInt ∧ p1.toInt < 6) ∨ (r_1.toInt = 0 ∧ ¬ (0 ≤ p1.toInt ∧ p1.toInt < 6)) := wr_1
  refine lv_if_eq (tgt := 13) hx hb dX12_orders_4 (by decide) (fun c_2 => ?_) (fun c_2 => ?_)
  ·
    have kc_2 : r_1.toInt = (0 : Int) := i_eq c_2
    refine lv_iconst (v := (-1)) hx hb dX12_orders_13 (by decide) ?_
    have q0_m1 : ((-1) : Int32).toInt = (-1) := rfl
    exact W.iret (v := (-1)) hx hb hr (fun tt ht hW => ⟨(-1), rfl, (by first | rfl | omega | trivial | assumption), ht⟩) (fun _ h => by cases h) dX12_orders_14
  ·
    have kc_2 : r_1.toInt ≠ (0 : Int) := i_ne c_2
    refine lv_iload_n hx hb dX12_orders_7 rfl (lv_at hl 2 rfl) ?_
    refine lv_bipush (v := (-2)) hx hb dX12_orders_8 (by decide) ?_
    refine lv_icmp_ge (tgt := 15) hx hb dX12_orders_10 (by decide) (fun c_3 => ?_) (fun c_3 => ?_)
    ·
      have kc_3 : (-2 : Int) ≤ p2.toInt := i_le c_3
      refine lv_aload_n hx hb dX12_orders_15 rfl (lv_at hl 0 rfl) ?_
      refine lv_iload_n hx hb dX12_orders_16 rfl (lv_at hl 1 rfl) ?_
      refine lv_iconst (v := 0) hx hb dX12_orders_17 (by decide) ?_
      refine cV_ro (As := [.int p1, .int 0]) (rest := []) ⟨hx, hb, hml, hown, hg⟩ (k_F_X12_rowFault l D cs A bd u b bw  p1 0 hR (show 0 ≤ p1.toInt by first | omega | decide) (show p1.toInt < 6 by first | omega | decide)) ca_X12_rowFault q6_132 ⟨rfl, rfl⟩ ⟨Nat.le_of_ble_eq_true rfl, Nat.le_of_ble_eq_true rfl⟩ (rc_model hK hP) hK hP hD hS hZ rfl hl.1 rfl (Nat.le_of_ble_eq_true rfl) ⟨Nat.zero_le _, Nat.zero_le _⟩ dX12_orders_18 (fun r_4 wr_4 => ?_)
      have wr_4 : r_4.toInt = -11 := wr_4
      refine lv_if_ge (tgt := 31) hx hb dX12_orders_21 (by decide) (fun c_5 => ?_) (fun c_5 => ?_)
      ·
        have kc_5 : (0 : Int) ≤ r_4.toInt := i_le c_5
        exfalso; omega
      ·
        have kc_5 : r_4.toInt < (0 : Int) := i_nle c_5
        refine lv_aload_n hx hb dX12_orders_24 rfl (lv_at hl 0 rfl) ?_
        refine lv_iload_n hx hb dX12_orders_25 rfl (lv_at hl 1 rfl) ?_
        refine lv_iconst (v := 0) hx hb dX12_orders_26 (by decide) ?_
        refine cV_ro (As := [.int p1, .int 0]) (rest := []) ⟨hx, hb, hml, hown, hg⟩ (k_F_X12_rowFault l D cs A bd u b bw  p1 0 hR (show 0 ≤ p1.toInt by first | omega | decide) (show p1.toInt < 6 by first | omega | decide)) ca_X12_rowFault q6_132 ⟨rfl, rfl⟩ ⟨Nat.le_of_ble_eq_true rfl, Nat.le_of_ble_eq_true rfl⟩ (rc_model hK hP) hK hP hD hS hZ rfl hl.1 rfl (Nat.le_of_ble_eq_true rfl) ⟨Nat.zero_le _, Nat.zero_le _⟩ dX12_orders_27 (fun r_6 wr_6 => ?_)
        have wr_6 : r_6.toInt = -11 := wr_6
        exact W.iret (v := r_6) hx hb hr (fun tt ht hW => ⟨r_6, rfl, (by first | rfl | omega | trivial | assumption), ht⟩) (fun _ h => by cases h) dX12_orders_30
    ·
      have kc_3 : p2.toInt < (-2 : Int) := i_nle c_3
      refine lv_iconst (v := (-1)) hx hb dX12_orders_13 (by decide) ?_
      have q0_m1 : ((-1) : Int32).toInt = (-1) := rfl
      exact W.iret (v := (-1)) hx hb hr (fun tt ht hW => ⟨(-1), rfl, (by first | rfl | omega | trivial | assumption), ht⟩) (fun _ h => by cases h) dX12_orders_14
set_option maxHeartbeats 4000000 in
set_option maxRecDepth 100000 in
theorem k_F_X12_stand (l : Launch) (D : va_G) (cs : Nat → ClassId) (A : Nat → Prop) (bd : Nat → Nat) (u : Nat → Int32) (b : Nat → Nat → Int32) (bw : Nat → Nat → Int64)  (p1 : Int32) (p2 : Int32) (p3 : Int32) (hR : FrR u b) : Met l yX12_stand (Cond.code yX12_stand cX12_stand 8 (some .int) :: gw) ({ frames := 2, cells := 0, slots := 0, locals := 43 }) (va_Pc [.ref (bd 0), .int p1, .int p2, .int p3] (XPre D (TY cs) (RW cs bd u b bw) A)) (vp_Si (fun (r : Int32) => r.toInt = -1)) 0 0 (fun _ => False) := by
  refine Met.ofW (cc := cX12_stand) (maxL := 8) (ret := (some .int)) (by decide) rfl ?_
  intro p e s m args below meth c s₁ B hml hv
  obtain ⟨rfl, hP, hK, hD, hZ⟩ := hv
  have hx := B.exec
  have hb := B.bytes
  have hr := B.returns
  have hts := atoms_spec (ws := (Cond.code yX12_stand cX12_stand 8 (some .int) :: gw)) B.pre
  have hg : ∀ w ∈ gw, w.before ([.ref (bd 0), .int p1, .int p2, .int p3] : List Value).toArray s = true := fun w h => hts w (List.mem_cons_of_mem _ h)
  have hown : s.vm.findClass RX12 = some m.cls := findClass_of_methodNamed B.named
  have hlocks := B.notSynchronized
  have hS : va_S A s.heap s.heap [] := va_S.rf
  have hu1 : (u 1).toInt = 0 := by rw [hR.1]; rfl
  have q6_0 : (0 : Int32).toInt = 0 := rfl
  have q6_2 : (2 : Int32).toInt = 2 := rfl
  have hl := lv_entry ([.ref (bd 0), .int p1, .int p2, .int p3]) (n := 8) (Nat.le_of_ble_eq_true rfl)
  rw [lg_entry_eq]
  generalize (lg_sl ([.ref (bd 0), .int p1, .int p2, .int p3]) ++ List.replicate (8 - (lg_sl ([.ref (bd 0), .int p1, .int p2, .int p3])).length) Slot.unset).toArray = ls at hl ⊢
  have hl : lv_has ls 8 [(0, .ref (bd 0)), (1, .int p1), (2, .int p2), (3, .int p3)] := hl
  refine lv_iload_n hx hb dX12_stand_0 rfl (lv_at hl 1 rfl) ?_
  refine cS_p (As := [.int p1]) (rest := []) ⟨hx, hb, hml, hown, hg⟩ (k_X12_isShelf l   p1 ) ca_X12_isShelf q5_223 ⟨rfl, rfl⟩ ⟨Nat.le_of_ble_eq_true rfl, Nat.le_of_ble_eq_true rfl⟩ rfl hl.1 rfl (Nat.le_of_ble_eq_true rfl) ⟨Nat.zero_le _, Nat.zero_le _⟩ dX12_stand_1 (fun r_1 wr_1 => ?_)
  have wr_1 : (r_1.toInt = 1 ∧ 0 ≤ p1.toInt ∧ p1.toInt < 6) ∨ (r_1.toInt = 0 ∧ ¬ (0 ≤ p1.toInt ∧ p1.toInt < 6)) := wr_1
  refine lv_if_eq (tgt := 24) hx hb dX12_stand_4 (by decide) (fun c_2 => ?_) (fun c_2 => ?_)
  ·
    have kc_2 : r_1.toInt = (0 : Int) := i_eq c_2
    refine lv_iconst (v := (-1)) hx hb dX12_stand_24 (by decide) ?_
    have q0_m1 : ((-1) : Int32).toInt = (-1) := rfl
    exact W.iret (v := (-1)) hx hb hr (fun tt ht hW => ⟨(-1), rfl, (by first | rfl | omega | trivial | assumption), ht⟩) (fun _ h => by cases h) dX12_stand_25
  ·
    have kc_2 : r_1.toInt ≠ (0 : Int) := i_ne c_2
    refine lv_aload_n hx hb dX12_stand_7 rfl (lv_at hl 0 rfl) ?_
    refine lv_iload_n hx hb dX12_stand_8 rfl (lv_at hl 2 rfl) ?_
    refine cV_ro (As := [.int p2]) (rest := []) ⟨hx, hb, hml, hown, hg⟩ (k_F_X12_isOne l D cs A bd u b bw  p2 hR.1) ca_X12_isOne q6_7 ⟨rfl, rfl⟩ ⟨Nat.le_of_ble_eq_true rfl, Nat.le_of_ble_eq_true rfl⟩ (rc_model hK hP) hK hP hD hS hZ rfl hl.1 rfl (Nat.le_of_ble_eq_true rfl) ⟨Nat.zero_le _, Nat.zero_le _⟩ dX12_stand_9 (fun r_3 wr_3 => ?_)
    have wr_3 : r_3.toInt = 0 := wr_3
    refine lv_if_eq (tgt := 24) hx hb dX12_stand_12 (by decide) (fun c_4 => ?_) (fun c_4 => ?_)
    ·
      have kc_4 : r_3.toInt = (0 : Int) := i_eq c_4
      refine lv_iconst (v := (-1)) hx hb dX12_stand_24 (by decide) ?_
      have q0_m1 : ((-1) : Int32).toInt = (-1) := rfl
      exact W.iret (v := (-1)) hx hb hr (fun tt ht hW => ⟨(-1), rfl, (by first | rfl | omega | trivial | assumption), ht⟩) (fun _ h => by cases h) dX12_stand_25
    ·
      have kc_4 : r_3.toInt ≠ (0 : Int) := i_ne c_4
      exfalso; omega
set_option maxHeartbeats 4000000 in
set_option maxRecDepth 100000 in
theorem k_F_X12_lastWord (l : Launch) (D : va_G) (cs : Nat → ClassId) (A : Nat → Prop) (bd : Nat → Nat) (u : Nat → Int32) (b : Nat → Nat → Int32) (bw : Nat → Nat → Int64)  (p1 : Int32) (p2 : Int32) (p3 : Int32) (hR : FrR u b) : Met l yX12_lastWord (Cond.code yX12_lastWord cX12_lastWord 7 (some .int) :: gw) ({ frames := 3, cells := 0, slots := 0, locals := 64 }) (va_Pc [.ref (bd 0), .int p1, .int p2, .int p3] (XPre D (TY cs) (RW cs bd u b bw) A)) (vp_Si (fun (r : Int32) => r.toInt = -1)) 0 0 (fun _ => False) := by
  refine Met.ofW (cc := cX12_lastWord) (maxL := 7) (ret := (some .int)) (by decide) rfl ?_
  intro p e s m args below meth c s₁ B hml hv
  obtain ⟨rfl, hP, hK, hD, hZ⟩ := hv
  have hx := B.exec
  have hb := B.bytes
  have hr := B.returns
  have hts := atoms_spec (ws := (Cond.code yX12_lastWord cX12_lastWord 7 (some .int) :: gw)) B.pre
  have hg : ∀ w ∈ gw, w.before ([.ref (bd 0), .int p1, .int p2, .int p3] : List Value).toArray s = true := fun w h => hts w (List.mem_cons_of_mem _ h)
  have hown : s.vm.findClass RX12 = some m.cls := findClass_of_methodNamed B.named
  have hlocks := B.notSynchronized
  have hS : va_S A s.heap s.heap [] := va_S.rf
  have hu1 : (u 1).toInt = 0 := by rw [hR.1]; rfl
  have q6_0 : (0 : Int32).toInt = 0 := rfl
  have q6_2 : (2 : Int32).toInt = 2 := rfl
  have hl := lv_entry ([.ref (bd 0), .int p1, .int p2, .int p3]) (n := 7) (Nat.le_of_ble_eq_true rfl)
  rw [lg_entry_eq]
  generalize (lg_sl ([.ref (bd 0), .int p1, .int p2, .int p3]) ++ List.replicate (7 - (lg_sl ([.ref (bd 0), .int p1, .int p2, .int p3])).length) Slot.unset).toArray = ls at hl ⊢
  have hl : lv_has ls 7 [(0, .ref (bd 0)), (1, .int p1), (2, .int p2), (3, .int p3)] := hl
  refine lv_aload_n hx hb dX12_lastWord_0 rfl (lv_at hl 0 rfl) ?_
  refine lv_iload_n hx hb dX12_lastWord_1 rfl (lv_at hl 1 rfl) ?_
  refine cV_ro (As := [.int p1]) (rest := []) ⟨hx, hb, hml, hown, hg⟩ (k_F_X12_areTwo l D cs A bd u b bw  p1 hR) ca_X12_areTwo q6_195 ⟨rfl, rfl⟩ ⟨Nat.le_of_ble_eq_true rfl, Nat.le_of_ble_eq_true rfl⟩ (rc_model hK hP) hK hP hD hS hZ rfl hl.1 rfl (Nat.le_of_ble_eq_true rfl) ⟨Nat.zero_le _, Nat.zero_le _⟩ dX12_lastWord_2 (fun r_1 wr_1 => ?_)
  have wr_1 : r_1.toInt = 0 := wr_1
  refine lv_if_eq (tgt := 27) hx hb dX12_lastWord_5 (by decide) (fun c_2 => ?_) (fun c_2 => ?_)
  ·
    have kc_2 : r_1.toInt = (0 : Int) := i_eq c_2
    refine lv_iconst (v := (-1)) hx hb dX12_lastWord_27 (by decide) ?_
    have q0_m1 : ((-1) : Int32).toInt = (-1) := rfl
    exact W.iret (v := (-1)) hx hb hr (fun tt ht hW => ⟨(-1), rfl, (by first | rfl | omega | trivial | assumption), ht⟩) (fun _ h => by cases h) dX12_lastWord_28
  ·
    have kc_2 : r_1.toInt ≠ (0 : Int) := i_ne c_2
    exfalso; omega
set_option maxHeartbeats 4000000 in
set_option maxRecDepth 100000 in
theorem k_F_X12_crier (l : Launch) (D : va_G) (cs : Nat → ClassId) (A : Nat → Prop) (bd : Nat → Nat) (u : Nat → Int32) (b : Nat → Nat → Int32) (bw : Nat → Nat → Int64)  (p1 : Int32) (p2 : Int32) (hR : FrR u b) : Met l yX12_crier (Cond.code yX12_crier cX12_crier 5 (some .int) :: gw) ({ frames := 2, cells := 0, slots := 0, locals := 43 }) (va_Pc [.ref (bd 0), .int p1, .int p2] (XPre D (TY cs) (RW cs bd u b bw) A)) (vp_Si (fun (r : Int32) => r.toInt = -1)) 0 0 (fun _ => False) := by
  refine Met.ofW (cc := cX12_crier) (maxL := 5) (ret := (some .int)) (by decide) rfl ?_
  intro p e s m args below meth c s₁ B hml hv
  obtain ⟨rfl, hP, hK, hD, hZ⟩ := hv
  have hx := B.exec
  have hb := B.bytes
  have hr := B.returns
  have hts := atoms_spec (ws := (Cond.code yX12_crier cX12_crier 5 (some .int) :: gw)) B.pre
  have hg : ∀ w ∈ gw, w.before ([.ref (bd 0), .int p1, .int p2] : List Value).toArray s = true := fun w h => hts w (List.mem_cons_of_mem _ h)
  have hown : s.vm.findClass RX12 = some m.cls := findClass_of_methodNamed B.named
  have hlocks := B.notSynchronized
  have hS : va_S A s.heap s.heap [] := va_S.rf
  have hu1 : (u 1).toInt = 0 := by rw [hR.1]; rfl
  have q6_0 : (0 : Int32).toInt = 0 := rfl
  have q6_2 : (2 : Int32).toInt = 2 := rfl
  have hl := lv_entry ([.ref (bd 0), .int p1, .int p2]) (n := 5) (Nat.le_of_ble_eq_true rfl)
  rw [lg_entry_eq]
  generalize (lg_sl ([.ref (bd 0), .int p1, .int p2]) ++ List.replicate (5 - (lg_sl ([.ref (bd 0), .int p1, .int p2])).length) Slot.unset).toArray = ls at hl ⊢
  have hl : lv_has ls 5 [(0, .ref (bd 0)), (1, .int p1), (2, .int p2)] := hl
  refine lv_aload_n hx hb dX12_crier_0 rfl (lv_at hl 0 rfl) ?_
  refine lv_iload_n hx hb dX12_crier_1 rfl (lv_at hl 1 rfl) ?_
  refine cV_ro (As := [.int p1]) (rest := []) ⟨hx, hb, hml, hown, hg⟩ (k_F_X12_isOne l D cs A bd u b bw  p1 hR.1) ca_X12_isOne q6_7 ⟨rfl, rfl⟩ ⟨Nat.le_of_ble_eq_true rfl, Nat.le_of_ble_eq_true rfl⟩ (rc_model hK hP) hK hP hD hS hZ rfl hl.1 rfl (Nat.le_of_ble_eq_true rfl) ⟨Nat.zero_le _, Nat.zero_le _⟩ dX12_crier_2 (fun r_1 wr_1 => ?_)
  have wr_1 : r_1.toInt = 0 := wr_1
  refine lv_if_eq (tgt := 17) hx hb dX12_crier_5 (by decide) (fun c_2 => ?_) (fun c_2 => ?_)
  ·
    have kc_2 : r_1.toInt = (0 : Int) := i_eq c_2
    refine lv_iconst (v := (-1)) hx hb dX12_crier_17 (by decide) ?_
    have q0_m1 : ((-1) : Int32).toInt = (-1) := rfl
    exact W.iret (v := (-1)) hx hb hr (fun tt ht hW => ⟨(-1), rfl, (by first | rfl | omega | trivial | assumption), ht⟩) (fun _ h => by cases h) dX12_crier_18
  ·
    have kc_2 : r_1.toInt ≠ (0 : Int) := i_ne c_2
    exfalso; omega
set_option maxHeartbeats 4000000 in
set_option maxRecDepth 100000 in
theorem k_F_X12_keepNear (l : Launch) (D : va_G) (cs : Nat → ClassId) (A : Nat → Prop) (bd : Nat → Nat) (u : Nat → Int32) (b : Nat → Nat → Int32) (bw : Nat → Nat → Int64)  (p1 : Int32) (hR : FrR u b) : Met l yX12_keepNear (Cond.code yX12_keepNear cX12_keepNear 6 (some .int) :: gw) ({ frames := 2, cells := 0, slots := 0, locals := 43 }) (va_Pc [.ref (bd 0), .int p1] (XPre D (TY cs) (RW cs bd u b bw) A)) (vp_Si (fun (r : Int32) => r.toInt = -1)) 0 0 (fun _ => False) := by
  refine Met.ofW (cc := cX12_keepNear) (maxL := 6) (ret := (some .int)) (by decide) rfl ?_
  intro p e s m args below meth c s₁ B hml hv
  obtain ⟨rfl, hP, hK, hD, hZ⟩ := hv
  have hx := B.exec
  have hb := B.bytes
  have hr := B.returns
  have hts := atoms_spec (ws := (Cond.code yX12_keepNear cX12_keepNear 6 (some .int) :: gw)) B.pre
  have hg : ∀ w ∈ gw, w.before ([.ref (bd 0), .int p1] : List Value).toArray s = true := fun w h => hts w (List.mem_cons_of_mem _ h)
  have hown : s.vm.findClass RX12 = some m.cls := findClass_of_methodNamed B.named
  have hlocks := B.notSynchronized
  have hS : va_S A s.heap s.heap [] := va_S.rf
  have hu1 : (u 1).toInt = 0 := by rw [hR.1]; rfl
  have q6_0 : (0 : Int32).toInt = 0 := rfl
  have q6_2 : (2 : Int32).toInt = 2 := rfl
  have hl := lv_entry ([.ref (bd 0), .int p1]) (n := 6) (Nat.le_of_ble_eq_true rfl)
  rw [lg_entry_eq]
  generalize (lg_sl ([.ref (bd 0), .int p1]) ++ List.replicate (6 - (lg_sl ([.ref (bd 0), .int p1])).length) Slot.unset).toArray = ls at hl ⊢
  have hl : lv_has ls 6 [(0, .ref (bd 0)), (1, .int p1)] := hl
  refine lv_aload_n hx hb dX12_keepNear_0 rfl (lv_at hl 0 rfl) ?_
  refine lv_iload_n hx hb dX12_keepNear_1 rfl (lv_at hl 1 rfl) ?_
  refine cV_ro (As := [.int p1]) (rest := []) ⟨hx, hb, hml, hown, hg⟩ (k_F_X12_isOne l D cs A bd u b bw  p1 hR.1) ca_X12_isOne q6_7 ⟨rfl, rfl⟩ ⟨Nat.le_of_ble_eq_true rfl, Nat.le_of_ble_eq_true rfl⟩ (rc_model hK hP) hK hP hD hS hZ rfl hl.1 rfl (Nat.le_of_ble_eq_true rfl) ⟨Nat.zero_le _, Nat.zero_le _⟩ dX12_keepNear_2 (fun r_1 wr_1 => ?_)
  have wr_1 : r_1.toInt = 0 := wr_1
  refine lv_if_ne (tgt := 10) hx hb dX12_keepNear_5 (by decide) (fun c_2 => ?_) (fun c_2 => ?_)
  ·
    have kc_2 : r_1.toInt ≠ (0 : Int) := i_ne c_2
    exfalso; omega
  ·
    have kc_2 : r_1.toInt = (0 : Int) := i_eq c_2
    refine lv_iconst (v := (-1)) hx hb dX12_keepNear_8 (by decide) ?_
    have q0_m1 : ((-1) : Int32).toInt = (-1) := rfl
    exact W.iret (v := (-1)) hx hb hr (fun tt ht hW => ⟨(-1), rfl, (by first | rfl | omega | trivial | assumption), ht⟩) (fun _ h => by cases h) dX12_keepNear_9
set_option maxHeartbeats 4000000 in
set_option maxRecDepth 100000 in
theorem k_F_X12_heard (l : Launch) (D : va_G) (cs : Nat → ClassId) (A : Nat → Prop) (bd : Nat → Nat) (u : Nat → Int32) (b : Nat → Nat → Int32) (bw : Nat → Nat → Int64)  (p1 : Int32) (p2 : Int32) (p3 : Int32) (hR : FrR u b) : Met l yX12_heard (Cond.code yX12_heard cX12_heard 4 (some .int) :: gw) ({ frames := 2, cells := 0, slots := 0, locals := 42 }) (va_Pc [.ref (bd 0), .int p1, .int p2, .int p3] (XPre D (TY cs) (RW cs bd u b bw) A)) (vp_Si (fun (r : Int32) => ((0 ≤ p1.toInt ∧ p1.toInt < 6 ∧ 0 ≤ p2.toInt ∧ p2.toInt < 6 ∧ 0 ≤ p3.toInt ∧ p3.toInt ≤ 3) ∧ r.toInt = -11) ∨ (¬ (0 ≤ p1.toInt ∧ p1.toInt < 6 ∧ 0 ≤ p2.toInt ∧ p2.toInt < 6 ∧ 0 ≤ p3.toInt ∧ p3.toInt ≤ 3) ∧ r.toInt = -1))) 0 0 (fun _ => False) := by
  refine Met.ofW (cc := cX12_heard) (maxL := 4) (ret := (some .int)) (by decide) rfl ?_
  intro p e s m args below meth c s₁ B hml hv
  obtain ⟨rfl, hP, hK, hD, hZ⟩ := hv
  have hx := B.exec
  have hb := B.bytes
  have hr := B.returns
  have hts := atoms_spec (ws := (Cond.code yX12_heard cX12_heard 4 (some .int) :: gw)) B.pre
  have hg : ∀ w ∈ gw, w.before ([.ref (bd 0), .int p1, .int p2, .int p3] : List Value).toArray s = true := fun w h => hts w (List.mem_cons_of_mem _ h)
  have hown : s.vm.findClass RX12 = some m.cls := findClass_of_methodNamed B.named
  have hlocks := B.notSynchronized
  have hS : va_S A s.heap s.heap [] := va_S.rf
  have hu1 : (u 1).toInt = 0 := by rw [hR.1]; rfl
  have q6_0 : (0 : Int32).toInt = 0 := rfl
  have q6_2 : (2 : Int32).toInt = 2 := rfl
  have hl := lv_entry ([.ref (bd 0), .int p1, .int p2, .int p3]) (n := 4) (Nat.le_of_ble_eq_true rfl)
  rw [lg_entry_eq]
  generalize (lg_sl ([.ref (bd 0), .int p1, .int p2, .int p3]) ++ List.replicate (4 - (lg_sl ([.ref (bd 0), .int p1, .int p2, .int p3])).length) Slot.unset).toArray = ls at hl ⊢
  have hl : lv_has ls 4 [(0, .ref (bd 0)), (1, .int p1), (2, .int p2), (3, .int p3)] := hl
  refine lv_iload_n hx hb dX12_heard_0 rfl (lv_at hl 1 rfl) ?_
  refine cS_p (As := [.int p1]) (rest := []) ⟨hx, hb, hml, hown, hg⟩ (k_X12_isShelf l   p1 ) ca_X12_isShelf q5_223 ⟨rfl, rfl⟩ ⟨Nat.le_of_ble_eq_true rfl, Nat.le_of_ble_eq_true rfl⟩ rfl hl.1 rfl (Nat.le_of_ble_eq_true rfl) ⟨Nat.zero_le _, Nat.zero_le _⟩ dX12_heard_1 (fun r_1 wr_1 => ?_)
  have wr_1 : (r_1.toInt = 1 ∧ 0 ≤ p1.toInt ∧ p1.toInt < 6) ∨ (r_1.toInt = 0 ∧ ¬ (0 ≤ p1.toInt ∧ p1.toInt < 6)) := wr_1
  refine lv_if_eq (tgt := 23) hx hb dX12_heard_4 (by decide) (fun c_2 => ?_) (fun c_2 => ?_)
  ·
    have kc_2 : r_1.toInt = (0 : Int) := i_eq c_2
    refine lv_iconst (v := (-1)) hx hb dX12_heard_23 (by decide) ?_
    have q0_m1 : ((-1) : Int32).toInt = (-1) := rfl
    exact W.iret (v := (-1)) hx hb hr (fun tt ht hW => ⟨(-1), rfl, (by first | rfl | omega | trivial | assumption), ht⟩) (fun _ h => by cases h) dX12_heard_24
  ·
    have kc_2 : r_1.toInt ≠ (0 : Int) := i_ne c_2
    refine lv_iload_n hx hb dX12_heard_7 rfl (lv_at hl 2 rfl) ?_
    refine cS_p (As := [.int p2]) (rest := []) ⟨hx, hb, hml, hown, hg⟩ (k_X12_isShelf l   p2 ) ca_X12_isShelf q5_223 ⟨rfl, rfl⟩ ⟨Nat.le_of_ble_eq_true rfl, Nat.le_of_ble_eq_true rfl⟩ rfl hl.1 rfl (Nat.le_of_ble_eq_true rfl) ⟨Nat.zero_le _, Nat.zero_le _⟩ dX12_heard_8 (fun r_3 wr_3 => ?_)
    have wr_3 : (r_3.toInt = 1 ∧ 0 ≤ p2.toInt ∧ p2.toInt < 6) ∨ (r_3.toInt = 0 ∧ ¬ (0 ≤ p2.toInt ∧ p2.toInt < 6)) := wr_3
    refine lv_if_eq (tgt := 23) hx hb dX12_heard_11 (by decide) (fun c_4 => ?_) (fun c_4 => ?_)
    ·
      have kc_4 : r_3.toInt = (0 : Int) := i_eq c_4
      refine lv_iconst (v := (-1)) hx hb dX12_heard_23 (by decide) ?_
      have q0_m1 : ((-1) : Int32).toInt = (-1) := rfl
      exact W.iret (v := (-1)) hx hb hr (fun tt ht hW => ⟨(-1), rfl, (by first | rfl | omega | trivial | assumption), ht⟩) (fun _ h => by cases h) dX12_heard_24
    ·
      have kc_4 : r_3.toInt ≠ (0 : Int) := i_ne c_4
      refine lv_iload_n hx hb dX12_heard_14 rfl (lv_at hl 3 rfl) ?_
      refine lv_iconst (v := 0) hx hb dX12_heard_15 (by decide) ?_
      refine lv_iconst (v := 3) hx hb dX12_heard_16 (by decide) ?_
      refine cS_p (As := [.int p3, .int 0, .int 3]) (rest := []) ⟨hx, hb, hml, hown, hg⟩ (k_X12_in l   p3 0 3 ) ca_X12_in q5_212 ⟨rfl, rfl⟩ ⟨Nat.le_of_ble_eq_true rfl, Nat.le_of_ble_eq_true rfl⟩ rfl hl.1 rfl (Nat.le_of_ble_eq_true rfl) ⟨Nat.zero_le _, Nat.zero_le _⟩ dX12_heard_17 (fun r_5 wr_5 => ?_)
      have wr_5 : (r_5.toInt = 1 ∧ (0 : Int) ≤ p3.toInt ∧ p3.toInt ≤ (3 : Int)) ∨ (r_5.toInt = 0 ∧ ¬ ((0 : Int) ≤ p3.toInt ∧ p3.toInt ≤ (3 : Int))) := wr_5
      refine lv_if_ne (tgt := 25) hx hb dX12_heard_20 (by decide) (fun c_6 => ?_) (fun c_6 => ?_)
      ·
        have kc_6 : r_5.toInt ≠ (0 : Int) := i_ne c_6
        refine lv_aload_n hx hb dX12_heard_25 rfl (lv_at hl 0 rfl) ?_
        refine lv_iload_n hx hb dX12_heard_26 rfl (lv_at hl 1 rfl) ?_
        refine lv_iconst (v := 0) hx hb dX12_heard_27 (by decide) ?_
        refine cV_ro (As := [.int p1, .int 0]) (rest := []) ⟨hx, hb, hml, hown, hg⟩ (k_F_X12_rowFault l D cs A bd u b bw  p1 0 hR (show 0 ≤ p1.toInt by first | omega | decide) (show p1.toInt < 6 by first | omega | decide)) ca_X12_rowFault q6_132 ⟨rfl, rfl⟩ ⟨Nat.le_of_ble_eq_true rfl, Nat.le_of_ble_eq_true rfl⟩ (rc_model hK hP) hK hP hD hS hZ rfl hl.1 rfl (Nat.le_of_ble_eq_true rfl) ⟨Nat.zero_le _, Nat.zero_le _⟩ dX12_heard_28 (fun r_7 wr_7 => ?_)
        have wr_7 : r_7.toInt = -11 := wr_7
        refine lv_if_ge (tgt := 41) hx hb dX12_heard_31 (by decide) (fun c_8 => ?_) (fun c_8 => ?_)
        ·
          have kc_8 : (0 : Int) ≤ r_7.toInt := i_le c_8
          exfalso; omega
        ·
          have kc_8 : r_7.toInt < (0 : Int) := i_nle c_8
          refine lv_aload_n hx hb dX12_heard_34 rfl (lv_at hl 0 rfl) ?_
          refine lv_iload_n hx hb dX12_heard_35 rfl (lv_at hl 1 rfl) ?_
          refine lv_iconst (v := 0) hx hb dX12_heard_36 (by decide) ?_
          refine cV_ro (As := [.int p1, .int 0]) (rest := []) ⟨hx, hb, hml, hown, hg⟩ (k_F_X12_rowFault l D cs A bd u b bw  p1 0 hR (show 0 ≤ p1.toInt by first | omega | decide) (show p1.toInt < 6 by first | omega | decide)) ca_X12_rowFault q6_132 ⟨rfl, rfl⟩ ⟨Nat.le_of_ble_eq_true rfl, Nat.le_of_ble_eq_true rfl⟩ (rc_model hK hP) hK hP hD hS hZ rfl hl.1 rfl (Nat.le_of_ble_eq_true rfl) ⟨Nat.zero_le _, Nat.zero_le _⟩ dX12_heard_37 (fun r_9 wr_9 => ?_)
          have wr_9 : r_9.toInt = -11 := wr_9
          exact W.iret (v := r_9) hx hb hr (fun tt ht hW => ⟨r_9, rfl, (by first | rfl | omega | trivial | assumption), ht⟩) (fun _ h => by cases h) dX12_heard_40
      ·
        have kc_6 : r_5.toInt = (0 : Int) := i_eq c_6
        refine lv_iconst (v := (-1)) hx hb dX12_heard_23 (by decide) ?_
        have q0_m1 : ((-1) : Int32).toInt = (-1) := rfl
        exact W.iret (v := (-1)) hx hb hr (fun tt ht hW => ⟨(-1), rfl, (by first | rfl | omega | trivial | assumption), ht⟩) (fun _ h => by cases h) dX12_heard_24
set_option maxHeartbeats 4000000 in
set_option maxRecDepth 100000 in
theorem k_F_X12_drawn (l : Launch) (D : va_G) (cs : Nat → ClassId) (A : Nat → Prop) (bd : Nat → Nat) (u : Nat → Int32) (b : Nat → Nat → Int32) (bw : Nat → Nat → Int64)  (p1 : Int32) (p2 : Int32) (p3 : Int32) (hR : FrR u b) : Met l yX12_drawn (Cond.code yX12_drawn cX12_drawn 11 (some .int) :: gw) ({ frames := 1, cells := 0, slots := 0, locals := 22 }) (va_Pc [.ref (bd 0), .int p1, .int p2, .int p3] (XPre D (TY cs) (RW cs bd u b bw) A)) (vp_Si (fun (r : Int32) => ((p3.toInt = -1 ∧ 0 ≤ p2.toInt ∧ 1 ≤ p2.toInt / 100 ∧ p2.toInt / 100 ≤ 30 ∧ 1 ≤ p2.toInt % 100 ∧ p2.toInt % 100 ≤ 40) ∧ r.toInt = 0) ∨ (¬ (p3.toInt = -1 ∧ 0 ≤ p2.toInt ∧ 1 ≤ p2.toInt / 100 ∧ p2.toInt / 100 ≤ 30 ∧ 1 ≤ p2.toInt % 100 ∧ p2.toInt % 100 ≤ 40) ∧ r.toInt = -1))) 0 0 (fun _ => False) := by
  refine Met.ofW (cc := cX12_drawn) (maxL := 11) (ret := (some .int)) (by decide) rfl ?_
  intro p e s m args below meth c s₁ B hml hv
  obtain ⟨rfl, hP, hK, hD, hZ⟩ := hv
  have hx := B.exec
  have hb := B.bytes
  have hr := B.returns
  have hts := atoms_spec (ws := (Cond.code yX12_drawn cX12_drawn 11 (some .int) :: gw)) B.pre
  have hg : ∀ w ∈ gw, w.before ([.ref (bd 0), .int p1, .int p2, .int p3] : List Value).toArray s = true := fun w h => hts w (List.mem_cons_of_mem _ h)
  have hown : s.vm.findClass RX12 = some m.cls := findClass_of_methodNamed B.named
  have hlocks := B.notSynchronized
  have hS : va_S A s.heap s.heap [] := va_S.rf
  have hu1 : (u 1).toInt = 0 := by rw [hR.1]; rfl
  have q6_0 : (0 : Int32).toInt = 0 := rfl
  have q6_2 : (2 : Int32).toInt = 2 := rfl
  have hl := lv_entry ([.ref (bd 0), .int p1, .int p2, .int p3]) (n := 11) (Nat.le_of_ble_eq_true rfl)
  rw [lg_entry_eq]
  generalize (lg_sl ([.ref (bd 0), .int p1, .int p2, .int p3]) ++ List.replicate (11 - (lg_sl ([.ref (bd 0), .int p1, .int p2, .int p3])).length) Slot.unset).toArray = ls at hl ⊢
  have hl : lv_has ls 11 [(0, .ref (bd 0)), (1, .int p1), (2, .int p2), (3, .int p3)] := hl
  refine lv_iload_n hx hb dX12_drawn_0 rfl (lv_at hl 2 rfl) ?_
  refine lv_if_lt (tgt := 44) hx hb dX12_drawn_1 (by decide) (fun c_1 => ?_) (fun c_1 => ?_)
  ·
    have kc_1 : p2.toInt < (0 : Int) := i_lt c_1
    refine lv_iconst (v := (-1)) hx hb dX12_drawn_44 (by decide) ?_
    have q0_m1 : ((-1) : Int32).toInt = (-1) := rfl
    exact W.iret (v := (-1)) hx hb hr (fun tt ht hW => ⟨(-1), rfl, (by first | rfl | omega | trivial | assumption), ht⟩) (fun _ h => by cases h) dX12_drawn_45
  ·
    have kc_1 : (0 : Int) ≤ p2.toInt := i_nlt c_1
    refine lv_iload_n hx hb dX12_drawn_4 rfl (lv_at hl 2 rfl) ?_
    refine lv_bipush (v := 100) hx hb dX12_drawn_5 (by decide) ?_
    refine lv_idiv hx hb dX12_drawn_7 (by decide) ?_
    refine lv_topi (fun x_2 ex_2 => ?_)
    have fx_2 : x_2.toInt = p2.toInt / (100 : Int) := by rw [ex_2]; exact i_div (by omega) (by first | omega | decide)
    refine lv_iconst (v := 1) hx hb dX12_drawn_8 (by decide) ?_
    refine lv_bipush (v := 30) hx hb dX12_drawn_9 (by decide) ?_
    refine cS_p (As := [.int x_2, .int 1, .int 30]) (rest := []) ⟨hx, hb, hml, hown, hg⟩ (k_X12_in l   x_2 1 30 ) ca_X12_in q5_212 ⟨rfl, rfl⟩ ⟨Nat.le_of_ble_eq_true rfl, Nat.le_of_ble_eq_true rfl⟩ rfl hl.1 rfl (Nat.le_of_ble_eq_true rfl) ⟨Nat.zero_le _, Nat.zero_le _⟩ dX12_drawn_11 (fun r_3 wr_3 => ?_)
    have wr_3 : (r_3.toInt = 1 ∧ (1 : Int) ≤ x_2.toInt ∧ x_2.toInt ≤ (30 : Int)) ∨ (r_3.toInt = 0 ∧ ¬ ((1 : Int) ≤ x_2.toInt ∧ x_2.toInt ≤ (30 : Int))) := wr_3
    refine lv_if_eq (tgt := 44) hx hb dX12_drawn_14 (by decide) (fun c_4 => ?_) (fun c_4 => ?_)
    ·
      have kc_4 : r_3.toInt = (0 : Int) := i_eq c_4
      refine lv_iconst (v := (-1)) hx hb dX12_drawn_44 (by decide) ?_
      have q0_m1 : ((-1) : Int32).toInt = (-1) := rfl
      exact W.iret (v := (-1)) hx hb hr (fun tt ht hW => ⟨(-1), rfl, (by first | rfl | omega | trivial | assumption), ht⟩) (fun _ h => by cases h) dX12_drawn_45
    ·
      have kc_4 : r_3.toInt ≠ (0 : Int) := i_ne c_4
      refine lv_iload_n hx hb dX12_drawn_17 rfl (lv_at hl 2 rfl) ?_
      refine lv_bipush (v := 100) hx hb dX12_drawn_18 (by decide) ?_
      refine lv_irem hx hb dX12_drawn_20 (by decide) ?_
      refine lv_topi (fun x_5 ex_5 => ?_)
      have fx_5 : x_5.toInt = p2.toInt % (100 : Int) := by rw [ex_5]; exact i_rem (by omega) (by first | omega | decide)
      refine lv_iconst (v := 1) hx hb dX12_drawn_21 (by decide) ?_
      refine lv_bipush (v := 40) hx hb dX12_drawn_22 (by decide) ?_
      refine cS_p (As := [.int x_5, .int 1, .int 40]) (rest := []) ⟨hx, hb, hml, hown, hg⟩ (k_X12_in l   x_5 1 40 ) ca_X12_in q5_212 ⟨rfl, rfl⟩ ⟨Nat.le_of_ble_eq_true rfl, Nat.le_of_ble_eq_true rfl⟩ rfl hl.1 rfl (Nat.le_of_ble_eq_true rfl) ⟨Nat.zero_le _, Nat.zero_le _⟩ dX12_drawn_24 (fun r_6 wr_6 => ?_)
      have wr_6 : (r_6.toInt = 1 ∧ (1 : Int) ≤ x_5.toInt ∧ x_5.toInt ≤ (40 : Int)) ∨ (r_6.toInt = 0 ∧ ¬ ((1 : Int) ≤ x_5.toInt ∧ x_5.toInt ≤ (40 : Int))) := wr_6
      refine lv_if_eq (tgt := 44) hx hb dX12_drawn_27 (by decide) (fun c_7 => ?_) (fun c_7 => ?_)
      ·
        have kc_7 : r_6.toInt = (0 : Int) := i_eq c_7
        refine lv_iconst (v := (-1)) hx hb dX12_drawn_44 (by decide) ?_
        have q0_m1 : ((-1) : Int32).toInt = (-1) := rfl
        exact W.iret (v := (-1)) hx hb hr (fun tt ht hW => ⟨(-1), rfl, (by first | rfl | omega | trivial | assumption), ht⟩) (fun _ h => by cases h) dX12_drawn_45
      ·
        have kc_7 : r_6.toInt ≠ (0 : Int) := i_ne c_7
        refine lv_iload_n hx hb dX12_drawn_30 rfl (lv_at hl 3 rfl) ?_
        refine lv_iconst (v := (-1)) hx hb dX12_drawn_31 (by decide) ?_
        refine lv_aload_n hx hb dX12_drawn_32 rfl (lv_at hl 0 rfl) ?_
        refine gr_people1 hx hb hg hown hK hP (x := 0) hR.1 (hg _ q4_233) dX12_drawn_33 ?_
        refine lv_iconst (v := 1) hx hb dX12_drawn_36 (by decide) ?_
        refine lv_isub hx hb dX12_drawn_37 ?_
        refine lv_topi (fun x_8 ex_8 => ?_)
        have fx_8 : x_8 = (-1) := by rw [ex_8]; rfl
        subst fx_8
        refine cS_p (As := [.int p3, .int (-1), .int (-1)]) (rest := []) ⟨hx, hb, hml, hown, hg⟩ (k_X12_in l   p3 (-1) (-1) ) ca_X12_in q5_212 ⟨rfl, rfl⟩ ⟨Nat.le_of_ble_eq_true rfl, Nat.le_of_ble_eq_true rfl⟩ rfl hl.1 rfl (Nat.le_of_ble_eq_true rfl) ⟨Nat.zero_le _, Nat.zero_le _⟩ dX12_drawn_38 (fun r_9 wr_9 => ?_)
        have wr_9 : (r_9.toInt = 1 ∧ (-1 : Int) ≤ p3.toInt ∧ p3.toInt ≤ (-1 : Int)) ∨ (r_9.toInt = 0 ∧ ¬ ((-1 : Int) ≤ p3.toInt ∧ p3.toInt ≤ (-1 : Int))) := wr_9
        refine lv_if_ne (tgt := 46) hx hb dX12_drawn_41 (by decide) (fun c_10 => ?_) (fun c_10 => ?_)
        ·
          have kc_10 : r_9.toInt ≠ (0 : Int) := i_ne c_10
          refine lv_iload_n hx hb dX12_drawn_46 rfl (lv_at hl 1 rfl) ?_
          refine lv_istore (lv' := [(4, .int p1), (0, .ref (bd 0)), (1, .int p1), (2, .int p2), (3, .int p3)]) hx hb dX12_drawn_47 hl (by decide) rfl (fun ls hl => ?_)
          refine lv_iconst (v := 0) hx hb dX12_drawn_49 (by decide) ?_
          refine lv_istore (lv' := [(5, .int 0), (4, .int p1), (0, .ref (bd 0)), (1, .int p1), (2, .int p2), (3, .int p3)]) hx hb dX12_drawn_50 hl (by decide) rfl (fun ls hl => ?_)
          refine lv_iconst (v := 0) hx hb dX12_drawn_52 (by decide) ?_
          refine lv_istore (lv' := [(6, .int 0), (5, .int 0), (4, .int p1), (0, .ref (bd 0)), (1, .int p1), (2, .int p2), (3, .int p3)]) hx hb dX12_drawn_53 hl (by decide) rfl (fun ls hl => ?_)
          refine lv_iconst (v := 0) hx hb dX12_drawn_55 (by decide) ?_
          refine lv_istore (lv' := [(7, .int 0), (6, .int 0), (5, .int 0), (4, .int p1), (0, .ref (bd 0)), (1, .int p1), (2, .int p2), (3, .int p3)]) hx hb dX12_drawn_56 hl (by decide) rfl (fun ls hl => ?_)
          refine lv_iload hx hb dX12_drawn_58 (lv_at hl 0 rfl) ?_
          refine lv_iload_n hx hb dX12_drawn_60 rfl (lv_at hl 6 rfl) ?_
          refine lv_bipush (v := 100) hx hb dX12_drawn_61 (by decide) ?_
          refine lv_idiv hx hb dX12_drawn_63 (by decide) ?_
          refine lv_topi (fun x_11 ex_11 => ?_)
          have fx_11 : x_11.toInt = p2.toInt / (100 : Int) := by rw [ex_11]; exact i_div (by omega) (by first | omega | decide)
          refine lv_icmp_ge (tgt := 185) hx hb dX12_drawn_64 (by decide) (fun c_12 => ?_) (fun c_12 => ?_)
          ·
            have kc_12 : x_11.toInt ≤ (0 : Int) := i_le c_12
            refine lv_iload_n hx hb dX12_drawn_185 rfl (lv_at hl 7 rfl) ?_
            refine lv_if_ge (tgt := 194) hx hb dX12_drawn_186 (by decide) (fun c_13 => ?_) (fun c_13 => ?_)
            ·
              have kc_13 : (0 : Int) ≤ p3.toInt := i_le c_13
              refine lv_iload hx hb dX12_drawn_194 (lv_at hl 2 rfl) ?_
              have q0_0 : (0 : Int32).toInt = 0 := rfl
              exact W.iret (v := 0) hx hb hr (fun tt ht hW => ⟨0, rfl, (by first | rfl | omega | trivial | assumption), ht⟩) (fun _ h => by cases h) dX12_drawn_196
            ·
              have kc_13 : p3.toInt < (0 : Int) := i_nle c_13
              refine lv_iload hx hb dX12_drawn_189 (lv_at hl 1 rfl) ?_
              refine lv_goto (tgt := 196) hx hb dX12_drawn_191 (by decide) ?_
              have q0_0 : (0 : Int32).toInt = 0 := rfl
              exact W.iret (v := 0) hx hb hr (fun tt ht hW => ⟨0, rfl, (by first | rfl | omega | trivial | assumption), ht⟩) (fun _ h => by cases h) dX12_drawn_196
          ·
            have kc_12 : (0 : Int) < x_11.toInt := i_nle c_12
            refine lv_aload_n hx hb dX12_drawn_67 rfl (lv_at hl 4 rfl) ?_
            refine gr_people1 hx hb hg hown hK hP (x := 0) hR.1 (hg _ q4_233) dX12_drawn_68 ?_
            refine lv_if_le (tgt := 185) hx hb dX12_drawn_71 (by decide) (fun c_14 => ?_) (fun c_14 => absurd c_14 (by decide))
            refine lv_iload_n hx hb dX12_drawn_185 rfl (lv_at hl 7 rfl) ?_
            refine lv_if_ge (tgt := 194) hx hb dX12_drawn_186 (by decide) (fun c_15 => ?_) (fun c_15 => ?_)
            ·
              have kc_15 : (0 : Int) ≤ p3.toInt := i_le c_15
              refine lv_iload hx hb dX12_drawn_194 (lv_at hl 2 rfl) ?_
              have q0_0 : (0 : Int32).toInt = 0 := rfl
              exact W.iret (v := 0) hx hb hr (fun tt ht hW => ⟨0, rfl, (by first | rfl | omega | trivial | assumption), ht⟩) (fun _ h => by cases h) dX12_drawn_196
            ·
              have kc_15 : p3.toInt < (0 : Int) := i_nle c_15
              refine lv_iload hx hb dX12_drawn_189 (lv_at hl 1 rfl) ?_
              refine lv_goto (tgt := 196) hx hb dX12_drawn_191 (by decide) ?_
              have q0_0 : (0 : Int32).toInt = 0 := rfl
              exact W.iret (v := 0) hx hb hr (fun tt ht hW => ⟨0, rfl, (by first | rfl | omega | trivial | assumption), ht⟩) (fun _ h => by cases h) dX12_drawn_196
        ·
          have kc_10 : r_9.toInt = (0 : Int) := i_eq c_10
          refine lv_iconst (v := (-1)) hx hb dX12_drawn_44 (by decide) ?_
          have q0_m1 : ((-1) : Int32).toInt = (-1) := rfl
          exact W.iret (v := (-1)) hx hb hr (fun tt ht hW => ⟨(-1), rfl, (by first | rfl | omega | trivial | assumption), ht⟩) (fun _ h => by cases h) dX12_drawn_45
set_option maxHeartbeats 4000000 in
set_option maxRecDepth 100000 in
theorem k_F_X12_say (l : Launch) (D : va_G) (cs : Nat → ClassId) (A : Nat → Prop) (bd : Nat → Nat) (u : Nat → Int32) (b : Nat → Nat → Int32) (bw : Nat → Nat → Int64)  (p1 : Int32) (p2 : Int32) (hR : FrR u b) : Met l yX12_say (Cond.code yX12_say cX12_say 5 (some .int) :: gw) ({ frames := 2, cells := 0, slots := 0, locals := 43 }) (va_Pc [.ref (bd 0), .int p1, .int p2] (XPre D (TY cs) (RW cs bd u b bw) A)) (vp_Si (fun (r : Int32) => r.toInt = -1)) 0 0 (fun _ => False) := by
  refine Met.ofW (cc := cX12_say) (maxL := 5) (ret := (some .int)) (by decide) rfl ?_
  intro p e s m args below meth c s₁ B hml hv
  obtain ⟨rfl, hP, hK, hD, hZ⟩ := hv
  have hx := B.exec
  have hb := B.bytes
  have hr := B.returns
  have hts := atoms_spec (ws := (Cond.code yX12_say cX12_say 5 (some .int) :: gw)) B.pre
  have hg : ∀ w ∈ gw, w.before ([.ref (bd 0), .int p1, .int p2] : List Value).toArray s = true := fun w h => hts w (List.mem_cons_of_mem _ h)
  have hown : s.vm.findClass RX12 = some m.cls := findClass_of_methodNamed B.named
  have hlocks := B.notSynchronized
  have hS : va_S A s.heap s.heap [] := va_S.rf
  have hu1 : (u 1).toInt = 0 := by rw [hR.1]; rfl
  have q6_0 : (0 : Int32).toInt = 0 := rfl
  have q6_2 : (2 : Int32).toInt = 2 := rfl
  have hl := lv_entry ([.ref (bd 0), .int p1, .int p2]) (n := 5) (Nat.le_of_ble_eq_true rfl)
  rw [lg_entry_eq]
  generalize (lg_sl ([.ref (bd 0), .int p1, .int p2]) ++ List.replicate (5 - (lg_sl ([.ref (bd 0), .int p1, .int p2])).length) Slot.unset).toArray = ls at hl ⊢
  have hl : lv_has ls 5 [(0, .ref (bd 0)), (1, .int p1), (2, .int p2)] := hl
  refine lv_aload_n hx hb dX12_say_0 rfl (lv_at hl 0 rfl) ?_
  refine lv_iload_n hx hb dX12_say_1 rfl (lv_at hl 1 rfl) ?_
  refine cV_ro (As := [.int p1]) (rest := []) ⟨hx, hb, hml, hown, hg⟩ (k_F_X12_isOne l D cs A bd u b bw  p1 hR.1) ca_X12_isOne q6_7 ⟨rfl, rfl⟩ ⟨Nat.le_of_ble_eq_true rfl, Nat.le_of_ble_eq_true rfl⟩ (rc_model hK hP) hK hP hD hS hZ rfl hl.1 rfl (Nat.le_of_ble_eq_true rfl) ⟨Nat.zero_le _, Nat.zero_le _⟩ dX12_say_2 (fun r_1 wr_1 => ?_)
  have wr_1 : r_1.toInt = 0 := wr_1
  refine lv_if_eq (tgt := 17) hx hb dX12_say_5 (by decide) (fun c_2 => ?_) (fun c_2 => ?_)
  ·
    have kc_2 : r_1.toInt = (0 : Int) := i_eq c_2
    refine lv_iconst (v := (-1)) hx hb dX12_say_17 (by decide) ?_
    have q0_m1 : ((-1) : Int32).toInt = (-1) := rfl
    exact W.iret (v := (-1)) hx hb hr (fun tt ht hW => ⟨(-1), rfl, (by first | rfl | omega | trivial | assumption), ht⟩) (fun _ h => by cases h) dX12_say_18
  ·
    have kc_2 : r_1.toInt ≠ (0 : Int) := i_ne c_2
    exfalso; omega
set_option maxHeartbeats 4000000 in
set_option maxRecDepth 100000 in
theorem k_F_X12_go (l : Launch) (D : va_G) (cs : Nat → ClassId) (A : Nat → Prop) (bd : Nat → Nat) (u : Nat → Int32) (b : Nat → Nat → Int32) (bw : Nat → Nat → Int64)  (p1 : Int32) (p2 : Int32) (hR : FrR u b) : Met l yX12_go (Cond.code yX12_go cX12_go 4 (some .int) :: gw) ({ frames := 2, cells := 0, slots := 0, locals := 43 }) (va_Pc [.ref (bd 0), .int p1, .int p2] (XPre D (TY cs) (RW cs bd u b bw) A)) (vp_Si (fun (r : Int32) => r.toInt = -1)) 0 0 (fun _ => False) := by
  refine Met.ofW (cc := cX12_go) (maxL := 4) (ret := (some .int)) (by decide) rfl ?_
  intro p e s m args below meth c s₁ B hml hv
  obtain ⟨rfl, hP, hK, hD, hZ⟩ := hv
  have hx := B.exec
  have hb := B.bytes
  have hr := B.returns
  have hts := atoms_spec (ws := (Cond.code yX12_go cX12_go 4 (some .int) :: gw)) B.pre
  have hg : ∀ w ∈ gw, w.before ([.ref (bd 0), .int p1, .int p2] : List Value).toArray s = true := fun w h => hts w (List.mem_cons_of_mem _ h)
  have hown : s.vm.findClass RX12 = some m.cls := findClass_of_methodNamed B.named
  have hlocks := B.notSynchronized
  have hS : va_S A s.heap s.heap [] := va_S.rf
  have hu1 : (u 1).toInt = 0 := by rw [hR.1]; rfl
  have q6_0 : (0 : Int32).toInt = 0 := rfl
  have q6_2 : (2 : Int32).toInt = 2 := rfl
  have hl := lv_entry ([.ref (bd 0), .int p1, .int p2]) (n := 4) (Nat.le_of_ble_eq_true rfl)
  rw [lg_entry_eq]
  generalize (lg_sl ([.ref (bd 0), .int p1, .int p2]) ++ List.replicate (4 - (lg_sl ([.ref (bd 0), .int p1, .int p2])).length) Slot.unset).toArray = ls at hl ⊢
  have hl : lv_has ls 4 [(0, .ref (bd 0)), (1, .int p1), (2, .int p2)] := hl
  refine lv_aload_n hx hb dX12_go_0 rfl (lv_at hl 0 rfl) ?_
  refine lv_iload_n hx hb dX12_go_1 rfl (lv_at hl 1 rfl) ?_
  refine cV_ro (As := [.int p1]) (rest := []) ⟨hx, hb, hml, hown, hg⟩ (k_F_X12_isOne l D cs A bd u b bw  p1 hR.1) ca_X12_isOne q6_7 ⟨rfl, rfl⟩ ⟨Nat.le_of_ble_eq_true rfl, Nat.le_of_ble_eq_true rfl⟩ (rc_model hK hP) hK hP hD hS hZ rfl hl.1 rfl (Nat.le_of_ble_eq_true rfl) ⟨Nat.zero_le _, Nat.zero_le _⟩ dX12_go_2 (fun r_1 wr_1 => ?_)
  have wr_1 : r_1.toInt = 0 := wr_1
  refine lv_if_eq (tgt := 15) hx hb dX12_go_5 (by decide) (fun c_2 => ?_) (fun c_2 => ?_)
  ·
    have kc_2 : r_1.toInt = (0 : Int) := i_eq c_2
    refine lv_iconst (v := (-1)) hx hb dX12_go_15 (by decide) ?_
    have q0_m1 : ((-1) : Int32).toInt = (-1) := rfl
    exact W.iret (v := (-1)) hx hb hr (fun tt ht hW => ⟨(-1), rfl, (by first | rfl | omega | trivial | assumption), ht⟩) (fun _ h => by cases h) dX12_go_16
  ·
    have kc_2 : r_1.toInt ≠ (0 : Int) := i_ne c_2
    exfalso; omega
set_option maxHeartbeats 4000000 in
set_option maxRecDepth 100000 in
theorem k_F_X12_pad (l : Launch) (D : va_G) (cs : Nat → ClassId) (A : Nat → Prop) (bd : Nat → Nat) (u : Nat → Int32) (b : Nat → Nat → Int32) (bw : Nat → Nat → Int64)  (p1 : Int32) (hR : FrR u b) : Met l yX12_pad (Cond.code yX12_pad cX12_pad 2 (some .int) :: gw) ({ frames := 2, cells := 0, slots := 0, locals := 43 }) (va_Pc [.ref (bd 0), .int p1] (XPre D (TY cs) (RW cs bd u b bw) A)) (vp_Si (fun (r : Int32) => r.toInt = -1)) 0 0 (fun _ => False) := by
  refine Met.ofW (cc := cX12_pad) (maxL := 2) (ret := (some .int)) (by decide) rfl ?_
  intro p e s m args below meth c s₁ B hml hv
  obtain ⟨rfl, hP, hK, hD, hZ⟩ := hv
  have hx := B.exec
  have hb := B.bytes
  have hr := B.returns
  have hts := atoms_spec (ws := (Cond.code yX12_pad cX12_pad 2 (some .int) :: gw)) B.pre
  have hg : ∀ w ∈ gw, w.before ([.ref (bd 0), .int p1] : List Value).toArray s = true := fun w h => hts w (List.mem_cons_of_mem _ h)
  have hown : s.vm.findClass RX12 = some m.cls := findClass_of_methodNamed B.named
  have hlocks := B.notSynchronized
  have hS : va_S A s.heap s.heap [] := va_S.rf
  have hu1 : (u 1).toInt = 0 := by rw [hR.1]; rfl
  have q6_0 : (0 : Int32).toInt = 0 := rfl
  have q6_2 : (2 : Int32).toInt = 2 := rfl
  have hl := lv_entry ([.ref (bd 0), .int p1]) (n := 2) (Nat.le_of_ble_eq_true rfl)
  rw [lg_entry_eq]
  generalize (lg_sl ([.ref (bd 0), .int p1]) ++ List.replicate (2 - (lg_sl ([.ref (bd 0), .int p1])).length) Slot.unset).toArray = ls at hl ⊢
  have hl : lv_has ls 2 [(0, .ref (bd 0)), (1, .int p1)] := hl
  refine lv_aload_n hx hb dX12_pad_0 rfl (lv_at hl 0 rfl) ?_
  refine lv_iload_n hx hb dX12_pad_1 rfl (lv_at hl 1 rfl) ?_
  refine cV_ro (As := [.int p1]) (rest := []) ⟨hx, hb, hml, hown, hg⟩ (k_F_X12_isOne l D cs A bd u b bw  p1 hR.1) ca_X12_isOne q6_7 ⟨rfl, rfl⟩ ⟨Nat.le_of_ble_eq_true rfl, Nat.le_of_ble_eq_true rfl⟩ (rc_model hK hP) hK hP hD hS hZ rfl hl.1 rfl (Nat.le_of_ble_eq_true rfl) ⟨Nat.zero_le _, Nat.zero_le _⟩ dX12_pad_2 (fun r_1 wr_1 => ?_)
  have wr_1 : r_1.toInt = 0 := wr_1
  refine lv_if_ne (tgt := 10) hx hb dX12_pad_5 (by decide) (fun c_2 => ?_) (fun c_2 => ?_)
  ·
    have kc_2 : r_1.toInt ≠ (0 : Int) := i_ne c_2
    exfalso; omega
  ·
    have kc_2 : r_1.toInt = (0 : Int) := i_eq c_2
    refine lv_iconst (v := (-1)) hx hb dX12_pad_8 (by decide) ?_
    have q0_m1 : ((-1) : Int32).toInt = (-1) := rfl
    exact W.iret (v := (-1)) hx hb hr (fun tt ht hW => ⟨(-1), rfl, (by first | rfl | omega | trivial | assumption), ht⟩) (fun _ h => by cases h) dX12_pad_9
set_option maxHeartbeats 4000000 in
set_option maxRecDepth 100000 in
theorem k_F_X12_led (l : Launch) (D : va_G) (cs : Nat → ClassId) (A : Nat → Prop) (bd : Nat → Nat) (u : Nat → Int32) (b : Nat → Nat → Int32) (bw : Nat → Nat → Int64)  (p1 : Int32) (hR : FrR u b) : Met l yX12_led (Cond.code yX12_led cX12_led 2 (some .int) :: gw) ({ frames := 1, cells := 0, slots := 0, locals := 22 }) (va_Pc [.ref (bd 0), .int p1] (XPre D (TY cs) (RW cs bd u b bw) A)) (vp_Si (fun (r : Int32) => (0 ≤ p1.toInt ∧ p1.toInt ≤ 4 ∧ r.toInt = 0) ∨ (p1.toInt = 5 ∧ r.toInt = -2) ∨ (p1.toInt = 6 ∧ r.toInt = 0) ∨ ((p1.toInt < 0 ∨ 6 < p1.toInt) ∧ r.toInt = -1))) 0 0 (fun _ => False) := by
  refine Met.ofW (cc := cX12_led) (maxL := 2) (ret := (some .int)) (by decide) rfl ?_
  intro p e s m args below meth c s₁ B hml hv
  obtain ⟨rfl, hP, hK, hD, hZ⟩ := hv
  have hx := B.exec
  have hb := B.bytes
  have hr := B.returns
  have hts := atoms_spec (ws := (Cond.code yX12_led cX12_led 2 (some .int) :: gw)) B.pre
  have hg : ∀ w ∈ gw, w.before ([.ref (bd 0), .int p1] : List Value).toArray s = true := fun w h => hts w (List.mem_cons_of_mem _ h)
  have hown : s.vm.findClass RX12 = some m.cls := findClass_of_methodNamed B.named
  have hlocks := B.notSynchronized
  have hS : va_S A s.heap s.heap [] := va_S.rf
  have hu1 : (u 1).toInt = 0 := by rw [hR.1]; rfl
  have q6_0 : (0 : Int32).toInt = 0 := rfl
  have q6_2 : (2 : Int32).toInt = 2 := rfl
  have hl := lv_entry ([.ref (bd 0), .int p1]) (n := 2) (Nat.le_of_ble_eq_true rfl)
  rw [lg_entry_eq]
  generalize (lg_sl ([.ref (bd 0), .int p1]) ++ List.replicate (2 - (lg_sl ([.ref (bd 0), .int p1])).length) Slot.unset).toArray = ls at hl ⊢
  have hl : lv_has ls 2 [(0, .ref (bd 0)), (1, .int p1)] := hl
  refine lv_iload_n hx hb dX12_led_0 rfl (lv_at hl 1 rfl) ?_
  refine lv_iconst (v := 5) hx hb dX12_led_1 (by decide) ?_
  refine lv_icmp_ne (tgt := 22) hx hb dX12_led_2 (by decide) (fun c_1 => ?_) (fun c_1 => ?_)
  ·
    have kc_1 : p1.toInt ≠ (5 : Int) := i_ne c_1
    refine lv_iload_n hx hb dX12_led_22 rfl (lv_at hl 1 rfl) ?_
    refine lv_bipush (v := 6) hx hb dX12_led_23 (by decide) ?_
    refine lv_icmp_ne (tgt := 35) hx hb dX12_led_25 (by decide) (fun c_2 => ?_) (fun c_2 => ?_)
    ·
      have kc_2 : p1.toInt ≠ (6 : Int) := i_ne c_2
      refine lv_iload_n hx hb dX12_led_35 rfl (lv_at hl 1 rfl) ?_
      refine lv_iconst (v := 0) hx hb dX12_led_36 (by decide) ?_
      refine lv_iconst (v := 4) hx hb dX12_led_37 (by decide) ?_
      refine cS_p (As := [.int p1, .int 0, .int 4]) (rest := []) ⟨hx, hb, hml, hown, hg⟩ (k_X12_in l   p1 0 4 ) ca_X12_in q5_212 ⟨rfl, rfl⟩ ⟨Nat.le_of_ble_eq_true rfl, Nat.le_of_ble_eq_true rfl⟩ rfl hl.1 rfl (Nat.le_of_ble_eq_true rfl) ⟨Nat.zero_le _, Nat.zero_le _⟩ dX12_led_38 (fun r_3 wr_3 => ?_)
      have wr_3 : (r_3.toInt = 1 ∧ (0 : Int) ≤ p1.toInt ∧ p1.toInt ≤ (4 : Int)) ∨ (r_3.toInt = 0 ∧ ¬ ((0 : Int) ≤ p1.toInt ∧ p1.toInt ≤ (4 : Int))) := wr_3
      refine lv_if_eq (tgt := 53) hx hb dX12_led_41 (by decide) (fun c_4 => ?_) (fun c_4 => ?_)
      ·
        have kc_4 : r_3.toInt = (0 : Int) := i_eq c_4
        refine lv_iconst (v := (-1)) hx hb dX12_led_53 (by decide) ?_
        have q0_m1 : ((-1) : Int32).toInt = (-1) := rfl
        exact W.iret (v := (-1)) hx hb hr (fun tt ht hW => ⟨(-1), rfl, (by first | rfl | omega | trivial | assumption), ht⟩) (fun _ h => by cases h) dX12_led_54
      ·
        have kc_4 : r_3.toInt ≠ (0 : Int) := i_ne c_4
        refine lv_aload_n hx hb dX12_led_44 rfl (lv_at hl 0 rfl) ?_
        refine gr_ledOf hx hb hg hown hK hP (hg _ q5_45) dX12_led_45 ?_
        refine lv_iload_n hx hb dX12_led_48 rfl (lv_at hl 1 rfl) ?_
        refine lr_ledOf hx hb hK hP (i_in (by omega) (by omega)) dX12_led_49 ?_
        refine lv_topi (fun x_5 ex_5 => ?_)
        have ex_5 : x_5 = (b 53) p1.toNatClampNeg := ex_5
        have hx_5 : x_5.toInt = ((b 53) p1.toNatClampNeg).toInt := by rw [ex_5]
        have fx_5 : x_5 = 0 := by rw [ex_5]; exact hR.2.2.2.2.2.2.2.2.2.2.1 _
        subst fx_5
        refine lv_goto (tgt := 54) hx hb dX12_led_50 (by decide) ?_
        have q0_0 : (0 : Int32).toInt = 0 := rfl
        exact W.iret (v := 0) hx hb hr (fun tt ht hW => ⟨0, rfl, (by first | rfl | omega | trivial | assumption), ht⟩) (fun _ h => by cases h) dX12_led_54
    ·
      have kc_2 : p1.toInt = (6 : Int) := i_eq c_2
      refine lv_aload_n hx hb dX12_led_28 rfl (lv_at hl 0 rfl) ?_
      refine gr_told hx hb hg hown hK hP (hg _ q4_238) dX12_led_29 ?_
      refine lv_iconst (v := 0) hx hb dX12_led_32 (by decide) ?_
      refine lr_told hx hb hK hP (i_in (by decide) (by decide)) dX12_led_33 ?_
      refine lv_topi (fun x_6 ex_6 => ?_)
      have ex_6 : x_6 = (b 6) (0 : Int32).toNatClampNeg := ex_6
      have hx_6 : x_6.toInt = ((b 6) (0 : Int32).toNatClampNeg).toInt := by rw [ex_6]
      have ftx_6 := told4 hR.2.2.2.2.2.2.2.2.2.2.2.1 hR.2.2.2.2.2.2.2.2.2.2.2.2.1 hR.2.2.2.2.2.2.2.2.2.2.2.2.2.1 hR.2.2.2.2.2.2.2.2.2.2.2.2.2.2 0
      rw [← ex_6] at ftx_6
      exact W.iret (v := x_6) hx hb hr (fun tt ht hW => ⟨x_6, rfl, (by first | rfl | omega | trivial | assumption), ht⟩) (fun _ h => by cases h) dX12_led_34
  ·
    have kc_1 : p1.toInt = (5 : Int) := i_eq c_1
    refine lv_aload_n hx hb dX12_led_5 rfl (lv_at hl 0 rfl) ?_
    refine gr_liar hx hb hg hown hK hP (x := (-1)) hR.2.1 (hg _ q4_239) dX12_led_6 ?_
    refine lv_if_ge (tgt := 17) hx hb dX12_led_9 (by decide) (fun c_7 => absurd c_7 (by decide)) (fun c_7 => ?_)
    refine lv_bipush (v := (-2)) hx hb dX12_led_12 (by decide) ?_
    refine lv_goto (tgt := 21) hx hb dX12_led_14 (by decide) ?_
    have q0_m2 : ((-2) : Int32).toInt = (-2) := rfl
    exact W.iret (v := (-2)) hx hb hr (fun tt ht hW => ⟨(-2), rfl, (by first | rfl | omega | trivial | assumption), ht⟩) (fun _ h => by cases h) dX12_led_21
set_option maxHeartbeats 4000000 in
set_option maxRecDepth 100000 in
theorem k_F_X12_image (l : Launch) (D : va_G) (cs : Nat → ClassId) (A : Nat → Prop) (bd : Nat → Nat) (u : Nat → Int32) (b : Nat → Nat → Int32) (bw : Nat → Nat → Int64)   (hR : FrR u b) : Met l yX12_image (Cond.code yX12_image cX12_image 2 (some .int) :: gw) ({ frames := 0, cells := 0, slots := 0, locals := 0 }) (va_Pc [.ref (bd 0)] (XPre D (TY cs) (RW cs bd u b bw) A)) (va_Qi (fun (r : Int32) (z : Int32 × Int32 × Int32 × Int32 × Int32 × (Nat → Int32)) => r.toInt = 0) (XPo D (fun (z : Int32 × Int32 × Int32 × Int32 × Int32 × (Nat → Int32)) => RW cs bd (va_up (va_up (va_up (va_up (va_up u 54 z.1) 55 z.2.1) 56 z.2.2.1) 57 z.2.2.2.1) 58 z.2.2.2.2.1) (va_up b 61 z.2.2.2.2.2) bw) A) A) 0 0 A := by
  refine Met.ofW (cc := cX12_image) (maxL := 2) (ret := (some .int)) (by decide) rfl ?_
  intro p e s m args below meth c s₁ B hml hv
  obtain ⟨rfl, hP, hK, hD, hZ⟩ := hv
  have hx := B.exec
  have hb := B.bytes
  have hr := B.returns
  have hts := atoms_spec (ws := (Cond.code yX12_image cX12_image 2 (some .int) :: gw)) B.pre
  have hg : ∀ w ∈ gw, w.before ([.ref (bd 0)] : List Value).toArray s = true := fun w h => hts w (List.mem_cons_of_mem _ h)
  have hown : s.vm.findClass RX12 = some m.cls := findClass_of_methodNamed B.named
  have hlocks := B.notSynchronized
  have hS : va_S A s.heap s.heap [] := va_S.rf
  have hP : va_P D vwCl (RW cs bd u b bw) s.heap := hP
  have hu1 : (u 1).toInt = 0 := by rw [hR.1]; rfl
  have q6_0 : (0 : Int32).toInt = 0 := rfl
  have q6_2 : (2 : Int32).toInt = 2 := rfl
  have hl := lv_entry ([.ref (bd 0)]) (n := 2) (Nat.le_of_ble_eq_true rfl)
  rw [lg_entry_eq]
  generalize (lg_sl ([.ref (bd 0)]) ++ List.replicate (2 - (lg_sl ([.ref (bd 0)])).length) Slot.unset).toArray = ls at hl ⊢
  have hl : lv_has ls 2 [(0, .ref (bd 0))] := hl
  have hcut : ∀ n : Nat, (∀ (x1 : Int32) (x54 : Int32) (x55 : Int32) (x56 : Int32) (x57 : Int32) (x58 : Int32) (g : Nat → Int32) (H : Heap) (locs : List Loc) (i1 : 0 ≤ x1.toInt) (hmu : (5 - x1.toInt).toNat < n) (hP : va_P D vwCl (RW cs bd (va_up (va_up (va_up (va_up (va_up u 54 x54) 55 x55) 56 x56) 57 x57) 58 x58) (va_up b 61 g) bw) H) (hD : va_D A (RW cs bd (va_up (va_up (va_up (va_up (va_up u 54 x54) 55 x55) 56 x56) 57 x57) 58 x58) (va_up b 61 g) bw)) (hS : va_S A s.heap H locs) (ls : Array Slot) (hl : lv_has ls 2 [(0, .ref (bd 0)), (1, .int x1)]), W p l e (headSpec (Cond.code yX12_image cX12_image 2 (some .int) :: gw) ({ frames := 0, cells := 0, slots := 0, locals := 0 })).room s m ([.ref (bd 0)] : List Value).toArray below meth c H locs 0 0 (MQ below (va_Qi (fun (r : Int32) (z : Int32 × Int32 × Int32 × Int32 × Int32 × (Nat → Int32)) => r.toInt = 0) (XPo D (fun (z : Int32 × Int32 × Int32 × Int32 × Int32 × (Nat → Int32)) => RW cs bd (va_up (va_up (va_up (va_up (va_up u 54 z.1) 55 z.2.1) 56 z.2.2.1) 57 z.2.2.2.1) 58 z.2.2.2.2.1) (va_up b 61 z.2.2.2.2.2) bw) A) A) ([.ref (bd 0)] : List Value).toArray s 0 0 A) (F0 m 83 ls [])) := by
    intro n
    induction n with
    | zero => exact (fun x1 x54 x55 x56 x57 x58 g H locs i1 hmu hP hD hS ls hl => absurd hmu (Nat.not_lt_zero _))
    | succ n ih =>
      intro x1 x54 x55 x56 x57 x58 g H locs i1 hmu hP hD hS ls hl
      refine lv_iload_n hx hb dX12_image_83 rfl (lv_at hl 1 rfl) ?_
      refine lv_iconst (v := 5) hx hb dX12_image_84 (by decide) ?_
      refine lv_icmp_ge (tgt := 106) hx hb dX12_image_85 (by decide) (fun c_1 => ?_) (fun c_1 => ?_)
      ·
        have kc_1 : (5 : Int) ≤ x1.toInt := i_le c_1
        refine lv_aload_n hx hb dX12_image_106 rfl (lv_at hl 0 rfl) ?_
        refine gr_ledOf hx hb hg hown hK hP (hg _ q5_45) dX12_image_107 ?_
        refine lv_iconst (v := 0) hx hb dX12_image_110 (by decide) ?_
        refine lr_ledOf hx hb hK hP (i_in (by decide) (by decide)) dX12_image_111 ?_
        refine lv_topi (fun x_2 ex_2 => ?_)
        have ex_2 : x_2 = (b 53) (0 : Int32).toNatClampNeg := ex_2
        have hx_2 : x_2.toInt = ((b 53) (0 : Int32).toNatClampNeg).toInt := by rw [ex_2]
        have fx_2 : x_2 = 0 := by rw [ex_2]; exact hR.2.2.2.2.2.2.2.2.2.2.1 _
        subst fx_2
        have q0_0 : (0 : Int32).toInt = 0 := rfl
        exact W.iret (v := 0) hx hb hr (fun tt ht hW => ⟨⟨0, ⟨x54, x55, x56, x57, x58, g⟩, rfl, (by first | rfl | omega | trivial | assumption), by rw [ht]; exact hP, hD⟩, hS.F ht⟩) hS.2.2 dX12_image_112
      ·
        have kc_1 : x1.toInt < (5 : Int) := i_nle c_1
        refine lv_aload_n hx hb dX12_image_88 rfl (lv_at hl 0 rfl) ?_
        refine gr_keptLed hx hb hg hown hK hP (hg _ q5_53) dX12_image_89 ?_
        refine lv_iload_n hx hb dX12_image_92 rfl (lv_at hl 1 rfl) ?_
        refine lv_aload_n hx hb dX12_image_93 rfl (lv_at hl 0 rfl) ?_
        refine gr_ledOf hx hb hg hown hK hP (hg _ q5_45) dX12_image_94 ?_
        refine lv_iload_n hx hb dX12_image_97 rfl (lv_at hl 1 rfl) ?_
        refine lr_ledOf hx hb hK hP (i_in (by omega) (by omega)) dX12_image_98 ?_
        refine lv_topi (fun x_3 ex_3 => ?_)
        have ex_3 : x_3 = (b 53) x1.toNatClampNeg := ex_3
        have hx_3 : x_3.toInt = ((b 53) x1.toNatClampNeg).toInt := by rw [ex_3]
        have fx_3 : x_3 = 0 := by rw [ex_3]; exact hR.2.2.2.2.2.2.2.2.2.2.1 _
        subst fx_3
        refine sr_keptLed hx hb hK hP hD hS (i_in (by omega) (by omega)) dX12_image_99 (fun H locs hP hD hS => ?_)
        obtain ⟨x_4, ex_4⟩ : ∃ y : Int32, y = x1 + 1 := ⟨_, rfl⟩
        have fx_4 : x_4.toInt = x1.toInt + 1 := by rw [ex_4]; exact i_add (by first | omega | (show (_ : Int) ≤ x1.toInt + 1; omega)) (by first | omega | (show x1.toInt + 1 ≤ (_ : Int); omega))
        refine lv_iinc (v := x_4) (lv' := [(1, .int x_4), (0, .ref (bd 0))]) hx hb dX12_image_100 hl (k := 1) rfl (by rw [ex_4]; rfl) (by decide) rfl (fun ls hl => ?_)
        refine lv_goto (tgt := 83) hx hb dX12_image_103 (by decide) ?_
        exact ih x_4 x54 x55 x56 x57 x58 (upd g x1.toNatClampNeg 0) _ _ (by omega) (by omega) hP hD hS ls (lv_sub hl [1, 0] rfl)
  refine lv_aload_n hx hb dX12_image_0 rfl (lv_at hl 0 rfl) ?_
  refine lv_iconst (v := 1) hx hb dX12_image_1 (by decide) ?_
  refine pr_hasImage hx hb hg hown hK hP hD hS rfl rfl (hg _ q5_46) dX12_image_2 (fun H locs hP hD hS => ?_)
  refine lv_aload_n hx hb dX12_image_5 rfl (lv_at hl 0 rfl) ?_
  refine lv_aload_n hx hb dX12_image_6 rfl (lv_at hl 0 rfl) ?_
  refine gr_people1 hx hb hg hown hK hP (x := 0) hR.1 (hg _ q4_233) dX12_image_7 ?_
  refine pr_keptMany hx hb hg hown hK hP hD hS (hg _ q5_47) dX12_image_10 (fun H locs hP hD hS => ?_)
  refine lv_aload_n hx hb dX12_image_13 rfl (lv_at hl 0 rfl) ?_
  refine lv_aload_n hx hb dX12_image_14 rfl (lv_at hl 0 rfl) ?_
  refine gr_told hx hb hg hown hK hP (hg _ q4_238) dX12_image_15 ?_
  refine lv_iconst (v := 0) hx hb dX12_image_18 (by decide) ?_
  refine lr_told hx hb hK hP (i_in (by decide) (by decide)) dX12_image_19 ?_
  refine lv_topi (fun x_5 ex_5 => ?_)
  have ex_5 : x_5 = (b 6) (0 : Int32).toNatClampNeg := ex_5
  have hx_5 : x_5.toInt = ((b 6) (0 : Int32).toNatClampNeg).toInt := by rw [ex_5]
  have ftx_5 := told4 hR.2.2.2.2.2.2.2.2.2.2.2.1 hR.2.2.2.2.2.2.2.2.2.2.2.2.1 hR.2.2.2.2.2.2.2.2.2.2.2.2.2.1 hR.2.2.2.2.2.2.2.2.2.2.2.2.2.2 0
  rw [← ex_5] at ftx_5
  refine pr_keptBee hx hb hg hown hK hP hD hS (hg _ q5_48) dX12_image_20 (fun H locs hP hD hS => ?_)
  refine lv_aload_n hx hb dX12_image_23 rfl (lv_at hl 0 rfl) ?_
  refine lv_aload_n hx hb dX12_image_24 rfl (lv_at hl 0 rfl) ?_
  refine gr_told hx hb hg hown hK hP (hg _ q4_238) dX12_image_25 ?_
  refine lv_iconst (v := 2) hx hb dX12_image_28 (by decide) ?_
  refine lr_told hx hb hK hP (i_in (by decide) (by decide)) dX12_image_29 ?_
  refine lv_topi (fun x_6 ex_6 => ?_)
  have ex_6 : x_6 = (b 6) (2 : Int32).toNatClampNeg := ex_6
  have hx_6 : x_6.toInt = ((b 6) (2 : Int32).toNatClampNeg).toInt := by rw [ex_6]
  have ftx_6 := told4 hR.2.2.2.2.2.2.2.2.2.2.2.1 hR.2.2.2.2.2.2.2.2.2.2.2.2.1 hR.2.2.2.2.2.2.2.2.2.2.2.2.2.1 hR.2.2.2.2.2.2.2.2.2.2.2.2.2.2 2
  rw [← ex_6] at ftx_6
  refine pr_keptHour hx hb hg hown hK hP hD hS (hg _ q5_49) dX12_image_30 (fun H locs hP hD hS => ?_)
  refine lv_aload_n hx hb dX12_image_33 rfl (lv_at hl 0 rfl) ?_
  refine lv_aload_n hx hb dX12_image_34 rfl (lv_at hl 0 rfl) ?_
  refine gr_liar hx hb hg hown hK hP (x := (-1)) hR.2.1 (hg _ q4_239) dX12_image_35 ?_
  refine pr_keptLiar hx hb hg hown hK hP hD hS (hg _ q5_50) dX12_image_38 (fun H locs hP hD hS => ?_)
  refine lv_iconst (v := 0) hx hb dX12_image_41 (by decide) ?_
  refine lv_istore_n (lv' := [(1, .int 0), (0, .ref (bd 0))]) hx hb dX12_image_42 rfl hl (by decide) rfl (fun ls hl => ?_)
  refine lv_iload_n hx hb dX12_image_43 rfl (lv_at hl 0 rfl) ?_
  refine lv_aload_n hx hb dX12_image_44 rfl (lv_at hl 1 rfl) ?_
  refine gr_people1 hx hb hg hown hK hP (x := 0) hR.1 (hg _ q4_233) dX12_image_45 ?_
  refine lv_icmp_ge (tgt := 81) hx hb dX12_image_48 (by decide) (fun c_7 => ?_) (fun c_7 => absurd c_7 (by decide))
  refine lv_iconst (v := 0) hx hb dX12_image_81 (by decide) ?_
  refine lv_istore_n (lv' := [(1, .int 0), (0, .ref (bd 0))]) hx hb dX12_image_82 rfl hl (by decide) rfl (fun ls hl => ?_)
  have q0_1 : (1 : Int32).toInt = 1 := rfl
  have q0_0 : (0 : Int32).toInt = 0 := rfl
  have q0_m1 : ((-1) : Int32).toInt = (-1) := rfl
  exact (hcut (((5 - (0 : Int32).toInt).toNat) + 1)) 0 1 0 x_5 x_6 (-1) (b 61) _ _ (by omega) (Nat.lt_succ_self _) hP hD hS ls (lv_sub hl [1, 0] rfl)
set_option maxHeartbeats 4000000 in
set_option maxRecDepth 100000 in
theorem k_F_X12_back (l : Launch) (D : va_G) (cs : Nat → ClassId) (A : Nat → Prop) (bd : Nat → Nat) (u : Nat → Int32) (b : Nat → Nat → Int32) (bw : Nat → Nat → Int64)   (hR : FrR u b) : Met l yX12_back (Cond.code yX12_back cX12_back 2 (some .int) :: gw) ({ frames := 0, cells := 0, slots := 0, locals := 0 }) (va_Pc [.ref (bd 0)] (XPre D (TY cs) (RW cs bd u b bw) A)) (vp_Si (fun (r : Int32) => r.toInt = -5)) 0 0 (fun _ => False) := by
  refine Met.ofW (cc := cX12_back) (maxL := 2) (ret := (some .int)) (by decide) rfl ?_
  intro p e s m args below meth c s₁ B hml hv
  obtain ⟨rfl, hP, hK, hD, hZ⟩ := hv
  have hx := B.exec
  have hb := B.bytes
  have hr := B.returns
  have hts := atoms_spec (ws := (Cond.code yX12_back cX12_back 2 (some .int) :: gw)) B.pre
  have hg : ∀ w ∈ gw, w.before ([.ref (bd 0)] : List Value).toArray s = true := fun w h => hts w (List.mem_cons_of_mem _ h)
  have hown : s.vm.findClass RX12 = some m.cls := findClass_of_methodNamed B.named
  have hlocks := B.notSynchronized
  have hS : va_S A s.heap s.heap [] := va_S.rf
  have hu1 : (u 1).toInt = 0 := by rw [hR.1]; rfl
  have q6_0 : (0 : Int32).toInt = 0 := rfl
  have q6_2 : (2 : Int32).toInt = 2 := rfl
  have hl := lv_entry ([.ref (bd 0)]) (n := 2) (Nat.le_of_ble_eq_true rfl)
  rw [lg_entry_eq]
  generalize (lg_sl ([.ref (bd 0)]) ++ List.replicate (2 - (lg_sl ([.ref (bd 0)])).length) Slot.unset).toArray = ls at hl ⊢
  have hl : lv_has ls 2 [(0, .ref (bd 0))] := hl
  refine lv_aload_n hx hb dX12_back_0 rfl (lv_at hl 0 rfl) ?_
  refine gr_hasImage hx hb hg hown hK hP (x := 0) hR.2.2.2.2.2.2.1 (hg _ q5_46) dX12_back_1 ?_
  refine lv_if_ne (tgt := 10) hx hb dX12_back_4 (by decide) (fun c_1 => absurd c_1 (by decide)) (fun c_1 => ?_)
  refine lv_bipush (v := (-5)) hx hb dX12_back_7 (by decide) ?_
  have q0_m5 : ((-5) : Int32).toInt = (-5) := rfl
  exact W.iret (v := (-5)) hx hb hr (fun tt ht hW => ⟨(-5), rfl, (by first | rfl | omega | trivial | assumption), ht⟩) (fun _ h => by cases h) dX12_back_9
set_option maxHeartbeats 4000000 in
set_option maxRecDepth 100000 in
theorem k_F_X12_undo (l : Launch) (D : va_G) (cs : Nat → ClassId) (A : Nat → Prop) (bd : Nat → Nat) (u : Nat → Int32) (b : Nat → Nat → Int32) (bw : Nat → Nat → Int64)   (hR : FrR u b) : Met l yX12_undo (Cond.code yX12_undo cX12_undo 1 (some .int) :: gw) ({ frames := 0, cells := 0, slots := 0, locals := 0 }) (va_Pc [.ref (bd 0)] (XPre D (TY cs) (RW cs bd u b bw) A)) (vp_Si (fun (r : Int32) => r.toInt = -5)) 0 0 (fun _ => False) := by
  refine Met.ofW (cc := cX12_undo) (maxL := 1) (ret := (some .int)) (by decide) rfl ?_
  intro p e s m args below meth c s₁ B hml hv
  obtain ⟨rfl, hP, hK, hD, hZ⟩ := hv
  have hx := B.exec
  have hb := B.bytes
  have hr := B.returns
  have hts := atoms_spec (ws := (Cond.code yX12_undo cX12_undo 1 (some .int) :: gw)) B.pre
  have hg : ∀ w ∈ gw, w.before ([.ref (bd 0)] : List Value).toArray s = true := fun w h => hts w (List.mem_cons_of_mem _ h)
  have hown : s.vm.findClass RX12 = some m.cls := findClass_of_methodNamed B.named
  have hlocks := B.notSynchronized
  have hS : va_S A s.heap s.heap [] := va_S.rf
  have hu1 : (u 1).toInt = 0 := by rw [hR.1]; rfl
  have q6_0 : (0 : Int32).toInt = 0 := rfl
  have q6_2 : (2 : Int32).toInt = 2 := rfl
  have hl := lv_entry ([.ref (bd 0)]) (n := 1) (Nat.le_of_ble_eq_true rfl)
  rw [lg_entry_eq]
  generalize (lg_sl ([.ref (bd 0)]) ++ List.replicate (1 - (lg_sl ([.ref (bd 0)])).length) Slot.unset).toArray = ls at hl ⊢
  have hl : lv_has ls 1 [(0, .ref (bd 0))] := hl
  refine lv_aload_n hx hb dX12_undo_0 rfl (lv_at hl 0 rfl) ?_
  refine gr_doneMany hx hb hg hown hK hP (x := 0) hR.2.2.1 (hg _ q5_0) dX12_undo_1 ?_
  refine lv_if_ne (tgt := 10) hx hb dX12_undo_4 (by decide) (fun c_1 => absurd c_1 (by decide)) (fun c_1 => ?_)
  refine lv_bipush (v := (-5)) hx hb dX12_undo_7 (by decide) ?_
  have q0_m5 : ((-5) : Int32).toInt = (-5) := rfl
  exact W.iret (v := (-5)) hx hb hr (fun tt ht hW => ⟨(-5), rfl, (by first | rfl | omega | trivial | assumption), ht⟩) (fun _ h => by cases h) dX12_undo_9
set_option maxHeartbeats 4000000 in
set_option maxRecDepth 100000 in
theorem k_F_X12_redo (l : Launch) (D : va_G) (cs : Nat → ClassId) (A : Nat → Prop) (bd : Nat → Nat) (u : Nat → Int32) (b : Nat → Nat → Int32) (bw : Nat → Nat → Int64)   (hR : FrR u b) : Met l yX12_redo (Cond.code yX12_redo cX12_redo 1 (some .int) :: gw) ({ frames := 0, cells := 0, slots := 0, locals := 0 }) (va_Pc [.ref (bd 0)] (XPre D (TY cs) (RW cs bd u b bw) A)) (vp_Si (fun (r : Int32) => r.toInt = -5)) 0 0 (fun _ => False) := by
  refine Met.ofW (cc := cX12_redo) (maxL := 1) (ret := (some .int)) (by decide) rfl ?_
  intro p e s m args below meth c s₁ B hml hv
  obtain ⟨rfl, hP, hK, hD, hZ⟩ := hv
  have hx := B.exec
  have hb := B.bytes
  have hr := B.returns
  have hts := atoms_spec (ws := (Cond.code yX12_redo cX12_redo 1 (some .int) :: gw)) B.pre
  have hg : ∀ w ∈ gw, w.before ([.ref (bd 0)] : List Value).toArray s = true := fun w h => hts w (List.mem_cons_of_mem _ h)
  have hown : s.vm.findClass RX12 = some m.cls := findClass_of_methodNamed B.named
  have hlocks := B.notSynchronized
  have hS : va_S A s.heap s.heap [] := va_S.rf
  have hu1 : (u 1).toInt = 0 := by rw [hR.1]; rfl
  have q6_0 : (0 : Int32).toInt = 0 := rfl
  have q6_2 : (2 : Int32).toInt = 2 := rfl
  have hl := lv_entry ([.ref (bd 0)]) (n := 1) (Nat.le_of_ble_eq_true rfl)
  rw [lg_entry_eq]
  generalize (lg_sl ([.ref (bd 0)]) ++ List.replicate (1 - (lg_sl ([.ref (bd 0)])).length) Slot.unset).toArray = ls at hl ⊢
  have hl : lv_has ls 1 [(0, .ref (bd 0))] := hl
  refine lv_aload_n hx hb dX12_redo_0 rfl (lv_at hl 0 rfl) ?_
  refine gr_undoneMany hx hb hg hown hK hP (x := 0) hR.2.2.2.1 (hg _ q5_1) dX12_redo_1 ?_
  refine lv_if_ne (tgt := 10) hx hb dX12_redo_4 (by decide) (fun c_1 => absurd c_1 (by decide)) (fun c_1 => ?_)
  refine lv_bipush (v := (-5)) hx hb dX12_redo_7 (by decide) ?_
  have q0_m5 : ((-5) : Int32).toInt = (-5) := rfl
  exact W.iret (v := (-5)) hx hb hr (fun tt ht hW => ⟨(-5), rfl, (by first | rfl | omega | trivial | assumption), ht⟩) (fun _ h => by cases h) dX12_redo_9
set_option maxHeartbeats 4000000 in
set_option maxRecDepth 100000 in
theorem k_F_X12_body (l : Launch) (D : va_G) (cs : Nat → ClassId) (A : Nat → Prop) (bd : Nat → Nat) (u : Nat → Int32) (b : Nat → Nat → Int32) (bw : Nat → Nat → Int64)  (p1 : Int32) (hR : FrR u b) : Met l yX12_body (Cond.code yX12_body cX12_body 2 (some .int) :: gw) ({ frames := 1, cells := 0, slots := 0, locals := 22 }) (va_Pc [.ref (bd 0), .int p1] (XPre D (TY cs) (RW cs bd u b bw) A)) (va_Qi (fun (r : Int32) (z : (Nat → Int32) × Int32) => ((0 ≤ p1.toInt ∧ p1.toInt ≤ 7) ∧ r.toInt = 0) ∨ (¬ (0 ≤ p1.toInt ∧ p1.toInt ≤ 7) ∧ r.toInt = -1)) (XPo D (fun (z : (Nat → Int32) × Int32) => RW cs bd (va_up u 62 z.2) (va_up b 63 z.1) bw) A) A) 0 0 A := by
  refine Met.ofW (cc := cX12_body) (maxL := 2) (ret := (some .int)) (by decide) rfl ?_
  intro p e s m args below meth c s₁ B hml hv
  obtain ⟨rfl, hP, hK, hD, hZ⟩ := hv
  have hx := B.exec
  have hb := B.bytes
  have hr := B.returns
  have hts := atoms_spec (ws := (Cond.code yX12_body cX12_body 2 (some .int) :: gw)) B.pre
  have hg : ∀ w ∈ gw, w.before ([.ref (bd 0), .int p1] : List Value).toArray s = true := fun w h => hts w (List.mem_cons_of_mem _ h)
  have hown : s.vm.findClass RX12 = some m.cls := findClass_of_methodNamed B.named
  have hlocks := B.notSynchronized
  have hS : va_S A s.heap s.heap [] := va_S.rf
  have hP : va_P D vwCl (RW cs bd u b bw) s.heap := hP
  have hu1 : (u 1).toInt = 0 := by rw [hR.1]; rfl
  have q6_0 : (0 : Int32).toInt = 0 := rfl
  have q6_2 : (2 : Int32).toInt = 2 := rfl
  have hl := lv_entry ([.ref (bd 0), .int p1]) (n := 2) (Nat.le_of_ble_eq_true rfl)
  rw [lg_entry_eq]
  generalize (lg_sl ([.ref (bd 0), .int p1]) ++ List.replicate (2 - (lg_sl ([.ref (bd 0), .int p1])).length) Slot.unset).toArray = ls at hl ⊢
  have hl : lv_has ls 2 [(0, .ref (bd 0)), (1, .int p1)] := hl
  refine lv_iload_n hx hb dX12_body_0 rfl (lv_at hl 1 rfl) ?_
  refine lv_iconst (v := 0) hx hb dX12_body_1 (by decide) ?_
  refine lv_bipush (v := 7) hx hb dX12_body_2 (by decide) ?_
  refine cS_p (As := [.int p1, .int 0, .int 7]) (rest := []) ⟨hx, hb, hml, hown, hg⟩ (k_X12_in l   p1 0 7 ) ca_X12_in q5_212 ⟨rfl, rfl⟩ ⟨Nat.le_of_ble_eq_true rfl, Nat.le_of_ble_eq_true rfl⟩ rfl hl.1 rfl (Nat.le_of_ble_eq_true rfl) ⟨Nat.zero_le _, Nat.zero_le _⟩ dX12_body_4 (fun r_1 wr_1 => ?_)
  have wr_1 : (r_1.toInt = 1 ∧ (0 : Int) ≤ p1.toInt ∧ p1.toInt ≤ (7 : Int)) ∨ (r_1.toInt = 0 ∧ ¬ ((0 : Int) ≤ p1.toInt ∧ p1.toInt ≤ (7 : Int))) := wr_1
  refine lv_if_ne (tgt := 12) hx hb dX12_body_7 (by decide) (fun c_2 => ?_) (fun c_2 => ?_)
  ·
    have kc_2 : r_1.toInt ≠ (0 : Int) := i_ne c_2
    refine lv_aload_n hx hb dX12_body_12 rfl (lv_at hl 0 rfl) ?_
    refine gr_bodies hx hb hg hown hK hP (x := 0) hR.2.2.2.2.2.2.2.1 (hg _ q5_54) dX12_body_13 ?_
    refine lv_bipush (v := 50) hx hb dX12_body_16 (by decide) ?_
    refine lv_icmp_ne (tgt := 24) hx hb dX12_body_18 (by decide) (fun c_3 => ?_) (fun c_3 => absurd c_3 (by decide))
    refine lv_aload_n hx hb dX12_body_24 rfl (lv_at hl 0 rfl) ?_
    refine gr_kind hx hb hg hown hK hP (hg _ q5_55) dX12_body_25 ?_
    refine lv_aload_n hx hb dX12_body_28 rfl (lv_at hl 0 rfl) ?_
    refine gr_bodies hx hb hg hown hK hP (x := 0) hR.2.2.2.2.2.2.2.1 (hg _ q5_54) dX12_body_29 ?_
    refine lv_iload_n hx hb dX12_body_32 rfl (lv_at hl 1 rfl) ?_
    refine sr_kind hx hb hK hP hD hS (i_in (by decide) (by decide)) dX12_body_33 (fun H locs hP hD hS => ?_)
    refine lv_aload_n hx hb dX12_body_34 rfl (lv_at hl 0 rfl) ?_
    refine lv_dup hx hb dX12_body_35 rfl ?_
    refine gr_bodies hx hb hg hown hK hP (x := 0) hR.2.2.2.2.2.2.2.1 (hg _ q5_54) dX12_body_36 ?_
    refine lv_iconst (v := 1) hx hb dX12_body_39 (by decide) ?_
    refine lv_iadd hx hb dX12_body_40 ?_
    refine lv_topi (fun x_4 ex_4 => ?_)
    have fx_4 : x_4 = 1 := by rw [ex_4]; rfl
    subst fx_4
    refine pr_bodies hx hb hg hown hK hP hD hS (hg _ q5_54) dX12_body_41 (fun H locs hP hD hS => ?_)
    refine lv_aload_n hx hb dX12_body_44 rfl (lv_at hl 0 rfl) ?_
    refine gr_bodies hx hb hg hown hK hP (x := 1) rfl (hg _ q5_54) dX12_body_45 ?_
    refine lv_iconst (v := 1) hx hb dX12_body_48 (by decide) ?_
    refine lv_isub hx hb dX12_body_49 ?_
    refine lv_topi (fun x_5 ex_5 => ?_)
    have fx_5 : x_5 = 0 := by rw [ex_5]; rfl
    subst fx_5
    have q0_0 : (0 : Int32).toInt = 0 := rfl
    have q0_1 : (1 : Int32).toInt = 1 := rfl
    exact W.iret (v := 0) hx hb hr (fun tt ht hW => ⟨⟨0, ⟨(upd (b 63) (0 : Int32).toNatClampNeg p1), 1⟩, rfl, (by first | rfl | omega | trivial | assumption), by rw [ht]; exact hP, hD⟩, hS.F ht⟩) hS.2.2 dX12_body_50
  ·
    have kc_2 : r_1.toInt = (0 : Int) := i_eq c_2
    refine lv_iconst (v := (-1)) hx hb dX12_body_10 (by decide) ?_
    have q0_m1 : ((-1) : Int32).toInt = (-1) := rfl
    have hP : va_P D vwCl (RW cs bd (va_up u 62 (u 62)) (va_up b 63 (b 63)) bw) _ := hP
    have hD : va_D A (RW cs bd (va_up u 62 (u 62)) (va_up b 63 (b 63)) bw) := hD
    exact W.iret (v := (-1)) hx hb hr (fun tt ht hW => ⟨⟨(-1), ⟨(b 63), (u 62)⟩, rfl, (by first | rfl | omega | trivial | assumption), by rw [ht]; exact hP, hD⟩, hS.F ht⟩) hS.2.2 dX12_body_11
set_option maxHeartbeats 4000000 in
set_option maxRecDepth 100000 in
theorem k_F_X12_act (l : Launch) (D : va_G) (cs : Nat → ClassId) (A : Nat → Prop) (bd : Nat → Nat) (u : Nat → Int32) (b : Nat → Nat → Int32) (bw : Nat → Nat → Int64)  (p1 : Int32) (p2 : Int32) (p3 : Int32) (hR : FrR u b) : Met l yX12_act (Cond.code yX12_act cX12_act 4 (some .int) :: gw) ({ frames := 2, cells := 0, slots := 0, locals := 43 }) (va_Pc [.ref (bd 0), .int p1, .int p2, .int p3] (XPre D (TY cs) (RW cs bd u b bw) A)) (va_Qi (fun (r : Int32) (z : Int32) => r.toInt = 0) (XPo D (fun (z : Int32) => RW cs bd (va_up u 64 z) b bw) A) A) 0 0 A := by
  refine Met.ofW (cc := cX12_act) (maxL := 4) (ret := (some .int)) (by decide) rfl ?_
  intro p e s m args below meth c s₁ B hml hv
  obtain ⟨rfl, hP, hK, hD, hZ⟩ := hv
  have hx := B.exec
  have hb := B.bytes
  have hr := B.returns
  have hts := atoms_spec (ws := (Cond.code yX12_act cX12_act 4 (some .int) :: gw)) B.pre
  have hg : ∀ w ∈ gw, w.before ([.ref (bd 0), .int p1, .int p2, .int p3] : List Value).toArray s = true := fun w h => hts w (List.mem_cons_of_mem _ h)
  have hown : s.vm.findClass RX12 = some m.cls := findClass_of_methodNamed B.named
  have hlocks := B.notSynchronized
  have hS : va_S A s.heap s.heap [] := va_S.rf
  have hP : va_P D vwCl (RW cs bd u b bw) s.heap := hP
  have hu1 : (u 1).toInt = 0 := by rw [hR.1]; rfl
  have q6_0 : (0 : Int32).toInt = 0 := rfl
  have q6_2 : (2 : Int32).toInt = 2 := rfl
  have hl := lv_entry ([.ref (bd 0), .int p1, .int p2, .int p3]) (n := 4) (Nat.le_of_ble_eq_true rfl)
  rw [lg_entry_eq]
  generalize (lg_sl ([.ref (bd 0), .int p1, .int p2, .int p3]) ++ List.replicate (4 - (lg_sl ([.ref (bd 0), .int p1, .int p2, .int p3])).length) Slot.unset).toArray = ls at hl ⊢
  have hl : lv_has ls 4 [(0, .ref (bd 0)), (1, .int p1), (2, .int p2), (3, .int p3)] := hl
  refine lv_aload_n hx hb dX12_act_0 rfl (lv_at hl 0 rfl) ?_
  refine lv_iconst (v := 0) hx hb dX12_act_1 (by decide) ?_
  refine pr_traces hx hb hg hown hK hP hD hS (hg _ q5_56) dX12_act_2 (fun H locs hP hD hS => ?_)
  refine lv_aload_n hx hb dX12_act_5 rfl (lv_at hl 0 rfl) ?_
  refine lv_iload_n hx hb dX12_act_6 rfl (lv_at hl 1 rfl) ?_
  refine cV_ro (As := [.int p1]) (rest := []) ⟨hx, hb, hml, hown, hg⟩ (k_F_X12_isBody l D cs A bd (va_up u 64 0) b bw  p1 hR.2.2.2.2.2.2.2.1) ca_X12_isBody q7_44 ⟨rfl, rfl⟩ ⟨Nat.le_of_ble_eq_true rfl, Nat.le_of_ble_eq_true rfl⟩ (rc_model hK hP) hK hP hD hS hZ rfl hl.1 rfl (Nat.le_of_ble_eq_true rfl) ⟨Nat.zero_le _, Nat.zero_le _⟩ dX12_act_7 (fun r_1 wr_1 => ?_)
  have wr_1 : r_1.toInt = 0 := wr_1
  refine lv_if_eq (tgt := 22) hx hb dX12_act_10 (by decide) (fun c_2 => ?_) (fun c_2 => ?_)
  ·
    have kc_2 : r_1.toInt = (0 : Int) := i_eq c_2
    refine lv_iconst (v := 0) hx hb dX12_act_22 (by decide) ?_
    have q0_0 : (0 : Int32).toInt = 0 := rfl
    have q0_0 : (0 : Int32).toInt = 0 := rfl
    exact W.iret (v := 0) hx hb hr (fun tt ht hW => ⟨⟨0, 0, rfl, (by first | rfl | omega | trivial | assumption), by rw [ht]; exact hP, hD⟩, hS.F ht⟩) hS.2.2 dX12_act_23
  ·
    have kc_2 : r_1.toInt ≠ (0 : Int) := i_ne c_2
    exfalso; omega
set_option maxHeartbeats 4000000 in
set_option maxRecDepth 100000 in
theorem k_F_X12_trace (l : Launch) (D : va_G) (cs : Nat → ClassId) (A : Nat → Prop) (bd : Nat → Nat) (u : Nat → Int32) (b : Nat → Nat → Int32) (bw : Nat → Nat → Int64)  (p1 : Int32) (hR : FrR u b) : Met l yX12_trace (Cond.code yX12_trace cX12_trace 2 (some .int) :: gw) ({ frames := 0, cells := 0, slots := 0, locals := 0 }) (va_Pc [.ref (bd 0), .int p1] (XPre D (TY cs) (RW cs bd u b bw) A)) (vp_Si (fun (r : Int32) => r.toInt = -1)) 0 0 (fun _ => False) := by
  refine Met.ofW (cc := cX12_trace) (maxL := 2) (ret := (some .int)) (by decide) rfl ?_
  intro p e s m args below meth c s₁ B hml hv
  obtain ⟨rfl, hP, hK, hD, hZ⟩ := hv
  have hx := B.exec
  have hb := B.bytes
  have hr := B.returns
  have hts := atoms_spec (ws := (Cond.code yX12_trace cX12_trace 2 (some .int) :: gw)) B.pre
  have hg : ∀ w ∈ gw, w.before ([.ref (bd 0), .int p1] : List Value).toArray s = true := fun w h => hts w (List.mem_cons_of_mem _ h)
  have hown : s.vm.findClass RX12 = some m.cls := findClass_of_methodNamed B.named
  have hlocks := B.notSynchronized
  have hS : va_S A s.heap s.heap [] := va_S.rf
  have hu1 : (u 1).toInt = 0 := by rw [hR.1]; rfl
  have q6_0 : (0 : Int32).toInt = 0 := rfl
  have q6_2 : (2 : Int32).toInt = 2 := rfl
  have hl := lv_entry ([.ref (bd 0), .int p1]) (n := 2) (Nat.le_of_ble_eq_true rfl)
  rw [lg_entry_eq]
  generalize (lg_sl ([.ref (bd 0), .int p1]) ++ List.replicate (2 - (lg_sl ([.ref (bd 0), .int p1])).length) Slot.unset).toArray = ls at hl ⊢
  have hl : lv_has ls 2 [(0, .ref (bd 0)), (1, .int p1)] := hl
  refine lv_iload_n hx hb dX12_trace_0 rfl (lv_at hl 1 rfl) ?_
  refine lv_if_lt (tgt := 27) hx hb dX12_trace_1 (by decide) (fun c_1 => ?_) (fun c_1 => ?_)
  ·
    have kc_1 : p1.toInt < (0 : Int) := i_lt c_1
    refine lv_iconst (v := (-1)) hx hb dX12_trace_27 (by decide) ?_
    have q0_m1 : ((-1) : Int32).toInt = (-1) := rfl
    exact W.iret (v := (-1)) hx hb hr (fun tt ht hW => ⟨(-1), rfl, (by first | rfl | omega | trivial | assumption), ht⟩) (fun _ h => by cases h) dX12_trace_28
  ·
    have kc_1 : (0 : Int) ≤ p1.toInt := i_nlt c_1
    refine lv_iload_n hx hb dX12_trace_4 rfl (lv_at hl 1 rfl) ?_
    refine lv_aload_n hx hb dX12_trace_5 rfl (lv_at hl 0 rfl) ?_
    refine gr_traces hx hb hg hown hK hP (x := 0) hR.2.2.2.2.2.2.2.2.1 (hg _ q5_56) dX12_trace_6 ?_
    refine lv_icmp_ge (tgt := 27) hx hb dX12_trace_9 (by decide) (fun c_2 => ?_) (fun c_2 => ?_)
    ·
      have kc_2 : (0 : Int) ≤ p1.toInt := i_le c_2
      refine lv_iconst (v := (-1)) hx hb dX12_trace_27 (by decide) ?_
      have q0_m1 : ((-1) : Int32).toInt = (-1) := rfl
      exact W.iret (v := (-1)) hx hb hr (fun tt ht hW => ⟨(-1), rfl, (by first | rfl | omega | trivial | assumption), ht⟩) (fun _ h => by cases h) dX12_trace_28
    ·
      have kc_2 : p1.toInt < (0 : Int) := i_nle c_2
      exfalso; omega
set_option maxHeartbeats 4000000 in
set_option maxRecDepth 100000 in
theorem k_F_X12_keep (l : Launch) (D : va_G) (cs : Nat → ClassId) (A : Nat → Prop) (bd : Nat → Nat) (u : Nat → Int32) (b : Nat → Nat → Int32) (bw : Nat → Nat → Int64)  (p1 : Int32) (p2 : Int32) (hR : FrR u b) : Met l yX12_keep (Cond.code yX12_keep cX12_keep 3 (some .int) :: gw) ({ frames := 2, cells := 0, slots := 0, locals := 43 }) (va_Pc [.ref (bd 0), .int p1, .int p2] (XPre D (TY cs) (RW cs bd u b bw) A)) (va_Qi (fun (r : Int32) (z : Nat → Int32) => ((0 ≤ p1.toInt ∧ p1.toInt < 6 ∧ p2.toInt = -1) ∧ r.toInt = 1) ∨ (¬ (0 ≤ p1.toInt ∧ p1.toInt < 6 ∧ p2.toInt = -1) ∧ r.toInt = -1)) (XPo D (fun (z : Nat → Int32) => RW cs bd u (va_up b 66 z) bw) A) A) 0 0 A := by
  refine Met.ofW (cc := cX12_keep) (maxL := 3) (ret := (some .int)) (by decide) rfl ?_
  intro p e s m args below meth c s₁ B hml hv
  obtain ⟨rfl, hP, hK, hD, hZ⟩ := hv
  have hx := B.exec
  have hb := B.bytes
  have hr := B.returns
  have hts := atoms_spec (ws := (Cond.code yX12_keep cX12_keep 3 (some .int) :: gw)) B.pre
  have hg : ∀ w ∈ gw, w.before ([.ref (bd 0), .int p1, .int p2] : List Value).toArray s = true := fun w h => hts w (List.mem_cons_of_mem _ h)
  have hown : s.vm.findClass RX12 = some m.cls := findClass_of_methodNamed B.named
  have hlocks := B.notSynchronized
  have hS : va_S A s.heap s.heap [] := va_S.rf
  have hP : va_P D vwCl (RW cs bd u b bw) s.heap := hP
  have hu1 : (u 1).toInt = 0 := by rw [hR.1]; rfl
  have q6_0 : (0 : Int32).toInt = 0 := rfl
  have q6_2 : (2 : Int32).toInt = 2 := rfl
  have hl := lv_entry ([.ref (bd 0), .int p1, .int p2]) (n := 3) (Nat.le_of_ble_eq_true rfl)
  rw [lg_entry_eq]
  generalize (lg_sl ([.ref (bd 0), .int p1, .int p2]) ++ List.replicate (3 - (lg_sl ([.ref (bd 0), .int p1, .int p2])).length) Slot.unset).toArray = ls at hl ⊢
  have hl : lv_has ls 3 [(0, .ref (bd 0)), (1, .int p1), (2, .int p2)] := hl
  refine lv_iload_n hx hb dX12_keep_0 rfl (lv_at hl 1 rfl) ?_
  refine cS_p (As := [.int p1]) (rest := []) ⟨hx, hb, hml, hown, hg⟩ (k_X12_isShelf l   p1 ) ca_X12_isShelf q5_223 ⟨rfl, rfl⟩ ⟨Nat.le_of_ble_eq_true rfl, Nat.le_of_ble_eq_true rfl⟩ rfl hl.1 rfl (Nat.le_of_ble_eq_true rfl) ⟨Nat.zero_le _, Nat.zero_le _⟩ dX12_keep_1 (fun r_1 wr_1 => ?_)
  have wr_1 : (r_1.toInt = 1 ∧ 0 ≤ p1.toInt ∧ p1.toInt < 6) ∨ (r_1.toInt = 0 ∧ ¬ (0 ≤ p1.toInt ∧ p1.toInt < 6)) := wr_1
  refine lv_if_eq (tgt := 20) hx hb dX12_keep_4 (by decide) (fun c_2 => ?_) (fun c_2 => ?_)
  ·
    have kc_2 : r_1.toInt = (0 : Int) := i_eq c_2
    refine lv_iconst (v := (-1)) hx hb dX12_keep_20 (by decide) ?_
    have q0_m1 : ((-1) : Int32).toInt = (-1) := rfl
    have hP : va_P D vwCl (RW cs bd u (va_up b 66 (b 66)) bw) _ := hP
    have hD : va_D A (RW cs bd u (va_up b 66 (b 66)) bw) := hD
    exact W.iret (v := (-1)) hx hb hr (fun tt ht hW => ⟨⟨(-1), (b 66), rfl, (by first | rfl | omega | trivial | assumption), by rw [ht]; exact hP, hD⟩, hS.F ht⟩) hS.2.2 dX12_keep_21
  ·
    have kc_2 : r_1.toInt ≠ (0 : Int) := i_ne c_2
    refine lv_iload_n hx hb dX12_keep_7 rfl (lv_at hl 2 rfl) ?_
    refine lv_iconst (v := (-1)) hx hb dX12_keep_8 (by decide) ?_
    refine lv_icmp_eq (tgt := 22) hx hb dX12_keep_9 (by decide) (fun c_3 => ?_) (fun c_3 => ?_)
    ·
      have kc_3 : p2.toInt = (-1 : Int) := i_eq c_3
      refine lv_aload_n hx hb dX12_keep_22 rfl (lv_at hl 0 rfl) ?_
      refine gr_holds hx hb hg hown hK hP (hg _ q5_58) dX12_keep_23 ?_
      refine lv_iload_n hx hb dX12_keep_26 rfl (lv_at hl 1 rfl) ?_
      refine lv_iload_n hx hb dX12_keep_27 rfl (lv_at hl 2 rfl) ?_
      refine sr_holds hx hb hK hP hD hS (i_in (by omega) (by omega)) dX12_keep_28 (fun H locs hP hD hS => ?_)
      refine lv_iconst (v := 1) hx hb dX12_keep_29 (by decide) ?_
      have q0_1 : (1 : Int32).toInt = 1 := rfl
      exact W.iret (v := 1) hx hb hr (fun tt ht hW => ⟨⟨1, (upd (b 66) p1.toNatClampNeg p2), rfl, (by first | rfl | omega | trivial | assumption), by rw [ht]; exact hP, hD⟩, hS.F ht⟩) hS.2.2 dX12_keep_30
    ·
      have kc_3 : p2.toInt ≠ (-1 : Int) := i_ne c_3
      refine lv_aload_n hx hb dX12_keep_12 rfl (lv_at hl 0 rfl) ?_
      refine lv_iload_n hx hb dX12_keep_13 rfl (lv_at hl 2 rfl) ?_
      refine cV_ro (As := [.int p2]) (rest := []) ⟨hx, hb, hml, hown, hg⟩ (k_F_X12_isBody l D cs A bd u b bw  p2 hR.2.2.2.2.2.2.2.1) ca_X12_isBody q7_44 ⟨rfl, rfl⟩ ⟨Nat.le_of_ble_eq_true rfl, Nat.le_of_ble_eq_true rfl⟩ (rc_model hK hP) hK hP hD hS hZ rfl hl.1 rfl (Nat.le_of_ble_eq_true rfl) ⟨Nat.zero_le _, Nat.zero_le _⟩ dX12_keep_14 (fun r_4 wr_4 => ?_)
      have wr_4 : r_4.toInt = 0 := wr_4
      refine lv_if_ne (tgt := 22) hx hb dX12_keep_17 (by decide) (fun c_5 => ?_) (fun c_5 => ?_)
      ·
        have kc_5 : r_4.toInt ≠ (0 : Int) := i_ne c_5
        exfalso; omega
      ·
        have kc_5 : r_4.toInt = (0 : Int) := i_eq c_5
        refine lv_iconst (v := (-1)) hx hb dX12_keep_20 (by decide) ?_
        have q0_m1 : ((-1) : Int32).toInt = (-1) := rfl
        have hP : va_P D vwCl (RW cs bd u (va_up b 66 (b 66)) bw) _ := hP
        have hD : va_D A (RW cs bd u (va_up b 66 (b 66)) bw) := hD
        exact W.iret (v := (-1)) hx hb hr (fun tt ht hW => ⟨⟨(-1), (b 66), rfl, (by first | rfl | omega | trivial | assumption), by rw [ht]; exact hP, hD⟩, hS.F ht⟩) hS.2.2 dX12_keep_21
set_option maxHeartbeats 4000000 in
set_option maxRecDepth 100000 in
theorem k_F_X12_row (l : Launch) (D : va_G) (cs : Nat → ClassId) (A : Nat → Prop) (bd : Nat → Nat) (u : Nat → Int32) (b : Nat → Nat → Int32) (bw : Nat → Nat → Int64)  (p1 : Int32) (p2 : Int32) (p3 : Int32) (hR : FrR u b) : Met l yX12_row (Cond.code yX12_row cX12_row 5 (some .int) :: gw) ({ frames := 2, cells := 0, slots := 0, locals := 42 }) (va_Pc [.ref (bd 0), .int p1, .int p2, .int p3] (XPre D (TY cs) (RW cs bd u b bw) A)) (va_Qi (fun (r : Int32) (z : (Nat → Int32) × (Nat → Int32) × (Nat → Int64)) => ((0 ≤ p1.toInt ∧ p1.toInt < 6 ∧ 0 ≤ p2.toInt ∧ p2.toInt ≤ 4 ∧ p3.toInt ≤ 60) ∧ ((p3.toInt < 0 ∧ r.toInt = -14) ∨ (0 ≤ p3.toInt ∧ r.toInt = 1))) ∨ (¬ (0 ≤ p1.toInt ∧ p1.toInt < 6 ∧ 0 ≤ p2.toInt ∧ p2.toInt ≤ 4 ∧ p3.toInt ≤ 60) ∧ r.toInt = -1)) (XPo D (fun (z : (Nat → Int32) × (Nat → Int32) × (Nat → Int64)) => RW cs bd u (va_up (va_up b 66 z.1) 67 z.2.1) (va_up bw 68 z.2.2)) A) A) 0 0 A := by
  refine Met.ofW (cc := cX12_row) (maxL := 5) (ret := (some .int)) (by decide) rfl ?_
  intro p e s m args below meth c s₁ B hml hv
  obtain ⟨rfl, hP, hK, hD, hZ⟩ := hv
  have hx := B.exec
  have hb := B.bytes
  have hr := B.returns
  have hts := atoms_spec (ws := (Cond.code yX12_row cX12_row 5 (some .int) :: gw)) B.pre
  have hg : ∀ w ∈ gw, w.before ([.ref (bd 0), .int p1, .int p2, .int p3] : List Value).toArray s = true := fun w h => hts w (List.mem_cons_of_mem _ h)
  have hown : s.vm.findClass RX12 = some m.cls := findClass_of_methodNamed B.named
  have hlocks := B.notSynchronized
  have hS : va_S A s.heap s.heap [] := va_S.rf
  have hP : va_P D vwCl (RW cs bd u b bw) s.heap := hP
  have hu1 : (u 1).toInt = 0 := by rw [hR.1]; rfl
  have q6_0 : (0 : Int32).toInt = 0 := rfl
  have q6_2 : (2 : Int32).toInt = 2 := rfl
  have hl := lv_entry ([.ref (bd 0), .int p1, .int p2, .int p3]) (n := 5) (Nat.le_of_ble_eq_true rfl)
  rw [lg_entry_eq]
  generalize (lg_sl ([.ref (bd 0), .int p1, .int p2, .int p3]) ++ List.replicate (5 - (lg_sl ([.ref (bd 0), .int p1, .int p2, .int p3])).length) Slot.unset).toArray = ls at hl ⊢
  have hl : lv_has ls 5 [(0, .ref (bd 0)), (1, .int p1), (2, .int p2), (3, .int p3)] := hl
  have hcut : ∀ n : Nat, (∀ (x4 : Int32) (gh : Nat → Int32) (gs : Nat → Int32) (ge : Nat → Int64) (H : Heap) (locs : List Loc) (j1 : 0 ≤ p1.toInt) (j2 : p1.toInt < 6) (j3 : 0 ≤ p2.toInt) (j4 : p2.toInt ≤ 4) (j5 : p3.toInt ≤ 60) (j6 : 0 ≤ p3.toInt) (i1 : 60 * p1.toInt ≤ x4.toInt) (hmu : (360 - x4.toInt).toNat < n) (hP : va_P D vwCl (RW cs bd u (va_up (va_up b 66 gh) 67 gs) (va_up bw 68 ge)) H) (hD : va_D A (RW cs bd u (va_up (va_up b 66 gh) 67 gs) (va_up bw 68 ge))) (hS : va_S A s.heap H locs) (ls : Array Slot) (hl : lv_has ls 5 [(0, .ref (bd 0)), (1, .int p1), (2, .int p2), (3, .int p3), (4, .int x4)]), W p l e (headSpec (Cond.code yX12_row cX12_row 5 (some .int) :: gw) ({ frames := 2, cells := 0, slots := 0, locals := 42 })).room s m ([.ref (bd 0), .int p1, .int p2, .int p3] : List Value).toArray below meth c H locs 0 0 (MQ below (va_Qi (fun (r : Int32) (z : (Nat → Int32) × (Nat → Int32) × (Nat → Int64)) => ((0 ≤ p1.toInt ∧ p1.toInt < 6 ∧ 0 ≤ p2.toInt ∧ p2.toInt ≤ 4 ∧ p3.toInt ≤ 60) ∧ ((p3.toInt < 0 ∧ r.toInt = -14) ∨ (0 ≤ p3.toInt ∧ r.toInt = 1))) ∨ (¬ (0 ≤ p1.toInt ∧ p1.toInt < 6 ∧ 0 ≤ p2.toInt ∧ p2.toInt ≤ 4 ∧ p3.toInt ≤ 60) ∧ r.toInt = -1)) (XPo D (fun (z : (Nat → Int32) × (Nat → Int32) × (Nat → Int64)) => RW cs bd u (va_up (va_up b 66 z.1) 67 z.2.1) (va_up bw 68 z.2.2)) A) A) ([.ref (bd 0), .int p1, .int p2, .int p3] : List Value).toArray s 0 0 A) (F0 m 54 ls [])) := by
    intro n
    induction n with
    | zero => exact (fun x4 gh gs ge H locs j1 j2 j3 j4 j5 j6 i1 hmu hP hD hS ls hl => absurd hmu (Nat.not_lt_zero _))
    | succ n ih =>
      intro x4 gh gs ge H locs j1 j2 j3 j4 j5 j6 i1 hmu hP hD hS ls hl
      refine lv_iload hx hb dX12_row_54 (lv_at hl 4 rfl) ?_
      refine lv_bipush (v := 60) hx hb dX12_row_56 (by decide) ?_
      refine lv_iload_n hx hb dX12_row_58 rfl (lv_at hl 1 rfl) ?_
      refine lv_imul hx hb dX12_row_59 ?_
      refine lv_topi (fun x_1 ex_1 => ?_)
      have fx_1 : x_1.toInt = (60 : Int) * p1.toInt := by rw [ex_1]; exact i_mul (by first | omega | (show _ ≤ (60 : Int) * p1.toInt; omega)) (by first | omega | (show (60 : Int) * p1.toInt ≤ _; omega))
      refine lv_bipush (v := 60) hx hb dX12_row_60 (by decide) ?_
      refine lv_iadd hx hb dX12_row_62 ?_
      refine lv_topi (fun x_2 ex_2 => ?_)
      have fx_2 : x_2.toInt = x_1.toInt + (60 : Int) := by rw [ex_2]; exact i_add (by first | omega | (show (_ : Int) ≤ x_1.toInt + (60 : Int); omega)) (by first | omega | (show x_1.toInt + (60 : Int) ≤ (_ : Int); omega))
      refine lv_icmp_ge (tgt := 80) hx hb dX12_row_63 (by decide) (fun c_3 => ?_) (fun c_3 => ?_)
      ·
        have kc_3 : x_2.toInt ≤ x4.toInt := i_le c_3
        refine lv_iconst (v := 1) hx hb dX12_row_80 (by decide) ?_
        have q0_1 : (1 : Int32).toInt = 1 := rfl
        exact W.iret (v := 1) hx hb hr (fun tt ht hW => ⟨⟨1, ⟨gh, gs, ge⟩, rfl, (by first | rfl | omega | trivial | assumption), by rw [ht]; exact hP, hD⟩, hS.F ht⟩) hS.2.2 dX12_row_81
      ·
        have kc_3 : x4.toInt < x_2.toInt := i_nle c_3
        refine lv_aload_n hx hb dX12_row_66 rfl (lv_at hl 0 rfl) ?_
        refine gr_elements hx hb hg hown hK hP (hg _ q5_60) dX12_row_67 ?_
        refine lv_iload hx hb dX12_row_70 (lv_at hl 4 rfl) ?_
        refine lv_lconst (v := 0) hx hb dX12_row_72 (by decide) ?_
        refine sr_elements hx hb hK hP hD hS (i_in (by omega) (by omega)) dX12_row_73 (fun H locs hP hD hS => ?_)
        obtain ⟨x_4, ex_4⟩ : ∃ y : Int32, y = x4 + 1 := ⟨_, rfl⟩
        have fx_4 : x_4.toInt = x4.toInt + 1 := by rw [ex_4]; exact i_add (by first | omega | (show (_ : Int) ≤ x4.toInt + 1; omega)) (by first | omega | (show x4.toInt + 1 ≤ (_ : Int); omega))
        refine lv_iinc (v := x_4) (lv' := [(4, .int x_4), (0, .ref (bd 0)), (1, .int p1), (2, .int p2), (3, .int p3)]) hx hb dX12_row_74 hl (k := 4) rfl (by rw [ex_4]; rfl) (by decide) rfl (fun ls hl => ?_)
        refine lv_goto (tgt := 54) hx hb dX12_row_77 (by decide) ?_
        exact ih x_4 gh gs (vp_updL ge x4.toNatClampNeg 0) _ _ (by omega) (by omega) (by omega) (by omega) (by omega) (by omega) (by omega) (by omega) hP hD hS ls (lv_sub hl [1, 2, 3, 4, 0] rfl)
  refine lv_iload_n hx hb dX12_row_0 rfl (lv_at hl 1 rfl) ?_
  refine cS_p (As := [.int p1]) (rest := []) ⟨hx, hb, hml, hown, hg⟩ (k_X12_isShelf l   p1 ) ca_X12_isShelf q5_223 ⟨rfl, rfl⟩ ⟨Nat.le_of_ble_eq_true rfl, Nat.le_of_ble_eq_true rfl⟩ rfl hl.1 rfl (Nat.le_of_ble_eq_true rfl) ⟨Nat.zero_le _, Nat.zero_le _⟩ dX12_row_1 (fun r_5 wr_5 => ?_)
  have wr_5 : (r_5.toInt = 1 ∧ 0 ≤ p1.toInt ∧ p1.toInt < 6) ∨ (r_5.toInt = 0 ∧ ¬ (0 ≤ p1.toInt ∧ p1.toInt < 6)) := wr_5
  refine lv_if_eq (tgt := 22) hx hb dX12_row_4 (by decide) (fun c_6 => ?_) (fun c_6 => ?_)
  ·
    have kc_6 : r_5.toInt = (0 : Int) := i_eq c_6
    refine lv_iconst (v := (-1)) hx hb dX12_row_22 (by decide) ?_
    have q0_m1 : ((-1) : Int32).toInt = (-1) := rfl
    have hP : va_P D vwCl (RW cs bd u (va_up (va_up b 66 (b 66)) 67 (b 67)) (va_up bw 68 (bw 68))) _ := hP
    have hD : va_D A (RW cs bd u (va_up (va_up b 66 (b 66)) 67 (b 67)) (va_up bw 68 (bw 68))) := hD
    exact W.iret (v := (-1)) hx hb hr (fun tt ht hW => ⟨⟨(-1), ⟨(b 66), (b 67), (bw 68)⟩, rfl, (by first | rfl | omega | trivial | assumption), by rw [ht]; exact hP, hD⟩, hS.F ht⟩) hS.2.2 dX12_row_23
  ·
    have kc_6 : r_5.toInt ≠ (0 : Int) := i_ne c_6
    refine lv_iload_n hx hb dX12_row_7 rfl (lv_at hl 2 rfl) ?_
    refine lv_iconst (v := 0) hx hb dX12_row_8 (by decide) ?_
    refine lv_iconst (v := 4) hx hb dX12_row_9 (by decide) ?_
    refine cS_p (As := [.int p2, .int 0, .int 4]) (rest := []) ⟨hx, hb, hml, hown, hg⟩ (k_X12_in l   p2 0 4 ) ca_X12_in q5_212 ⟨rfl, rfl⟩ ⟨Nat.le_of_ble_eq_true rfl, Nat.le_of_ble_eq_true rfl⟩ rfl hl.1 rfl (Nat.le_of_ble_eq_true rfl) ⟨Nat.zero_le _, Nat.zero_le _⟩ dX12_row_10 (fun r_7 wr_7 => ?_)
    have wr_7 : (r_7.toInt = 1 ∧ (0 : Int) ≤ p2.toInt ∧ p2.toInt ≤ (4 : Int)) ∨ (r_7.toInt = 0 ∧ ¬ ((0 : Int) ≤ p2.toInt ∧ p2.toInt ≤ (4 : Int))) := wr_7
    refine lv_if_eq (tgt := 22) hx hb dX12_row_13 (by decide) (fun c_8 => ?_) (fun c_8 => ?_)
    ·
      have kc_8 : r_7.toInt = (0 : Int) := i_eq c_8
      refine lv_iconst (v := (-1)) hx hb dX12_row_22 (by decide) ?_
      have q0_m1 : ((-1) : Int32).toInt = (-1) := rfl
      have hP : va_P D vwCl (RW cs bd u (va_up (va_up b 66 (b 66)) 67 (b 67)) (va_up bw 68 (bw 68))) _ := hP
      have hD : va_D A (RW cs bd u (va_up (va_up b 66 (b 66)) 67 (b 67)) (va_up bw 68 (bw 68))) := hD
      exact W.iret (v := (-1)) hx hb hr (fun tt ht hW => ⟨⟨(-1), ⟨(b 66), (b 67), (bw 68)⟩, rfl, (by first | rfl | omega | trivial | assumption), by rw [ht]; exact hP, hD⟩, hS.F ht⟩) hS.2.2 dX12_row_23
    ·
      have kc_8 : r_7.toInt ≠ (0 : Int) := i_ne c_8
      refine lv_iload_n hx hb dX12_row_16 rfl (lv_at hl 3 rfl) ?_
      refine lv_bipush (v := 60) hx hb dX12_row_17 (by decide) ?_
      refine lv_icmp_le (tgt := 24) hx hb dX12_row_19 (by decide) (fun c_9 => ?_) (fun c_9 => ?_)
      ·
        have kc_9 : p3.toInt ≤ (60 : Int) := i_le c_9
        refine lv_iload_n hx hb dX12_row_24 rfl (lv_at hl 3 rfl) ?_
        refine lv_if_ge (tgt := 31) hx hb dX12_row_25 (by decide) (fun c_10 => ?_) (fun c_10 => ?_)
        ·
          have kc_10 : (0 : Int) ≤ p3.toInt := i_le c_10
          refine lv_aload_n hx hb dX12_row_31 rfl (lv_at hl 0 rfl) ?_
          refine gr_holds hx hb hg hown hK hP (hg _ q5_58) dX12_row_32 ?_
          refine lv_iload_n hx hb dX12_row_35 rfl (lv_at hl 1 rfl) ?_
          refine lv_bipush (v := (-2)) hx hb dX12_row_36 (by decide) ?_
          refine lv_iload_n hx hb dX12_row_38 rfl (lv_at hl 2 rfl) ?_
          refine lv_isub hx hb dX12_row_39 ?_
          refine lv_topi (fun x_11 ex_11 => ?_)
          refine sr_holds hx hb hK hP hD hS (i_in (by omega) (by omega)) dX12_row_40 (fun H locs hP hD hS => ?_)
          refine lv_aload_n hx hb dX12_row_41 rfl (lv_at hl 0 rfl) ?_
          refine gr_size hx hb hg hown hK hP (hg _ q5_59) dX12_row_42 ?_
          refine lv_iload_n hx hb dX12_row_45 rfl (lv_at hl 1 rfl) ?_
          refine lv_iload_n hx hb dX12_row_46 rfl (lv_at hl 3 rfl) ?_
          refine sr_size hx hb hK hP hD hS (i_in (by omega) (by omega)) dX12_row_47 (fun H locs hP hD hS => ?_)
          refine lv_bipush (v := 60) hx hb dX12_row_48 (by decide) ?_
          refine lv_iload_n hx hb dX12_row_50 rfl (lv_at hl 1 rfl) ?_
          refine lv_imul hx hb dX12_row_51 ?_
          refine lv_topi (fun x_12 ex_12 => ?_)
          have fx_12 : x_12.toInt = (60 : Int) * p1.toInt := by rw [ex_12]; exact i_mul (by first | omega | (show _ ≤ (60 : Int) * p1.toInt; omega)) (by first | omega | (show (60 : Int) * p1.toInt ≤ _; omega))
          refine lv_istore (lv' := [(4, .int x_12), (0, .ref (bd 0)), (1, .int p1), (2, .int p2), (3, .int p3)]) hx hb dX12_row_52 hl (by decide) rfl (fun ls hl => ?_)
          exact (hcut (((360 - x_12.toInt).toNat) + 1)) x_12 (upd (b 66) p1.toNatClampNeg x_11) (upd (b 67) p1.toNatClampNeg p3) (bw 68) _ _ (by omega) (by omega) (by omega) (by omega) (by omega) (by omega) (by omega) (Nat.lt_succ_self _) hP hD hS ls (lv_sub hl [1, 2, 3, 4, 0] rfl)
        ·
          have kc_10 : p3.toInt < (0 : Int) := i_nle c_10
          refine lv_bipush (v := (-14)) hx hb dX12_row_28 (by decide) ?_
          have q0_m14 : ((-14) : Int32).toInt = (-14) := rfl
          have hP : va_P D vwCl (RW cs bd u (va_up (va_up b 66 (b 66)) 67 (b 67)) (va_up bw 68 (bw 68))) _ := hP
          have hD : va_D A (RW cs bd u (va_up (va_up b 66 (b 66)) 67 (b 67)) (va_up bw 68 (bw 68))) := hD
          exact W.iret (v := (-14)) hx hb hr (fun tt ht hW => ⟨⟨(-14), ⟨(b 66), (b 67), (bw 68)⟩, rfl, (by first | rfl | omega | trivial | assumption), by rw [ht]; exact hP, hD⟩, hS.F ht⟩) hS.2.2 dX12_row_30
      ·
        have kc_9 : (60 : Int) < p3.toInt := i_nle c_9
        refine lv_iconst (v := (-1)) hx hb dX12_row_22 (by decide) ?_
        have q0_m1 : ((-1) : Int32).toInt = (-1) := rfl
        have hP : va_P D vwCl (RW cs bd u (va_up (va_up b 66 (b 66)) 67 (b 67)) (va_up bw 68 (bw 68))) _ := hP
        have hD : va_D A (RW cs bd u (va_up (va_up b 66 (b 66)) 67 (b 67)) (va_up bw 68 (bw 68))) := hD
        exact W.iret (v := (-1)) hx hb hr (fun tt ht hW => ⟨⟨(-1), ⟨(b 66), (b 67), (bw 68)⟩, rfl, (by first | rfl | omega | trivial | assumption), by rw [ht]; exact hP, hD⟩, hS.F ht⟩) hS.2.2 dX12_row_23
set_option maxHeartbeats 4000000 in
set_option maxRecDepth 100000 in
theorem k_F_X12_put (l : Launch) (D : va_G) (cs : Nat → ClassId) (A : Nat → Prop) (bd : Nat → Nat) (u : Nat → Int32) (b : Nat → Nat → Int32) (bw : Nat → Nat → Int64)  (p1 : Int32) (p2 : Int32) (p3 : Int64) (hR : FrR u b) : Met l yX12_put (Cond.code yX12_put cX12_put 7 (some .int) :: gw) ({ frames := 3, cells := 0, slots := 0, locals := 64 }) (va_Pc [.ref (bd 0), .int p1, .int p2, .long p3] (XPre D (TY cs) (RW cs bd u b bw) A)) (vp_Si (fun (r : Int32) => ((0 ≤ p1.toInt ∧ p1.toInt < 6) ∧ r.toInt = -11) ∨ (¬ (0 ≤ p1.toInt ∧ p1.toInt < 6) ∧ r.toInt = -1))) 0 0 (fun _ => False) := by
  refine Met.ofW (cc := cX12_put) (maxL := 7) (ret := (some .int)) (by decide) rfl ?_
  intro p e s m args below meth c s₁ B hml hv
  obtain ⟨rfl, hP, hK, hD, hZ⟩ := hv
  have hx := B.exec
  have hb := B.bytes
  have hr := B.returns
  have hts := atoms_spec (ws := (Cond.code yX12_put cX12_put 7 (some .int) :: gw)) B.pre
  have hg : ∀ w ∈ gw, w.before ([.ref (bd 0), .int p1, .int p2, .long p3] : List Value).toArray s = true := fun w h => hts w (List.mem_cons_of_mem _ h)
  have hown : s.vm.findClass RX12 = some m.cls := findClass_of_methodNamed B.named
  have hlocks := B.notSynchronized
  have hS : va_S A s.heap s.heap [] := va_S.rf
  have hu1 : (u 1).toInt = 0 := by rw [hR.1]; rfl
  have q6_0 : (0 : Int32).toInt = 0 := rfl
  have q6_2 : (2 : Int32).toInt = 2 := rfl
  have hl := lv_entry ([.ref (bd 0), .int p1, .int p2, .long p3]) (n := 7) (Nat.le_of_ble_eq_true rfl)
  rw [lg_entry_eq]
  generalize (lg_sl ([.ref (bd 0), .int p1, .int p2, .long p3]) ++ List.replicate (7 - (lg_sl ([.ref (bd 0), .int p1, .int p2, .long p3])).length) Slot.unset).toArray = ls at hl ⊢
  have hl : lv_has ls 7 [(0, .ref (bd 0)), (1, .int p1), (2, .int p2), (3, .long p3)] := hl
  refine lv_aload_n hx hb dX12_put_0 rfl (lv_at hl 0 rfl) ?_
  refine lv_iload_n hx hb dX12_put_1 rfl (lv_at hl 1 rfl) ?_
  refine lv_iload_n hx hb dX12_put_2 rfl (lv_at hl 2 rfl) ?_
  refine cV_ro (As := [.int p1, .int p2]) (rest := []) ⟨hx, hb, hml, hown, hg⟩ (k_F_X12_whyNoPlace l D cs A bd u b bw  p1 p2 hR) ca_X12_whyNoPlace q7_115 ⟨rfl, rfl⟩ ⟨Nat.le_of_ble_eq_true rfl, Nat.le_of_ble_eq_true rfl⟩ (rc_model hK hP) hK hP hD hS hZ rfl hl.1 rfl (Nat.le_of_ble_eq_true rfl) ⟨Nat.zero_le _, Nat.zero_le _⟩ dX12_put_3 (fun r_1 wr_1 => ?_)
  have wr_1 : ((0 ≤ p1.toInt ∧ p1.toInt < 6) ∧ r_1.toInt = -11) ∨ (¬ (0 ≤ p1.toInt ∧ p1.toInt < 6) ∧ r_1.toInt = -1) := wr_1
  refine lv_istore (lv' := [(5, .int r_1), (0, .ref (bd 0)), (1, .int p1), (2, .int p2), (3, .long p3)]) hx hb dX12_put_6 hl (by decide) rfl (fun ls hl => ?_)
  refine lv_iload hx hb dX12_put_8 (lv_at hl 0 rfl) ?_
  refine lv_if_ge (tgt := 16) hx hb dX12_put_10 (by decide) (fun c_2 => ?_) (fun c_2 => ?_)
  ·
    have kc_2 : (0 : Int) ≤ r_1.toInt := i_le c_2
    exfalso; omega
  ·
    have kc_2 : r_1.toInt < (0 : Int) := i_nle c_2
    refine lv_iload hx hb dX12_put_13 (lv_at hl 0 rfl) ?_
    exact W.iret (v := r_1) hx hb hr (fun tt ht hW => ⟨r_1, rfl, (by first | rfl | omega | trivial | assumption), ht⟩) (fun _ h => by cases h) dX12_put_15
set_option maxHeartbeats 4000000 in
set_option maxRecDepth 100000 in
theorem k_F_X12_element (l : Launch) (D : va_G) (cs : Nat → ClassId) (A : Nat → Prop) (bd : Nat → Nat) (u : Nat → Int32) (b : Nat → Nat → Int32) (bw : Nat → Nat → Int64)  (p1 : Int32) (p2 : Int32) (hR : FrR u b) : Met l yX12_element (Cond.code yX12_element cX12_element 3 (some .long) :: gw) ({ frames := 3, cells := 0, slots := 0, locals := 64 }) (va_Pc [.ref (bd 0), .int p1, .int p2] (XPre D (TY cs) (RW cs bd u b bw) A)) (vp_Sl (fun (r : Int64) => r = -9223372036854775808)) 0 0 (fun _ => False) := by
  refine Met.ofW (cc := cX12_element) (maxL := 3) (ret := (some .long)) (by decide) rfl ?_
  intro p e s m args below meth c s₁ B hml hv
  obtain ⟨rfl, hP, hK, hD, hZ⟩ := hv
  have hx := B.exec
  have hb := B.bytes
  have hr := B.returns
  have hts := atoms_spec (ws := (Cond.code yX12_element cX12_element 3 (some .long) :: gw)) B.pre
  have hg : ∀ w ∈ gw, w.before ([.ref (bd 0), .int p1, .int p2] : List Value).toArray s = true := fun w h => hts w (List.mem_cons_of_mem _ h)
  have hown : s.vm.findClass RX12 = some m.cls := findClass_of_methodNamed B.named
  have hlocks := B.notSynchronized
  have hS : va_S A s.heap s.heap [] := va_S.rf
  have hu1 : (u 1).toInt = 0 := by rw [hR.1]; rfl
  have q6_0 : (0 : Int32).toInt = 0 := rfl
  have q6_2 : (2 : Int32).toInt = 2 := rfl
  have hl := lv_entry ([.ref (bd 0), .int p1, .int p2]) (n := 3) (Nat.le_of_ble_eq_true rfl)
  rw [lg_entry_eq]
  generalize (lg_sl ([.ref (bd 0), .int p1, .int p2]) ++ List.replicate (3 - (lg_sl ([.ref (bd 0), .int p1, .int p2])).length) Slot.unset).toArray = ls at hl ⊢
  have hl : lv_has ls 3 [(0, .ref (bd 0)), (1, .int p1), (2, .int p2)] := hl
  refine lv_aload_n hx hb dX12_element_0 rfl (lv_at hl 0 rfl) ?_
  refine lv_iload_n hx hb dX12_element_1 rfl (lv_at hl 1 rfl) ?_
  refine lv_iload_n hx hb dX12_element_2 rfl (lv_at hl 2 rfl) ?_
  refine cV_ro (As := [.int p1, .int p2]) (rest := []) ⟨hx, hb, hml, hown, hg⟩ (k_F_X12_whyNoPlace l D cs A bd u b bw  p1 p2 hR) ca_X12_whyNoPlace q7_115 ⟨rfl, rfl⟩ ⟨Nat.le_of_ble_eq_true rfl, Nat.le_of_ble_eq_true rfl⟩ (rc_model hK hP) hK hP hD hS hZ rfl hl.1 rfl (Nat.le_of_ble_eq_true rfl) ⟨Nat.zero_le _, Nat.zero_le _⟩ dX12_element_3 (fun r_1 wr_1 => ?_)
  have wr_1 : ((0 ≤ p1.toInt ∧ p1.toInt < 6) ∧ r_1.toInt = -11) ∨ (¬ (0 ≤ p1.toInt ∧ p1.toInt < 6) ∧ r_1.toInt = -1) := wr_1
  refine lv_if_ge (tgt := 15) hx hb dX12_element_6 (by decide) (fun c_2 => ?_) (fun c_2 => ?_)
  ·
    have kc_2 : (0 : Int) ≤ r_1.toInt := i_le c_2
    exfalso; omega
  ·
    have kc_2 : r_1.toInt < (0 : Int) := i_nle c_2
    refine lv_ldc2 hx hb hown (v := (-9223372036854775808)) (hg _ q7_123) dX12_element_9 ?_
    refine lv_goto (tgt := 26) hx hb dX12_element_12 (by decide) ?_
    exact W.lret (v := (-9223372036854775808)) hx hb hr (fun tt ht hW => ⟨(-9223372036854775808), rfl, (by first | rfl | omega | trivial | assumption), ht⟩) (fun _ h => by cases h) dX12_element_26
set_option maxHeartbeats 4000000 in
set_option maxRecDepth 100000 in
theorem k_F_X12_shift (l : Launch) (D : va_G) (cs : Nat → ClassId) (A : Nat → Prop) (bd : Nat → Nat) (u : Nat → Int32) (b : Nat → Nat → Int32) (bw : Nat → Nat → Int64)  (p1 : Int32) (p2 : Int32) (p3 : Int32) (p4 : Int32) (p5 : Int32) (hR : FrR u b) : Met l yX12_shift (Cond.code yX12_shift cX12_shift 7 (some .int) :: gw) ({ frames := 2, cells := 0, slots := 0, locals := 42 }) (va_Pc [.ref (bd 0), .int p1, .int p2, .int p3, .int p4, .int p5] (XPre D (TY cs) (RW cs bd u b bw) A)) (vp_Si (fun (r : Int32) => ((0 ≤ p1.toInt ∧ p1.toInt < 6 ∧ 0 ≤ p3.toInt ∧ p3.toInt < 6) ∧ r.toInt = -11) ∨ (¬ (0 ≤ p1.toInt ∧ p1.toInt < 6 ∧ 0 ≤ p3.toInt ∧ p3.toInt < 6) ∧ r.toInt = -1))) 0 0 (fun _ => False) := by
  refine Met.ofW (cc := cX12_shift) (maxL := 7) (ret := (some .int)) (by decide) rfl ?_
  intro p e s m args below meth c s₁ B hml hv
  obtain ⟨rfl, hP, hK, hD, hZ⟩ := hv
  have hx := B.exec
  have hb := B.bytes
  have hr := B.returns
  have hts := atoms_spec (ws := (Cond.code yX12_shift cX12_shift 7 (some .int) :: gw)) B.pre
  have hg : ∀ w ∈ gw, w.before ([.ref (bd 0), .int p1, .int p2, .int p3, .int p4, .int p5] : List Value).toArray s = true := fun w h => hts w (List.mem_cons_of_mem _ h)
  have hown : s.vm.findClass RX12 = some m.cls := findClass_of_methodNamed B.named
  have hlocks := B.notSynchronized
  have hS : va_S A s.heap s.heap [] := va_S.rf
  have hu1 : (u 1).toInt = 0 := by rw [hR.1]; rfl
  have q6_0 : (0 : Int32).toInt = 0 := rfl
  have q6_2 : (2 : Int32).toInt = 2 := rfl
  have hl := lv_entry ([.ref (bd 0), .int p1, .int p2, .int p3, .int p4, .int p5]) (n := 7) (Nat.le_of_ble_eq_true rfl)
  rw [lg_entry_eq]
  generalize (lg_sl ([.ref (bd 0), .int p1, .int p2, .int p3, .int p4, .int p5]) ++ List.replicate (7 - (lg_sl ([.ref (bd 0), .int p1, .int p2, .int p3, .int p4, .int p5])).length) Slot.unset).toArray = ls at hl ⊢
  have hl : lv_has ls 7 [(0, .ref (bd 0)), (1, .int p1), (2, .int p2), (3, .int p3), (4, .int p4), (5, .int p5)] := hl
  refine lv_iload_n hx hb dX12_shift_0 rfl (lv_at hl 1 rfl) ?_
  refine cS_p (As := [.int p1]) (rest := []) ⟨hx, hb, hml, hown, hg⟩ (k_X12_isShelf l   p1 ) ca_X12_isShelf q5_223 ⟨rfl, rfl⟩ ⟨Nat.le_of_ble_eq_true rfl, Nat.le_of_ble_eq_true rfl⟩ rfl hl.1 rfl (Nat.le_of_ble_eq_true rfl) ⟨Nat.zero_le _, Nat.zero_le _⟩ dX12_shift_1 (fun r_1 wr_1 => ?_)
  have wr_1 : (r_1.toInt = 1 ∧ 0 ≤ p1.toInt ∧ p1.toInt < 6) ∨ (r_1.toInt = 0 ∧ ¬ (0 ≤ p1.toInt ∧ p1.toInt < 6)) := wr_1
  refine lv_if_eq (tgt := 14) hx hb dX12_shift_4 (by decide) (fun c_2 => ?_) (fun c_2 => ?_)
  ·
    have kc_2 : r_1.toInt = (0 : Int) := i_eq c_2
    refine lv_iconst (v := (-1)) hx hb dX12_shift_14 (by decide) ?_
    have q0_m1 : ((-1) : Int32).toInt = (-1) := rfl
    exact W.iret (v := (-1)) hx hb hr (fun tt ht hW => ⟨(-1), rfl, (by first | rfl | omega | trivial | assumption), ht⟩) (fun _ h => by cases h) dX12_shift_15
  ·
    have kc_2 : r_1.toInt ≠ (0 : Int) := i_ne c_2
    refine lv_iload_n hx hb dX12_shift_7 rfl (lv_at hl 3 rfl) ?_
    refine cS_p (As := [.int p3]) (rest := []) ⟨hx, hb, hml, hown, hg⟩ (k_X12_isShelf l   p3 ) ca_X12_isShelf q5_223 ⟨rfl, rfl⟩ ⟨Nat.le_of_ble_eq_true rfl, Nat.le_of_ble_eq_true rfl⟩ rfl hl.1 rfl (Nat.le_of_ble_eq_true rfl) ⟨Nat.zero_le _, Nat.zero_le _⟩ dX12_shift_8 (fun r_3 wr_3 => ?_)
    have wr_3 : (r_3.toInt = 1 ∧ 0 ≤ p3.toInt ∧ p3.toInt < 6) ∨ (r_3.toInt = 0 ∧ ¬ (0 ≤ p3.toInt ∧ p3.toInt < 6)) := wr_3
    refine lv_if_ne (tgt := 16) hx hb dX12_shift_11 (by decide) (fun c_4 => ?_) (fun c_4 => ?_)
    ·
      have kc_4 : r_3.toInt ≠ (0 : Int) := i_ne c_4
      refine lv_aload_n hx hb dX12_shift_16 rfl (lv_at hl 0 rfl) ?_
      refine gr_holds hx hb hg hown hK hP (hg _ q5_58) dX12_shift_17 ?_
      refine lv_iload_n hx hb dX12_shift_20 rfl (lv_at hl 1 rfl) ?_
      refine lr_holds hx hb hK hP (i_in (by omega) (by omega)) dX12_shift_21 ?_
      refine lv_topi (fun x_5 ex_5 => ?_)
      have ex_5 : x_5 = (b 66) p1.toNatClampNeg := ex_5
      have hx_5 : x_5.toInt = ((b 66) p1.toNatClampNeg).toInt := by rw [ex_5]
      have fx_5 : x_5 = (-1) := by rw [ex_5]; exact hR.2.2.2.2.2.2.2.2.2.1 _ (by show (p1).toInt.toNat < 6; omega)
      subst fx_5
      refine lv_iconst (v := (-1)) hx hb dX12_shift_22 (by decide) ?_
      refine lv_icmp_eq (tgt := 36) hx hb dX12_shift_23 (by decide) (fun c_6 => ?_) (fun c_6 => absurd c_6 (by decide))
      refine lv_bipush (v := (-11)) hx hb dX12_shift_36 (by decide) ?_
      have q0_m11 : ((-11) : Int32).toInt = (-11) := rfl
      exact W.iret (v := (-11)) hx hb hr (fun tt ht hW => ⟨(-11), rfl, (by first | rfl | omega | trivial | assumption), ht⟩) (fun _ h => by cases h) dX12_shift_38
    ·
      have kc_4 : r_3.toInt = (0 : Int) := i_eq c_4
      refine lv_iconst (v := (-1)) hx hb dX12_shift_14 (by decide) ?_
      have q0_m1 : ((-1) : Int32).toInt = (-1) := rfl
      exact W.iret (v := (-1)) hx hb hr (fun tt ht hW => ⟨(-1), rfl, (by first | rfl | omega | trivial | assumption), ht⟩) (fun _ h => by cases h) dX12_shift_15
set_option maxHeartbeats 4000000 in
set_option maxRecDepth 100000 in
theorem k_F_X12_taken (l : Launch) (D : va_G) (cs : Nat → ClassId) (A : Nat → Prop) (bd : Nat → Nat) (u : Nat → Int32) (b : Nat → Nat → Int32) (bw : Nat → Nat → Int64)  (p1 : Int32) (p2 : Int32) (hR : FrR u b) : Met l yX12_taken (Cond.code yX12_taken cX12_taken 3 (some .int) :: gw) ({ frames := 2, cells := 0, slots := 0, locals := 42 }) (va_Pc [.ref (bd 0), .int p1, .int p2] (XPre D (TY cs) (RW cs bd u b bw) A)) (vp_Si (fun (r : Int32) => ((0 ≤ p1.toInt ∧ p1.toInt < 6 ∧ 0 ≤ p2.toInt ∧ p2.toInt ≤ 7) ∧ r.toInt = -11) ∨ (¬ (0 ≤ p1.toInt ∧ p1.toInt < 6 ∧ 0 ≤ p2.toInt ∧ p2.toInt ≤ 7) ∧ r.toInt = -1))) 0 0 (fun _ => False) := by
  refine Met.ofW (cc := cX12_taken) (maxL := 3) (ret := (some .int)) (by decide) rfl ?_
  intro p e s m args below meth c s₁ B hml hv
  obtain ⟨rfl, hP, hK, hD, hZ⟩ := hv
  have hx := B.exec
  have hb := B.bytes
  have hr := B.returns
  have hts := atoms_spec (ws := (Cond.code yX12_taken cX12_taken 3 (some .int) :: gw)) B.pre
  have hg : ∀ w ∈ gw, w.before ([.ref (bd 0), .int p1, .int p2] : List Value).toArray s = true := fun w h => hts w (List.mem_cons_of_mem _ h)
  have hown : s.vm.findClass RX12 = some m.cls := findClass_of_methodNamed B.named
  have hlocks := B.notSynchronized
  have hS : va_S A s.heap s.heap [] := va_S.rf
  have hu1 : (u 1).toInt = 0 := by rw [hR.1]; rfl
  have q6_0 : (0 : Int32).toInt = 0 := rfl
  have q6_2 : (2 : Int32).toInt = 2 := rfl
  have hl := lv_entry ([.ref (bd 0), .int p1, .int p2]) (n := 3) (Nat.le_of_ble_eq_true rfl)
  rw [lg_entry_eq]
  generalize (lg_sl ([.ref (bd 0), .int p1, .int p2]) ++ List.replicate (3 - (lg_sl ([.ref (bd 0), .int p1, .int p2])).length) Slot.unset).toArray = ls at hl ⊢
  have hl : lv_has ls 3 [(0, .ref (bd 0)), (1, .int p1), (2, .int p2)] := hl
  refine lv_iload_n hx hb dX12_taken_0 rfl (lv_at hl 1 rfl) ?_
  refine cS_p (As := [.int p1]) (rest := []) ⟨hx, hb, hml, hown, hg⟩ (k_X12_isShelf l   p1 ) ca_X12_isShelf q5_223 ⟨rfl, rfl⟩ ⟨Nat.le_of_ble_eq_true rfl, Nat.le_of_ble_eq_true rfl⟩ rfl hl.1 rfl (Nat.le_of_ble_eq_true rfl) ⟨Nat.zero_le _, Nat.zero_le _⟩ dX12_taken_1 (fun r_1 wr_1 => ?_)
  have wr_1 : (r_1.toInt = 1 ∧ 0 ≤ p1.toInt ∧ p1.toInt < 6) ∨ (r_1.toInt = 0 ∧ ¬ (0 ≤ p1.toInt ∧ p1.toInt < 6)) := wr_1
  refine lv_if_eq (tgt := 17) hx hb dX12_taken_4 (by decide) (fun c_2 => ?_) (fun c_2 => ?_)
  ·
    have kc_2 : r_1.toInt = (0 : Int) := i_eq c_2
    refine lv_iconst (v := (-1)) hx hb dX12_taken_17 (by decide) ?_
    have q0_m1 : ((-1) : Int32).toInt = (-1) := rfl
    exact W.iret (v := (-1)) hx hb hr (fun tt ht hW => ⟨(-1), rfl, (by first | rfl | omega | trivial | assumption), ht⟩) (fun _ h => by cases h) dX12_taken_18
  ·
    have kc_2 : r_1.toInt ≠ (0 : Int) := i_ne c_2
    refine lv_iload_n hx hb dX12_taken_7 rfl (lv_at hl 2 rfl) ?_
    refine lv_iconst (v := 0) hx hb dX12_taken_8 (by decide) ?_
    refine lv_bipush (v := 7) hx hb dX12_taken_9 (by decide) ?_
    refine cS_p (As := [.int p2, .int 0, .int 7]) (rest := []) ⟨hx, hb, hml, hown, hg⟩ (k_X12_in l   p2 0 7 ) ca_X12_in q5_212 ⟨rfl, rfl⟩ ⟨Nat.le_of_ble_eq_true rfl, Nat.le_of_ble_eq_true rfl⟩ rfl hl.1 rfl (Nat.le_of_ble_eq_true rfl) ⟨Nat.zero_le _, Nat.zero_le _⟩ dX12_taken_11 (fun r_3 wr_3 => ?_)
    have wr_3 : (r_3.toInt = 1 ∧ (0 : Int) ≤ p2.toInt ∧ p2.toInt ≤ (7 : Int)) ∨ (r_3.toInt = 0 ∧ ¬ ((0 : Int) ≤ p2.toInt ∧ p2.toInt ≤ (7 : Int))) := wr_3
    refine lv_if_ne (tgt := 19) hx hb dX12_taken_14 (by decide) (fun c_4 => ?_) (fun c_4 => ?_)
    ·
      have kc_4 : r_3.toInt ≠ (0 : Int) := i_ne c_4
      refine lv_aload_n hx hb dX12_taken_19 rfl (lv_at hl 0 rfl) ?_
      refine gr_holds hx hb hg hown hK hP (hg _ q5_58) dX12_taken_20 ?_
      refine lv_iload_n hx hb dX12_taken_23 rfl (lv_at hl 1 rfl) ?_
      refine lr_holds hx hb hK hP (i_in (by omega) (by omega)) dX12_taken_24 ?_
      refine lv_topi (fun x_5 ex_5 => ?_)
      have ex_5 : x_5 = (b 66) p1.toNatClampNeg := ex_5
      have hx_5 : x_5.toInt = ((b 66) p1.toNatClampNeg).toInt := by rw [ex_5]
      have fx_5 : x_5 = (-1) := by rw [ex_5]; exact hR.2.2.2.2.2.2.2.2.2.1 _ (by show (p1).toInt.toNat < 6; omega)
      subst fx_5
      refine lv_iconst (v := (-1)) hx hb dX12_taken_25 (by decide) ?_
      refine lv_icmp_ne (tgt := 32) hx hb dX12_taken_26 (by decide) (fun c_6 => absurd c_6 (by decide)) (fun c_6 => ?_)
      refine lv_bipush (v := (-11)) hx hb dX12_taken_29 (by decide) ?_
      have q0_m11 : ((-11) : Int32).toInt = (-11) := rfl
      exact W.iret (v := (-11)) hx hb hr (fun tt ht hW => ⟨(-11), rfl, (by first | rfl | omega | trivial | assumption), ht⟩) (fun _ h => by cases h) dX12_taken_31
    ·
      have kc_4 : r_3.toInt = (0 : Int) := i_eq c_4
      refine lv_iconst (v := (-1)) hx hb dX12_taken_17 (by decide) ?_
      have q0_m1 : ((-1) : Int32).toInt = (-1) := rfl
      exact W.iret (v := (-1)) hx hb hr (fun tt ht hW => ⟨(-1), rfl, (by first | rfl | omega | trivial | assumption), ht⟩) (fun _ h => by cases h) dX12_taken_18
set_option maxHeartbeats 4000000 in
set_option maxRecDepth 100000 in
theorem k_F_X12_count (l : Launch) (D : va_G) (cs : Nat → ClassId) (A : Nat → Prop) (bd : Nat → Nat) (u : Nat → Int32) (b : Nat → Nat → Int32) (bw : Nat → Nat → Int64)  (p1 : Int32) (hR : FrR u b) : Met l yX12_count (Cond.code yX12_count cX12_count 2 (some .int) :: gw) ({ frames := 0, cells := 0, slots := 0, locals := 0 }) (va_Pc [.ref (bd 0), .int p1] (XPre D (TY cs) (RW cs bd u b bw) A)) (vp_Si (fun (r : Int32) => (0 ≤ p1.toInt ∧ p1.toInt ≤ 4 ∧ r.toInt = 0) ∨ (¬ (0 ≤ p1.toInt ∧ p1.toInt ≤ 4) ∧ r.toInt = -1))) 0 0 (fun _ => False) := by
  refine Met.ofW (cc := cX12_count) (maxL := 2) (ret := (some .int)) (by decide) rfl ?_
  intro p e s m args below meth c s₁ B hml hv
  obtain ⟨rfl, hP, hK, hD, hZ⟩ := hv
  have hx := B.exec
  have hb := B.bytes
  have hr := B.returns
  have hts := atoms_spec (ws := (Cond.code yX12_count cX12_count 2 (some .int) :: gw)) B.pre
  have hg : ∀ w ∈ gw, w.before ([.ref (bd 0), .int p1] : List Value).toArray s = true := fun w h => hts w (List.mem_cons_of_mem _ h)
  have hown : s.vm.findClass RX12 = some m.cls := findClass_of_methodNamed B.named
  have hlocks := B.notSynchronized
  have hS : va_S A s.heap s.heap [] := va_S.rf
  have hu1 : (u 1).toInt = 0 := by rw [hR.1]; rfl
  have q6_0 : (0 : Int32).toInt = 0 := rfl
  have q6_2 : (2 : Int32).toInt = 2 := rfl
  have hl := lv_entry ([.ref (bd 0), .int p1]) (n := 2) (Nat.le_of_ble_eq_true rfl)
  rw [lg_entry_eq]
  generalize (lg_sl ([.ref (bd 0), .int p1]) ++ List.replicate (2 - (lg_sl ([.ref (bd 0), .int p1])).length) Slot.unset).toArray = ls at hl ⊢
  have hl : lv_has ls 2 [(0, .ref (bd 0)), (1, .int p1)] := hl
  refine lv_iload_n hx hb dX12_count_0 rfl (lv_at hl 1 rfl) ?_
  rcases (show p1.toInt = 0 ∨ p1.toInt = 1 ∨ p1.toInt = 2 ∨ p1.toInt = 3 ∨ p1.toInt = 4 ∨ (p1.toInt < 0 ∨ 4 < p1.toInt) by omega) with kc_1 | kc_1 | kc_1 | kc_1 | kc_1 | kc_1
  ·
    refine lv_tableIn (tgt := 36) hx hb dX12_count_1 (by omega) (by omega) (off := 35) (by rw [kc_1]; rfl) (by decide) ?_
    refine lv_aload_n hx hb dX12_count_36 rfl (lv_at hl 0 rfl) ?_
    refine gr_people1 hx hb hg hown hK hP (x := 0) hR.1 (hg _ q4_233) dX12_count_37 ?_
    have q0_0 : (0 : Int32).toInt = 0 := rfl
    exact W.iret (v := 0) hx hb hr (fun tt ht hW => ⟨0, rfl, (by first | rfl | omega | trivial | assumption), ht⟩) (fun _ h => by cases h) dX12_count_40
  ·
    refine lv_tableIn (tgt := 41) hx hb dX12_count_1 (by omega) (by omega) (off := 40) (by rw [kc_1]; rfl) (by decide) ?_
    refine lv_aload_n hx hb dX12_count_41 rfl (lv_at hl 0 rfl) ?_
    refine gr_taped hx hb hg hown hK hP (x := 0) hR.2.2.2.2.1 (hg _ q5_7) dX12_count_42 ?_
    have q0_0 : (0 : Int32).toInt = 0 := rfl
    exact W.iret (v := 0) hx hb hr (fun tt ht hW => ⟨0, rfl, (by first | rfl | omega | trivial | assumption), ht⟩) (fun _ h => by cases h) dX12_count_45
  ·
    refine lv_tableIn (tgt := 46) hx hb dX12_count_1 (by omega) (by omega) (off := 45) (by rw [kc_1]; rfl) (by decide) ?_
    refine lv_aload_n hx hb dX12_count_46 rfl (lv_at hl 0 rfl) ?_
    refine gr_doneMany hx hb hg hown hK hP (x := 0) hR.2.2.1 (hg _ q5_0) dX12_count_47 ?_
    have q0_0 : (0 : Int32).toInt = 0 := rfl
    exact W.iret (v := 0) hx hb hr (fun tt ht hW => ⟨0, rfl, (by first | rfl | omega | trivial | assumption), ht⟩) (fun _ h => by cases h) dX12_count_50
  ·
    refine lv_tableIn (tgt := 51) hx hb dX12_count_1 (by omega) (by omega) (off := 50) (by rw [kc_1]; rfl) (by decide) ?_
    refine lv_aload_n hx hb dX12_count_51 rfl (lv_at hl 0 rfl) ?_
    refine gr_bodies hx hb hg hown hK hP (x := 0) hR.2.2.2.2.2.2.2.1 (hg _ q5_54) dX12_count_52 ?_
    have q0_0 : (0 : Int32).toInt = 0 := rfl
    exact W.iret (v := 0) hx hb hr (fun tt ht hW => ⟨0, rfl, (by first | rfl | omega | trivial | assumption), ht⟩) (fun _ h => by cases h) dX12_count_55
  ·
    refine lv_tableIn (tgt := 56) hx hb dX12_count_1 (by omega) (by omega) (off := 55) (by rw [kc_1]; rfl) (by decide) ?_
    refine lv_aload_n hx hb dX12_count_56 rfl (lv_at hl 0 rfl) ?_
    refine gr_traces hx hb hg hown hK hP (x := 0) hR.2.2.2.2.2.2.2.2.1 (hg _ q5_56) dX12_count_57 ?_
    have q0_0 : (0 : Int32).toInt = 0 := rfl
    exact W.iret (v := 0) hx hb hr (fun tt ht hW => ⟨0, rfl, (by first | rfl | omega | trivial | assumption), ht⟩) (fun _ h => by cases h) dX12_count_60
  ·
    refine lv_tableOut (tgt := 61) hx hb dX12_count_1 kc_1 (by decide) ?_
    refine lv_iconst (v := (-1)) hx hb dX12_count_61 (by decide) ?_
    have q0_m1 : ((-1) : Int32).toInt = (-1) := rfl
    exact W.iret (v := (-1)) hx hb hr (fun tt ht hW => ⟨(-1), rfl, (by first | rfl | omega | trivial | assumption), ht⟩) (fun _ h => by cases h) dX12_count_62
