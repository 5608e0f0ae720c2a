set_option maxHeartbeats 4000000 in
set_option maxRecDepth 100000 in
theorem k_X3_follow (l : Launch) (D : va_G) (cs : Nat → ClassId) (A : Nat → Prop) (ad fa fq rv : Nat → Nat) (v : Nat → Int32) (a : Nat → Nat → Int32) (w : Nat → Nat → Int64) (fv fp : Nat → Nat → Int32) (f : Nat) (o : Nat) (p2 : Int32) (hf : f < 18) (ho : o < 18) (hne : o ≠ f) (h2 : 0 ≤ p2.toInt) (h3 : p2.toInt ≤ 8) (iv1_0 : 0 ≤ (v 1).toInt) (iv1_1 : (v 1).toInt ≤ 8) (ifvo_0 : (fv o 2).toInt = -2 ∨ (0 ≤ (fv o 2).toInt ∧ (fv o 2).toInt < (v 1).toInt)) : Met l yX3_follow (Cond.code yX3_follow cX3_follow 3 none :: gw) ({ frames := 1, cells := 0, slots := 0, locals := 60 }) (va_Pc [.ref (fa f), .ref (fa o), .int p2] (XPre D (TY cs) (CW cs ad fa fq rv v a w fv fp) A)) (va_Qv (fun (z : (Nat → Int32) × (Nat → Int32)) => (z.1 0 = (fv o 0)) ∧ (z.1 1 = (fv o 1)) ∧ (z.1 2 = (fv o 2)) ∧ (z.1 3 = (fv o 3)) ∧ (z.1 4 = (fv o 4)) ∧ (z.1 5 = (fv o 5)) ∧ (z.1 6 = (fv o 6)) ∧ (z.1 7 = (fv o 7)) ∧ ((z.1 2).toInt = -2 ∨ (0 ≤ (z.1 2).toInt ∧ (z.1 2).toInt < (v 1).toInt))) (XPo D (fun (z : (Nat → Int32) × (Nat → Int32)) => CW cs ad fa fq rv v a w (va_up fv f z.1) (va_up fp f z.2)) A) A) 0 0 A := by
  refine Met.ofW (cc := cX3_follow) (maxL := 3) (ret := none) (by decide) rfl ?_
  intro p e s m args below meth c s₁ B hml hv
  obtain ⟨rfl, hP, hK, hD, hZ⟩ := hv
  have hx := B.exec
  have hb := B.bytes
  have hr := B.returns
  have hts := atoms_spec (ws := (Cond.code yX3_follow cX3_follow 3 none :: gw)) B.pre
  have hg : ∀ w ∈ gw, w.before ([.ref (fa f), .ref (fa o), .int p2] : List Value).toArray s = true := fun w h => hts w (List.mem_cons_of_mem _ h)
  have hown : s.vm.findClass RX3 = some m.cls := findClass_of_methodNamed B.named
  have hlocks := B.notSynchronized
  have hS : va_S A s.heap s.heap [] := va_S.rf
  have hP : va_P D vwCl (CW cs ad fa fq rv v a w fv fp) s.heap := hP
  have hl := lv_entry ([.ref (fa f), .ref (fa o), .int p2]) (n := 3) (Nat.le_of_ble_eq_true rfl)
  rw [lg_entry_eq]
  generalize (lg_sl ([.ref (fa f), .ref (fa o), .int p2]) ++ List.replicate (3 - (lg_sl ([.ref (fa f), .ref (fa o), .int p2])).length) Slot.unset).toArray = ls at hl ⊢
  have hl : lv_has ls 3 [(0, .ref (fa f)), (1, .ref (fa o)), (2, .int p2)] := hl
  refine lv_aload_n hx hb dX3_follow_0 rfl (lv_at hl 1 rfl) ?_
  refine gf_fl_pads (f := o) ho hx hb hg hown hK hP (hg _ q1_224) dX3_follow_1 ?_
  refine lv_iconst (v := 0) hx hb dX3_follow_4 (by decide) ?_
  refine lv_aload_n hx hb dX3_follow_5 rfl (lv_at hl 0 rfl) ?_
  refine gf_fl_pads (f := f) hf hx hb hg hown hK hP (hg _ q1_224) dX3_follow_6 ?_
  refine lv_iconst (v := 0) hx hb dX3_follow_9 (by decide) ?_
  refine lv_iload_n hx hb dX3_follow_10 rfl (lv_at hl 2 rfl) ?_
  refine lv_bipush (v := 8) hx hb dX3_follow_11 (by decide) ?_
  refine va_mmin hx hb (hml.trans hl.1.symm) hown (hg _ q3_125) (hg _ q3_61) (hg _ q1_16) (hg _ q3_62) (Nat.le_of_ble_eq_true rfl) (Nat.le_of_ble_eq_true rfl) (Nat.zero_le _) (Nat.zero_le _) dX3_follow_13 ?_
  refine lv_topi (fun x_1 ex_1 => ?_)
  have fx_1 := i_min ex_1
  have fx_1 : ((8 : Int) ≤ p2.toInt ∧ x_1.toInt = (8 : Int)) ∨ (p2.toInt ≤ (8 : Int) ∧ x_1.toInt = p2.toInt) := fx_1
  refine va_copyi hx hb (hml.trans hl.1.symm) hown (hg _ q3_126) (hg _ q3_23) (hg _ q3_22) (hg _ q1_15) hK hP hD hS (42 + 2 * o) (42 + 2 * f) 0 0 (fl_p ho) (fl_p hf) rfl rfl rfl (fun q => absurd q (by decide)) (fun q => absurd q (by decide)) (fun q => by have q0 : x_1.toInt < 0 := i_lt q; omega) (by show 0 + x_1.toInt.toNat ≤ 8; omega) (by show 0 + x_1.toInt.toNat ≤ 8; omega) (fun _ _ => rfl) (Nat.le_of_ble_eq_true rfl) (Nat.le_of_ble_eq_true rfl) dX3_follow_16 (fun H locs hP hD hS => ?_)
  rw [fl_sp hf] at hP hD
  have hP : va_P D vwCl (CW cs ad fa fq rv v a w fv (va_up fp f (va_cpy (fp o) (fp f) (0 : Int32).toNatClampNeg (0 : Int32).toNatClampNeg x_1.toNatClampNeg))) H := hP
  have hD : va_D A (CW cs ad fa fq rv v a w fv (va_up fp f (va_cpy (fp o) (fp f) (0 : Int32).toNatClampNeg (0 : Int32).toNatClampNeg x_1.toNatClampNeg))) := hD
  refine lv_aload_n hx hb dX3_follow_19 rfl (lv_at hl 0 rfl) ?_
  refine lv_aload_n hx hb dX3_follow_20 rfl (lv_at hl 1 rfl) ?_
  refine gf_fl_hour (f := o) ho hx hb hg hown hK hP (x := (fv o 0)) rfl (hg _ q1_227) dX3_follow_21 ?_
  refine pf_fl_hour (f := f) hf hx hb hg hown hK hP hD hS (hg _ q1_227) dX3_follow_24 (fun H locs hP hD hS => ?_)
  refine lv_aload_n hx hb dX3_follow_27 rfl (lv_at hl 0 rfl) ?_
  refine lv_aload_n hx hb dX3_follow_28 rfl (lv_at hl 1 rfl) ?_
  refine gf_fl_swarm (f := o) ho hx hb hg hown hK hP (x := (fv o 1)) (by rw [va_up_ne _ _ hne]) (hg _ q1_230) dX3_follow_29 ?_
  refine pg_fl_swarm (f := f) hf hx hb hg hown hK hP hD hS (hg _ q1_230) dX3_follow_32 (fun H locs hP hD hS => ?_)
  refine lv_aload_n hx hb dX3_follow_35 rfl (lv_at hl 0 rfl) ?_
  refine lv_aload_n hx hb dX3_follow_36 rfl (lv_at hl 1 rfl) ?_
  refine gf_fl_liar (f := o) ho hx hb hg hown hK hP (x := (fv o 2)) (by rw [va_up_ne _ _ hne]) (hg _ q1_234) dX3_follow_37 ?_
  refine pg_fl_liar (f := f) hf hx hb hg hown hK hP hD hS (hg _ q1_234) dX3_follow_40 (fun H locs hP hD hS => ?_)
  refine lv_aload_n hx hb dX3_follow_43 rfl (lv_at hl 0 rfl) ?_
  refine lv_aload_n hx hb dX3_follow_44 rfl (lv_at hl 1 rfl) ?_
  refine gf_fl_sayings (f := o) ho hx hb hg hown hK hP (x := (fv o 3)) (by rw [va_up_ne _ _ hne]) (hg _ q1_236) dX3_follow_45 ?_
  refine pg_fl_sayings (f := f) hf hx hb hg hown hK hP hD hS (hg _ q1_236) dX3_follow_48 (fun H locs hP hD hS => ?_)
  refine lv_aload_n hx hb dX3_follow_51 rfl (lv_at hl 0 rfl) ?_
  refine lv_aload_n hx hb dX3_follow_52 rfl (lv_at hl 1 rfl) ?_
  refine gf_fl_lies (f := o) ho hx hb hg hown hK hP (x := (fv o 4)) (by rw [va_up_ne _ _ hne]) (hg _ q1_238) dX3_follow_53 ?_
  refine pg_fl_lies (f := f) hf hx hb hg hown hK hP hD hS (hg _ q1_238) dX3_follow_56 (fun H locs hP hD hS => ?_)
  refine lv_aload_n hx hb dX3_follow_59 rfl (lv_at hl 0 rfl) ?_
  refine lv_aload_n hx hb dX3_follow_60 rfl (lv_at hl 1 rfl) ?_
  refine gf_fl_louds (f := o) ho hx hb hg hown hK hP (x := (fv o 5)) (by rw [va_up_ne _ _ hne]) (hg _ q2_1) dX3_follow_61 ?_
  refine pg_fl_louds (f := f) hf hx hb hg hown hK hP hD hS (hg _ q2_1) dX3_follow_64 (fun H locs hP hD hS => ?_)
  refine lv_aload_n hx hb dX3_follow_67 rfl (lv_at hl 0 rfl) ?_
  refine lv_aload_n hx hb dX3_follow_68 rfl (lv_at hl 1 rfl) ?_
  refine gf_fl_stings (f := o) ho hx hb hg hown hK hP (x := (fv o 6)) (by rw [va_up_ne _ _ hne]) (hg _ q2_3) dX3_follow_69 ?_
  refine pg_fl_stings (f := f) hf hx hb hg hown hK hP hD hS (hg _ q2_3) dX3_follow_72 (fun H locs hP hD hS => ?_)
  refine lv_aload_n hx hb dX3_follow_75 rfl (lv_at hl 0 rfl) ?_
  refine lv_aload_n hx hb dX3_follow_76 rfl (lv_at hl 1 rfl) ?_
  refine gf_fl_hurts (f := o) ho hx hb hg hown hK hP (x := (fv o 7)) (by rw [va_up_ne _ _ hne]) (hg _ q2_5) dX3_follow_77 ?_
  refine pg_fl_hurts (f := f) hf hx hb hg hown hK hP hD hS (hg _ q2_5) dX3_follow_80 (fun H locs hP hD hS => ?_)
  exact W.vret hx hb hr (fun tt ht hW => ⟨⟨⟨(va_up (va_up (va_up (va_up (va_up (va_up (va_up (va_up (fv f) 0 (fv o 0)) 1 (fv o 1)) 2 (fv o 2)) 3 (fv o 3)) 4 (fv o 4)) 5 (fv o 5)) 6 (fv o 6)) 7 (fv o 7)), (va_cpy (fp o) (fp f) (0 : Int32).toNatClampNeg (0 : Int32).toNatClampNeg x_1.toNatClampNeg)⟩, rfl, ⟨(by first | rfl | omega | trivial | assumption | (dsimp only; first | omega | assumption)), (by first | rfl | omega | trivial | assumption | (dsimp only; first | omega | assumption)), (by first | rfl | omega | trivial | assumption | (dsimp only; first | omega | assumption)), (by first | rfl | omega | trivial | assumption | (dsimp only; first | omega | assumption)), (by first | rfl | omega | trivial | assumption | (dsimp only; first | omega | assumption)), (by first | rfl | omega | trivial | assumption | (dsimp only; first | omega | assumption)), (by first | rfl | omega | trivial | assumption | (dsimp only; first | omega | assumption)), (by first | rfl | omega | trivial | assumption | (dsimp only; first | omega | assumption)), (show (fv o 2).toInt = -2 ∨ (0 ≤ (fv o 2).toInt ∧ (fv o 2).toInt < (v 1).toInt) by first | omega | assumption)⟩, by rw [ht]; exact hP, hD⟩, hS.F ht⟩) hS.2.2 dX3_follow_83
set_option maxHeartbeats 4000000 in
set_option maxRecDepth 100000 in
theorem k_X3_begin (l : Launch) (D : va_G) (cs : Nat → ClassId) (A : Nat → Prop) (ad fa fq rv : Nat → Nat) (v : Nat → Int32) (a : Nat → Nat → Int32) (w : Nat → Nat → Int64) (fv fp : Nat → Nat → Int32) (f : Nat) (o : Nat)  (hf : f < 18) (ho : o < 18) (hne : o ≠ f) (iv1_0 : 0 ≤ (v 1).toInt) (iv1_1 : (v 1).toInt ≤ 8) (ifvo_0 : (fv o 2).toInt = -2 ∨ (0 ≤ (fv o 2).toInt ∧ (fv o 2).toInt < (v 1).toInt)) : Met l yX3_begin (Cond.code yX3_begin cX3_begin 2 none :: gw) ({ frames := 2, cells := 0, slots := 0, locals := 82 }) (va_Pc [.ref (fa f), .ref (fa o)] (XPre D (TY cs) (CW cs ad fa fq rv v a w fv fp) A)) (va_Qv (fun (z : (Nat → Int32) × (Nat → Int32)) => (z.1 0 = (fv o 0)) ∧ (z.1 1 = (fv o 1)) ∧ (z.1 2 = (fv o 2)) ∧ (z.1 3 = 0) ∧ (z.1 4 = 0) ∧ (z.1 5 = 0) ∧ (z.1 6 = 0) ∧ (z.1 7 = 0) ∧ ((z.1 2).toInt = -2 ∨ (0 ≤ (z.1 2).toInt ∧ (z.1 2).toInt < (v 1).toInt))) (XPo D (fun (z : (Nat → Int32) × (Nat → Int32)) => CW cs ad fa fq rv v a w (va_up fv f z.1) (va_up fp f z.2)) A) A) 0 0 A := by
  refine Met.ofW (cc := cX3_begin) (maxL := 2) (ret := none) (by decide) rfl ?_
  intro p e s m args below meth c s₁ B hml hv
  obtain ⟨rfl, hP, hK, hD, hZ⟩ := hv
  have hx := B.exec
  have hb := B.bytes
  have hr := B.returns
  have hts := atoms_spec (ws := (Cond.code yX3_begin cX3_begin 2 none :: gw)) B.pre
  have hg : ∀ w ∈ gw, w.before ([.ref (fa f), .ref (fa o)] : List Value).toArray s = true := fun w h => hts w (List.mem_cons_of_mem _ h)
  have hown : s.vm.findClass RX3 = some m.cls := findClass_of_methodNamed B.named
  have hlocks := B.notSynchronized
  have hS : va_S A s.heap s.heap [] := va_S.rf
  have hP : va_P D vwCl (CW cs ad fa fq rv v a w fv fp) s.heap := hP
  have hl := lv_entry ([.ref (fa f), .ref (fa o)]) (n := 2) (Nat.le_of_ble_eq_true rfl)
  rw [lg_entry_eq]
  generalize (lg_sl ([.ref (fa f), .ref (fa o)]) ++ List.replicate (2 - (lg_sl ([.ref (fa f), .ref (fa o)])).length) Slot.unset).toArray = ls at hl ⊢
  have hl : lv_has ls 2 [(0, .ref (fa f)), (1, .ref (fa o))] := hl
  refine lv_aload_n hx hb dX3_begin_0 rfl (lv_at hl 0 rfl) ?_
  refine lv_aload_n hx hb dX3_begin_1 rfl (lv_at hl 1 rfl) ?_
  refine lv_bipush (v := 8) hx hb dX3_begin_2 (by decide) ?_
  refine cV_v (As := [.ref (fa o), .int 8]) (rest := []) ⟨hx, hb, hml, hown, hg⟩ (k_X3_follow l D cs A ad fa fq rv v a w fv fp f o 8 (by omega) (by omega) (by omega) (show 0 ≤ (8 : Int) by first | omega | decide) (show (8 : Int) ≤ 8 by first | omega | decide) (show 0 ≤ (v 1).toInt by first | omega | decide) (show (v 1).toInt ≤ 8 by first | omega | decide) (show (fv o 2).toInt = -2 ∨ (0 ≤ (fv o 2).toInt ∧ (fv o 2).toInt < (v 1).toInt) by first | omega | decide)) ca_X3_follow q3_121 ⟨rfl, rfl⟩ ⟨Nat.le_of_ble_eq_true rfl, Nat.le_of_ble_eq_true rfl⟩ (rc_fl (f := f) hf hK hP) hK hP hD hS hZ rfl hl.1 rfl (Nat.le_of_ble_eq_true rfl) ⟨Nat.zero_le _, Nat.zero_le _⟩ dX3_begin_4 (fun z_4 H locs wr_1 hP hD hS => ?_)
  obtain ⟨o_fvf_2, o_fpf_3⟩ := z_4
  have hP : va_P D vwCl (CW cs ad fa fq rv v a w (va_up fv f o_fvf_2) (va_up fp f o_fpf_3)) H := hP
  have hD : va_D A (CW cs ad fa fq rv v a w (va_up fv f o_fvf_2) (va_up fp f o_fpf_3)) := hD
  obtain ⟨wr_1_0, wr_1_1, wr_1_2, wr_1_3, wr_1_4, wr_1_5, wr_1_6, wr_1_7, wr_1_8⟩ : (o_fvf_2 0 = (fv o 0)) ∧ (o_fvf_2 1 = (fv o 1)) ∧ (o_fvf_2 2 = (fv o 2)) ∧ (o_fvf_2 3 = (fv o 3)) ∧ (o_fvf_2 4 = (fv o 4)) ∧ (o_fvf_2 5 = (fv o 5)) ∧ (o_fvf_2 6 = (fv o 6)) ∧ (o_fvf_2 7 = (fv o 7)) ∧ ((o_fvf_2 2).toInt = -2 ∨ (0 ≤ (o_fvf_2 2).toInt ∧ (o_fvf_2 2).toInt < (v 1).toInt)) := wr_1
  refine lv_aload_n hx hb dX3_begin_7 rfl (lv_at hl 0 rfl) ?_
  refine lv_iconst (v := 0) hx hb dX3_begin_8 (by decide) ?_
  refine pg_fl_sayings (f := f) hf hx hb hg hown hK hP hD hS (hg _ q1_236) dX3_begin_9 (fun H locs hP hD hS => ?_)
  refine lv_aload_n hx hb dX3_begin_12 rfl (lv_at hl 0 rfl) ?_
  refine lv_iconst (v := 0) hx hb dX3_begin_13 (by decide) ?_
  refine pg_fl_lies (f := f) hf hx hb hg hown hK hP hD hS (hg _ q1_238) dX3_begin_14 (fun H locs hP hD hS => ?_)
  refine lv_aload_n hx hb dX3_begin_17 rfl (lv_at hl 0 rfl) ?_
  refine lv_iconst (v := 0) hx hb dX3_begin_18 (by decide) ?_
  refine pg_fl_louds (f := f) hf hx hb hg hown hK hP hD hS (hg _ q2_1) dX3_begin_19 (fun H locs hP hD hS => ?_)
  refine lv_aload_n hx hb dX3_begin_22 rfl (lv_at hl 0 rfl) ?_
  refine lv_iconst (v := 0) hx hb dX3_begin_23 (by decide) ?_
  refine pg_fl_stings (f := f) hf hx hb hg hown hK hP hD hS (hg _ q2_3) dX3_begin_24 (fun H locs hP hD hS => ?_)
  refine lv_aload_n hx hb dX3_begin_27 rfl (lv_at hl 0 rfl) ?_
  refine lv_iconst (v := 0) hx hb dX3_begin_28 (by decide) ?_
  refine pg_fl_hurts (f := f) hf hx hb hg hown hK hP hD hS (hg _ q2_5) dX3_begin_29 (fun H locs hP hD hS => ?_)
  exact W.vret hx hb hr (fun tt ht hW => ⟨⟨⟨(va_up (va_up (va_up (va_up (va_up o_fvf_2 3 0) 4 0) 5 0) 6 0) 7 0), o_fpf_3⟩, rfl, ⟨(by first | assumption | rfl), (by first | assumption | rfl), (by first | assumption | rfl), (by first | assumption | rfl), (by first | assumption | rfl), (by first | assumption | rfl), (by first | assumption | rfl), (by first | assumption | rfl), (show (o_fvf_2 2).toInt = -2 ∨ (0 ≤ (o_fvf_2 2).toInt ∧ (o_fvf_2 2).toInt < (v 1).toInt) by first | omega | assumption)⟩, by rw [ht]; exact hP, hD⟩, hS.F ht⟩) hS.2.2 dX3_begin_32
set_option maxHeartbeats 4000000 in
set_option maxRecDepth 100000 in
theorem k_X6_worth (l : Launch) (D : va_G) (cs : Nat → ClassId) (A : Nat → Prop) (ad fa fq rv : Nat → Nat) (v : Nat → Int32) (a : Nat → Nat → Int32) (w : Nat → Nat → Int64) (fv fp : Nat → Nat → Int32)   (iv5_0 : 0 ≤ (v 5).toInt) (iv5_1 : (v 5).toInt ≤ 256) (ia18_0 : AB (-1000) 20000 (a 18)) : Met l yX6_worth (Cond.code yX6_worth cX6_worth 4 (some .int) :: gw) ({ frames := 1, cells := 0, slots := 0, locals := 22 }) (va_Pc [.ref (ad 2)] (XPre D (TY cs) (CW cs ad fa fq rv v a w fv fp) A)) (va_Qi (fun (r : Int32) (z : Nat → Int32) => True) (XPo D (fun (z : Nat → Int32) => CW cs ad fa fq rv v (va_up a 16 z) w fv fp) A) A) 0 0 A := by
  refine Met.ofW (cc := cX6_worth) (maxL := 4) (ret := (some .int)) (by decide) rfl ?_
  intro p e s m args below meth c s₁ B hml hv
  obtain ⟨rfl, hP, hK, hD, hZ⟩ := hv
  have hx := B.exec
  have hb := B.bytes
  have hr := B.returns
  have hts := atoms_spec (ws := (Cond.code yX6_worth cX6_worth 4 (some .int) :: gw)) B.pre
  have hg : ∀ w ∈ gw, w.before ([.ref (ad 2)] : List Value).toArray s = true := fun w h => hts w (List.mem_cons_of_mem _ h)
  have hown : s.vm.findClass RX6 = some m.cls := findClass_of_methodNamed B.named
  have hlocks := B.notSynchronized
  have hS : va_S A s.heap s.heap [] := va_S.rf
  have hP : va_P D vwCl (CW cs ad fa fq rv v a w fv fp) s.heap := hP
  have hl := lv_entry ([.ref (ad 2)]) (n := 4) (Nat.le_of_ble_eq_true rfl)
  rw [lg_entry_eq]
  generalize (lg_sl ([.ref (ad 2)]) ++ List.replicate (4 - (lg_sl ([.ref (ad 2)])).length) Slot.unset).toArray = ls at hl ⊢
  have hl : lv_has ls 4 [(0, .ref (ad 2))] := hl
  have hcut : ∀ nk : Nat, (∀ (x1 : Int32) (x2 : Int32) (c4_a16 : Nat → Int32) (H : Heap) (locs : List Loc) (i1 : 0 ≤ x1.toInt) (i1b : x1.toInt ≤ 121) (i2 : 0 ≤ x2.toInt) (i2b : x2.toInt ≤ 20001) (hmu : 2 * ((v 5).toInt - x2.toInt).toNat < nk) (hP : va_P D vwCl (CW cs ad fa fq rv v (va_up a 16 c4_a16) w fv fp) H) (hD : va_D A (CW cs ad fa fq rv v (va_up a 16 c4_a16) w fv fp)) (hS : va_S A s.heap H locs) (ls : Array Slot) (hl : lv_has ls 4 [(0, .ref (ad 2)), (1, .int x1), (2, .int x2)]), W p l e (headSpec (Cond.code yX6_worth cX6_worth 4 (some .int) :: gw) ({ frames := 1, cells := 0, slots := 0, locals := 22 })).room s m ([.ref (ad 2)] : List Value).toArray below meth c H locs 0 0 (MQ below (va_Qi (fun (r : Int32) (z : Nat → Int32) => True) (XPo D (fun (z : Nat → Int32) => CW cs ad fa fq rv v (va_up a 16 z) w fv fp) A) A) ([.ref (ad 2)] : List Value).toArray s 0 0 A) (F0 m 4 ls [])) ∧ (∀ (x1 : Int32) (x2 : Int32) (c242_a16 : Nat → Int32) (H : Heap) (locs : List Loc) (i1 : 0 ≤ x1.toInt) (i1b : x1.toInt ≤ 121) (i2 : 0 ≤ x2.toInt) (i2b : x2.toInt ≤ 20000) (hmu : 2 * ((v 5).toInt - x2.toInt - 1).toNat + 1 < nk) (hP : va_P D vwCl (CW cs ad fa fq rv v (va_up a 16 c242_a16) w fv fp) H) (hD : va_D A (CW cs ad fa fq rv v (va_up a 16 c242_a16) w fv fp)) (hS : va_S A s.heap H locs) (ls : Array Slot) (hl : lv_has ls 4 [(0, .ref (ad 2)), (1, .int x1), (2, .int x2)]), W p l e (headSpec (Cond.code yX6_worth cX6_worth 4 (some .int) :: gw) ({ frames := 1, cells := 0, slots := 0, locals := 22 })).room s m ([.ref (ad 2)] : List Value).toArray below meth c H locs 0 0 (MQ below (va_Qi (fun (r : Int32) (z : Nat → Int32) => True) (XPo D (fun (z : Nat → Int32) => CW cs ad fa fq rv v (va_up a 16 z) w fv fp) A) A) ([.ref (ad 2)] : List Value).toArray s 0 0 A) (F0 m 242 ls [])) := by
    intro nk
    induction nk with
    | zero => exact ⟨(fun x1 x2 c4_a16 H locs i1 i1b i2 i2b hmu hP hD hS ls hl => absurd hmu (Nat.not_lt_zero _)), (fun x1 x2 c242_a16 H locs i1 i1b i2 i2b hmu hP hD hS ls hl => absurd hmu (Nat.not_lt_zero _))⟩
    | succ nk ih =>
      refine ⟨?_, ?_⟩
      ·
        intro x1 x2 c4_a16 H locs i1 i1b i2 i2b hmu hP hD hS ls hl
        refine lv_iload_n hx hb dX6_worth_4 rfl (lv_at hl 2 rfl) ?_
        refine lv_aload_n hx hb dX6_worth_5 rfl (lv_at hl 0 rfl) ?_
        refine gf_rules_size hx hb hg hown hK hP (x := (v 5)) rfl (hg _ q1_180) dX6_worth_6 ?_
        refine lv_icmp_ge (tgt := 248) hx hb dX6_worth_9 (by decide) (fun c_1 => ?_) (fun c_1 => ?_)
        ·
          have kc_1 : (v 5).toInt ≤ x2.toInt := i_le c_1
          refine lv_iconst (v := 0) hx hb dX6_worth_248 (by decide) ?_
          have q0_0 : (0 : Int32).toInt = 0 := rfl
          exact W.iret (v := 0) hx hb hr (fun tt ht hW => ⟨⟨0, c4_a16, rfl, trivial, by rw [ht]; exact hP, hD⟩, hS.F ht⟩) hS.2.2 dX6_worth_249
        ·
          have kc_1 : x2.toInt < (v 5).toInt := i_nle c_1
          refine lv_aload_n hx hb dX6_worth_12 rfl (lv_at hl 0 rfl) ?_
          refine gf_rules_code hx hb hg hown hK hP rfl (hg _ q1_178) dX6_worth_13 ?_
          refine lv_iload_n hx hb dX6_worth_16 rfl (lv_at hl 2 rfl) ?_
          refine ld_Lcode hx hb hK hP (i_in (by omega) (by omega)) dX6_worth_17 ?_
          refine lv_topi (fun x_2 ex_2 => ?_)
          have ex_2 : x_2 = (a 18) x2.toNatClampNeg := ex_2
          have hx_2 : x_2.toInt = ((a 18) x2.toNatClampNeg).toInt := by rw [ex_2]
          have bx_2 := ia18_0 x2.toNatClampNeg
          rw [← ex_2] at bx_2
          refine lv_istore_n (lv' := [(3, .int x_2), (0, .ref (ad 2)), (1, .int x1), (2, .int x2)]) hx hb dX6_worth_18 rfl hl (by decide) rfl (fun ls hl => ?_)
          refine lv_iload_n hx hb dX6_worth_19 rfl (lv_at hl 0 rfl) ?_
          refine lv_if_lt (tgt := 70) hx hb dX6_worth_20 (by decide) (fun c_3 => ?_) (fun c_3 => ?_)
          ·
            have kc_3 : x_2.toInt < (0 : Int) := i_lt c_3
            refine lv_iload_n hx hb dX6_worth_70 rfl (lv_at hl 2 rfl) ?_
            refine lv_iconst (v := 1) hx hb dX6_worth_71 (by decide) ?_
            refine lv_icmp_ge (tgt := 77) hx hb dX6_worth_72 (by decide) (fun c_4 => ?_) (fun c_4 => ?_)
            ·
              have kc_4 : (1 : Int) ≤ x1.toInt := i_le c_4
              refine lv_iload_n hx hb dX6_worth_77 rfl (lv_at hl 0 rfl) ?_
              refine lv_bipush (v := (-59)) hx hb dX6_worth_78 (by decide) ?_
              refine lv_icmp_ne (tgt := 92) hx hb dX6_worth_80 (by decide) (fun c_5 => ?_) (fun c_5 => ?_)
              ·
                have kc_5 : x_2.toInt ≠ (-59 : Int) := i_ne c_5
                refine lv_iload_n hx hb dX6_worth_92 rfl (lv_at hl 0 rfl) ?_
                refine lv_bipush (v := (-63)) hx hb dX6_worth_93 (by decide) ?_
                refine lv_icmp_ne (tgt := 146) hx hb dX6_worth_95 (by decide) (fun c_6 => ?_) (fun c_6 => ?_)
                ·
                  have kc_6 : x_2.toInt ≠ (-63 : Int) := i_ne c_6
                  refine lv_iload_n hx hb dX6_worth_146 rfl (lv_at hl 0 rfl) ?_
                  refine lv_bipush (v := (-33)) hx hb dX6_worth_147 (by decide) ?_
                  refine lv_icmp_ne (tgt := 179) hx hb dX6_worth_149 (by decide) (fun c_7 => ?_) (fun c_7 => ?_)
                  ·
                    have kc_7 : x_2.toInt ≠ (-33 : Int) := i_ne c_7
                    refine lv_iload_n hx hb dX6_worth_179 rfl (lv_at hl 0 rfl) ?_
                    refine lv_bipush (v := (-126)) hx hb dX6_worth_180 (by decide) ?_
                    refine lv_icmp_ne (tgt := 205) hx hb dX6_worth_182 (by decide) (fun c_8 => ?_) (fun c_8 => ?_)
                    ·
                      have kc_8 : x_2.toInt ≠ (-126 : Int) := i_ne c_8
                      refine lv_iload_n hx hb dX6_worth_205 rfl (lv_at hl 2 rfl) ?_
                      refine lv_iconst (v := 2) hx hb dX6_worth_206 (by decide) ?_
                      refine lv_icmp_ge (tgt := 212) hx hb dX6_worth_207 (by decide) (fun c_9 => ?_) (fun c_9 => ?_)
                      ·
                        have kc_9 : (2 : Int) ≤ x1.toInt := i_le c_9
                        obtain ⟨x_10, ex_10⟩ : ∃ y : Int32, y = x1 + (-1) := ⟨_, rfl⟩
                        have fx_10 : x_10.toInt = x1.toInt + (-1) := by rw [ex_10]; exact i_add (by first | omega | (show (_ : Int) ≤ x1.toInt + (-1); omega)) (by first | omega | (show x1.toInt + (-1) ≤ (_ : Int); omega))
                        refine lv_iinc (v := x_10) (lv' := [(1, .int x_10), (3, .int x_2), (0, .ref (ad 2)), (2, .int x2)]) hx hb dX6_worth_212 hl (k := 2) rfl (by rw [ex_10]; rfl) (by decide) rfl (fun ls hl => ?_)
                        refine lv_aload_n hx hb dX6_worth_215 rfl (lv_at hl 2 rfl) ?_
                        refine gf_rules_stack hx hb hg hown hK hP rfl (hg _ q1_176) dX6_worth_216 ?_
                        refine lv_iload_n hx hb dX6_worth_219 rfl (lv_at hl 0 rfl) ?_
                        refine lv_iconst (v := 1) hx hb dX6_worth_220 (by decide) ?_
                        refine lv_isub hx hb dX6_worth_221 ?_
                        refine lv_topi (fun x_11 ex_11 => ?_)
                        have fx_11 : x_11.toInt = x_10.toInt - (1 : Int) := by rw [ex_11]; exact i_sub (by first | omega | (show (_ : Int) ≤ x_10.toInt - (1 : Int); omega)) (by first | omega | (show x_10.toInt - (1 : Int) ≤ (_ : Int); omega))
                        refine lv_iload_n hx hb dX6_worth_222 rfl (lv_at hl 1 rfl) ?_
                        refine lv_ineg hx hb dX6_worth_223 ?_
                        refine lv_topi (fun x_12 ex_12 => ?_)
                        have fx_12 : x_12.toInt = -x_2.toInt := by rw [ex_12]; exact i_neg (by omega)
                        refine lv_aload_n hx hb dX6_worth_224 rfl (lv_at hl 2 rfl) ?_
                        refine gf_rules_stack hx hb hg hown hK hP rfl (hg _ q1_176) dX6_worth_225 ?_
                        refine lv_iload_n hx hb dX6_worth_228 rfl (lv_at hl 0 rfl) ?_
                        refine lv_iconst (v := 1) hx hb dX6_worth_229 (by decide) ?_
                        refine lv_isub hx hb dX6_worth_230 ?_
                        refine lv_topi (fun x_13 ex_13 => ?_)
                        have fx_13 : x_13.toInt = x_10.toInt - (1 : Int) := by rw [ex_13]; exact i_sub (by first | omega | (show (_ : Int) ≤ x_10.toInt - (1 : Int); omega)) (by first | omega | (show x_10.toInt - (1 : Int) ≤ (_ : Int); omega))
                        refine ld_Lstack hx hb hK hP (i_in (by omega) (by omega)) dX6_worth_231 ?_
                        refine lv_topi (fun x_14 ex_14 => ?_)
                        have ex_14 : x_14 = c4_a16 x_13.toNatClampNeg := ex_14
                        have hx_14 : x_14.toInt = (c4_a16 x_13.toNatClampNeg).toInt := by rw [ex_14]
                        refine lv_aload_n hx hb dX6_worth_232 rfl (lv_at hl 2 rfl) ?_
                        refine gf_rules_stack hx hb hg hown hK hP rfl (hg _ q1_176) dX6_worth_233 ?_
                        refine lv_iload_n hx hb dX6_worth_236 rfl (lv_at hl 0 rfl) ?_
                        refine ld_Lstack hx hb hK hP (i_in (by omega) (by omega)) dX6_worth_237 ?_
                        refine lv_topi (fun x_15 ex_15 => ?_)
                        have ex_15 : x_15 = c4_a16 x_10.toNatClampNeg := ex_15
                        have hx_15 : x_15.toInt = (c4_a16 x_10.toNatClampNeg).toInt := by rw [ex_15]
                        refine cS_p (As := [.int x_12, .int x_14, .int x_15]) (rest := [.int x_11, .ref (ad 16)]) ⟨hx, hb, hml, hown, hg⟩ (k_X6_joined l   x_12 x_14 x_15 ) ca_X6_joined q3_139 ⟨rfl, rfl⟩ ⟨Nat.le_of_ble_eq_true rfl, Nat.le_of_ble_eq_true rfl⟩ rfl hl.1 rfl (Nat.le_of_ble_eq_true rfl) ⟨Nat.zero_le _, Nat.zero_le _⟩ dX6_worth_238 (fun r_16 wr_16 => ?_)
                        refine st_Lstack hx hb hK hP hD hS (i_in (by omega) (by omega)) dX6_worth_241 (fun H locs hP hD hS => ?_)
                        exact ih.2 x_10 x2 (upd c4_a16 x_11.toNatClampNeg r_16) _ _ (by omega) (by omega) (by omega) (by omega) (by omega) hP hD hS ls (lv_sub hl [2, 0, 3] rfl)
                      ·
                        have kc_9 : x1.toInt < (2 : Int) := i_nle c_9
                        refine lv_iconst (v := 0) hx hb dX6_worth_210 (by decide) ?_
                        have q0_0 : (0 : Int32).toInt = 0 := rfl
                        exact W.iret (v := 0) hx hb hr (fun tt ht hW => ⟨⟨0, c4_a16, rfl, trivial, by rw [ht]; exact hP, hD⟩, hS.F ht⟩) hS.2.2 dX6_worth_211
                    ·
                      have kc_8 : x_2.toInt = (-126 : Int) := i_eq c_8
                      refine lv_aload_n hx hb dX6_worth_185 rfl (lv_at hl 1 rfl) ?_
                      refine gf_rules_stack hx hb hg hown hK hP rfl (hg _ q1_176) dX6_worth_186 ?_
                      refine lv_iload_n hx hb dX6_worth_189 rfl (lv_at hl 2 rfl) ?_
                      refine lv_iconst (v := 1) hx hb dX6_worth_190 (by decide) ?_
                      refine lv_isub hx hb dX6_worth_191 ?_
                      refine lv_topi (fun x_17 ex_17 => ?_)
                      have fx_17 : x_17.toInt = x1.toInt - (1 : Int) := by rw [ex_17]; exact i_sub (by first | omega | (show (_ : Int) ≤ x1.toInt - (1 : Int); omega)) (by first | omega | (show x1.toInt - (1 : Int) ≤ (_ : Int); omega))
                      refine lv_aload_n hx hb dX6_worth_192 rfl (lv_at hl 1 rfl) ?_
                      refine gf_rules_stack hx hb hg hown hK hP rfl (hg _ q1_176) dX6_worth_193 ?_
                      refine lv_iload_n hx hb dX6_worth_196 rfl (lv_at hl 2 rfl) ?_
                      refine lv_iconst (v := 1) hx hb dX6_worth_197 (by decide) ?_
                      refine lv_isub hx hb dX6_worth_198 ?_
                      refine lv_topi (fun x_18 ex_18 => ?_)
                      have fx_18 : x_18.toInt = x1.toInt - (1 : Int) := by rw [ex_18]; exact i_sub (by first | omega | (show (_ : Int) ≤ x1.toInt - (1 : Int); omega)) (by first | omega | (show x1.toInt - (1 : Int) ≤ (_ : Int); omega))
                      refine ld_Lstack hx hb hK hP (i_in (by omega) (by omega)) dX6_worth_199 ?_
                      refine lv_topi (fun x_19 ex_19 => ?_)
                      have ex_19 : x_19 = c4_a16 x_18.toNatClampNeg := ex_19
                      have hx_19 : x_19.toInt = (c4_a16 x_18.toNatClampNeg).toInt := by rw [ex_19]
                      refine lv_ineg hx hb dX6_worth_200 ?_
                      refine lv_topi (fun x_20 ex_20 => ?_)
                      refine st_Lstack hx hb hK hP hD hS (i_in (by omega) (by omega)) dX6_worth_201 (fun H locs hP hD hS => ?_)
                      refine lv_goto (tgt := 242) hx hb dX6_worth_202 (by decide) ?_
                      exact ih.2 x1 x2 (upd c4_a16 x_17.toNatClampNeg x_20) _ _ (by omega) (by omega) (by omega) (by omega) (by omega) hP hD hS ls (lv_sub hl [1, 2, 3] rfl)
                  ·
                    have kc_7 : x_2.toInt = (-33 : Int) := i_eq c_7
                    refine lv_aload_n hx hb dX6_worth_152 rfl (lv_at hl 1 rfl) ?_
                    refine gf_rules_stack hx hb hg hown hK hP rfl (hg _ q1_176) dX6_worth_153 ?_
                    refine lv_iload_n hx hb dX6_worth_156 rfl (lv_at hl 2 rfl) ?_
                    refine lv_iconst (v := 1) hx hb dX6_worth_157 (by decide) ?_
                    refine lv_isub hx hb dX6_worth_158 ?_
                    refine lv_topi (fun x_21 ex_21 => ?_)
                    have fx_21 : x_21.toInt = x1.toInt - (1 : Int) := by rw [ex_21]; exact i_sub (by first | omega | (show (_ : Int) ≤ x1.toInt - (1 : Int); omega)) (by first | omega | (show x1.toInt - (1 : Int) ≤ (_ : Int); omega))
                    refine lv_aload_n hx hb dX6_worth_159 rfl (lv_at hl 1 rfl) ?_
                    refine gf_rules_stack hx hb hg hown hK hP rfl (hg _ q1_176) dX6_worth_160 ?_
                    refine lv_iload_n hx hb dX6_worth_163 rfl (lv_at hl 2 rfl) ?_
                    refine lv_iconst (v := 1) hx hb dX6_worth_164 (by decide) ?_
                    refine lv_isub hx hb dX6_worth_165 ?_
                    refine lv_topi (fun x_22 ex_22 => ?_)
                    have fx_22 : x_22.toInt = x1.toInt - (1 : Int) := by rw [ex_22]; exact i_sub (by first | omega | (show (_ : Int) ≤ x1.toInt - (1 : Int); omega)) (by first | omega | (show x1.toInt - (1 : Int) ≤ (_ : Int); omega))
                    refine ld_Lstack hx hb hK hP (i_in (by omega) (by omega)) dX6_worth_166 ?_
                    refine lv_topi (fun x_23 ex_23 => ?_)
                    have ex_23 : x_23 = c4_a16 x_22.toNatClampNeg := ex_23
                    have hx_23 : x_23.toInt = (c4_a16 x_22.toNatClampNeg).toInt := by rw [ex_23]
                    refine lv_if_ne (tgt := 174) hx hb dX6_worth_167 (by decide) (fun c_24 => ?_) (fun c_24 => ?_)
                    ·
                      have kc_24 : x_23.toInt ≠ (0 : Int) := i_ne c_24
                      refine lv_iconst (v := 0) hx hb dX6_worth_174 (by decide) ?_
                      refine st_Lstack hx hb hK hP hD hS (i_in (by omega) (by omega)) dX6_worth_175 (fun H locs hP hD hS => ?_)
                      refine lv_goto (tgt := 242) hx hb dX6_worth_176 (by decide) ?_
                      exact ih.2 x1 x2 (upd c4_a16 x_21.toNatClampNeg 0) _ _ (by omega) (by omega) (by omega) (by omega) (by omega) hP hD hS ls (lv_sub hl [1, 2, 3] rfl)
                    ·
                      have kc_24 : x_23.toInt = (0 : Int) := i_eq c_24
                      refine lv_iconst (v := 1) hx hb dX6_worth_170 (by decide) ?_
                      refine lv_goto (tgt := 175) hx hb dX6_worth_171 (by decide) ?_
                      refine st_Lstack hx hb hK hP hD hS (i_in (by omega) (by omega)) dX6_worth_175 (fun H locs hP hD hS => ?_)
                      refine lv_goto (tgt := 242) hx hb dX6_worth_176 (by decide) ?_
                      exact ih.2 x1 x2 (upd c4_a16 x_21.toNatClampNeg 1) _ _ (by omega) (by omega) (by omega) (by omega) (by omega) hP hD hS ls (lv_sub hl [1, 2, 3] rfl)
                ·
                  have kc_6 : x_2.toInt = (-63 : Int) := i_eq c_6
                  obtain ⟨x_25, ex_25⟩ : ∃ y : Int32, y = x1 + (-1) := ⟨_, rfl⟩
                  have fx_25 : x_25.toInt = x1.toInt + (-1) := by rw [ex_25]; exact i_add (by first | omega | (show (_ : Int) ≤ x1.toInt + (-1); omega)) (by first | omega | (show x1.toInt + (-1) ≤ (_ : Int); omega))
                  refine lv_iinc (v := x_25) (lv' := [(1, .int x_25), (3, .int x_2), (0, .ref (ad 2)), (2, .int x2)]) hx hb dX6_worth_98 hl (k := 2) rfl (by rw [ex_25]; rfl) (by decide) rfl (fun ls hl => ?_)
                  refine lv_aload_n hx hb dX6_worth_101 rfl (lv_at hl 2 rfl) ?_
                  refine gf_rules_stack hx hb hg hown hK hP rfl (hg _ q1_176) dX6_worth_102 ?_
                  refine lv_iload_n hx hb dX6_worth_105 rfl (lv_at hl 0 rfl) ?_
                  refine ld_Lstack hx hb hK hP (i_in (by omega) (by omega)) dX6_worth_106 ?_
                  refine lv_topi (fun x_26 ex_26 => ?_)
                  have ex_26 : x_26 = c4_a16 x_25.toNatClampNeg := ex_26
                  have hx_26 : x_26.toInt = (c4_a16 x_25.toNatClampNeg).toInt := by rw [ex_26]
                  refine lv_if_ne (tgt := 120) hx hb dX6_worth_107 (by decide) (fun c_27 => ?_) (fun c_27 => ?_)
                  ·
                    have kc_27 : x_26.toInt ≠ (0 : Int) := i_ne c_27
                    refine lv_iload_n hx hb dX6_worth_120 rfl (lv_at hl 3 rfl) ?_
                    refine lv_iconst (v := 1) hx hb dX6_worth_121 (by decide) ?_
                    refine lv_iadd hx hb dX6_worth_122 ?_
                    refine lv_topi (fun x_28 ex_28 => ?_)
                    have fx_28 : x_28.toInt = x2.toInt + (1 : Int) := by rw [ex_28]; exact i_add (by first | omega | (show (_ : Int) ≤ x2.toInt + (1 : Int); omega)) (by first | omega | (show x2.toInt + (1 : Int) ≤ (_ : Int); omega))
                    refine lv_goto (tgt := 142) hx hb dX6_worth_123 (by decide) ?_
                    refine lv_istore_n (lv' := [(2, .int x_28), (1, .int x_25), (3, .int x_2), (0, .ref (ad 2))]) hx hb dX6_worth_142 rfl hl (by decide) rfl (fun ls hl => ?_)
                    refine lv_goto (tgt := 242) hx hb dX6_worth_143 (by decide) ?_
                    exact ih.2 x_25 x_28 c4_a16 _ _ (by omega) (by omega) (by omega) (by omega) (by omega) hP hD hS ls (lv_sub hl [3, 1, 0] rfl)
                  ·
                    have kc_27 : x_26.toInt = (0 : Int) := i_eq c_27
                    refine lv_iload_n hx hb dX6_worth_110 rfl (lv_at hl 3 rfl) ?_
                    refine lv_iconst (v := 1) hx hb dX6_worth_111 (by decide) ?_
                    refine lv_iadd hx hb dX6_worth_112 ?_
                    refine lv_topi (fun x_29 ex_29 => ?_)
                    have fx_29 : x_29.toInt = x2.toInt + (1 : Int) := by rw [ex_29]; exact i_add (by first | omega | (show (_ : Int) ≤ x2.toInt + (1 : Int); omega)) (by first | omega | (show x2.toInt + (1 : Int) ≤ (_ : Int); omega))
                    refine lv_aload_n hx hb dX6_worth_113 rfl (lv_at hl 2 rfl) ?_
                    refine gf_rules_size hx hb hg hown hK hP (x := (v 5)) rfl (hg _ q1_180) dX6_worth_114 ?_
                    refine lv_icmp_lt (tgt := 126) hx hb dX6_worth_117 (by decide) (fun c_30 => ?_) (fun c_30 => ?_)
                    ·
                      have kc_30 : x_29.toInt < (v 5).toInt := i_lt c_30
                      refine lv_iload_n hx hb dX6_worth_126 rfl (lv_at hl 3 rfl) ?_
                      refine lv_iconst (v := 1) hx hb dX6_worth_127 (by decide) ?_
                      refine lv_iadd hx hb dX6_worth_128 ?_
                      refine lv_topi (fun x_31 ex_31 => ?_)
                      have fx_31 : x_31.toInt = x2.toInt + (1 : Int) := by rw [ex_31]; exact i_add (by first | omega | (show (_ : Int) ≤ x2.toInt + (1 : Int); omega)) (by first | omega | (show x2.toInt + (1 : Int) ≤ (_ : Int); omega))
                      refine lv_aload_n hx hb dX6_worth_129 rfl (lv_at hl 2 rfl) ?_
                      refine gf_rules_code hx hb hg hown hK hP rfl (hg _ q1_178) dX6_worth_130 ?_
                      refine lv_iload_n hx hb dX6_worth_133 rfl (lv_at hl 3 rfl) ?_
                      refine lv_iconst (v := 1) hx hb dX6_worth_134 (by decide) ?_
                      refine lv_iadd hx hb dX6_worth_135 ?_
                      refine lv_topi (fun x_32 ex_32 => ?_)
                      have fx_32 : x_32.toInt = x2.toInt + (1 : Int) := by rw [ex_32]; exact i_add (by first | omega | (show (_ : Int) ≤ x2.toInt + (1 : Int); omega)) (by first | omega | (show x2.toInt + (1 : Int) ≤ (_ : Int); omega))
                      refine ld_Lcode hx hb hK hP (i_in (by omega) (by omega)) dX6_worth_136 ?_
                      refine lv_topi (fun x_33 ex_33 => ?_)
                      have ex_33 : x_33 = (a 18) x_32.toNatClampNeg := ex_33
                      have hx_33 : x_33.toInt = ((a 18) x_32.toNatClampNeg).toInt := by rw [ex_33]
                      have bx_33 := ia18_0 x_32.toNatClampNeg
                      rw [← ex_33] at bx_33
                      refine lv_iconst (v := 1) hx hb dX6_worth_137 (by decide) ?_
                      refine lv_isub hx hb dX6_worth_138 ?_
                      refine lv_topi (fun x_34 ex_34 => ?_)
                      have fx_34 : x_34.toInt = x_33.toInt - (1 : Int) := by rw [ex_34]; exact i_sub (by first | omega | (show (_ : Int) ≤ x_33.toInt - (1 : Int); omega)) (by first | omega | (show x_33.toInt - (1 : Int) ≤ (_ : Int); omega))
                      refine va_mmax hx hb (hml.trans hl.1.symm) hown (hg _ q3_136) (hg _ q3_137) (hg _ q1_16) (hg _ q3_138) (Nat.le_of_ble_eq_true rfl) (Nat.le_of_ble_eq_true rfl) (Nat.zero_le _) (Nat.zero_le _) dX6_worth_139 ?_
                      refine lv_topi (fun x_35 ex_35 => ?_)
                      have fx_35 := i_max ex_35
                      refine lv_istore_n (lv' := [(2, .int x_35), (1, .int x_25), (3, .int x_2), (0, .ref (ad 2))]) hx hb dX6_worth_142 rfl hl (by decide) rfl (fun ls hl => ?_)
                      refine lv_goto (tgt := 242) hx hb dX6_worth_143 (by decide) ?_
                      exact ih.2 x_25 x_35 c4_a16 _ _ (by omega) (by omega) (by omega) (by omega) (by omega) hP hD hS ls (lv_sub hl [3, 1, 0] rfl)
                    ·
                      have kc_30 : (v 5).toInt ≤ x_29.toInt := i_nlt c_30
                      refine lv_iload_n hx hb dX6_worth_120 rfl (lv_at hl 3 rfl) ?_
                      refine lv_iconst (v := 1) hx hb dX6_worth_121 (by decide) ?_
                      refine lv_iadd hx hb dX6_worth_122 ?_
                      refine lv_topi (fun x_36 ex_36 => ?_)
                      have fx_36 : x_36.toInt = x2.toInt + (1 : Int) := by rw [ex_36]; exact i_add (by first | omega | (show (_ : Int) ≤ x2.toInt + (1 : Int); omega)) (by first | omega | (show x2.toInt + (1 : Int) ≤ (_ : Int); omega))
                      refine lv_goto (tgt := 142) hx hb dX6_worth_123 (by decide) ?_
                      refine lv_istore_n (lv' := [(2, .int x_36), (1, .int x_25), (3, .int x_2), (0, .ref (ad 2))]) hx hb dX6_worth_142 rfl hl (by decide) rfl (fun ls hl => ?_)
                      refine lv_goto (tgt := 242) hx hb dX6_worth_143 (by decide) ?_
                      exact ih.2 x_25 x_36 c4_a16 _ _ (by omega) (by omega) (by omega) (by omega) (by omega) hP hD hS ls (lv_sub hl [3, 1, 0] rfl)
              ·
                have kc_5 : x_2.toInt = (-59 : Int) := i_eq c_5
                refine lv_aload_n hx hb dX6_worth_83 rfl (lv_at hl 1 rfl) ?_
                refine gf_rules_stack hx hb hg hown hK hP rfl (hg _ q1_176) dX6_worth_84 ?_
                refine lv_iload_n hx hb dX6_worth_87 rfl (lv_at hl 2 rfl) ?_
                refine lv_iconst (v := 1) hx hb dX6_worth_88 (by decide) ?_
                refine lv_isub hx hb dX6_worth_89 ?_
                refine lv_topi (fun x_37 ex_37 => ?_)
                have fx_37 : x_37.toInt = x1.toInt - (1 : Int) := by rw [ex_37]; exact i_sub (by first | omega | (show (_ : Int) ≤ x1.toInt - (1 : Int); omega)) (by first | omega | (show x1.toInt - (1 : Int) ≤ (_ : Int); omega))
                refine ld_Lstack hx hb hK hP (i_in (by omega) (by omega)) dX6_worth_90 ?_
                refine lv_topi (fun x_38 ex_38 => ?_)
                have ex_38 : x_38 = c4_a16 x_37.toNatClampNeg := ex_38
                have hx_38 : x_38.toInt = (c4_a16 x_37.toNatClampNeg).toInt := by rw [ex_38]
                exact W.iret (v := x_38) hx hb hr (fun tt ht hW => ⟨⟨x_38, c4_a16, rfl, trivial, by rw [ht]; exact hP, hD⟩, hS.F ht⟩) hS.2.2 dX6_worth_91
            ·
              have kc_4 : x1.toInt < (1 : Int) := i_nle c_4
              refine lv_iconst (v := 0) hx hb dX6_worth_75 (by decide) ?_
              have q0_0 : (0 : Int32).toInt = 0 := rfl
              exact W.iret (v := 0) hx hb hr (fun tt ht hW => ⟨⟨0, c4_a16, rfl, trivial, by rw [ht]; exact hP, hD⟩, hS.F ht⟩) hS.2.2 dX6_worth_76
          ·
            have kc_3 : (0 : Int) ≤ x_2.toInt := i_nlt c_3
            refine lv_iload_n hx hb dX6_worth_23 rfl (lv_at hl 2 rfl) ?_
            refine lv_aload_n hx hb dX6_worth_24 rfl (lv_at hl 1 rfl) ?_
            refine gf_rules_stack hx hb hg hown hK hP rfl (hg _ q1_176) dX6_worth_25 ?_
            refine al_Lstack hx hb hK hP dX6_worth_28 ?_
            refine lv_icmp_lt (tgt := 34) hx hb dX6_worth_29 (by decide) (fun c_39 => ?_) (fun c_39 => ?_)
            ·
              have kc_39 : x1.toInt < (121 : Int) := i_lt c_39
              refine lv_aload_n hx hb dX6_worth_34 rfl (lv_at hl 1 rfl) ?_
              refine gf_rules_stack hx hb hg hown hK hP rfl (hg _ q1_176) dX6_worth_35 ?_
              refine lv_iload_n hx hb dX6_worth_38 rfl (lv_at hl 2 rfl) ?_
              refine lv_iload_n hx hb dX6_worth_39 rfl (lv_at hl 0 rfl) ?_
              refine lv_sipush (v := 10000) hx hb dX6_worth_40 (by decide) ?_
              refine lv_icmp_ge (tgt := 50) hx hb dX6_worth_43 (by decide) (fun c_40 => ?_) (fun c_40 => ?_)
              ·
                have kc_40 : (10000 : Int) ≤ x_2.toInt := i_le c_40
                refine lv_aload_n hx hb dX6_worth_50 rfl (lv_at hl 1 rfl) ?_
                refine gf_rules_named hx hb hg hown hK hP rfl (hg _ q1_177) dX6_worth_51 ?_
                refine lv_iload_n hx hb dX6_worth_54 rfl (lv_at hl 0 rfl) ?_
                refine lv_sipush (v := 10000) hx hb dX6_worth_55 (by decide) ?_
                refine lv_isub hx hb dX6_worth_58 ?_
                refine lv_topi (fun x_41 ex_41 => ?_)
                have fx_41 : x_41.toInt = x_2.toInt - (10000 : Int) := by rw [ex_41]; exact i_sub (by first | omega | (show (_ : Int) ≤ x_2.toInt - (10000 : Int); omega)) (by first | omega | (show x_2.toInt - (10000 : Int) ≤ (_ : Int); omega))
                refine lv_bipush (v := 6) hx hb dX6_worth_59 (by decide) ?_
                refine lv_irem hx hb dX6_worth_61 (by decide) ?_
                refine lv_topi (fun x_42 ex_42 => ?_)
                have fx_42 : x_42.toInt = x_41.toInt % (6 : Int) := by rw [ex_42]; exact i_rem (by omega) (by first | omega | decide)
                refine ld_Lnamed hx hb hK hP (i_in (by omega) (by omega)) dX6_worth_62 ?_
                refine lv_topi (fun x_43 ex_43 => ?_)
                have ex_43 : x_43 = (a 17) x_42.toNatClampNeg := ex_43
                have hx_43 : x_43.toInt = ((a 17) x_42.toNatClampNeg).toInt := by rw [ex_43]
                refine st_Lstack hx hb hK hP hD hS (i_in (by omega) (by omega)) dX6_worth_63 (fun H locs hP hD hS => ?_)
                obtain ⟨x_44, ex_44⟩ : ∃ y : Int32, y = x1 + 1 := ⟨_, rfl⟩
                have fx_44 : x_44.toInt = x1.toInt + 1 := by rw [ex_44]; exact i_add (by first | omega | (show (_ : Int) ≤ x1.toInt + 1; omega)) (by first | omega | (show x1.toInt + 1 ≤ (_ : Int); omega))
                refine lv_iinc (v := x_44) (lv' := [(1, .int x_44), (3, .int x_2), (0, .ref (ad 2)), (2, .int x2)]) hx hb dX6_worth_64 hl (k := 2) rfl (by rw [ex_44]; rfl) (by decide) rfl (fun ls hl => ?_)
                refine lv_goto (tgt := 242) hx hb dX6_worth_67 (by decide) ?_
                exact ih.2 x_44 x2 (upd c4_a16 x1.toNatClampNeg x_43) _ _ (by omega) (by omega) (by omega) (by omega) (by omega) hP hD hS ls (lv_sub hl [2, 0, 3] rfl)
              ·
                have kc_40 : x_2.toInt < (10000 : Int) := i_nle c_40
                refine lv_iload_n hx hb dX6_worth_46 rfl (lv_at hl 0 rfl) ?_
                refine lv_goto (tgt := 63) hx hb dX6_worth_47 (by decide) ?_
                refine st_Lstack hx hb hK hP hD hS (i_in (by omega) (by omega)) dX6_worth_63 (fun H locs hP hD hS => ?_)
                obtain ⟨x_45, ex_45⟩ : ∃ y : Int32, y = x1 + 1 := ⟨_, rfl⟩
                have fx_45 : x_45.toInt = x1.toInt + 1 := by rw [ex_45]; exact i_add (by first | omega | (show (_ : Int) ≤ x1.toInt + 1; omega)) (by first | omega | (show x1.toInt + 1 ≤ (_ : Int); omega))
                refine lv_iinc (v := x_45) (lv' := [(1, .int x_45), (3, .int x_2), (0, .ref (ad 2)), (2, .int x2)]) hx hb dX6_worth_64 hl (k := 2) rfl (by rw [ex_45]; rfl) (by decide) rfl (fun ls hl => ?_)
                refine lv_goto (tgt := 242) hx hb dX6_worth_67 (by decide) ?_
                exact ih.2 x_45 x2 (upd c4_a16 x1.toNatClampNeg x_2) _ _ (by omega) (by omega) (by omega) (by omega) (by omega) hP hD hS ls (lv_sub hl [2, 0, 3] rfl)
            ·
              have kc_39 : (121 : Int) ≤ x1.toInt := i_nlt c_39
              refine lv_iconst (v := 0) hx hb dX6_worth_32 (by decide) ?_
              have q0_0 : (0 : Int32).toInt = 0 := rfl
              exact W.iret (v := 0) hx hb hr (fun tt ht hW => ⟨⟨0, c4_a16, rfl, trivial, by rw [ht]; exact hP, hD⟩, hS.F ht⟩) hS.2.2 dX6_worth_33
      ·
        intro x1 x2 c242_a16 H locs i1 i1b i2 i2b hmu hP hD hS ls hl
        obtain ⟨x_46, ex_46⟩ : ∃ y : Int32, y = x2 + 1 := ⟨_, rfl⟩
        have fx_46 : x_46.toInt = x2.toInt + 1 := by rw [ex_46]; exact i_add (by first | omega | (show (_ : Int) ≤ x2.toInt + 1; omega)) (by first | omega | (show x2.toInt + 1 ≤ (_ : Int); omega))
        refine lv_iinc (v := x_46) (lv' := [(2, .int x_46), (0, .ref (ad 2)), (1, .int x1)]) hx hb dX6_worth_242 hl (k := 2) rfl (by rw [ex_46]; rfl) (by decide) rfl (fun ls hl => ?_)
        refine lv_goto (tgt := 4) hx hb dX6_worth_245 (by decide) ?_
        exact ih.1 x1 x_46 c242_a16 _ _ (by omega) (by omega) (by omega) (by omega) (by omega) hP hD hS ls (lv_sub hl [1, 2, 0] rfl)
  refine lv_iconst (v := 0) hx hb dX6_worth_0 (by decide) ?_
  refine lv_istore_n (lv' := [(1, .int 0), (0, .ref (ad 2))]) hx hb dX6_worth_1 rfl hl (by decide) rfl (fun ls hl => ?_)
  refine lv_iconst (v := 0) hx hb dX6_worth_2 (by decide) ?_
  refine lv_istore_n (lv' := [(2, .int 0), (1, .int 0), (0, .ref (ad 2))]) hx hb dX6_worth_3 rfl hl (by decide) rfl (fun ls hl => ?_)
  have q0_0 : (0 : Int32).toInt = 0 := rfl
  exact (hcut ((2 * ((v 5).toInt - (0 : Int32).toInt).toNat) + 1)).1 0 0 (a 16) _ _ (by omega) (by omega) (by omega) (by omega) (Nat.lt_succ_self _) hP hD hS ls (lv_sub hl [2, 1, 0] rfl)
set_option maxHeartbeats 4000000 in
set_option maxRecDepth 100000 in
theorem k_X6_loudness (l : Launch) (D : va_G) (cs : Nat → ClassId) (A : Nat → Prop) (ad fa fq rv : Nat → Nat) (v : Nat → Int32) (a : Nat → Nat → Int32) (w : Nat → Nat → Int64) (fv fp : Nat → Nat → Int32) (f : Nat) (p2 : Int32) (hf : f < 18) (h1 : 0 ≤ p2.toInt) (h2 : p2.toInt < 8) (iv5_0 : 0 ≤ (v 5).toInt) (iv5_1 : (v 5).toInt ≤ 256) (ia18_0 : AB (-1000) 20000 (a 18)) : Met l yX6_loudness (Cond.code yX6_loudness cX6_loudness 6 (some .int) :: gw) ({ frames := 2, cells := 0, slots := 0, locals := 45 }) (va_Pc [.ref (ad 2), .ref (fa f), .int p2] (XPre D (TY cs) (CW cs ad fa fq rv v a w fv fp) A)) (va_Qi (fun (r : Int32) (z : (Nat → Int32) × (Nat → Int32)) => (0 ≤ r.toInt) ∧ (r.toInt ≤ 99)) (XPo D (fun (z : (Nat → Int32) × (Nat → Int32)) => CW cs ad fa fq rv v (va_up (va_up a 17 z.1) 16 z.2) w fv fp) A) A) 0 0 A := by
  refine Met.ofW (cc := cX6_loudness) (maxL := 6) (ret := (some .int)) (by decide) rfl ?_
  intro p e s m args below meth c s₁ B hml hv
  obtain ⟨rfl, hP, hK, hD, hZ⟩ := hv
  have hx := B.exec
  have hb := B.bytes
  have hr := B.returns
  have hts := atoms_spec (ws := (Cond.code yX6_loudness cX6_loudness 6 (some .int) :: gw)) B.pre
  have hg : ∀ w ∈ gw, w.before ([.ref (ad 2), .ref (fa f), .int p2] : List Value).toArray s = true := fun w h => hts w (List.mem_cons_of_mem _ h)
  have hown : s.vm.findClass RX6 = some m.cls := findClass_of_methodNamed B.named
  have hlocks := B.notSynchronized
  have hS : va_S A s.heap s.heap [] := va_S.rf
  have hP : va_P D vwCl (CW cs ad fa fq rv v a w fv fp) s.heap := hP
  have hl := lv_entry ([.ref (ad 2), .ref (fa f), .int p2]) (n := 6) (Nat.le_of_ble_eq_true rfl)
  rw [lg_entry_eq]
  generalize (lg_sl ([.ref (ad 2), .ref (fa f), .int p2]) ++ List.replicate (6 - (lg_sl ([.ref (ad 2), .ref (fa f), .int p2])).length) Slot.unset).toArray = ls at hl ⊢
  have hl : lv_has ls 6 [(0, .ref (ad 2)), (1, .ref (fa f)), (2, .int p2)] := hl
  refine lv_aload_n hx hb dX6_loudness_0 rfl (lv_at hl 1 rfl) ?_
  refine gf_fl_parish (f := f) hf hx hb hg hown hK hP (hg _ q1_222) dX6_loudness_1 ?_
  refine lv_astore_n (lv' := [(3, .ref (ad 1)), (0, .ref (ad 2)), (1, .ref (fa f)), (2, .int p2)]) hx hb dX6_loudness_4 rfl hl (by decide) rfl (fun ls hl => ?_)
  refine lv_aload_n hx hb dX6_loudness_5 rfl (lv_at hl 0 rfl) ?_
  refine gf_parish_cell hx hb hg hown hK hP rfl (hg _ q1_117) dX6_loudness_6 ?_
  refine lv_iload_n hx hb dX6_loudness_9 rfl (lv_at hl 3 rfl) ?_
  refine ld_Pcell hx hb hK hP (i_in (by omega) (by omega)) dX6_loudness_10 ?_
  refine lv_topi (fun x_1 ex_1 => ?_)
  have ex_1 : x_1 = (a 11) p2.toNatClampNeg := ex_1
  have hx_1 : x_1.toInt = ((a 11) p2.toNatClampNeg).toInt := by rw [ex_1]
  refine lv_aload_n hx hb dX6_loudness_11 rfl (lv_at hl 2 rfl) ?_
  refine gf_fl_swarm (f := f) hf hx hb hg hown hK hP (x := (fv f 1)) rfl (hg _ q1_232) dX6_loudness_12 ?_
  refine cS_p (As := [.int x_1, .int (fv f 1)]) (rest := []) ⟨hx, hb, hml, hown, hg⟩ (k_X9_apart l   x_1 (fv f 1) ) ca_X9_apart q3_131 ⟨rfl, rfl⟩ ⟨Nat.le_of_ble_eq_true rfl, Nat.le_of_ble_eq_true rfl⟩ rfl hl.1 rfl (Nat.le_of_ble_eq_true rfl) ⟨Nat.zero_le _, Nat.zero_le _⟩ dX6_loudness_15 (fun r_2 wr_2 => ?_)
  refine lv_istore (lv' := [(4, .int r_2), (3, .ref (ad 1)), (0, .ref (ad 2)), (1, .ref (fa f)), (2, .int p2)]) hx hb dX6_loudness_18 hl (by decide) rfl (fun ls hl => ?_)
  refine lv_aload_n hx hb dX6_loudness_20 rfl (lv_at hl 2 rfl) ?_
  refine gf_rules_size hx hb hg hown hK hP (x := (v 5)) rfl (hg _ q1_180) dX6_loudness_21 ?_
  refine lv_if_ne (tgt := 51) hx hb dX6_loudness_24 (by decide) (fun c_3 => ?_) (fun c_3 => ?_)
  ·
    have kc_3 : (v 5).toInt ≠ (0 : Int) := i_ne c_3
    refine lv_aload_n hx hb dX6_loudness_51 rfl (lv_at hl 2 rfl) ?_
    refine gf_rules_named hx hb hg hown hK hP rfl (hg _ q1_177) dX6_loudness_52 ?_
    refine lv_iconst (v := 0) hx hb dX6_loudness_55 (by decide) ?_
    refine lv_aload_n hx hb dX6_loudness_56 rfl (lv_at hl 1 rfl) ?_
    refine gf_parish_cheek hx hb hg hown hK hP rfl (hg _ q1_121) dX6_loudness_57 ?_
    refine lv_iload_n hx hb dX6_loudness_60 rfl (lv_at hl 4 rfl) ?_
    refine ld_Pcheek hx hb hK hP (i_in (by omega) (by omega)) dX6_loudness_61 ?_
    refine lv_topi (fun x_4 ex_4 => ?_)
    have ex_4 : x_4 = (a 12) p2.toNatClampNeg := ex_4
    have hx_4 : x_4.toInt = ((a 12) p2.toNatClampNeg).toInt := by rw [ex_4]
    refine st_Lnamed hx hb hK hP hD hS (i_in (by decide) (by decide)) dX6_loudness_62 (fun H locs hP hD hS => ?_)
    refine lv_aload_n hx hb dX6_loudness_63 rfl (lv_at hl 2 rfl) ?_
    refine gf_rules_named hx hb hg hown hK hP rfl (hg _ q1_177) dX6_loudness_64 ?_
    refine lv_iconst (v := 1) hx hb dX6_loudness_67 (by decide) ?_
    refine lv_aload_n hx hb dX6_loudness_68 rfl (lv_at hl 3 rfl) ?_
    refine gf_fl_pads (f := f) hf hx hb hg hown hK hP (hg _ q1_225) dX6_loudness_69 ?_
    refine lv_iload_n hx hb dX6_loudness_72 rfl (lv_at hl 4 rfl) ?_
    refine ld_pads (f := f) hf hx hb hK hP (i_in (by omega) (by omega)) dX6_loudness_73 ?_
    refine lv_topi (fun x_5 ex_5 => ?_)
    have ex_5 : x_5 = (fp f) p2.toNatClampNeg := ex_5
    have hx_5 : x_5.toInt = ((fp f) p2.toNatClampNeg).toInt := by rw [ex_5]
    refine st_Lnamed hx hb hK hP hD hS (i_in (by decide) (by decide)) dX6_loudness_74 (fun H locs hP hD hS => ?_)
    refine lv_aload_n hx hb dX6_loudness_75 rfl (lv_at hl 2 rfl) ?_
    refine gf_rules_named hx hb hg hown hK hP rfl (hg _ q1_177) dX6_loudness_76 ?_
    refine lv_iconst (v := 2) hx hb dX6_loudness_79 (by decide) ?_
    refine lv_iload hx hb dX6_loudness_80 (lv_at hl 0 rfl) ?_
    refine st_Lnamed hx hb hK hP hD hS (i_in (by decide) (by decide)) dX6_loudness_82 (fun H locs hP hD hS => ?_)
    refine lv_aload_n hx hb dX6_loudness_83 rfl (lv_at hl 2 rfl) ?_
    refine gf_rules_named hx hb hg hown hK hP rfl (hg _ q1_177) dX6_loudness_84 ?_
    refine lv_iconst (v := 3) hx hb dX6_loudness_87 (by decide) ?_
    refine lv_aload_n hx hb dX6_loudness_88 rfl (lv_at hl 3 rfl) ?_
    refine gf_fl_hour (f := f) hf hx hb hg hown hK hP (x := (fv f 0)) rfl (hg _ q1_228) dX6_loudness_89 ?_
    refine st_Lnamed hx hb hK hP hD hS (i_in (by decide) (by decide)) dX6_loudness_92 (fun H locs hP hD hS => ?_)
    refine lv_aload_n hx hb dX6_loudness_93 rfl (lv_at hl 2 rfl) ?_
    refine gf_rules_named hx hb hg hown hK hP rfl (hg _ q1_177) dX6_loudness_94 ?_
    refine lv_iconst (v := 4) hx hb dX6_loudness_97 (by decide) ?_
    refine lv_aload_n hx hb dX6_loudness_98 rfl (lv_at hl 3 rfl) ?_
    refine gf_fl_lies (f := f) hf hx hb hg hown hK hP (x := (fv f 4)) rfl (hg _ q1_239) dX6_loudness_99 ?_
    refine st_Lnamed hx hb hK hP hD hS (i_in (by decide) (by decide)) dX6_loudness_102 (fun H locs hP hD hS => ?_)
    refine lv_aload_n hx hb dX6_loudness_103 rfl (lv_at hl 2 rfl) ?_
    refine gf_rules_named hx hb hg hown hK hP rfl (hg _ q1_177) dX6_loudness_104 ?_
    refine lv_iconst (v := 5) hx hb dX6_loudness_107 (by decide) ?_
    refine lv_aload_n hx hb dX6_loudness_108 rfl (lv_at hl 1 rfl) ?_
    refine gf_parish_near hx hb hg hown hK hP rfl (hg _ q1_126) dX6_loudness_109 ?_
    refine lv_iload_n hx hb dX6_loudness_112 rfl (lv_at hl 4 rfl) ?_
    refine ld_Pnear hx hb hK hP (i_in (by omega) (by omega)) dX6_loudness_113 ?_
    refine lv_topi (fun x_6 ex_6 => ?_)
    have ex_6 : x_6 = (a 14) p2.toNatClampNeg := ex_6
    have hx_6 : x_6.toInt = ((a 14) p2.toNatClampNeg).toInt := by rw [ex_6]
    refine st_Lnamed hx hb hK hP hD hS (i_in (by decide) (by decide)) dX6_loudness_114 (fun H locs hP hD hS => ?_)
    refine lv_aload_n hx hb dX6_loudness_115 rfl (lv_at hl 2 rfl) ?_
    refine cV_i (As := []) (rest := []) ⟨hx, hb, hml, hown, hg⟩ (k_X6_worth l D cs A ad fa fq rv v (va_up a 17 (upd (upd (upd (upd (upd (upd (a 17) (0 : Int32).toNatClampNeg x_4) (1 : Int32).toNatClampNeg x_5) (2 : Int32).toNatClampNeg r_2) (3 : Int32).toNatClampNeg (fv f 0)) (4 : Int32).toNatClampNeg (fv f 4)) (5 : Int32).toNatClampNeg x_6)) w fv fp   (show 0 ≤ (v 5).toInt by first | omega | decide) (show (v 5).toInt ≤ 256 by first | omega | decide) ia18_0) ca_X6_worth q3_132 ⟨rfl, rfl⟩ ⟨Nat.le_of_ble_eq_true rfl, Nat.le_of_ble_eq_true rfl⟩ (rc_rules hK hP) hK hP hD hS hZ rfl hl.1 rfl (Nat.le_of_ble_eq_true rfl) ⟨Nat.zero_le _, Nat.zero_le _⟩ dX6_loudness_116 (fun r_7 o_a16_8 H locs wr_7 hP hD hS => ?_)
    have hP : va_P D vwCl (CW cs ad fa fq rv v (va_up (va_up a 17 (upd (upd (upd (upd (upd (upd (a 17) (0 : Int32).toNatClampNeg x_4) (1 : Int32).toNatClampNeg x_5) (2 : Int32).toNatClampNeg r_2) (3 : Int32).toNatClampNeg (fv f 0)) (4 : Int32).toNatClampNeg (fv f 4)) (5 : Int32).toNatClampNeg x_6)) 16 o_a16_8) w fv fp) H := hP
    have hD : va_D A (CW cs ad fa fq rv v (va_up (va_up a 17 (upd (upd (upd (upd (upd (upd (a 17) (0 : Int32).toNatClampNeg x_4) (1 : Int32).toNatClampNeg x_5) (2 : Int32).toNatClampNeg r_2) (3 : Int32).toNatClampNeg (fv f 0)) (4 : Int32).toNatClampNeg (fv f 4)) (5 : Int32).toNatClampNeg x_6)) 16 o_a16_8) w fv fp) := hD
    have wr_7_0 : True := wr_7
    refine lv_istore (lv' := [(5, .int r_7), (4, .int r_2), (3, .ref (ad 1)), (0, .ref (ad 2)), (1, .ref (fa f)), (2, .int p2)]) hx hb dX6_loudness_119 hl (by decide) rfl (fun ls hl => ?_)
    refine lv_iconst (v := 0) hx hb dX6_loudness_121 (by decide) ?_
    refine lv_bipush (v := 99) hx hb dX6_loudness_122 (by decide) ?_
    refine lv_iload hx hb dX6_loudness_124 (lv_at hl 0 rfl) ?_
    refine va_mmin hx hb (hml.trans hl.1.symm) hown (hg _ q3_142) (hg _ q3_61) (hg _ q1_16) (hg _ q3_62) (Nat.le_of_ble_eq_true rfl) (Nat.le_of_ble_eq_true rfl) (Nat.zero_le _) (Nat.zero_le _) dX6_loudness_126 ?_
    refine lv_topi (fun x_9 ex_9 => ?_)
    have fx_9 := i_min ex_9
    have fx_9 : (r_7.toInt ≤ (99 : Int) ∧ x_9.toInt = r_7.toInt) ∨ ((99 : Int) ≤ r_7.toInt ∧ x_9.toInt = (99 : Int)) := fx_9
    refine va_mmax hx hb (hml.trans hl.1.symm) hown (hg _ q3_136) (hg _ q3_137) (hg _ q1_16) (hg _ q3_138) (Nat.le_of_ble_eq_true rfl) (Nat.le_of_ble_eq_true rfl) (Nat.zero_le _) (Nat.zero_le _) dX6_loudness_129 ?_
    refine lv_topi (fun x_10 ex_10 => ?_)
    have fx_10 := i_max ex_10
    have fx_10 : ((0 : Int) ≤ x_9.toInt ∧ x_10.toInt = x_9.toInt) ∨ (x_9.toInt ≤ (0 : Int) ∧ x_10.toInt = (0 : Int)) := fx_10
    exact W.iret (v := x_10) hx hb hr (fun tt ht hW => ⟨⟨x_10, ⟨(upd (upd (upd (upd (upd (upd (a 17) (0 : Int32).toNatClampNeg x_4) (1 : Int32).toNatClampNeg x_5) (2 : Int32).toNatClampNeg r_2) (3 : Int32).toNatClampNeg (fv f 0)) (4 : Int32).toNatClampNeg (fv f 4)) (5 : Int32).toNatClampNeg x_6), o_a16_8⟩, rfl, ⟨(by first | rfl | omega | trivial | assumption | (dsimp only; first | omega | assumption)), (by first | rfl | omega | trivial | assumption | (dsimp only; first | omega | assumption))⟩, by rw [ht]; exact hP, hD⟩, hS.F ht⟩) hS.2.2 dX6_loudness_132
  ·
    have kc_3 : (v 5).toInt = (0 : Int) := i_eq c_3
    refine lv_bipush (v := 10) hx hb dX6_loudness_27 (by decide) ?_
    refine lv_aload_n hx hb dX6_loudness_29 rfl (lv_at hl 3 rfl) ?_
    refine gf_fl_lies (f := f) hf hx hb hg hown hK hP (x := (fv f 4)) rfl (hg _ q1_239) dX6_loudness_30 ?_
    refine lv_iadd hx hb dX6_loudness_33 ?_
    refine lv_topi (fun x_11 ex_11 => ?_)
    refine lv_iload hx hb dX6_loudness_34 (lv_at hl 0 rfl) ?_
    refine lv_isub hx hb dX6_loudness_36 ?_
    refine lv_topi (fun x_12 ex_12 => ?_)
    refine lv_aload_n hx hb dX6_loudness_37 rfl (lv_at hl 1 rfl) ?_
    refine gf_parish_cheek hx hb hg hown hK hP rfl (hg _ q1_121) dX6_loudness_38 ?_
    refine lv_iload_n hx hb dX6_loudness_41 rfl (lv_at hl 4 rfl) ?_
    refine ld_Pcheek hx hb hK hP (i_in (by omega) (by omega)) dX6_loudness_42 ?_
    refine lv_topi (fun x_13 ex_13 => ?_)
    have ex_13 : x_13 = (a 12) p2.toNatClampNeg := ex_13
    have hx_13 : x_13.toInt = ((a 12) p2.toNatClampNeg).toInt := by rw [ex_13]
    refine lv_iconst (v := 2) hx hb dX6_loudness_43 (by decide) ?_
    refine lv_idiv hx hb dX6_loudness_44 (by decide) ?_
    refine lv_topi (fun x_14 ex_14 => ?_)
    refine lv_isub hx hb dX6_loudness_45 ?_
    refine lv_topi (fun x_15 ex_15 => ?_)
    refine lv_istore (lv' := [(5, .int x_15), (4, .int r_2), (3, .ref (ad 1)), (0, .ref (ad 2)), (1, .ref (fa f)), (2, .int p2)]) hx hb dX6_loudness_46 hl (by decide) rfl (fun ls hl => ?_)
    refine lv_goto (tgt := 121) hx hb dX6_loudness_48 (by decide) ?_
    refine lv_iconst (v := 0) hx hb dX6_loudness_121 (by decide) ?_
    refine lv_bipush (v := 99) hx hb dX6_loudness_122 (by decide) ?_
    refine lv_iload hx hb dX6_loudness_124 (lv_at hl 0 rfl) ?_
    refine va_mmin hx hb (hml.trans hl.1.symm) hown (hg _ q3_142) (hg _ q3_61) (hg _ q1_16) (hg _ q3_62) (Nat.le_of_ble_eq_true rfl) (Nat.le_of_ble_eq_true rfl) (Nat.zero_le _) (Nat.zero_le _) dX6_loudness_126 ?_
    refine lv_topi (fun x_16 ex_16 => ?_)
    have fx_16 := i_min ex_16
    have fx_16 : (x_15.toInt ≤ (99 : Int) ∧ x_16.toInt = x_15.toInt) ∨ ((99 : Int) ≤ x_15.toInt ∧ x_16.toInt = (99 : Int)) := fx_16
    refine va_mmax hx hb (hml.trans hl.1.symm) hown (hg _ q3_136) (hg _ q3_137) (hg _ q1_16) (hg _ q3_138) (Nat.le_of_ble_eq_true rfl) (Nat.le_of_ble_eq_true rfl) (Nat.zero_le _) (Nat.zero_le _) dX6_loudness_129 ?_
    refine lv_topi (fun x_17 ex_17 => ?_)
    have fx_17 := i_max ex_17
    have fx_17 : ((0 : Int) ≤ x_16.toInt ∧ x_17.toInt = x_16.toInt) ∨ (x_16.toInt ≤ (0 : Int) ∧ x_17.toInt = (0 : Int)) := fx_17
    have hP : va_P D vwCl (CW cs ad fa fq rv v (va_up (va_up a 17 (a 17)) 16 (a 16)) w fv fp) _ := hP
    have hD : va_D A (CW cs ad fa fq rv v (va_up (va_up a 17 (a 17)) 16 (a 16)) w fv fp) := hD
    exact W.iret (v := x_17) hx hb hr (fun tt ht hW => ⟨⟨x_17, ⟨(a 17), (a 16)⟩, rfl, ⟨(by first | rfl | omega | trivial | assumption | (dsimp only; first | omega | assumption)), (by first | rfl | omega | trivial | assumption | (dsimp only; first | omega | assumption))⟩, by rw [ht]; exact hP, hD⟩, hS.F ht⟩) hS.2.2 dX6_loudness_132
set_option maxHeartbeats 4000000 in
set_option maxRecDepth 100000 in
theorem k_X3_passHour (l : Launch) (D : va_G) (cs : Nat → ClassId) (A : Nat → Prop) (ad fa fq rv : Nat → Nat) (v : Nat → Int32) (a : Nat → Nat → Int32) (w : Nat → Nat → Int64) (fv fp : Nat → Nat → Int32) (f : Nat)  (hf : f < 18) (iv1_0 : 0 ≤ (v 1).toInt) (iv1_1 : (v 1).toInt ≤ 8) (ifvf_0 : (fv f 2).toInt = -2 ∨ (0 ≤ (fv f 2).toInt ∧ (fv f 2).toInt < (v 1).toInt)) : Met l yX3_passHour (Cond.code yX3_passHour cX3_passHour 2 (some .int) :: gw) ({ frames := 2, cells := 0, slots := 0, locals := 47 }) (va_Pc [.ref (fa f)] (XPre D (TY cs) (CW cs ad fa fq rv v a w fv fp) A)) (va_Qi (fun (r : Int32) (z : (Nat → Int32) × (Nat → Int32)) => (r.toInt = -2 ∨ (0 ≤ r.toInt ∧ r.toInt < (v 1).toInt)) ∧ (z.1 3 = (fv f 3)) ∧ ((z.1 2).toInt = -2 ∨ (0 ≤ (z.1 2).toInt ∧ (z.1 2).toInt < (v 1).toInt))) (XPo D (fun (z : (Nat → Int32) × (Nat → Int32)) => CW cs ad fa fq rv v a w (va_up fv f z.1) (va_up fp f z.2)) A) A) 0 0 A := by
  refine Met.ofW (cc := cX3_passHour) (maxL := 2) (ret := (some .int)) (by decide) rfl ?_
  intro p e s m args below meth c s₁ B hml hv
  obtain ⟨rfl, hP, hK, hD, hZ⟩ := hv
  have hx := B.exec
  have hb := B.bytes
  have hr := B.returns
  have hts := atoms_spec (ws := (Cond.code yX3_passHour cX3_passHour 2 (some .int) :: gw)) B.pre
  have hg : ∀ w ∈ gw, w.before ([.ref (fa f)] : List Value).toArray s = true := fun w h => hts w (List.mem_cons_of_mem _ h)
  have hown : s.vm.findClass RX3 = some m.cls := findClass_of_methodNamed B.named
  have hlocks := B.notSynchronized
  have hS : va_S A s.heap s.heap [] := va_S.rf
  have hP : va_P D vwCl (CW cs ad fa fq rv v a w fv fp) s.heap := hP
  have hl := lv_entry ([.ref (fa f)]) (n := 2) (Nat.le_of_ble_eq_true rfl)
  rw [lg_entry_eq]
  generalize (lg_sl ([.ref (fa f)]) ++ List.replicate (2 - (lg_sl ([.ref (fa f)])).length) Slot.unset).toArray = ls at hl ⊢
  have hl : lv_has ls 2 [(0, .ref (fa f))] := hl
  refine lv_aload_n hx hb dX3_passHour_0 rfl (lv_at hl 0 rfl) ?_
  refine lv_aload_n hx hb dX3_passHour_1 rfl (lv_at hl 0 rfl) ?_
  refine gf_fl_hour (f := f) hf hx hb hg hown hK hP (x := (fv f 0)) rfl (hg _ q1_227) dX3_passHour_2 ?_
  refine lv_iconst (v := 1) hx hb dX3_passHour_5 (by decide) ?_
  refine lv_iadd hx hb dX3_passHour_6 ?_
  refine lv_topi (fun x_1 ex_1 => ?_)
  refine lv_bipush (v := 24) hx hb dX3_passHour_7 (by decide) ?_
  refine lv_irem hx hb dX3_passHour_9 (by decide) ?_
  refine lv_topi (fun x_2 ex_2 => ?_)
  refine pf_fl_hour (f := f) hf hx hb hg hown hK hP hD hS (hg _ q1_227) dX3_passHour_10 (fun H locs hP hD hS => ?_)
  refine lv_aload_n hx hb dX3_passHour_13 rfl (lv_at hl 0 rfl) ?_
  refine gf_fl_liar (f := f) hf hx hb hg hown hK hP (x := (fv f 2)) (by rw [va_up_self]; first | done | rfl) (hg _ q1_234) dX3_passHour_14 ?_
  refine lv_bipush (v := (-2)) hx hb dX3_passHour_17 (by decide) ?_
  refine lv_icmp_eq (tgt := 51) hx hb dX3_passHour_19 (by decide) (fun c_3 => ?_) (fun c_3 => ?_)
  ·
    have kc_3 : (fv f 2).toInt = (-2 : Int) := i_eq c_3
    refine lv_bipush (v := (-2)) hx hb dX3_passHour_51 (by decide) ?_
    have q0_m2 : ((-2) : Int32).toInt = (-2) := rfl
    have hP : va_P D vwCl (CW cs ad fa fq rv v a w (va_up fv f (va_up (fv f) 0 x_2)) (va_up fp f (fp f))) _ := (by rw [va_up_id fp f]; exact hP)
    have hD : va_D A (CW cs ad fa fq rv v a w (va_up fv f (va_up (fv f) 0 x_2)) (va_up fp f (fp f))) := (by rw [va_up_id fp f]; exact hD)
    exact W.iret (v := (-2)) hx hb hr (fun tt ht hW => ⟨⟨(-2), ⟨(va_up (fv f) 0 x_2), (fp f)⟩, rfl, ⟨(by first | rfl | omega | trivial | assumption | (dsimp only; first | omega | assumption)), (by first | rfl | omega | trivial | assumption | (dsimp only; first | omega | assumption)), (show (fv f 2).toInt = -2 ∨ (0 ≤ (fv f 2).toInt ∧ (fv f 2).toInt < (v 1).toInt) by first | omega | assumption)⟩, by rw [ht]; exact hP, hD⟩, hS.F ht⟩) hS.2.2 dX3_passHour_53
  ·
    have kc_3 : (fv f 2).toInt ≠ (-2 : Int) := i_ne c_3
    refine lv_aload_n hx hb dX3_passHour_22 rfl (lv_at hl 0 rfl) ?_
    refine gf_fl_swarm (f := f) hf hx hb hg hown hK hP (x := (fv f 1)) (by rw [va_up_self]; first | done | rfl) (hg _ q1_230) dX3_passHour_23 ?_
    refine lv_aload_n hx hb dX3_passHour_26 rfl (lv_at hl 0 rfl) ?_
    refine gf_fl_parish (f := f) hf hx hb hg hown hK hP (hg _ q1_221) dX3_passHour_27 ?_
    refine gf_parish_cell hx hb hg hown hK hP rfl (hg _ q1_118) dX3_passHour_30 ?_
    refine lv_aload_n hx hb dX3_passHour_33 rfl (lv_at hl 0 rfl) ?_
    refine gf_fl_liar (f := f) hf hx hb hg hown hK hP (x := (fv f 2)) (by rw [va_up_self]; first | done | rfl) (hg _ q1_234) dX3_passHour_34 ?_
    refine ld_Pcell hx hb hK hP (i_in (by omega) (by omega)) dX3_passHour_37 ?_
    refine lv_topi (fun x_4 ex_4 => ?_)
    have ex_4 : x_4 = (a 11) (fv f 2).toNatClampNeg := ex_4
    have hx_4 : x_4.toInt = ((a 11) (fv f 2).toNatClampNeg).toInt := by rw [ex_4]
    refine cS_p (As := [.int (fv f 1), .int x_4]) (rest := []) ⟨hx, hb, hml, hown, hg⟩ (k_X9_apart l   (fv f 1) x_4 ) ca_X9_apart q3_185 ⟨rfl, rfl⟩ ⟨Nat.le_of_ble_eq_true rfl, Nat.le_of_ble_eq_true rfl⟩ rfl hl.1 rfl (Nat.le_of_ble_eq_true rfl) ⟨Nat.zero_le _, Nat.zero_le _⟩ dX3_passHour_38 (fun r_5 wr_5 => ?_)
    refine lv_aload_n hx hb dX3_passHour_41 rfl (lv_at hl 0 rfl) ?_
    refine gf_fl_parish (f := f) hf hx hb hg hown hK hP (hg _ q1_221) dX3_passHour_42 ?_
    refine gf_parish_mile hx hb hg hown hK hP (x := (v 2)) rfl (hg _ q1_111) dX3_passHour_45 ?_
    refine lv_icmp_le (tgt := 54) hx hb dX3_passHour_48 (by decide) (fun c_6 => ?_) (fun c_6 => ?_)
    ·
      have kc_6 : r_5.toInt ≤ (v 2).toInt := i_le c_6
      refine lv_aload_n hx hb dX3_passHour_54 rfl (lv_at hl 0 rfl) ?_
      refine lv_aload_n hx hb dX3_passHour_55 rfl (lv_at hl 0 rfl) ?_
      refine gf_fl_swarm (f := f) hf hx hb hg hown hK hP (x := (fv f 1)) (by rw [va_up_self]; first | done | rfl) (hg _ q1_230) dX3_passHour_56 ?_
      refine lv_aload_n hx hb dX3_passHour_59 rfl (lv_at hl 0 rfl) ?_
      refine gf_fl_parish (f := f) hf hx hb hg hown hK hP (hg _ q1_221) dX3_passHour_60 ?_
      refine gf_parish_cell hx hb hg hown hK hP rfl (hg _ q1_118) dX3_passHour_63 ?_
      refine lv_aload_n hx hb dX3_passHour_66 rfl (lv_at hl 0 rfl) ?_
      refine gf_fl_liar (f := f) hf hx hb hg hown hK hP (x := (fv f 2)) (by rw [va_up_self]; first | done | rfl) (hg _ q1_234) dX3_passHour_67 ?_
      refine ld_Pcell hx hb hK hP (i_in (by omega) (by omega)) dX3_passHour_70 ?_
      refine lv_topi (fun x_7 ex_7 => ?_)
      have ex_7 : x_7 = (a 11) (fv f 2).toNatClampNeg := ex_7
      have hx_7 : x_7.toInt = ((a 11) (fv f 2).toNatClampNeg).toInt := by rw [ex_7]
      refine lv_aload_n hx hb dX3_passHour_71 rfl (lv_at hl 0 rfl) ?_
      refine gf_fl_parish (f := f) hf hx hb hg hown hK hP (hg _ q1_221) dX3_passHour_72 ?_
      refine gf_parish_pace hx hb hg hown hK hP (x := (v 3)) rfl (hg _ q1_114) dX3_passHour_75 ?_
      refine cS_p (As := [.int (fv f 1), .int x_7, .int (v 3)]) (rest := [.ref (fa f)]) ⟨hx, hb, hml, hown, hg⟩ (k_X3_flown l   (fv f 1) x_7 (v 3) ) ca_X3_flown q3_186 ⟨rfl, rfl⟩ ⟨Nat.le_of_ble_eq_true rfl, Nat.le_of_ble_eq_true rfl⟩ rfl hl.1 rfl (Nat.le_of_ble_eq_true rfl) ⟨Nat.zero_le _, Nat.zero_le _⟩ dX3_passHour_78 (fun r_8 wr_8 => ?_)
      refine pg_fl_swarm (f := f) hf hx hb hg hown hK hP hD hS (hg _ q1_230) dX3_passHour_81 (fun H locs hP hD hS => ?_)
      refine lv_aload_n hx hb dX3_passHour_84 rfl (lv_at hl 0 rfl) ?_
      refine gf_fl_swarm (f := f) hf hx hb hg hown hK hP (x := r_8) (by rw [va_up_self]; first | done | rfl) (hg _ q1_230) dX3_passHour_85 ?_
      refine lv_aload_n hx hb dX3_passHour_88 rfl (lv_at hl 0 rfl) ?_
      refine gf_fl_parish (f := f) hf hx hb hg hown hK hP (hg _ q1_221) dX3_passHour_89 ?_
      refine gf_parish_cell hx hb hg hown hK hP rfl (hg _ q1_118) dX3_passHour_92 ?_
      refine lv_aload_n hx hb dX3_passHour_95 rfl (lv_at hl 0 rfl) ?_
      refine gf_fl_liar (f := f) hf hx hb hg hown hK hP (x := (fv f 2)) (by rw [va_up_self]; first | done | rfl) (hg _ q1_234) dX3_passHour_96 ?_
      refine ld_Pcell hx hb hK hP (i_in (by omega) (by omega)) dX3_passHour_99 ?_
      refine lv_topi (fun x_9 ex_9 => ?_)
      have ex_9 : x_9 = (a 11) (fv f 2).toNatClampNeg := ex_9
      have hx_9 : x_9.toInt = ((a 11) (fv f 2).toNatClampNeg).toInt := by rw [ex_9]
      refine lv_icmp_eq (tgt := 106) hx hb dX3_passHour_100 (by decide) (fun c_10 => ?_) (fun c_10 => ?_)
      ·
        have kc_10 : r_8.toInt = x_9.toInt := i_eq c_10
        refine lv_aload_n hx hb dX3_passHour_106 rfl (lv_at hl 0 rfl) ?_
        refine gf_fl_liar (f := f) hf hx hb hg hown hK hP (x := (fv f 2)) (by rw [va_up_self]; first | done | rfl) (hg _ q1_234) dX3_passHour_107 ?_
        refine lv_istore_n (lv' := [(1, .int (fv f 2)), (0, .ref (fa f))]) hx hb dX3_passHour_110 rfl hl (by decide) rfl (fun ls hl => ?_)
        refine lv_aload_n hx hb dX3_passHour_111 rfl (lv_at hl 1 rfl) ?_
        refine lv_dup hx hb dX3_passHour_112 rfl ?_
        refine gf_fl_stings (f := f) hf hx hb hg hown hK hP (x := (fv f 6)) (by rw [va_up_self]; first | done | rfl) (hg _ q2_3) dX3_passHour_113 ?_
        refine lv_iconst (v := 1) hx hb dX3_passHour_116 (by decide) ?_
        refine lv_iadd hx hb dX3_passHour_117 ?_
        refine lv_topi (fun x_11 ex_11 => ?_)
        refine pg_fl_stings (f := f) hf hx hb hg hown hK hP hD hS (hg _ q2_3) dX3_passHour_118 (fun H locs hP hD hS => ?_)
        refine lv_aload_n hx hb dX3_passHour_121 rfl (lv_at hl 1 rfl) ?_
        refine gf_fl_pads (f := f) hf hx hb hg hown hK hP (hg _ q1_224) dX3_passHour_122 ?_
        refine lv_iload_n hx hb dX3_passHour_125 rfl (lv_at hl 0 rfl) ?_
        refine ld_pads (f := f) hf hx hb hK hP (i_in (by omega) (by omega)) dX3_passHour_126 ?_
        refine lv_topi (fun x_12 ex_12 => ?_)
        have ex_12 : x_12 = (fp f) (fv f 2).toNatClampNeg := ex_12
        have hx_12 : x_12.toInt = ((fp f) (fv f 2).toNatClampNeg).toInt := by rw [ex_12]
        refine lv_if_le (tgt := 143) hx hb dX3_passHour_127 (by decide) (fun c_13 => ?_) (fun c_13 => ?_)
        ·
          have kc_13 : x_12.toInt ≤ (0 : Int) := i_le c_13
          refine lv_aload_n hx hb dX3_passHour_143 rfl (lv_at hl 1 rfl) ?_
          refine lv_dup hx hb dX3_passHour_144 rfl ?_
          refine gf_fl_hurts (f := f) hf hx hb hg hown hK hP (x := (fv f 7)) (by rw [va_up_self]; first | done | rfl) (hg _ q2_5) dX3_passHour_145 ?_
          refine lv_iconst (v := 1) hx hb dX3_passHour_148 (by decide) ?_
          refine lv_iadd hx hb dX3_passHour_149 ?_
          refine lv_topi (fun x_14 ex_14 => ?_)
          refine pg_fl_hurts (f := f) hf hx hb hg hown hK hP hD hS (hg _ q2_5) dX3_passHour_150 (fun H locs hP hD hS => ?_)
          refine lv_aload_n hx hb dX3_passHour_153 rfl (lv_at hl 1 rfl) ?_
          refine lv_bipush (v := (-2)) hx hb dX3_passHour_154 (by decide) ?_
          refine pg_fl_liar (f := f) hf hx hb hg hown hK hP hD hS (hg _ q1_234) dX3_passHour_156 (fun H locs hP hD hS => ?_)
          refine lv_iload_n hx hb dX3_passHour_159 rfl (lv_at hl 0 rfl) ?_
          have hP : va_P D vwCl (CW cs ad fa fq rv v a w (va_up fv f (va_up (va_up (va_up (va_up (va_up (fv f) 0 x_2) 1 r_8) 6 x_11) 7 x_14) 2 (-2))) (va_up fp f (fp f))) _ := (by rw [va_up_id fp f]; exact hP)
          have hD : va_D A (CW cs ad fa fq rv v a w (va_up fv f (va_up (va_up (va_up (va_up (va_up (fv f) 0 x_2) 1 r_8) 6 x_11) 7 x_14) 2 (-2))) (va_up fp f (fp f))) := (by rw [va_up_id fp f]; exact hD)
          exact W.iret (v := (fv f 2)) hx hb hr (fun tt ht hW => ⟨⟨(fv f 2), ⟨(va_up (va_up (va_up (va_up (va_up (fv f) 0 x_2) 1 r_8) 6 x_11) 7 x_14) 2 (-2)), (fp f)⟩, rfl, ⟨(by first | rfl | omega | trivial | assumption | (dsimp only; first | omega | assumption)), (by first | rfl | omega | trivial | assumption | (dsimp only; first | omega | assumption)), (show (-2 : Int) = -2 ∨ (0 ≤ (-2 : Int) ∧ (-2 : Int) < (v 1).toInt) by first | omega | assumption)⟩, by rw [ht]; exact hP, hD⟩, hS.F ht⟩) hS.2.2 dX3_passHour_160
        ·
          have kc_13 : (0 : Int) < x_12.toInt := i_nle c_13
          refine lv_aload_n hx hb dX3_passHour_130 rfl (lv_at hl 1 rfl) ?_
          refine gf_fl_pads (f := f) hf hx hb hg hown hK hP (hg _ q1_224) dX3_passHour_131 ?_
          refine lv_iload_n hx hb dX3_passHour_134 rfl (lv_at hl 0 rfl) ?_
          refine lv_dup2_11 hx hb dX3_passHour_135 rfl rfl ?_
          refine ld_pads (f := f) hf hx hb hK hP (i_in (by omega) (by omega)) dX3_passHour_136 ?_
          refine lv_topi (fun x_15 ex_15 => ?_)
          have ex_15 : x_15 = (fp f) (fv f 2).toNatClampNeg := ex_15
          have hx_15 : x_15.toInt = ((fp f) (fv f 2).toNatClampNeg).toInt := by rw [ex_15]
          refine lv_iconst (v := 1) hx hb dX3_passHour_137 (by decide) ?_
          refine lv_isub hx hb dX3_passHour_138 ?_
          refine lv_topi (fun x_16 ex_16 => ?_)
          refine st_pads (f := f) hf hx hb hK hP hD hS (i_in (by omega) (by omega)) dX3_passHour_139 (fun H locs hP hD hS => ?_)
          refine lv_goto (tgt := 153) hx hb dX3_passHour_140 (by decide) ?_
          refine lv_aload_n hx hb dX3_passHour_153 rfl (lv_at hl 1 rfl) ?_
          refine lv_bipush (v := (-2)) hx hb dX3_passHour_154 (by decide) ?_
          refine pg_fl_liar (f := f) hf hx hb hg hown hK hP hD hS (hg _ q1_234) dX3_passHour_156 (fun H locs hP hD hS => ?_)
          refine lv_iload_n hx hb dX3_passHour_159 rfl (lv_at hl 0 rfl) ?_
          exact W.iret (v := (fv f 2)) hx hb hr (fun tt ht hW => ⟨⟨(fv f 2), ⟨(va_up (va_up (va_up (va_up (fv f) 0 x_2) 1 r_8) 6 x_11) 2 (-2)), (upd (fp f) (fv f 2).toNatClampNeg x_16)⟩, rfl, ⟨(by first | rfl | omega | trivial | assumption | (dsimp only; first | omega | assumption)), (by first | rfl | omega | trivial | assumption | (dsimp only; first | omega | assumption)), (show (-2 : Int) = -2 ∨ (0 ≤ (-2 : Int) ∧ (-2 : Int) < (v 1).toInt) by first | omega | assumption)⟩, by rw [ht]; exact hP, hD⟩, hS.F ht⟩) hS.2.2 dX3_passHour_160
      ·
        have kc_10 : r_8.toInt ≠ x_9.toInt := i_ne c_10
        refine lv_bipush (v := (-2)) hx hb dX3_passHour_103 (by decide) ?_
        have q0_m2 : ((-2) : Int32).toInt = (-2) := rfl
        have hP : va_P D vwCl (CW cs ad fa fq rv v a w (va_up fv f (va_up (va_up (fv f) 0 x_2) 1 r_8)) (va_up fp f (fp f))) _ := (by rw [va_up_id fp f]; exact hP)
        have hD : va_D A (CW cs ad fa fq rv v a w (va_up fv f (va_up (va_up (fv f) 0 x_2) 1 r_8)) (va_up fp f (fp f))) := (by rw [va_up_id fp f]; exact hD)
        exact W.iret (v := (-2)) hx hb hr (fun tt ht hW => ⟨⟨(-2), ⟨(va_up (va_up (fv f) 0 x_2) 1 r_8), (fp f)⟩, rfl, ⟨(by first | rfl | omega | trivial | assumption | (dsimp only; first | omega | assumption)), (by first | rfl | omega | trivial | assumption | (dsimp only; first | omega | assumption)), (show (fv f 2).toInt = -2 ∨ (0 ≤ (fv f 2).toInt ∧ (fv f 2).toInt < (v 1).toInt) by first | omega | assumption)⟩, by rw [ht]; exact hP, hD⟩, hS.F ht⟩) hS.2.2 dX3_passHour_105
    ·
      have kc_6 : (v 2).toInt < r_5.toInt := i_nle c_6
      refine lv_bipush (v := (-2)) hx hb dX3_passHour_51 (by decide) ?_
      have q0_m2 : ((-2) : Int32).toInt = (-2) := rfl
      have hP : va_P D vwCl (CW cs ad fa fq rv v a w (va_up fv f (va_up (fv f) 0 x_2)) (va_up fp f (fp f))) _ := (by rw [va_up_id fp f]; exact hP)
      have hD : va_D A (CW cs ad fa fq rv v a w (va_up fv f (va_up (fv f) 0 x_2)) (va_up fp f (fp f))) := (by rw [va_up_id fp f]; exact hD)
      exact W.iret (v := (-2)) hx hb hr (fun tt ht hW => ⟨⟨(-2), ⟨(va_up (fv f) 0 x_2), (fp f)⟩, rfl, ⟨(by first | rfl | omega | trivial | assumption | (dsimp only; first | omega | assumption)), (by first | rfl | omega | trivial | assumption | (dsimp only; first | omega | assumption)), (show (fv f 2).toInt = -2 ∨ (0 ≤ (fv f 2).toInt ∧ (fv f 2).toInt < (v 1).toInt) by first | omega | assumption)⟩, by rw [ht]; exact hP, hD⟩, hS.F ht⟩) hS.2.2 dX3_passHour_53
set_option maxHeartbeats 4000000 in
set_option maxRecDepth 100000 in
theorem k_X3_utter (l : Launch) (D : va_G) (cs : Nat → ClassId) (A : Nat → Prop) (ad fa fq rv : Nat → Nat) (v : Nat → Int32) (a : Nat → Nat → Int32) (w : Nat → Nat → Int64) (fv fp : Nat → Nat → Int32) (f : Nat) (p1 : Int32) (p2 : Int32) (hf : f < 18) (h1 : 0 ≤ p1.toInt) (h2 : p1.toInt < (v 1).toInt) (iv1_0 : 0 ≤ (v 1).toInt) (iv1_1 : (v 1).toInt ≤ 8) (ifvf_0 : (fv f 2).toInt = -2 ∨ (0 ≤ (fv f 2).toInt ∧ (fv f 2).toInt < (v 1).toInt)) (iv5_0 : 0 ≤ (v 5).toInt) (iv5_1 : (v 5).toInt ≤ 256) (ia18_0 : AB (-1000) 20000 (a 18)) : Met l yX3_utter (Cond.code yX3_utter cX3_utter 3 (some .int) :: gw) ({ frames := 3, cells := 0, slots := 0, locals := 70 }) (va_Pc [.ref (fa f), .int p1, .int p2] (XPre D (TY cs) (CW cs ad fa fq rv v a w fv fp) A)) (va_Qi (fun (r : Int32) (z : (Nat → Int32) × (Nat → Int32) × (Nat → Int32) × (Nat → Int32)) => (r.toInt = -2 ∨ (0 ≤ r.toInt ∧ r.toInt < (v 1).toInt)) ∧ (z.1 3 = (fv f 3) + 1) ∧ ((z.1 2).toInt = -2 ∨ (0 ≤ (z.1 2).toInt ∧ (z.1 2).toInt < (v 1).toInt))) (XPo D (fun (z : (Nat → Int32) × (Nat → Int32) × (Nat → Int32) × (Nat → Int32)) => CW cs ad fa fq rv v (va_up (va_up a 17 z.2.2.1) 16 z.2.2.2) w (va_up fv f z.1) (va_up fp f z.2.1)) A) A) 0 0 A := by
  refine Met.ofW (cc := cX3_utter) (maxL := 3) (ret := (some .int)) (by decide) rfl ?_
  intro p e s m args below meth c s₁ B hml hv
  obtain ⟨rfl, hP, hK, hD, hZ⟩ := hv
  have hx := B.exec
  have hb := B.bytes
  have hr := B.returns
  have hts := atoms_spec (ws := (Cond.code yX3_utter cX3_utter 3 (some .int) :: gw)) B.pre
  have hg : ∀ w ∈ gw, w.before ([.ref (fa f), .int p1, .int p2] : List Value).toArray s = true := fun w h => hts w (List.mem_cons_of_mem _ h)
  have hown : s.vm.findClass RX3 = some m.cls := findClass_of_methodNamed B.named
  have hlocks := B.notSynchronized
  have hS : va_S A s.heap s.heap [] := va_S.rf
  have hP : va_P D vwCl (CW cs ad fa fq rv v a w fv fp) s.heap := hP
  have hl := lv_entry ([.ref (fa f), .int p1, .int p2]) (n := 3) (Nat.le_of_ble_eq_true rfl)
  rw [lg_entry_eq]
  generalize (lg_sl ([.ref (fa f), .int p1, .int p2]) ++ List.replicate (3 - (lg_sl ([.ref (fa f), .int p1, .int p2])).length) Slot.unset).toArray = ls at hl ⊢
  have hl : lv_has ls 3 [(0, .ref (fa f)), (1, .int p1), (2, .int p2)] := hl
  refine lv_aload_n hx hb dX3_utter_0 rfl (lv_at hl 0 rfl) ?_
  refine lv_dup hx hb dX3_utter_1 rfl ?_
  refine gf_fl_sayings (f := f) hf hx hb hg hown hK hP (x := (fv f 3)) rfl (hg _ q1_236) dX3_utter_2 ?_
  refine lv_iconst (v := 1) hx hb dX3_utter_5 (by decide) ?_
  refine lv_iadd hx hb dX3_utter_6 ?_
  refine lv_topi (fun x_1 ex_1 => ?_)
  refine pf_fl_sayings (f := f) hf hx hb hg hown hK hP hD hS (hg _ q1_236) dX3_utter_7 (fun H locs hP hD hS => ?_)
  refine lv_iload_n hx hb dX3_utter_10 rfl (lv_at hl 2 rfl) ?_
  refine lv_if_eq (tgt := 51) hx hb dX3_utter_11 (by decide) (fun c_2 => ?_) (fun c_2 => ?_)
  ·
    have kc_2 : p2.toInt = (0 : Int) := i_eq c_2
    refine lv_aload_n hx hb dX3_utter_51 rfl (lv_at hl 0 rfl) ?_
    refine cV_i (As := []) (rest := []) ⟨hx, hb, hml, hown, hg⟩ (k_X3_passHour l D cs A ad fa fq rv v a w (va_up fv f (va_up (fv f) 3 x_1)) fp f  (by omega) (show 0 ≤ (v 1).toInt by first | omega | decide) (show (v 1).toInt ≤ 8 by first | omega | decide) (by (have hq : (fv f 2).toInt = -2 ∨ (0 ≤ (fv f 2).toInt ∧ (fv f 2).toInt < (v 1).toInt) := (by first | omega | decide)); first | exact hq | (simp only [va_up_self]; exact hq))) ca_X3_passHour q3_181 ⟨rfl, rfl⟩ ⟨Nat.le_of_ble_eq_true rfl, Nat.le_of_ble_eq_true rfl⟩ (rc_fl (f := f) hf hK hP) hK hP hD hS hZ rfl hl.1 rfl (Nat.le_of_ble_eq_true rfl) ⟨Nat.zero_le _, Nat.zero_le _⟩ dX3_utter_52 (fun r_3 z_6 H locs wr_3 hP hD hS => ?_)
    obtain ⟨o_fvf_4, o_fpf_5⟩ := z_6
    simp only [bx_uu] at hP hD
    have hP : va_P D vwCl (CW cs ad fa fq rv v a w (va_up fv f o_fvf_4) (va_up fp f o_fpf_5)) H := hP
    have hD : va_D A (CW cs ad fa fq rv v a w (va_up fv f o_fvf_4) (va_up fp f o_fpf_5)) := hD
    simp only [va_up_self] at wr_3
    obtain ⟨wr_3_0, wr_3_1, wr_3_2⟩ : (r_3.toInt = -2 ∨ (0 ≤ r_3.toInt ∧ r_3.toInt < (v 1).toInt)) ∧ (o_fvf_4 3 = x_1) ∧ ((o_fvf_4 2).toInt = -2 ∨ (0 ≤ (o_fvf_4 2).toInt ∧ (o_fvf_4 2).toInt < (v 1).toInt)) := wr_3
    have hP : va_P D vwCl (CW cs ad fa fq rv v (va_up (va_up a 17 (a 17)) 16 (a 16)) w (va_up fv f o_fvf_4) (va_up fp f o_fpf_5)) _ := hP
    have hD : va_D A (CW cs ad fa fq rv v (va_up (va_up a 17 (a 17)) 16 (a 16)) w (va_up fv f o_fvf_4) (va_up fp f o_fpf_5)) := hD
    exact W.iret (v := r_3) hx hb hr (fun tt ht hW => ⟨⟨r_3, ⟨o_fvf_4, o_fpf_5, (a 17), (a 16)⟩, rfl, ⟨(by first | rfl | omega | trivial | assumption | (dsimp only; first | omega | assumption)), (by first | rfl | assumption | simp_all), (show (o_fvf_4 2).toInt = -2 ∨ (0 ≤ (o_fvf_4 2).toInt ∧ (o_fvf_4 2).toInt < (v 1).toInt) by first | omega | assumption)⟩, by rw [ht]; exact hP, hD⟩, hS.F ht⟩) hS.2.2 dX3_utter_55
  ·
    have kc_2 : p2.toInt ≠ (0 : Int) := i_ne c_2
    refine lv_aload_n hx hb dX3_utter_14 rfl (lv_at hl 0 rfl) ?_
    refine gf_fl_law (f := f) hf hx hb hg hown hK hP (hg _ q1_223) dX3_utter_15 ?_
    refine lv_aload_n hx hb dX3_utter_18 rfl (lv_at hl 0 rfl) ?_
    refine lv_iload_n hx hb dX3_utter_19 rfl (lv_at hl 1 rfl) ?_
    refine cV_i (As := [.ref (fa f), .int p1]) (rest := []) ⟨hx, hb, hml, hown, hg⟩ (k_X6_loudness l D cs A ad fa fq rv v a w (va_up fv f (va_up (fv f) 3 x_1)) fp f p1 (by omega) (show 0 ≤ p1.toInt by first | omega | decide) (show p1.toInt < 8 by first | omega | decide) (show 0 ≤ (v 5).toInt by first | omega | decide) (show (v 5).toInt ≤ 256 by first | omega | decide) ia18_0) ca_X6_loudness q3_180 ⟨rfl, rfl⟩ ⟨Nat.le_of_ble_eq_true rfl, Nat.le_of_ble_eq_true rfl⟩ (rc_rules hK hP) hK hP hD hS hZ rfl hl.1 rfl (Nat.le_of_ble_eq_true rfl) ⟨Nat.zero_le _, Nat.zero_le _⟩ dX3_utter_20 (fun r_7 z_10 H locs wr_7 hP hD hS => ?_)
    obtain ⟨o_a17_8, o_a16_9⟩ := z_10
    have hP : va_P D vwCl (CW cs ad fa fq rv v (va_up (va_up a 17 o_a17_8) 16 o_a16_9) w (va_up fv f (va_up (fv f) 3 x_1)) fp) H := hP
    have hD : va_D A (CW cs ad fa fq rv v (va_up (va_up a 17 o_a17_8) 16 o_a16_9) w (va_up fv f (va_up (fv f) 3 x_1)) fp) := hD
    obtain ⟨wr_7_0, wr_7_1⟩ : (0 ≤ r_7.toInt) ∧ (r_7.toInt ≤ 99) := wr_7
    refine lv_if_le (tgt := 41) hx hb dX3_utter_23 (by decide) (fun c_11 => ?_) (fun c_11 => ?_)
    ·
      have kc_11 : r_7.toInt ≤ (0 : Int) := i_le c_11
      refine lv_aload_n hx hb dX3_utter_41 rfl (lv_at hl 0 rfl) ?_
      refine lv_dup hx hb dX3_utter_42 rfl ?_
      refine gf_fl_lies (f := f) hf hx hb hg hown hK hP (x := (fv f 4)) (by rw [va_up_self]; first | done | rfl) (hg _ q1_238) dX3_utter_43 ?_
      refine lv_iconst (v := 1) hx hb dX3_utter_46 (by decide) ?_
      refine lv_iadd hx hb dX3_utter_47 ?_
      refine lv_topi (fun x_12 ex_12 => ?_)
      refine pg_fl_lies (f := f) hf hx hb hg hown hK hP hD hS (hg _ q1_238) dX3_utter_48 (fun H locs hP hD hS => ?_)
      refine lv_aload_n hx hb dX3_utter_51 rfl (lv_at hl 0 rfl) ?_
      refine cV_i (As := []) (rest := []) ⟨hx, hb, hml, hown, hg⟩ (k_X3_passHour l D cs A ad fa fq rv v (va_up (va_up a 17 o_a17_8) 16 o_a16_9) w (va_up fv f (va_up (va_up (fv f) 3 x_1) 4 x_12)) fp f  (by omega) (show 0 ≤ (v 1).toInt by first | omega | decide) (show (v 1).toInt ≤ 8 by first | omega | decide) (by (have hq : (fv f 2).toInt = -2 ∨ (0 ≤ (fv f 2).toInt ∧ (fv f 2).toInt < (v 1).toInt) := (by first | omega | decide)); first | exact hq | (simp only [va_up_self]; exact hq))) ca_X3_passHour q3_181 ⟨rfl, rfl⟩ ⟨Nat.le_of_ble_eq_true rfl, Nat.le_of_ble_eq_true rfl⟩ (rc_fl (f := f) hf hK hP) hK hP hD hS hZ rfl hl.1 rfl (Nat.le_of_ble_eq_true rfl) ⟨Nat.zero_le _, Nat.zero_le _⟩ dX3_utter_52 (fun r_13 z_16 H locs wr_13 hP hD hS => ?_)
      obtain ⟨o_fvf_14, o_fpf_15⟩ := z_16
      simp only [bx_uu] at hP hD
      have hP : va_P D vwCl (CW cs ad fa fq rv v (va_up (va_up a 17 o_a17_8) 16 o_a16_9) w (va_up fv f o_fvf_14) (va_up fp f o_fpf_15)) H := hP
      have hD : va_D A (CW cs ad fa fq rv v (va_up (va_up a 17 o_a17_8) 16 o_a16_9) w (va_up fv f o_fvf_14) (va_up fp f o_fpf_15)) := hD
      simp only [va_up_self] at wr_13
      obtain ⟨wr_13_0, wr_13_1, wr_13_2⟩ : (r_13.toInt = -2 ∨ (0 ≤ r_13.toInt ∧ r_13.toInt < (v 1).toInt)) ∧ (o_fvf_14 3 = x_1) ∧ ((o_fvf_14 2).toInt = -2 ∨ (0 ≤ (o_fvf_14 2).toInt ∧ (o_fvf_14 2).toInt < (v 1).toInt)) := wr_13
      exact W.iret (v := r_13) hx hb hr (fun tt ht hW => ⟨⟨r_13, ⟨o_fvf_14, o_fpf_15, o_a17_8, o_a16_9⟩, rfl, ⟨(by first | rfl | omega | trivial | assumption | (dsimp only; first | omega | assumption)), (by first | rfl | assumption | simp_all), (show (o_fvf_14 2).toInt = -2 ∨ (0 ≤ (o_fvf_14 2).toInt ∧ (o_fvf_14 2).toInt < (v 1).toInt) by first | omega | assumption)⟩, by rw [ht]; exact hP, hD⟩, hS.F ht⟩) hS.2.2 dX3_utter_55
    ·
      have kc_11 : (0 : Int) < r_7.toInt := i_nle c_11
      refine lv_aload_n hx hb dX3_utter_26 rfl (lv_at hl 0 rfl) ?_
      refine lv_dup hx hb dX3_utter_27 rfl ?_
      refine gf_fl_louds (f := f) hf hx hb hg hown hK hP (x := (fv f 5)) (by rw [va_up_self]; first | done | rfl) (hg _ q2_1) dX3_utter_28 ?_
      refine lv_iconst (v := 1) hx hb dX3_utter_31 (by decide) ?_
      refine lv_iadd hx hb dX3_utter_32 ?_
      refine lv_topi (fun x_17 ex_17 => ?_)
      refine pg_fl_louds (f := f) hf hx hb hg hown hK hP hD hS (hg _ q2_1) dX3_utter_33 (fun H locs hP hD hS => ?_)
      refine lv_aload_n hx hb dX3_utter_36 rfl (lv_at hl 0 rfl) ?_
      refine lv_iload_n hx hb dX3_utter_37 rfl (lv_at hl 1 rfl) ?_
      refine pg_fl_liar (f := f) hf hx hb hg hown hK hP hD hS (hg _ q1_234) dX3_utter_38 (fun H locs hP hD hS => ?_)
      refine lv_aload_n hx hb dX3_utter_41 rfl (lv_at hl 0 rfl) ?_
      refine lv_dup hx hb dX3_utter_42 rfl ?_
      refine gf_fl_lies (f := f) hf hx hb hg hown hK hP (x := (fv f 4)) (by rw [va_up_self]; first | done | rfl) (hg _ q1_238) dX3_utter_43 ?_
      refine lv_iconst (v := 1) hx hb dX3_utter_46 (by decide) ?_
      refine lv_iadd hx hb dX3_utter_47 ?_
      refine lv_topi (fun x_18 ex_18 => ?_)
      refine pg_fl_lies (f := f) hf hx hb hg hown hK hP hD hS (hg _ q1_238) dX3_utter_48 (fun H locs hP hD hS => ?_)
      refine lv_aload_n hx hb dX3_utter_51 rfl (lv_at hl 0 rfl) ?_
      refine cV_i (As := []) (rest := []) ⟨hx, hb, hml, hown, hg⟩ (k_X3_passHour l D cs A ad fa fq rv v (va_up (va_up a 17 o_a17_8) 16 o_a16_9) w (va_up fv f (va_up (va_up (va_up (va_up (fv f) 3 x_1) 5 x_17) 2 p1) 4 x_18)) fp f  (by omega) (show 0 ≤ (v 1).toInt by first | omega | decide) (show (v 1).toInt ≤ 8 by first | omega | decide) (by (have hq : p1.toInt = -2 ∨ (0 ≤ p1.toInt ∧ p1.toInt < (v 1).toInt) := (by first | omega | decide)); first | exact hq | (simp only [va_up_self]; exact hq))) ca_X3_passHour q3_181 ⟨rfl, rfl⟩ ⟨Nat.le_of_ble_eq_true rfl, Nat.le_of_ble_eq_true rfl⟩ (rc_fl (f := f) hf hK hP) hK hP hD hS hZ rfl hl.1 rfl (Nat.le_of_ble_eq_true rfl) ⟨Nat.zero_le _, Nat.zero_le _⟩ dX3_utter_52 (fun r_19 z_22 H locs wr_19 hP hD hS => ?_)
      obtain ⟨o_fvf_20, o_fpf_21⟩ := z_22
      simp only [bx_uu] at hP hD
      have hP : va_P D vwCl (CW cs ad fa fq rv v (va_up (va_up a 17 o_a17_8) 16 o_a16_9) w (va_up fv f o_fvf_20) (va_up fp f o_fpf_21)) H := hP
      have hD : va_D A (CW cs ad fa fq rv v (va_up (va_up a 17 o_a17_8) 16 o_a16_9) w (va_up fv f o_fvf_20) (va_up fp f o_fpf_21)) := hD
      simp only [va_up_self] at wr_19
      obtain ⟨wr_19_0, wr_19_1, wr_19_2⟩ : (r_19.toInt = -2 ∨ (0 ≤ r_19.toInt ∧ r_19.toInt < (v 1).toInt)) ∧ (o_fvf_20 3 = x_1) ∧ ((o_fvf_20 2).toInt = -2 ∨ (0 ≤ (o_fvf_20 2).toInt ∧ (o_fvf_20 2).toInt < (v 1).toInt)) := wr_19
      exact W.iret (v := r_19) hx hb hr (fun tt ht hW => ⟨⟨r_19, ⟨o_fvf_20, o_fpf_21, o_a17_8, o_a16_9⟩, rfl, ⟨(by first | rfl | omega | trivial | assumption | (dsimp only; first | omega | assumption)), (by first | rfl | assumption | simp_all), (show (o_fvf_20 2).toInt = -2 ∨ (0 ≤ (o_fvf_20 2).toInt ∧ (o_fvf_20 2).toInt < (v 1).toInt) by first | omega | assumption)⟩, by rw [ht]; exact hP, hD⟩, hS.F ht⟩) hS.2.2 dX3_utter_55
set_option maxHeartbeats 4000000 in
set_option maxRecDepth 100000 in
theorem k_X2_read (l : Launch) (D : va_G) (cs : Nat → ClassId) (A : Nat → Prop) (ad fa fq rv : Nat → Nat) (v : Nat → Int32) (a : Nat → Nat → Int32) (w : Nat → Nat → Int64) (fv fp : Nat → Nat → Int32)  (p2 : Int32) (p3 : Int32) (h1 : 0 ≤ p2.toInt) (h2 : p2.toInt < 6) (h3 : p3.toInt = (v 1).toInt) (iv1_0 : 0 ≤ (v 1).toInt) (iv1_1 : (v 1).toInt ≤ 8) (iv6_0 : 0 ≤ (v 6).toInt) (iv6_1 : (v 6).toInt ≤ 24) (iv6_2 : DOK (v 6) (a 20) (v 1)) (ia28_0 : AB (-1) 5 (a 28)) (ia29_0 : AB (-1) 60 (a 29)) : Met l yX2_read (Cond.code yX2_read cX2_read 7 none :: gw) ({ frames := 2, cells := 0, slots := 0, locals := 42 }) (va_Pc [.ref (ad 3), .ref (ad 8), .int p2, .int p3] (XPre D (TY cs) (CW cs ad fa fq rv v a w fv fp) A)) (va_Qv (fun (z : Int32 × (Nat → Int32)) => (0 ≤ z.1.toInt) ∧ (z.1.toInt ≤ 24) ∧ (DOK z.1 z.2 (v 1))) (XPo D (fun (z : Int32 × (Nat → Int32)) => CW cs ad fa fq rv (va_up v 6 z.1) (va_up a 20 z.2) w fv fp) A) A) 0 0 A := by
  refine Met.ofW (cc := cX2_read) (maxL := 7) (ret := none) (by decide) rfl ?_
  intro p e s m args below meth c s₁ B hml hv
  obtain ⟨rfl, hP, hK, hD, hZ⟩ := hv
  have hx := B.exec
  have hb := B.bytes
  have hr := B.returns
  have hts := atoms_spec (ws := (Cond.code yX2_read cX2_read 7 none :: gw)) B.pre
  have hg : ∀ w ∈ gw, w.before ([.ref (ad 3), .ref (ad 8), .int p2, .int p3] : List Value).toArray s = true := fun w h => hts w (List.mem_cons_of_mem _ h)
  have hown : s.vm.findClass RX2 = some m.cls := findClass_of_methodNamed B.named
  have hlocks := B.notSynchronized
  have hS : va_S A s.heap s.heap [] := va_S.rf
  have hP : va_P D vwCl (CW cs ad fa fq rv v a w fv fp) s.heap := hP
  have hl := lv_entry ([.ref (ad 3), .ref (ad 8), .int p2, .int p3]) (n := 7) (Nat.le_of_ble_eq_true rfl)
  rw [lg_entry_eq]
  generalize (lg_sl ([.ref (ad 3), .ref (ad 8), .int p2, .int p3]) ++ List.replicate (7 - (lg_sl ([.ref (ad 3), .ref (ad 8), .int p2, .int p3])).length) Slot.unset).toArray = ls at hl ⊢
  have hl : lv_has ls 7 [(0, .ref (ad 3)), (1, .ref (ad 8)), (2, .int p2), (3, .int p3)] := hl
  have hcut : ∀ nk : Nat, (∀ (x4 : Int32) (x5 : Int32) (c20_v6 : Int32) (c20_a20 : Nat → Int32) (H : Heap) (locs : List Loc) (i4 : x4.toInt ≤ 24) (i4b : x4.toInt ≤ ((a 29) p2.toNatClampNeg).toInt ∨ x4.toInt ≤ 0) (i5 : 0 ≤ x5.toInt) (i6 : c20_v6.toInt = x5.toInt) (jv6_0 : 0 ≤ c20_v6.toInt) (jv6_1 : c20_v6.toInt ≤ 24) (jv6_2 : DOK c20_v6 c20_a20 (v 1)) (hmu : (x4.toInt - x5.toInt).toNat < nk) (hP : va_P D vwCl (CW cs ad fa fq rv (va_up v 6 c20_v6) (va_up a 20 c20_a20) w fv fp) H) (hD : va_D A (CW cs ad fa fq rv (va_up v 6 c20_v6) (va_up a 20 c20_a20) w fv fp)) (hS : va_S A s.heap H locs) (ls : Array Slot) (hl : lv_has ls 7 [(0, .ref (ad 3)), (1, .ref (ad 8)), (2, .int p2), (3, .int p3), (4, .int x4), (5, .int x5)]), W p l e (headSpec (Cond.code yX2_read cX2_read 7 none :: gw) ({ frames := 2, cells := 0, slots := 0, locals := 42 })).room s m ([.ref (ad 3), .ref (ad 8), .int p2, .int p3] : List Value).toArray below meth c H locs 0 0 (MQ below (va_Qv (fun (z : Int32 × (Nat → Int32)) => (0 ≤ z.1.toInt) ∧ (z.1.toInt ≤ 24) ∧ (DOK z.1 z.2 (v 1))) (XPo D (fun (z : Int32 × (Nat → Int32)) => CW cs ad fa fq rv (va_up v 6 z.1) (va_up a 20 z.2) w fv fp) A) A) ([.ref (ad 3), .ref (ad 8), .int p2, .int p3] : List Value).toArray s 0 0 A) (F0 m 20 ls [])) := by
    intro nk
    induction nk with
    | zero => exact (fun x4 x5 c20_v6 c20_a20 H locs i4 i4b i5 i6 jv6_0 jv6_1 jv6_2 hmu hP hD hS ls hl => absurd hmu (Nat.not_lt_zero _))
    | succ nk ih =>
      intro x4 x5 c20_v6 c20_a20 H locs i4 i4b i5 i6 jv6_0 jv6_1 jv6_2 hmu hP hD hS ls hl
      refine lv_iload hx hb dX2_read_20 (lv_at hl 5 rfl) ?_
      refine lv_iload hx hb dX2_read_22 (lv_at hl 4 rfl) ?_
      refine lv_icmp_ge (tgt := 74) hx hb dX2_read_24 (by decide) (fun c_1 => ?_) (fun c_1 => ?_)
      ·
        have kc_1 : x4.toInt ≤ x5.toInt := i_le c_1
        exact W.vret hx hb hr (fun tt ht hW => ⟨⟨⟨c20_v6, c20_a20⟩, rfl, ⟨(show 0 ≤ c20_v6.toInt by first | omega | assumption), (show c20_v6.toInt ≤ 24 by first | omega | assumption), jv6_2⟩, by rw [ht]; exact hP, hD⟩, hS.F ht⟩) hS.2.2 dX2_read_74
      ·
        have kc_1 : x5.toInt < x4.toInt := i_nle c_1
        refine lv_aload_n hx hb dX2_read_27 rfl (lv_at hl 1 rfl) ?_
        refine lv_iload_n hx hb dX2_read_28 rfl (lv_at hl 2 rfl) ?_
        refine lv_iload hx hb dX2_read_29 (lv_at hl 5 rfl) ?_
        refine cV_rol (As := [.int p2, .int x5]) (rest := []) ⟨hx, hb, hml, hown, hg⟩ (k_X10_get l D cs A ad fa fq rv (va_up v 6 c20_v6) (va_up a 20 c20_a20) w fv fp  p2 x5 (show 0 ≤ p2.toInt by first | omega | decide) (show p2.toInt < 6 by first | omega | decide) (show 0 ≤ x5.toInt by first | omega | decide) (show x5.toInt < 60 by first | omega | decide)) ca_X10_get q3_163 ⟨rfl, rfl⟩ ⟨Nat.le_of_ble_eq_true rfl, Nat.le_of_ble_eq_true rfl⟩ (rc_shelves hK hP) hK hP hD hS hZ rfl hl.1 rfl (Nat.le_of_ble_eq_true rfl) ⟨Nat.zero_le _, Nat.zero_le _⟩ dX2_read_31 (fun r_2 wr_2 => ?_)
        have wr_2_0 : r_2 = ((w p2.toNatClampNeg) x5.toNatClampNeg) := wr_2
        refine lv_l2i hx hb dX2_read_34 rfl ?_
        refine lv_topi (fun x_3 ex_3 => ?_)
        refine lv_istore (lv' := [(6, .int x_3), (0, .ref (ad 3)), (1, .ref (ad 8)), (2, .int p2), (3, .int p3), (4, .int x4), (5, .int x5)]) hx hb dX2_read_35 hl (by decide) rfl (fun ls hl => ?_)
        refine lv_iload hx hb dX2_read_37 (lv_at hl 0 rfl) ?_
        refine lv_if_lt (tgt := 50) hx hb dX2_read_39 (by decide) (fun c_4 => ?_) (fun c_4 => ?_)
        ·
          have kc_4 : x_3.toInt < (0 : Int) := i_lt c_4
          exact W.vret hx hb hr (fun tt ht hW => ⟨⟨⟨c20_v6, c20_a20⟩, rfl, ⟨(show 0 ≤ c20_v6.toInt by first | omega | assumption), (show c20_v6.toInt ≤ 24 by first | omega | assumption), jv6_2⟩, by rw [ht]; exact hP, hD⟩, hS.F ht⟩) hS.2.2 dX2_read_50
        ·
          have kc_4 : (0 : Int) ≤ x_3.toInt := i_nlt c_4
          refine lv_iload hx hb dX2_read_42 (lv_at hl 0 rfl) ?_
          refine lv_iconst (v := 2) hx hb dX2_read_44 (by decide) ?_
          refine lv_idiv hx hb dX2_read_45 (by decide) ?_
          refine lv_topi (fun x_5 ex_5 => ?_)
          have fx_5 : x_5.toInt = x_3.toInt / (2 : Int) := by rw [ex_5]; exact i_div (by omega) (by first | omega | decide)
          refine lv_iload_n hx hb dX2_read_46 rfl (lv_at hl 4 rfl) ?_
          refine lv_icmp_lt (tgt := 51) hx hb dX2_read_47 (by decide) (fun c_6 => ?_) (fun c_6 => ?_)
          ·
            have kc_6 : x_5.toInt < p3.toInt := i_lt c_6
            refine lv_aload_n hx hb dX2_read_51 rfl (lv_at hl 1 rfl) ?_
            refine gf_today_saying hx hb hg hown hK hP rfl (hg _ q1_204) dX2_read_52 ?_
            refine lv_iload hx hb dX2_read_55 (lv_at hl 6 rfl) ?_
            refine lv_iload hx hb dX2_read_57 (lv_at hl 0 rfl) ?_
            refine st_Dsaying hx hb hK hP hD hS (i_in (by omega) (by omega)) dX2_read_59 (fun H locs hP hD hS => ?_)
            refine lv_aload_n hx hb dX2_read_60 rfl (lv_at hl 1 rfl) ?_
            refine lv_iload hx hb dX2_read_61 (lv_at hl 6 rfl) ?_
            refine lv_iconst (v := 1) hx hb dX2_read_63 (by decide) ?_
            refine lv_iadd hx hb dX2_read_64 ?_
            refine lv_topi (fun x_7 ex_7 => ?_)
            have fx_7 : x_7.toInt = x5.toInt + (1 : Int) := by rw [ex_7]; exact i_add (by first | omega | (show (_ : Int) ≤ x5.toInt + (1 : Int); omega)) (by first | omega | (show x5.toInt + (1 : Int) ≤ (_ : Int); omega))
            refine pf_today_size hx hb hg hown hK hP hD hS (hg _ q1_205) dX2_read_65 (fun H locs hP hD hS => ?_)
            have hdk_8 : DOK x_7 (upd c20_a20 x5.toNatClampNeg x_3) (v 1) := DOK_add jv6_2 (by omega) (by omega) (by omega) (by omega) (by omega)
            obtain ⟨x_9, ex_9⟩ : ∃ y : Int32, y = x5 + 1 := ⟨_, rfl⟩
            have fx_9 : x_9.toInt = x5.toInt + 1 := by rw [ex_9]; exact i_add (by first | omega | (show (_ : Int) ≤ x5.toInt + 1; omega)) (by first | omega | (show x5.toInt + 1 ≤ (_ : Int); omega))
            refine lv_iinc (v := x_9) (lv' := [(5, .int x_9), (6, .int x_3), (0, .ref (ad 3)), (1, .ref (ad 8)), (2, .int p2), (3, .int p3), (4, .int x4)]) hx hb dX2_read_68 hl (k := 6) rfl (by rw [ex_9]; rfl) (by decide) rfl (fun ls hl => ?_)
            refine lv_goto (tgt := 20) hx hb dX2_read_71 (by decide) ?_
            exact ih x4 x_9 x_7 (upd c20_a20 x5.toNatClampNeg x_3) _ _ (by omega) (by omega) (by omega) (by omega) (show 0 ≤ x_7.toInt by first | omega | assumption) (show x_7.toInt ≤ 24 by first | omega | assumption) hdk_8 (by omega) hP hD hS ls (lv_sub hl [2, 3, 4, 5, 6, 0] rfl)
          ·
            have kc_6 : p3.toInt ≤ x_5.toInt := i_nlt c_6
            exact W.vret hx hb hr (fun tt ht hW => ⟨⟨⟨c20_v6, c20_a20⟩, rfl, ⟨(show 0 ≤ c20_v6.toInt by first | omega | assumption), (show c20_v6.toInt ≤ 24 by first | omega | assumption), jv6_2⟩, by rw [ht]; exact hP, hD⟩, hS.F ht⟩) hS.2.2 dX2_read_50
  refine lv_aload_n hx hb dX2_read_0 rfl (lv_at hl 0 rfl) ?_
  refine lv_iconst (v := 0) hx hb dX2_read_1 (by decide) ?_
  refine pf_today_size hx hb hg hown hK hP hD hS (hg _ q1_205) dX2_read_2 (fun H locs hP hD hS => ?_)
  have hdk0 : DOK (0 : Int32) (a 20) (v 1) := DOK_0 rfl
  refine lv_bipush (v := 24) hx hb dX2_read_5 (by decide) ?_
  refine lv_aload_n hx hb dX2_read_7 rfl (lv_at hl 1 rfl) ?_
  refine lv_iload_n hx hb dX2_read_8 rfl (lv_at hl 2 rfl) ?_
  refine cV_ro (As := [.int p2]) (rest := [.int 24]) ⟨hx, hb, hml, hown, hg⟩ (k_X10_sizeOf l D cs A ad fa fq rv (va_up v 6 0) a w fv fp  p2 (show 0 ≤ p2.toInt by first | omega | decide) (show p2.toInt < 6 by first | omega | decide) ia28_0 ia29_0) ca_X10_sizeOf q3_161 ⟨rfl, rfl⟩ ⟨Nat.le_of_ble_eq_true rfl, Nat.le_of_ble_eq_true rfl⟩ (rc_shelves hK hP) hK hP hD hS hZ rfl hl.1 rfl (Nat.le_of_ble_eq_true rfl) ⟨Nat.zero_le _, Nat.zero_le _⟩ dX2_read_9 (fun r_10 wr_10 => ?_)
  obtain ⟨wr_10_0, wr_10_1, wr_10_2⟩ : (((((a 28) p2.toNatClampNeg).toInt ≠ -1 ∧ ((a 28) p2.toNatClampNeg).toInt ≠ 5) ∧ r_10.toInt = ((a 29) p2.toNatClampNeg).toInt) ∨ (¬ (((a 28) p2.toNatClampNeg).toInt ≠ -1 ∧ ((a 28) p2.toNatClampNeg).toInt ≠ 5) ∧ r_10.toInt = 0)) ∧ (-1 ≤ r_10.toInt) ∧ (r_10.toInt ≤ 60) := wr_10
  refine va_mmin hx hb (hml.trans hl.1.symm) hown (hg _ q3_162) (hg _ q3_61) (hg _ q1_16) (hg _ q3_62) (Nat.le_of_ble_eq_true rfl) (Nat.le_of_ble_eq_true rfl) (Nat.zero_le _) (Nat.zero_le _) dX2_read_12 ?_
  refine lv_topi (fun x_11 ex_11 => ?_)
  have fx_11 := i_min ex_11
  have fx_11 : (r_10.toInt ≤ (24 : Int) ∧ x_11.toInt = r_10.toInt) ∨ ((24 : Int) ≤ r_10.toInt ∧ x_11.toInt = (24 : Int)) := fx_11
  refine lv_istore (lv' := [(4, .int x_11), (0, .ref (ad 3)), (1, .ref (ad 8)), (2, .int p2), (3, .int p3)]) hx hb dX2_read_15 hl (by decide) rfl (fun ls hl => ?_)
  refine lv_iconst (v := 0) hx hb dX2_read_17 (by decide) ?_
  refine lv_istore (lv' := [(5, .int 0), (4, .int x_11), (0, .ref (ad 3)), (1, .ref (ad 8)), (2, .int p2), (3, .int p3)]) hx hb dX2_read_18 hl (by decide) rfl (fun ls hl => ?_)
  have q0_0 : (0 : Int32).toInt = 0 := rfl
  exact (hcut (((x_11.toInt - (0 : Int32).toInt).toNat) + 1)) x_11 0 0 (a 20) _ _ (by omega) (by omega) (by omega) (by omega) (show 0 ≤ (0 : Int) by first | omega | assumption) (show (0 : Int) ≤ 24 by first | omega | assumption) hdk0 (Nat.lt_succ_self _) hP hD hS ls (lv_sub hl [2, 3, 4, 5, 1, 0] rfl)
set_option maxHeartbeats 4000000 in
set_option maxRecDepth 100000 in
theorem k_X2_who (l : Launch) (D : va_G) (cs : Nat → ClassId) (A : Nat → Prop) (ad fa fq rv : Nat → Nat) (v : Nat → Int32) (a : Nat → Nat → Int32) (w : Nat → Nat → Int64) (fv fp : Nat → Nat → Int32)  (p1 : Int32) (h1 : 0 ≤ p1.toInt) (h2 : p1.toInt < (v 6).toInt) (iv1_0 : 0 ≤ (v 1).toInt) (iv1_1 : (v 1).toInt ≤ 8) (iv6_0 : 0 ≤ (v 6).toInt) (iv6_1 : (v 6).toInt ≤ 24) (iv6_2 : DOK (v 6) (a 20) (v 1)) : Met l yX2_who (Cond.code yX2_who cX2_who 2 (some .int) :: gw) ({ frames := 0, cells := 0, slots := 0, locals := 0 }) (va_Pc [.ref (ad 3), .int p1] (XPre D (TY cs) (CW cs ad fa fq rv v a w fv fp) A)) (vp_Si (fun (r : Int32) => (0 ≤ r.toInt) ∧ (r.toInt < (v 1).toInt))) 0 0 (fun _ => False) := by
  refine Met.ofW (cc := cX2_who) (maxL := 2) (ret := (some .int)) (by decide) rfl ?_
  intro p e s m args below meth c s₁ B hml hv
  obtain ⟨rfl, hP, hK, hD, hZ⟩ := hv
  have hx := B.exec
  have hb := B.bytes
  have hr := B.returns
  have hts := atoms_spec (ws := (Cond.code yX2_who cX2_who 2 (some .int) :: gw)) B.pre
  have hg : ∀ w ∈ gw, w.before ([.ref (ad 3), .int p1] : List Value).toArray s = true := fun w h => hts w (List.mem_cons_of_mem _ h)
  have hown : s.vm.findClass RX2 = some m.cls := findClass_of_methodNamed B.named
  have hlocks := B.notSynchronized
  have hS : va_S A s.heap s.heap [] := va_S.rf
  have hl := lv_entry ([.ref (ad 3), .int p1]) (n := 2) (Nat.le_of_ble_eq_true rfl)
  rw [lg_entry_eq]
  generalize (lg_sl ([.ref (ad 3), .int p1]) ++ List.replicate (2 - (lg_sl ([.ref (ad 3), .int p1])).length) Slot.unset).toArray = ls at hl ⊢
  have hl : lv_has ls 2 [(0, .ref (ad 3)), (1, .int p1)] := hl
  refine lv_aload_n hx hb dX2_who_0 rfl (lv_at hl 0 rfl) ?_
  refine gf_today_saying hx hb hg hown hK hP rfl (hg _ q1_204) dX2_who_1 ?_
  refine lv_iload_n hx hb dX2_who_4 rfl (lv_at hl 1 rfl) ?_
  refine ld_Dsaying hx hb hK hP (i_in (by omega) (by omega)) dX2_who_5 ?_
  refine lv_topi (fun x_1 ex_1 => ?_)
  have ex_1 : x_1 = (a 20) p1.toNatClampNeg := ex_1
  have hx_1 : x_1.toInt = ((a 20) p1.toNatClampNeg).toInt := by rw [ex_1]
  have bx_1 := iv6_2 p1.toNatClampNeg (by have q : p1.toNatClampNeg = p1.toInt.toNat := rfl; omega)
  rw [← ex_1] at bx_1
  refine lv_iconst (v := 2) hx hb dX2_who_6 (by decide) ?_
  refine lv_idiv hx hb dX2_who_7 (by decide) ?_
  refine lv_topi (fun x_2 ex_2 => ?_)
  have fx_2 : x_2.toInt = x_1.toInt / (2 : Int) := by rw [ex_2]; exact i_div (by omega) (by first | omega | decide)
  exact W.iret (v := x_2) hx hb hr (fun tt ht hW => ⟨x_2, rfl, ⟨(by first | rfl | omega | trivial | assumption | (dsimp only; first | omega | assumption)), (by first | rfl | omega | trivial | assumption | (dsimp only; first | omega | assumption))⟩, ht⟩) (fun _ h => by cases h) dX2_who_8
set_option maxHeartbeats 4000000 in
set_option maxRecDepth 100000 in
theorem k_X2_isLie (l : Launch) (D : va_G) (cs : Nat → ClassId) (A : Nat → Prop) (ad fa fq rv : Nat → Nat) (v : Nat → Int32) (a : Nat → Nat → Int32) (w : Nat → Nat → Int64) (fv fp : Nat → Nat → Int32)  (p1 : Int32) (h1 : 0 ≤ p1.toInt) (h2 : p1.toInt < (v 6).toInt) (iv1_0 : 0 ≤ (v 1).toInt) (iv1_1 : (v 1).toInt ≤ 8) (iv6_0 : 0 ≤ (v 6).toInt) (iv6_1 : (v 6).toInt ≤ 24) (iv6_2 : DOK (v 6) (a 20) (v 1)) : Met l yX2_isLie (Cond.code yX2_isLie cX2_isLie 2 (some .boolean) :: gw) ({ frames := 0, cells := 0, slots := 0, locals := 0 }) (va_Pc [.ref (ad 3), .int p1] (XPre D (TY cs) (CW cs ad fa fq rv v a w fv fp) A)) (vp_Si (fun (r : Int32) => (0 ≤ r.toInt) ∧ (r.toInt ≤ 1))) 0 0 (fun _ => False) := by
  refine Met.ofW (cc := cX2_isLie) (maxL := 2) (ret := (some .boolean)) (by decide) rfl ?_
  intro p e s m args below meth c s₁ B hml hv
  obtain ⟨rfl, hP, hK, hD, hZ⟩ := hv
  have hx := B.exec
  have hb := B.bytes
  have hr := B.returns
  have hts := atoms_spec (ws := (Cond.code yX2_isLie cX2_isLie 2 (some .boolean) :: gw)) B.pre
  have hg : ∀ w ∈ gw, w.before ([.ref (ad 3), .int p1] : List Value).toArray s = true := fun w h => hts w (List.mem_cons_of_mem _ h)
  have hown : s.vm.findClass RX2 = some m.cls := findClass_of_methodNamed B.named
  have hlocks := B.notSynchronized
  have hS : va_S A s.heap s.heap [] := va_S.rf
  have hl := lv_entry ([.ref (ad 3), .int p1]) (n := 2) (Nat.le_of_ble_eq_true rfl)
  rw [lg_entry_eq]
  generalize (lg_sl ([.ref (ad 3), .int p1]) ++ List.replicate (2 - (lg_sl ([.ref (ad 3), .int p1])).length) Slot.unset).toArray = ls at hl ⊢
  have hl : lv_has ls 2 [(0, .ref (ad 3)), (1, .int p1)] := hl
  refine lv_aload_n hx hb dX2_isLie_0 rfl (lv_at hl 0 rfl) ?_
  refine gf_today_saying hx hb hg hown hK hP rfl (hg _ q1_204) dX2_isLie_1 ?_
  refine lv_iload_n hx hb dX2_isLie_4 rfl (lv_at hl 1 rfl) ?_
  refine ld_Dsaying hx hb hK hP (i_in (by omega) (by omega)) dX2_isLie_5 ?_
  refine lv_topi (fun x_1 ex_1 => ?_)
  have ex_1 : x_1 = (a 20) p1.toNatClampNeg := ex_1
  have hx_1 : x_1.toInt = ((a 20) p1.toNatClampNeg).toInt := by rw [ex_1]
  have bx_1 := iv6_2 p1.toNatClampNeg (by have q : p1.toNatClampNeg = p1.toInt.toNat := rfl; omega)
  rw [← ex_1] at bx_1
  refine lv_iconst (v := 2) hx hb dX2_isLie_6 (by decide) ?_
  refine lv_irem hx hb dX2_isLie_7 (by decide) ?_
  refine lv_topi (fun x_2 ex_2 => ?_)
  have fx_2 : x_2.toInt = x_1.toInt % (2 : Int) := by rw [ex_2]; exact i_rem (by omega) (by first | omega | decide)
  refine lv_iconst (v := 1) hx hb dX2_isLie_8 (by decide) ?_
  refine lv_icmp_ne (tgt := 16) hx hb dX2_isLie_9 (by decide) (fun c_3 => ?_) (fun c_3 => ?_)
  ·
    have kc_3 : x_2.toInt ≠ (1 : Int) := i_ne c_3
    refine lv_iconst (v := 0) hx hb dX2_isLie_16 (by decide) ?_
    have q0_0 : (0 : Int32).toInt = 0 := rfl
    exact W.zret (v := 0) hx hb hr rfl (fun tt ht hW => ⟨0, rfl, ⟨(by first | rfl | omega | trivial | assumption | (dsimp only; first | omega | assumption)), (by first | rfl | omega | trivial | assumption | (dsimp only; first | omega | assumption))⟩, ht⟩) (fun _ h => by cases h) dX2_isLie_17
  ·
    have kc_3 : x_2.toInt = (1 : Int) := i_eq c_3
    refine lv_iconst (v := 1) hx hb dX2_isLie_12 (by decide) ?_
    refine lv_goto (tgt := 17) hx hb dX2_isLie_13 (by decide) ?_
    have q0_1 : (1 : Int32).toInt = 1 := rfl
    exact W.zret (v := 1) hx hb hr rfl (fun tt ht hW => ⟨1, rfl, ⟨(by first | rfl | omega | trivial | assumption | (dsimp only; first | omega | assumption)), (by first | rfl | omega | trivial | assumption | (dsimp only; first | omega | assumption))⟩, ht⟩) (fun _ h => by cases h) dX2_isLie_17
