set_option maxHeartbeats 8000000 in
set_option maxRecDepth 100000 in
theorem lc_person {p : Program} {e : Env} {s : State} {m : MethodId} {below : List Frame} {meth : Method} {c : Code} (l : Launch) {b L : Nat} {xs : Nat → Int32} (C0 : lw_At p s m meth c b L xs) (hL : L ≤ 3072) {D : va_G} {cs : Nat → ClassId} {fa fq : Nat → Nat} (hK : va_K D vwCl (TY cs) s) (hZ : ZS (fun q : Nat => s.heap.size ≤ q) s) {x0 y0 : Nat} {i : Int32} (hi0 : 0 ≤ i.toInt) (hiL : i.toInt + 6 ≤ (L : Int)) (ad rv : Nat → Nat) (v : Nat → Int32) (a : Nat → Nat → Int32) (w : Nat → Nat → Int64) (fv fp : Nat → Nat → Int32) (bd : Nat → Nat) (u : Nat → Int32) (b_ : Nat → Nat → Int32) (bw : Nat → Nat → Int64) (H : Heap) (locs : List Loc) (ls : Array Slot) (hl : lv_has ls 4 [(0, .ref b), (1, .ref x0), (2, .ref y0), (3, .int i)]) (hx0 : ad 0 = x0) (hy0 : bd 0 = y0) (hI : CI v a fv) (hR : RI u b_ bw) (hE : REL v a w fv u b_ bw) (hP : va_P D vwCl (CW cs ad fa fq rv v a w fv fp ++ RW cs bd u b_ bw) H) (hD : va_D (fun q : Nat => s.heap.size ≤ q) (CW cs ad fa fq rv v a w fv fp ++ RW cs bd u b_ bw)) (hS : va_S (fun q : Nat => s.heap.size ≤ q) s.heap H locs)
    (kk : ∀ (ad rv : Nat → Nat) (v : Nat → Int32) (a : Nat → Nat → Int32) (w : Nat → Nat → Int64) (fv fp : Nat → Nat → Int32) (bd : Nat → Nat) (u : Nat → Int32) (b_ : Nat → Nat → Int32) (bw : Nat → Nat → Int64) (H : Heap) (locs : List Loc) (ls : Array Slot) (hx0 : ad 0 = x0) (hy0 : bd 0 = y0) (hI : CI v a fv) (hR : RI u b_ bw) (hE : REL v a w fv u b_ bw) (hP : va_P D vwCl (CW cs ad fa fq rv v a w fv fp ++ RW cs bd u b_ bw) H) (hD : va_D (fun q : Nat => s.heap.size ≤ q) (CW cs ad fa fq rv v a w fv fp ++ RW cs bd u b_ bw)) (hS : va_S (fun q : Nat => s.heap.size ≤ q) s.heap H locs) (hl : lv_has ls 4 [(0, .ref b), (1, .ref x0), (2, .ref y0), (3, .int i)]), W p l e room_1 s m #[Value.ref b] below meth c H locs 200 9000 (lw_Z below #[Value.ref b] s) (F0 m 1387 ls [])) : W p l e room_1 s m #[Value.ref b] below meth c H locs 200 9000 (lw_Z below #[Value.ref b] s) (F0 m 196 ls []) := by
  obtain ⟨hx, hb, hr, hml, hown, hts, hX, hbl, hlocks, hgv⟩ := id C0
  have hg : ∀ w ∈ gw, w.before #[Value.ref b] s = true := fun w h => hts w (gw_in w h)
  have hbA : ¬ (fun q : Nat => s.heap.size ≤ q) b := Nat.not_le.mpr hbl
  subst hx0
  subst hy0
  obtain ⟨iv1_0, iv1_1, ia28_0, ia29_0, iv20_0, iv20_1, iv19_0, iv19_1, iv19_2, ia24_0, ia25_0, ifv14_0, iv4_0, iv4_1, ia18_0, iv24_0, iv24_1, iv25_0, iv25_1, iv25_2, iv26_0, iv26_1, ia19_0, iv5_0, iv5_1, iv6_0, iv6_1, iv6_2, iv11_0, iv11_1, iv14_0, iv14_1, iv0_0, iv0_1, iv0_2, ifv17_0, iv21_0, iv21_1, ia37_0, iv23_0, iv23_1, iv22_0, iv22_1⟩ := id hI
  obtain ⟨iu1_0, iu1_1, ib67_0, ib66_0, iu8_0, iu8_1, ib10_0, ib11_0, iu9_0, iu9_1, iu9_2, iu15_0, iu15_1, hlaw, ib23_0, ib20_0, ib24_0, iu7_0, iu7_1, iu41_0, iu41_1, iu48_0, iu48_1, iu46_0, iu46_1, iu47_0, iu47_1, iu55_0, iu55_1, iu55_2, iu58_0, iu62_0, iu62_1, ib63_0, iu64_0, iu64_1⟩ := id hR
  obtain ⟨e1, e4, e21, e22, es14, es17, eim, ek, et, esh⟩ := id hE
  obtain ⟨s1, hs1⟩ : ∃ y, xs (i + 1).toNatClampNeg = y := ⟨_, rfl⟩
  obtain ⟨s2, hs2⟩ : ∃ y, xs (i + 2).toNatClampNeg = y := ⟨_, rfl⟩
  obtain ⟨s3, hs3⟩ : ∃ y, xs (i + 3).toNatClampNeg = y := ⟨_, rfl⟩
  obtain ⟨s4, hs4⟩ : ∃ y, xs (i + 4).toNatClampNeg = y := ⟨_, rfl⟩
  obtain ⟨s5, hs5⟩ : ∃ y, xs (i + 5).toNatClampNeg = y := ⟨_, rfl⟩
  have hq1 : (i + 1).toInt = i.toInt + 1 := i_add (by show _ ≤ i.toInt + (1 : Int32).toInt; have q : (1 : Int32).toInt = 1 := rfl; omega) (by show i.toInt + (1 : Int32).toInt ≤ _; have q : (1 : Int32).toInt = 1 := rfl; omega)
  have hq2 : (i + 2).toInt = i.toInt + 2 := i_add (by show _ ≤ i.toInt + (2 : Int32).toInt; have q : (2 : Int32).toInt = 2 := rfl; omega) (by show i.toInt + (2 : Int32).toInt ≤ _; have q : (2 : Int32).toInt = 2 := rfl; omega)
  have hq3 : (i + 3).toInt = i.toInt + 3 := i_add (by show _ ≤ i.toInt + (3 : Int32).toInt; have q : (3 : Int32).toInt = 3 := rfl; omega) (by show i.toInt + (3 : Int32).toInt ≤ _; have q : (3 : Int32).toInt = 3 := rfl; omega)
  have hq4 : (i + 4).toInt = i.toInt + 4 := i_add (by show _ ≤ i.toInt + (4 : Int32).toInt; have q : (4 : Int32).toInt = 4 := rfl; omega) (by show i.toInt + (4 : Int32).toInt ≤ _; have q : (4 : Int32).toInt = 4 := rfl; omega)
  have hq5 : (i + 5).toInt = i.toInt + 5 := i_add (by show _ ≤ i.toInt + (5 : Int32).toInt; have q : (5 : Int32).toInt = 5 := rfl; omega) (by show i.toInt + (5 : Int32).toInt ≤ _; have q : (5 : Int32).toInt = 5 := rfl; omega)
  refine lv_aload_n hx hb dL_law_196 rfl (lv_at hl 1 rfl) ?_
  refine lv_aload_n hx hb dL_law_197 rfl (lv_at hl 0 rfl) ?_
  refine lv_iload_n hx hb dL_law_198 rfl (lv_at hl 3 rfl) ?_
  refine lv_iconst (v := 1) hx hb dL_law_199 (by decide) ?_
  refine lv_iadd hx hb dL_law_200 ?_
  refine va_sld hx hb hX hbl hbA hS (i_in (by omega) (by omega)) dL_law_201 ?_
  rw [hs1]
  refine cL_i (As := [.int s1]) (rest := []) ⟨hx, hb, hml, hown, hg⟩ (k_X11_person l D cs _ ad fa fq rv v a w fv fp s1 iv1_0 iv1_1) ca_X11_person q2_169 ⟨rfl, rfl⟩ ⟨Nat.le_of_ble_eq_true rfl, Nat.le_of_ble_eq_true rfl⟩ (rc_main hK (pw_l hP)) hK hP hD hS hZ rfl hl.1 rfl (Nat.le_of_ble_eq_true rfl) ⟨Nat.le_of_ble_eq_true rfl, Nat.le_of_ble_eq_true rfl⟩ dL_law_202 (fun r_1 z_8 H locs wr_1 hP hD hS => ?_)
  obtain ⟨o_v1_2, o_a11_3, o_a12_4, o_a13_5, o_a14_6, o_fp14_7⟩ := z_8
  have hP : va_P D vwCl (CW cs ad fa fq rv (va_up v 1 o_v1_2) (va_up (va_up (va_up (va_up a 11 o_a11_3) 12 o_a12_4) 13 o_a13_5) 14 o_a14_6) w fv (va_up fp 14 o_fp14_7) ++ RW cs bd u b_ bw) H := hP
  have hD : va_D (fun q : Nat => s.heap.size ≤ q) (CW cs ad fa fq rv (va_up v 1 o_v1_2) (va_up (va_up (va_up (va_up a 11 o_a11_3) 12 o_a12_4) 13 o_a13_5) 14 o_a14_6) w fv (va_up fp 14 o_fp14_7) ++ RW cs bd u b_ bw) := hD
  obtain ⟨wr_1_0, wr_1_1, wr_1_2⟩ : ((((0 ≤ s1.toInt ∧ s1.toInt < 256) ∧ (v 1).toInt < 8) ∧ r_1.toInt = (v 1).toInt ∧ o_v1_2.toInt = (v 1).toInt + 1) ∨ ((0 ≤ s1.toInt ∧ s1.toInt < 256) ∧ (v 1).toInt = 8 ∧ r_1.toInt = -3 ∧ o_v1_2.toInt = (v 1).toInt) ∨ (¬ (0 ≤ s1.toInt ∧ s1.toInt < 256) ∧ r_1.toInt = -1 ∧ o_v1_2.toInt = (v 1).toInt)) ∧ (0 ≤ o_v1_2.toInt) ∧ (o_v1_2.toInt ≤ 8) := wr_1
  refine lv_pop hx hb dL_law_205 rfl ?_
  refine lv_aload_n hx hb dL_law_206 rfl (lv_at hl 2 rfl) ?_
  refine lv_aload_n hx hb dL_law_207 rfl (lv_at hl 0 rfl) ?_
  refine lv_iload_n hx hb dL_law_208 rfl (lv_at hl 3 rfl) ?_
  refine lv_iconst (v := 1) hx hb dL_law_209 (by decide) ?_
  refine lv_iadd hx hb dL_law_210 ?_
  refine va_sld hx hb hX hbl hbA hS (i_in (by omega) (by omega)) dL_law_211 ?_
  rw [hs1]
  refine cR_i (As := [.int s1]) (rest := []) ⟨hx, hb, hml, hown, hg⟩ (k_X12_person l D cs _ bd u b_ bw s1 iu1_0 iu1_1) ca_X12_person q5_205 ⟨rfl, rfl⟩ ⟨Nat.le_of_ble_eq_true rfl, Nat.le_of_ble_eq_true rfl⟩ (rc_model hK (pw_r hP)) hK hP hD hS hZ rfl hl.1 rfl (Nat.le_of_ble_eq_true rfl) ⟨Nat.le_of_ble_eq_true rfl, Nat.le_of_ble_eq_true rfl⟩ dL_law_212 (fun r_9 z_15 H locs wr_9 hP hD hS => ?_)
  obtain ⟨o_u1_10, o_b2_11, o_b3_12, o_b4_13, o_b5_14⟩ := z_15
  have hP : va_P D vwCl (CW cs ad fa fq rv (va_up v 1 o_v1_2) (va_up (va_up (va_up (va_up a 11 o_a11_3) 12 o_a12_4) 13 o_a13_5) 14 o_a14_6) w fv (va_up fp 14 o_fp14_7) ++ RW cs bd (va_up u 1 o_u1_10) (va_up (va_up (va_up (va_up b_ 2 o_b2_11) 3 o_b3_12) 4 o_b4_13) 5 o_b5_14) bw) H := hP
  have hD : va_D (fun q : Nat => s.heap.size ≤ q) (CW cs ad fa fq rv (va_up v 1 o_v1_2) (va_up (va_up (va_up (va_up a 11 o_a11_3) 12 o_a12_4) 13 o_a13_5) 14 o_a14_6) w fv (va_up fp 14 o_fp14_7) ++ RW cs bd (va_up u 1 o_u1_10) (va_up (va_up (va_up (va_up b_ 2 o_b2_11) 3 o_b3_12) 4 o_b4_13) 5 o_b5_14) bw) := hD
  obtain ⟨wr_9_0, wr_9_1, wr_9_2⟩ : ((((0 ≤ s1.toInt ∧ s1.toInt < 256) ∧ (u 1).toInt < 8) ∧ r_9.toInt = (u 1).toInt ∧ o_u1_10.toInt = (u 1).toInt + 1) ∨ ((0 ≤ s1.toInt ∧ s1.toInt < 256) ∧ (u 1).toInt = 8 ∧ r_9.toInt = -3 ∧ o_u1_10.toInt = (u 1).toInt) ∨ (¬ (0 ≤ s1.toInt ∧ s1.toInt < 256) ∧ r_9.toInt = -1 ∧ o_u1_10.toInt = (u 1).toInt)) ∧ (0 ≤ o_u1_10.toInt) ∧ (o_u1_10.toInt ≤ 8) := wr_9
  refine lv_pop hx hb dL_law_215 rfl ?_
  refine lv_goto (tgt := 1387) hx hb dL_law_216 (by decide) ?_
  have hI1 : CI (va_up v 1 o_v1_2) (va_up (va_up (va_up (va_up a 11 o_a11_3) 12 o_a12_4) 13 o_a13_5) 14 o_a14_6) fv := ⟨(show 0 ≤ o_v1_2.toInt by first | assumption | omega), (show o_v1_2.toInt ≤ 8 by first | assumption | omega), ia28_0, ia29_0, iv20_0, iv20_1, iv19_0, iv19_1, iv19_2, ia24_0, ia25_0, (show (fv 14 2).toInt = -2 ∨ (0 ≤ (fv 14 2).toInt ∧ (fv 14 2).toInt < o_v1_2.toInt) by first | assumption | omega), iv4_0, iv4_1, ia18_0, iv24_0, iv24_1, iv25_0, iv25_1, iv25_2, iv26_0, iv26_1, ia19_0, iv5_0, iv5_1, iv6_0, iv6_1, (DOK_mono iv6_2 (show _ ≤ o_v1_2.toInt by omega)), iv11_0, iv11_1, iv14_0, iv14_1, iv0_0, iv0_1, (show (v 0).toInt ≤ o_v1_2.toInt by first | assumption | omega), (show (fv 17 2).toInt = -2 ∨ (0 ≤ (fv 17 2).toInt ∧ (fv 17 2).toInt < o_v1_2.toInt) by first | assumption | omega), iv21_0, iv21_1, ia37_0, iv23_0, iv23_1, iv22_0, iv22_1⟩
  have hR1 : RI (va_up u 1 o_u1_10) (va_up (va_up (va_up (va_up b_ 2 o_b2_11) 3 o_b3_12) 4 o_b4_13) 5 o_b5_14) bw := ⟨(show 0 ≤ o_u1_10.toInt by first | assumption | omega), (show o_u1_10.toInt ≤ 8 by first | assumption | omega), ib67_0, ib66_0, iu8_0, iu8_1, ib10_0, ib11_0, iu9_0, iu9_1, iu9_2, iu15_0, iu15_1, hlaw, ib23_0, ib20_0, ib24_0, iu7_0, (show (u 7).toInt < o_u1_10.toInt by first | assumption | omega), iu41_0, iu41_1, iu48_0, iu48_1, iu46_0, iu46_1, iu47_0, iu47_1, iu55_0, iu55_1, (show (u 55).toInt ≤ o_u1_10.toInt by first | assumption | omega), (show (u 54).toInt = 0 ∨ (-1 ≤ (u 58).toInt ∧ (u 58).toInt < o_u1_10.toInt) by first | assumption | omega), iu62_0, iu62_1, ib63_0, iu64_0, iu64_1⟩
  have hE1 : REL (va_up v 1 o_v1_2) (va_up (va_up (va_up (va_up a 11 o_a11_3) 12 o_a12_4) 13 o_a13_5) 14 o_a14_6) w fv (va_up u 1 o_u1_10) (va_up (va_up (va_up (va_up b_ 2 o_b2_11) 3 o_b3_12) 4 o_b4_13) 5 o_b5_14) bw := ⟨(show (o_v1_2).toInt = (o_u1_10).toInt by first | (omega) | first | omega | assumption | exact e1), (show (v 4).toInt = (u 15).toInt by first | omega | assumption | exact e4), (show (v 21).toInt = (u 62).toInt by first | omega | assumption | exact e21), (show (v 22).toInt = (u 64).toInt by first | omega | assumption | exact e22), (show (fv 14 3) = (b_ 53) 0 by first | omega | assumption | exact es14), (show (fv 17 3) = (b_ 61) 0 by first | omega | assumption | exact es17), (show ((v 0).toInt < 0 ∧ (u 54).toInt = 0) ∨ (0 ≤ (v 0).toInt ∧ (u 54).toInt ≠ 0) by first | omega | assumption | exact eim), (show ∀ j, (a 37) j = (b_ 63) j by first | omega | assumption | exact ek), (show ∀ j, (a 38) j = (b_ 65) j by first | omega | assumption | exact et), (show SH (a 28) (a 29) w (b_ 66) (b_ 67) (bw 68) (v 21) by first | omega | assumption | exact esh)⟩
  exact kk ad rv (va_up v 1 o_v1_2) (va_up (va_up (va_up (va_up a 11 o_a11_3) 12 o_a12_4) 13 o_a13_5) 14 o_a14_6) w fv (va_up fp 14 o_fp14_7) bd (va_up u 1 o_u1_10) (va_up (va_up (va_up (va_up b_ 2 o_b2_11) 3 o_b3_12) 4 o_b4_13) 5 o_b5_14) bw _ _ ls rfl rfl hI1 hR1 hE1 hP hD hS hl
set_option maxHeartbeats 8000000 in
set_option maxRecDepth 100000 in
theorem lc_people {p : Program} {e : Env} {s : State} {m : MethodId} {below : List Frame} {meth : Method} {c : Code} (l : Launch) {b L : Nat} {xs : Nat → Int32} (C0 : lw_At p s m meth c b L xs) (hL : L ≤ 3072) {D : va_G} {cs : Nat → ClassId} {fa fq : Nat → Nat} (hK : va_K D vwCl (TY cs) s) (hZ : ZS (fun q : Nat => s.heap.size ≤ q) s) {x0 y0 : Nat} {i : Int32} (hi0 : 0 ≤ i.toInt) (hiL : i.toInt + 6 ≤ (L : Int)) (ad rv : Nat → Nat) (v : Nat → Int32) (a : Nat → Nat → Int32) (w : Nat → Nat → Int64) (fv fp : Nat → Nat → Int32) (bd : Nat → Nat) (u : Nat → Int32) (b_ : Nat → Nat → Int32) (bw : Nat → Nat → Int64) (H : Heap) (locs : List Loc) (ls : Array Slot) (hl : lv_has ls 4 [(0, .ref b), (1, .ref x0), (2, .ref y0), (3, .int i)]) (hx0 : ad 0 = x0) (hy0 : bd 0 = y0) (hI : CI v a fv) (hR : RI u b_ bw) (hE : REL v a w fv u b_ bw) (hP : va_P D vwCl (CW cs ad fa fq rv v a w fv fp ++ RW cs bd u b_ bw) H) (hD : va_D (fun q : Nat => s.heap.size ≤ q) (CW cs ad fa fq rv v a w fv fp ++ RW cs bd u b_ bw)) (hS : va_S (fun q : Nat => s.heap.size ≤ q) s.heap H locs)
    (kk : ∀ (ad rv : Nat → Nat) (v : Nat → Int32) (a : Nat → Nat → Int32) (w : Nat → Nat → Int64) (fv fp : Nat → Nat → Int32) (bd : Nat → Nat) (u : Nat → Int32) (b_ : Nat → Nat → Int32) (bw : Nat → Nat → Int64) (H : Heap) (locs : List Loc) (ls : Array Slot) (hx0 : ad 0 = x0) (hy0 : bd 0 = y0) (hI : CI v a fv) (hR : RI u b_ bw) (hE : REL v a w fv u b_ bw) (hP : va_P D vwCl (CW cs ad fa fq rv v a w fv fp ++ RW cs bd u b_ bw) H) (hD : va_D (fun q : Nat => s.heap.size ≤ q) (CW cs ad fa fq rv v a w fv fp ++ RW cs bd u b_ bw)) (hS : va_S (fun q : Nat => s.heap.size ≤ q) s.heap H locs) (hl : lv_has ls 4 [(0, .ref b), (1, .ref x0), (2, .ref y0), (3, .int i)]), W p l e room_1 s m #[Value.ref b] below meth c H locs 200 9000 (lw_Z below #[Value.ref b] s) (F0 m 1387 ls [])) : W p l e room_1 s m #[Value.ref b] below meth c H locs 200 9000 (lw_Z below #[Value.ref b] s) (F0 m 219 ls []) := by
  obtain ⟨hx, hb, hr, hml, hown, hts, hX, hbl, hlocks, hgv⟩ := id C0
  have hg : ∀ w ∈ gw, w.before #[Value.ref b] s = true := fun w h => hts w (gw_in w h)
  have hbA : ¬ (fun q : Nat => s.heap.size ≤ q) b := Nat.not_le.mpr hbl
  subst hx0
  subst hy0
  obtain ⟨iv1_0, iv1_1, ia28_0, ia29_0, iv20_0, iv20_1, iv19_0, iv19_1, iv19_2, ia24_0, ia25_0, ifv14_0, iv4_0, iv4_1, ia18_0, iv24_0, iv24_1, iv25_0, iv25_1, iv25_2, iv26_0, iv26_1, ia19_0, iv5_0, iv5_1, iv6_0, iv6_1, iv6_2, iv11_0, iv11_1, iv14_0, iv14_1, iv0_0, iv0_1, iv0_2, ifv17_0, iv21_0, iv21_1, ia37_0, iv23_0, iv23_1, iv22_0, iv22_1⟩ := id hI
  obtain ⟨iu1_0, iu1_1, ib67_0, ib66_0, iu8_0, iu8_1, ib10_0, ib11_0, iu9_0, iu9_1, iu9_2, iu15_0, iu15_1, hlaw, ib23_0, ib20_0, ib24_0, iu7_0, iu7_1, iu41_0, iu41_1, iu48_0, iu48_1, iu46_0, iu46_1, iu47_0, iu47_1, iu55_0, iu55_1, iu55_2, iu58_0, iu62_0, iu62_1, ib63_0, iu64_0, iu64_1⟩ := id hR
  obtain ⟨e1, e4, e21, e22, es14, es17, eim, ek, et, esh⟩ := id hE
  obtain ⟨s1, hs1⟩ : ∃ y, xs (i + 1).toNatClampNeg = y := ⟨_, rfl⟩
  obtain ⟨s2, hs2⟩ : ∃ y, xs (i + 2).toNatClampNeg = y := ⟨_, rfl⟩
  obtain ⟨s3, hs3⟩ : ∃ y, xs (i + 3).toNatClampNeg = y := ⟨_, rfl⟩
  obtain ⟨s4, hs4⟩ : ∃ y, xs (i + 4).toNatClampNeg = y := ⟨_, rfl⟩
  obtain ⟨s5, hs5⟩ : ∃ y, xs (i + 5).toNatClampNeg = y := ⟨_, rfl⟩
  have hq1 : (i + 1).toInt = i.toInt + 1 := i_add (by show _ ≤ i.toInt + (1 : Int32).toInt; have q : (1 : Int32).toInt = 1 := rfl; omega) (by show i.toInt + (1 : Int32).toInt ≤ _; have q : (1 : Int32).toInt = 1 := rfl; omega)
  have hq2 : (i + 2).toInt = i.toInt + 2 := i_add (by show _ ≤ i.toInt + (2 : Int32).toInt; have q : (2 : Int32).toInt = 2 := rfl; omega) (by show i.toInt + (2 : Int32).toInt ≤ _; have q : (2 : Int32).toInt = 2 := rfl; omega)
  have hq3 : (i + 3).toInt = i.toInt + 3 := i_add (by show _ ≤ i.toInt + (3 : Int32).toInt; have q : (3 : Int32).toInt = 3 := rfl; omega) (by show i.toInt + (3 : Int32).toInt ≤ _; have q : (3 : Int32).toInt = 3 := rfl; omega)
  have hq4 : (i + 4).toInt = i.toInt + 4 := i_add (by show _ ≤ i.toInt + (4 : Int32).toInt; have q : (4 : Int32).toInt = 4 := rfl; omega) (by show i.toInt + (4 : Int32).toInt ≤ _; have q : (4 : Int32).toInt = 4 := rfl; omega)
  have hq5 : (i + 5).toInt = i.toInt + 5 := i_add (by show _ ≤ i.toInt + (5 : Int32).toInt; have q : (5 : Int32).toInt = 5 := rfl; omega) (by show i.toInt + (5 : Int32).toInt ≤ _; have q : (5 : Int32).toInt = 5 := rfl; omega)
  refine lv_aload_n hx hb dL_law_219 rfl (lv_at hl 1 rfl) ?_
  refine lv_aload_n hx hb dL_law_220 rfl (lv_at hl 0 rfl) ?_
  refine lv_iload_n hx hb dL_law_221 rfl (lv_at hl 3 rfl) ?_
  refine lv_iconst (v := 1) hx hb dL_law_222 (by decide) ?_
  refine lv_iadd hx hb dL_law_223 ?_
  refine va_sld hx hb hX hbl hbA hS (i_in (by omega) (by omega)) dL_law_224 ?_
  rw [hs1]
  refine lv_aload_n hx hb dL_law_225 rfl (lv_at hl 0 rfl) ?_
  refine lv_iload_n hx hb dL_law_226 rfl (lv_at hl 3 rfl) ?_
  refine lv_iconst (v := 2) hx hb dL_law_227 (by decide) ?_
  refine lv_iadd hx hb dL_law_228 ?_
  refine va_sld hx hb hX hbl hbA hS (i_in (by omega) (by omega)) dL_law_229 ?_
  rw [hs2]
  refine lv_aload_n hx hb dL_law_230 rfl (lv_at hl 0 rfl) ?_
  refine lv_iload_n hx hb dL_law_231 rfl (lv_at hl 3 rfl) ?_
  refine lv_iconst (v := 3) hx hb dL_law_232 (by decide) ?_
  refine lv_iadd hx hb dL_law_233 ?_
  refine va_sld hx hb hX hbl hbA hS (i_in (by omega) (by omega)) dL_law_234 ?_
  rw [hs3]
  refine cL_i (As := [.int s1, .int s2, .int s3]) (rest := []) ⟨hx, hb, hml, hown, hg⟩ (k_X11_people l D cs _ ad fa fq rv v a w fv fp s1 s2 s3 ia28_0 ia29_0 iv1_0 iv1_1) ca_X11_people q2_201 ⟨rfl, rfl⟩ ⟨Nat.le_of_ble_eq_true rfl, Nat.le_of_ble_eq_true rfl⟩ (rc_main hK (pw_l hP)) hK hP hD hS hZ rfl hl.1 rfl (Nat.le_of_ble_eq_true rfl) ⟨Nat.le_of_ble_eq_true rfl, Nat.le_of_ble_eq_true rfl⟩ dL_law_235 (fun r_1 z_8 H locs wr_1 hP hD hS => ?_)
  obtain ⟨o_v1_2, o_a11_3, o_a12_4, o_a13_5, o_a14_6, o_fp14_7⟩ := z_8
  have hP : va_P D vwCl (CW cs ad fa fq rv (va_up v 1 o_v1_2) (va_up (va_up (va_up (va_up a 11 o_a11_3) 12 o_a12_4) 13 o_a13_5) 14 o_a14_6) w fv (va_up fp 14 o_fp14_7) ++ RW cs bd u b_ bw) H := hP
  have hD : va_D (fun q : Nat => s.heap.size ≤ q) (CW cs ad fa fq rv (va_up v 1 o_v1_2) (va_up (va_up (va_up (va_up a 11 o_a11_3) 12 o_a12_4) 13 o_a13_5) 14 o_a14_6) w fv (va_up fp 14 o_fp14_7) ++ RW cs bd u b_ bw) := hD
  obtain ⟨wr_1_0, wr_1_1, wr_1_2, wr_1_3⟩ : ((v 1).toInt ≤ o_v1_2.toInt) ∧ ((¬ ((0 ≤ s1.toInt ∧ s1.toInt < 6) ∧ 1 ≤ s3.toInt ∧ s3.toInt ≤ 8) ∧ r_1.toInt = -1 ∧ o_v1_2.toInt = (v 1).toInt) ∨ (((0 ≤ s1.toInt ∧ s1.toInt < 6) ∧ 1 ≤ s3.toInt ∧ s3.toInt ≤ 8) ∧ ((((a 28) s1.toNatClampNeg).toInt = -1 ∧ r_1.toInt = 0 ∧ o_v1_2.toInt = (v 1).toInt) ∨ (((a 28) s1.toNatClampNeg).toInt ≠ -1 ∧ ((a 28) s1.toNatClampNeg).toInt ≠ 1 ∧ r_1.toInt = -12 ∧ o_v1_2.toInt = (v 1).toInt) ∨ (((a 28) s1.toNatClampNeg).toInt = 1 ∧ CAME (w s1.toNatClampNeg) ((a 29) s1.toNatClampNeg).toInt (v 1).toInt s2.toInt s3.toInt r_1.toInt ∧ o_v1_2.toInt = (v 1).toInt + r_1.toInt)))) ∧ (0 ≤ o_v1_2.toInt) ∧ (o_v1_2.toInt ≤ 8) := wr_1
  refine lv_pop hx hb dL_law_238 rfl ?_
  refine lv_aload_n hx hb dL_law_239 rfl (lv_at hl 2 rfl) ?_
  refine lv_aload_n hx hb dL_law_240 rfl (lv_at hl 0 rfl) ?_
  refine lv_iload_n hx hb dL_law_241 rfl (lv_at hl 3 rfl) ?_
  refine lv_iconst (v := 1) hx hb dL_law_242 (by decide) ?_
  refine lv_iadd hx hb dL_law_243 ?_
  refine va_sld hx hb hX hbl hbA hS (i_in (by omega) (by omega)) dL_law_244 ?_
  rw [hs1]
  refine lv_aload_n hx hb dL_law_245 rfl (lv_at hl 0 rfl) ?_
  refine lv_iload_n hx hb dL_law_246 rfl (lv_at hl 3 rfl) ?_
  refine lv_iconst (v := 2) hx hb dL_law_247 (by decide) ?_
  refine lv_iadd hx hb dL_law_248 ?_
  refine va_sld hx hb hX hbl hbA hS (i_in (by omega) (by omega)) dL_law_249 ?_
  rw [hs2]
  refine lv_aload_n hx hb dL_law_250 rfl (lv_at hl 0 rfl) ?_
  refine lv_iload_n hx hb dL_law_251 rfl (lv_at hl 3 rfl) ?_
  refine lv_iconst (v := 3) hx hb dL_law_252 (by decide) ?_
  refine lv_iadd hx hb dL_law_253 ?_
  refine va_sld hx hb hX hbl hbA hS (i_in (by omega) (by omega)) dL_law_254 ?_
  rw [hs3]
  refine cR_i (As := [.int s1, .int s2, .int s3]) (rest := []) ⟨hx, hb, hml, hown, hg⟩ (k_X12_people l D cs _ bd u b_ bw s1 s2 s3 ib67_0 iu1_0 iu1_1 ib66_0) ca_X12_people q5_219 ⟨rfl, rfl⟩ ⟨Nat.le_of_ble_eq_true rfl, Nat.le_of_ble_eq_true rfl⟩ (rc_model hK (pw_r hP)) hK hP hD hS hZ rfl hl.1 rfl (Nat.le_of_ble_eq_true rfl) ⟨Nat.le_of_ble_eq_true rfl, Nat.le_of_ble_eq_true rfl⟩ dL_law_255 (fun r_9 z_15 H locs wr_9 hP hD hS => ?_)
  obtain ⟨o_u1_10, o_b2_11, o_b3_12, o_b4_13, o_b5_14⟩ := z_15
  have hP : va_P D vwCl (CW cs ad fa fq rv (va_up v 1 o_v1_2) (va_up (va_up (va_up (va_up a 11 o_a11_3) 12 o_a12_4) 13 o_a13_5) 14 o_a14_6) w fv (va_up fp 14 o_fp14_7) ++ RW cs bd (va_up u 1 o_u1_10) (va_up (va_up (va_up (va_up b_ 2 o_b2_11) 3 o_b3_12) 4 o_b4_13) 5 o_b5_14) bw) H := hP
  have hD : va_D (fun q : Nat => s.heap.size ≤ q) (CW cs ad fa fq rv (va_up v 1 o_v1_2) (va_up (va_up (va_up (va_up a 11 o_a11_3) 12 o_a12_4) 13 o_a13_5) 14 o_a14_6) w fv (va_up fp 14 o_fp14_7) ++ RW cs bd (va_up u 1 o_u1_10) (va_up (va_up (va_up (va_up b_ 2 o_b2_11) 3 o_b3_12) 4 o_b4_13) 5 o_b5_14) bw) := hD
  obtain ⟨wr_9_0, wr_9_1, wr_9_2, wr_9_3⟩ : ((u 1).toInt ≤ o_u1_10.toInt) ∧ ((¬ ((0 ≤ s1.toInt ∧ s1.toInt < 6) ∧ 1 ≤ s3.toInt ∧ s3.toInt ≤ 8) ∧ r_9.toInt = -1 ∧ o_u1_10.toInt = (u 1).toInt) ∨ (((0 ≤ s1.toInt ∧ s1.toInt < 6) ∧ 1 ≤ s3.toInt ∧ s3.toInt ≤ 8) ∧ ((((b_ 66) s1.toNatClampNeg).toInt = -1 ∧ r_9.toInt = 0 ∧ o_u1_10.toInt = (u 1).toInt) ∨ (((b_ 66) s1.toNatClampNeg).toInt ≠ -1 ∧ ((b_ 66) s1.toNatClampNeg).toInt ≠ -3 ∧ r_9.toInt = -12 ∧ o_u1_10.toInt = (u 1).toInt) ∨ (((b_ 66) s1.toNatClampNeg).toInt = -3 ∧ CAME (ROWOF (bw 68) s1.toNatClampNeg) ((b_ 67) s1.toNatClampNeg).toInt (u 1).toInt s2.toInt s3.toInt r_9.toInt ∧ o_u1_10.toInt = (u 1).toInt + r_9.toInt)))) ∧ (0 ≤ o_u1_10.toInt) ∧ (o_u1_10.toInt ≤ 8) := wr_9
  have hpe : r_1.toInt = r_9.toInt ∧ o_v1_2.toInt = o_u1_10.toInt := by
    rcases wr_1_1 with ⟨a0, a1, a2⟩ | ⟨a0, a1⟩
    · rcases wr_9_1 with ⟨b0, b1, b2⟩ | ⟨b0, b1⟩
      · exact ⟨by omega, by omega⟩
      · exact absurd b0 a0
    · rcases wr_9_1 with ⟨b0, b1, b2⟩ | ⟨b0, b1⟩
      · exact absurd a0 b0
      · have hq := SHS_num (esh s1.toNatClampNeg (by show s1.toInt.toNat < 6; omega))
        rcases a1 with ⟨a1, a2, a3⟩ | ⟨a1, a4, a2, a3⟩ | ⟨a1, a2, a3⟩ <;> rcases b1 with ⟨b1, b2, b3⟩ | ⟨b1, b4, b2, b3⟩ | ⟨b1, b2, b3⟩ <;> first | exact ⟨by omega, by omega⟩ | (exfalso; omega) | skip
        have hk := CAME_uniq (SHS_row (esh s1.toNatClampNeg (by show s1.toInt.toNat < 6; omega)) (by omega) (by omega)) (by omega) (by omega) e1.symm a2 b2
        exact ⟨by omega, by omega⟩
  refine lv_pop hx hb dL_law_258 rfl ?_
  refine lv_goto (tgt := 1387) hx hb dL_law_259 (by decide) ?_
  have hI1 : CI (va_up v 1 o_v1_2) (va_up (va_up (va_up (va_up a 11 o_a11_3) 12 o_a12_4) 13 o_a13_5) 14 o_a14_6) fv := ⟨(show 0 ≤ o_v1_2.toInt by first | assumption | omega), (show o_v1_2.toInt ≤ 8 by first | assumption | omega), ia28_0, ia29_0, iv20_0, iv20_1, iv19_0, iv19_1, iv19_2, ia24_0, ia25_0, (show (fv 14 2).toInt = -2 ∨ (0 ≤ (fv 14 2).toInt ∧ (fv 14 2).toInt < o_v1_2.toInt) by first | assumption | omega), iv4_0, iv4_1, ia18_0, iv24_0, iv24_1, iv25_0, iv25_1, iv25_2, iv26_0, iv26_1, ia19_0, iv5_0, iv5_1, iv6_0, iv6_1, (DOK_mono iv6_2 (show _ ≤ o_v1_2.toInt by omega)), iv11_0, iv11_1, iv14_0, iv14_1, iv0_0, iv0_1, (show (v 0).toInt ≤ o_v1_2.toInt by first | assumption | omega), (show (fv 17 2).toInt = -2 ∨ (0 ≤ (fv 17 2).toInt ∧ (fv 17 2).toInt < o_v1_2.toInt) by first | assumption | omega), iv21_0, iv21_1, ia37_0, iv23_0, iv23_1, iv22_0, iv22_1⟩
  have hR1 : RI (va_up u 1 o_u1_10) (va_up (va_up (va_up (va_up b_ 2 o_b2_11) 3 o_b3_12) 4 o_b4_13) 5 o_b5_14) bw := ⟨(show 0 ≤ o_u1_10.toInt by first | assumption | omega), (show o_u1_10.toInt ≤ 8 by first | assumption | omega), ib67_0, ib66_0, iu8_0, iu8_1, ib10_0, ib11_0, iu9_0, iu9_1, iu9_2, iu15_0, iu15_1, hlaw, ib23_0, ib20_0, ib24_0, iu7_0, (show (u 7).toInt < o_u1_10.toInt by first | assumption | omega), iu41_0, iu41_1, iu48_0, iu48_1, iu46_0, iu46_1, iu47_0, iu47_1, iu55_0, iu55_1, (show (u 55).toInt ≤ o_u1_10.toInt by first | assumption | omega), (show (u 54).toInt = 0 ∨ (-1 ≤ (u 58).toInt ∧ (u 58).toInt < o_u1_10.toInt) by first | assumption | omega), iu62_0, iu62_1, ib63_0, iu64_0, iu64_1⟩
  have hE1 : REL (va_up v 1 o_v1_2) (va_up (va_up (va_up (va_up a 11 o_a11_3) 12 o_a12_4) 13 o_a13_5) 14 o_a14_6) w fv (va_up u 1 o_u1_10) (va_up (va_up (va_up (va_up b_ 2 o_b2_11) 3 o_b3_12) 4 o_b4_13) 5 o_b5_14) bw := ⟨(show (o_v1_2).toInt = (o_u1_10).toInt by first | (exact hpe.2) | first | omega | assumption | exact e1), (show (v 4).toInt = (u 15).toInt by first | omega | assumption | exact e4), (show (v 21).toInt = (u 62).toInt by first | omega | assumption | exact e21), (show (v 22).toInt = (u 64).toInt by first | omega | assumption | exact e22), (show (fv 14 3) = (b_ 53) 0 by first | omega | assumption | exact es14), (show (fv 17 3) = (b_ 61) 0 by first | omega | assumption | exact es17), (show ((v 0).toInt < 0 ∧ (u 54).toInt = 0) ∨ (0 ≤ (v 0).toInt ∧ (u 54).toInt ≠ 0) by first | omega | assumption | exact eim), (show ∀ j, (a 37) j = (b_ 63) j by first | omega | assumption | exact ek), (show ∀ j, (a 38) j = (b_ 65) j by first | omega | assumption | exact et), (show SH (a 28) (a 29) w (b_ 66) (b_ 67) (bw 68) (v 21) by first | omega | assumption | exact esh)⟩
  exact kk ad rv (va_up v 1 o_v1_2) (va_up (va_up (va_up (va_up a 11 o_a11_3) 12 o_a12_4) 13 o_a13_5) 14 o_a14_6) w fv (va_up fp 14 o_fp14_7) bd (va_up u 1 o_u1_10) (va_up (va_up (va_up (va_up b_ 2 o_b2_11) 3 o_b3_12) 4 o_b4_13) 5 o_b5_14) bw _ _ ls rfl rfl hI1 hR1 hE1 hP hD hS hl
set_option maxHeartbeats 8000000 in
set_option maxRecDepth 100000 in
theorem lc_mend {p : Program} {e : Env} {s : State} {m : MethodId} {below : List Frame} {meth : Method} {c : Code} (l : Launch) {b L : Nat} {xs : Nat → Int32} (C0 : lw_At p s m meth c b L xs) (hL : L ≤ 3072) {D : va_G} {cs : Nat → ClassId} {fa fq : Nat → Nat} (hK : va_K D vwCl (TY cs) s) (hZ : ZS (fun q : Nat => s.heap.size ≤ q) s) {x0 y0 : Nat} {i : Int32} (hi0 : 0 ≤ i.toInt) (hiL : i.toInt + 6 ≤ (L : Int)) (ad rv : Nat → Nat) (v : Nat → Int32) (a : Nat → Nat → Int32) (w : Nat → Nat → Int64) (fv fp : Nat → Nat → Int32) (bd : Nat → Nat) (u : Nat → Int32) (b_ : Nat → Nat → Int32) (bw : Nat → Nat → Int64) (H : Heap) (locs : List Loc) (ls : Array Slot) (hl : lv_has ls 4 [(0, .ref b), (1, .ref x0), (2, .ref y0), (3, .int i)]) (hx0 : ad 0 = x0) (hy0 : bd 0 = y0) (hI : CI v a fv) (hR : RI u b_ bw) (hE : REL v a w fv u b_ bw) (hP : va_P D vwCl (CW cs ad fa fq rv v a w fv fp ++ RW cs bd u b_ bw) H) (hD : va_D (fun q : Nat => s.heap.size ≤ q) (CW cs ad fa fq rv v a w fv fp ++ RW cs bd u b_ bw)) (hS : va_S (fun q : Nat => s.heap.size ≤ q) s.heap H locs)
    (kk : ∀ (ad rv : Nat → Nat) (v : Nat → Int32) (a : Nat → Nat → Int32) (w : Nat → Nat → Int64) (fv fp : Nat → Nat → Int32) (bd : Nat → Nat) (u : Nat → Int32) (b_ : Nat → Nat → Int32) (bw : Nat → Nat → Int64) (H : Heap) (locs : List Loc) (ls : Array Slot) (hx0 : ad 0 = x0) (hy0 : bd 0 = y0) (hI : CI v a fv) (hR : RI u b_ bw) (hE : REL v a w fv u b_ bw) (hP : va_P D vwCl (CW cs ad fa fq rv v a w fv fp ++ RW cs bd u b_ bw) H) (hD : va_D (fun q : Nat => s.heap.size ≤ q) (CW cs ad fa fq rv v a w fv fp ++ RW cs bd u b_ bw)) (hS : va_S (fun q : Nat => s.heap.size ≤ q) s.heap H locs) (hl : lv_has ls 4 [(0, .ref b), (1, .ref x0), (2, .ref y0), (3, .int i)]), W p l e room_1 s m #[Value.ref b] below meth c H locs 200 9000 (lw_Z below #[Value.ref b] s) (F0 m 1387 ls [])) : W p l e room_1 s m #[Value.ref b] below meth c H locs 200 9000 (lw_Z below #[Value.ref b] s) (F0 m 262 ls []) := by
  obtain ⟨hx, hb, hr, hml, hown, hts, hX, hbl, hlocks, hgv⟩ := id C0
  have hg : ∀ w ∈ gw, w.before #[Value.ref b] s = true := fun w h => hts w (gw_in w h)
  have hbA : ¬ (fun q : Nat => s.heap.size ≤ q) b := Nat.not_le.mpr hbl
  subst hx0
  subst hy0
  obtain ⟨iv1_0, iv1_1, ia28_0, ia29_0, iv20_0, iv20_1, iv19_0, iv19_1, iv19_2, ia24_0, ia25_0, ifv14_0, iv4_0, iv4_1, ia18_0, iv24_0, iv24_1, iv25_0, iv25_1, iv25_2, iv26_0, iv26_1, ia19_0, iv5_0, iv5_1, iv6_0, iv6_1, iv6_2, iv11_0, iv11_1, iv14_0, iv14_1, iv0_0, iv0_1, iv0_2, ifv17_0, iv21_0, iv21_1, ia37_0, iv23_0, iv23_1, iv22_0, iv22_1⟩ := id hI
  obtain ⟨iu1_0, iu1_1, ib67_0, ib66_0, iu8_0, iu8_1, ib10_0, ib11_0, iu9_0, iu9_1, iu9_2, iu15_0, iu15_1, hlaw, ib23_0, ib20_0, ib24_0, iu7_0, iu7_1, iu41_0, iu41_1, iu48_0, iu48_1, iu46_0, iu46_1, iu47_0, iu47_1, iu55_0, iu55_1, iu55_2, iu58_0, iu62_0, iu62_1, ib63_0, iu64_0, iu64_1⟩ := id hR
  obtain ⟨e1, e4, e21, e22, es14, es17, eim, ek, et, esh⟩ := id hE
  obtain ⟨s1, hs1⟩ : ∃ y, xs (i + 1).toNatClampNeg = y := ⟨_, rfl⟩
  obtain ⟨s2, hs2⟩ : ∃ y, xs (i + 2).toNatClampNeg = y := ⟨_, rfl⟩
  obtain ⟨s3, hs3⟩ : ∃ y, xs (i + 3).toNatClampNeg = y := ⟨_, rfl⟩
  obtain ⟨s4, hs4⟩ : ∃ y, xs (i + 4).toNatClampNeg = y := ⟨_, rfl⟩
  obtain ⟨s5, hs5⟩ : ∃ y, xs (i + 5).toNatClampNeg = y := ⟨_, rfl⟩
  have hq1 : (i + 1).toInt = i.toInt + 1 := i_add (by show _ ≤ i.toInt + (1 : Int32).toInt; have q : (1 : Int32).toInt = 1 := rfl; omega) (by show i.toInt + (1 : Int32).toInt ≤ _; have q : (1 : Int32).toInt = 1 := rfl; omega)
  have hq2 : (i + 2).toInt = i.toInt + 2 := i_add (by show _ ≤ i.toInt + (2 : Int32).toInt; have q : (2 : Int32).toInt = 2 := rfl; omega) (by show i.toInt + (2 : Int32).toInt ≤ _; have q : (2 : Int32).toInt = 2 := rfl; omega)
  have hq3 : (i + 3).toInt = i.toInt + 3 := i_add (by show _ ≤ i.toInt + (3 : Int32).toInt; have q : (3 : Int32).toInt = 3 := rfl; omega) (by show i.toInt + (3 : Int32).toInt ≤ _; have q : (3 : Int32).toInt = 3 := rfl; omega)
  have hq4 : (i + 4).toInt = i.toInt + 4 := i_add (by show _ ≤ i.toInt + (4 : Int32).toInt; have q : (4 : Int32).toInt = 4 := rfl; omega) (by show i.toInt + (4 : Int32).toInt ≤ _; have q : (4 : Int32).toInt = 4 := rfl; omega)
  have hq5 : (i + 5).toInt = i.toInt + 5 := i_add (by show _ ≤ i.toInt + (5 : Int32).toInt; have q : (5 : Int32).toInt = 5 := rfl; omega) (by show i.toInt + (5 : Int32).toInt ≤ _; have q : (5 : Int32).toInt = 5 := rfl; omega)
  refine lv_aload_n hx hb dL_law_262 rfl (lv_at hl 1 rfl) ?_
  refine lv_aload_n hx hb dL_law_263 rfl (lv_at hl 0 rfl) ?_
  refine lv_iload_n hx hb dL_law_264 rfl (lv_at hl 3 rfl) ?_
  refine lv_iconst (v := 1) hx hb dL_law_265 (by decide) ?_
  refine lv_iadd hx hb dL_law_266 ?_
  refine va_sld hx hb hX hbl hbA hS (i_in (by omega) (by omega)) dL_law_267 ?_
  rw [hs1]
  refine lv_aload_n hx hb dL_law_268 rfl (lv_at hl 0 rfl) ?_
  refine lv_iload_n hx hb dL_law_269 rfl (lv_at hl 3 rfl) ?_
  refine lv_iconst (v := 2) hx hb dL_law_270 (by decide) ?_
  refine lv_iadd hx hb dL_law_271 ?_
  refine va_sld hx hb hX hbl hbA hS (i_in (by omega) (by omega)) dL_law_272 ?_
  rw [hs2]
  refine lv_aload_n hx hb dL_law_273 rfl (lv_at hl 0 rfl) ?_
  refine lv_iload_n hx hb dL_law_274 rfl (lv_at hl 3 rfl) ?_
  refine lv_iconst (v := 3) hx hb dL_law_275 (by decide) ?_
  refine lv_iadd hx hb dL_law_276 ?_
  refine va_sld hx hb hX hbl hbA hS (i_in (by omega) (by omega)) dL_law_277 ?_
  rw [hs3]
  refine cL_i (As := [.int s1, .int s2, .int s3]) (rest := []) ⟨hx, hb, hml, hown, hg⟩ (k_X11_mend l D cs _ ad fa fq rv v a w fv fp s1 s2 s3 iv1_0 iv1_1 iv20_0 iv20_1 iv19_0 iv19_1 iv19_2 ia24_0 ia25_0 ifv14_0) ca_X11_mend q2_236 ⟨rfl, rfl⟩ ⟨Nat.le_of_ble_eq_true rfl, Nat.le_of_ble_eq_true rfl⟩ (rc_main hK (pw_l hP)) hK hP hD hS hZ rfl hl.1 rfl (Nat.le_of_ble_eq_true rfl) ⟨Nat.le_of_ble_eq_true rfl, Nat.le_of_ble_eq_true rfl⟩ dL_law_278 (fun r_1 z_16 H locs wr_1 hP hD hS => ?_)
  obtain ⟨o_v19_2, o_v20_3, o_v2_4, o_v3_5, o_a24_6, o_a25_7, o_a26_8, o_a27_9, o_a11_10, o_a14_11, o_a12_12, o_a13_13, o_fv14_14, o_fp14_15⟩ := z_16
  have hP : va_P D vwCl (CW cs ad fa fq rv (va_up (va_up (va_up (va_up v 19 o_v19_2) 20 o_v20_3) 2 o_v2_4) 3 o_v3_5) (va_up (va_up (va_up (va_up (va_up (va_up (va_up (va_up a 24 o_a24_6) 25 o_a25_7) 26 o_a26_8) 27 o_a27_9) 11 o_a11_10) 14 o_a14_11) 12 o_a12_12) 13 o_a13_13) w (va_up fv 14 o_fv14_14) (va_up fp 14 o_fp14_15) ++ RW cs bd u b_ bw) H := hP
  have hD : va_D (fun q : Nat => s.heap.size ≤ q) (CW cs ad fa fq rv (va_up (va_up (va_up (va_up v 19 o_v19_2) 20 o_v20_3) 2 o_v2_4) 3 o_v3_5) (va_up (va_up (va_up (va_up (va_up (va_up (va_up (va_up a 24 o_a24_6) 25 o_a25_7) 26 o_a26_8) 27 o_a27_9) 11 o_a11_10) 14 o_a14_11) 12 o_a12_12) 13 o_a13_13) w (va_up fv 14 o_fv14_14) (va_up fp 14 o_fp14_15) ++ RW cs bd u b_ bw) := hD
  obtain ⟨wr_1_0, wr_1_1, wr_1_2, wr_1_3, wr_1_4, wr_1_5, wr_1_6, wr_1_7, wr_1_8⟩ : (o_fv14_14 3 = (fv 14 3)) ∧ (0 ≤ o_v19_2.toInt) ∧ (o_v19_2.toInt ≤ 40) ∧ (o_v19_2.toInt ≤ o_v20_3.toInt) ∧ (0 ≤ o_v20_3.toInt) ∧ (o_v20_3.toInt ≤ 40) ∧ (AB 0 7 o_a24_6) ∧ (AB 0 7 o_a25_7) ∧ ((o_fv14_14 2).toInt = -2 ∨ (0 ≤ (o_fv14_14 2).toInt ∧ (o_fv14_14 2).toInt < (v 1).toInt)) := wr_1
  refine lv_pop hx hb dL_law_281 rfl ?_
  refine lv_aload_n hx hb dL_law_282 rfl (lv_at hl 2 rfl) ?_
  refine lv_aload_n hx hb dL_law_283 rfl (lv_at hl 0 rfl) ?_
  refine lv_iload_n hx hb dL_law_284 rfl (lv_at hl 3 rfl) ?_
  refine lv_iconst (v := 1) hx hb dL_law_285 (by decide) ?_
  refine lv_iadd hx hb dL_law_286 ?_
  refine va_sld hx hb hX hbl hbA hS (i_in (by omega) (by omega)) dL_law_287 ?_
  rw [hs1]
  refine lv_aload_n hx hb dL_law_288 rfl (lv_at hl 0 rfl) ?_
  refine lv_iload_n hx hb dL_law_289 rfl (lv_at hl 3 rfl) ?_
  refine lv_iconst (v := 2) hx hb dL_law_290 (by decide) ?_
  refine lv_iadd hx hb dL_law_291 ?_
  refine va_sld hx hb hX hbl hbA hS (i_in (by omega) (by omega)) dL_law_292 ?_
  rw [hs2]
  refine lv_aload_n hx hb dL_law_293 rfl (lv_at hl 0 rfl) ?_
  refine lv_iload_n hx hb dL_law_294 rfl (lv_at hl 3 rfl) ?_
  refine lv_iconst (v := 3) hx hb dL_law_295 (by decide) ?_
  refine lv_iadd hx hb dL_law_296 ?_
  refine va_sld hx hb hX hbl hbA hS (i_in (by omega) (by omega)) dL_law_297 ?_
  rw [hs3]
  refine cR_i (As := [.int s1, .int s2, .int s3]) (rest := []) ⟨hx, hb, hml, hown, hg⟩ (k_X12_mend l D cs _ bd u b_ bw s1 s2 s3 iu1_0 iu1_1 iu8_0 iu8_1 ib10_0 ib11_0 iu9_0 iu9_1 iu9_2) ca_X12_mend q5_239 ⟨rfl, rfl⟩ ⟨Nat.le_of_ble_eq_true rfl, Nat.le_of_ble_eq_true rfl⟩ (rc_model hK (pw_r hP)) hK hP hD hS hZ rfl hl.1 rfl (Nat.le_of_ble_eq_true rfl) ⟨Nat.le_of_ble_eq_true rfl, Nat.le_of_ble_eq_true rfl⟩ dL_law_298 (fun r_17 z_29 H locs wr_17 hP hD hS => ?_)
  obtain ⟨o_u8_18, o_u9_19, o_b10_20, o_b11_21, o_b12_22, o_b13_23, o_b2_24, o_b3_25, o_b4_26, o_b5_27, o_b6_28⟩ := z_29
  have hP : va_P D vwCl (CW cs ad fa fq rv (va_up (va_up (va_up (va_up v 19 o_v19_2) 20 o_v20_3) 2 o_v2_4) 3 o_v3_5) (va_up (va_up (va_up (va_up (va_up (va_up (va_up (va_up a 24 o_a24_6) 25 o_a25_7) 26 o_a26_8) 27 o_a27_9) 11 o_a11_10) 14 o_a14_11) 12 o_a12_12) 13 o_a13_13) w (va_up fv 14 o_fv14_14) (va_up fp 14 o_fp14_15) ++ RW cs bd (va_up (va_up u 8 o_u8_18) 9 o_u9_19) (va_up (va_up (va_up (va_up (va_up (va_up (va_up (va_up (va_up b_ 10 o_b10_20) 11 o_b11_21) 12 o_b12_22) 13 o_b13_23) 2 o_b2_24) 3 o_b3_25) 4 o_b4_26) 5 o_b5_27) 6 o_b6_28) bw) H := hP
  have hD : va_D (fun q : Nat => s.heap.size ≤ q) (CW cs ad fa fq rv (va_up (va_up (va_up (va_up v 19 o_v19_2) 20 o_v20_3) 2 o_v2_4) 3 o_v3_5) (va_up (va_up (va_up (va_up (va_up (va_up (va_up (va_up a 24 o_a24_6) 25 o_a25_7) 26 o_a26_8) 27 o_a27_9) 11 o_a11_10) 14 o_a14_11) 12 o_a12_12) 13 o_a13_13) w (va_up fv 14 o_fv14_14) (va_up fp 14 o_fp14_15) ++ RW cs bd (va_up (va_up u 8 o_u8_18) 9 o_u9_19) (va_up (va_up (va_up (va_up (va_up (va_up (va_up (va_up (va_up b_ 10 o_b10_20) 11 o_b11_21) 12 o_b12_22) 13 o_b13_23) 2 o_b2_24) 3 o_b3_25) 4 o_b4_26) 5 o_b5_27) 6 o_b6_28) bw) := hD
  obtain ⟨wr_17_0, wr_17_1, wr_17_2, wr_17_3, wr_17_4, wr_17_5, wr_17_6⟩ : (0 ≤ o_u8_18.toInt) ∧ (o_u8_18.toInt ≤ 40) ∧ (0 ≤ o_u9_19.toInt) ∧ (o_u9_19.toInt ≤ 40) ∧ (o_u8_18.toInt + o_u9_19.toInt ≤ 40) ∧ (AB 0 7 o_b10_20) ∧ (AB 0 7 o_b11_21) := wr_17
  refine lv_pop hx hb dL_law_301 rfl ?_
  refine lv_goto (tgt := 1387) hx hb dL_law_302 (by decide) ?_
  have hI1 : CI (va_up (va_up (va_up (va_up v 19 o_v19_2) 20 o_v20_3) 2 o_v2_4) 3 o_v3_5) (va_up (va_up (va_up (va_up (va_up (va_up (va_up (va_up a 24 o_a24_6) 25 o_a25_7) 26 o_a26_8) 27 o_a27_9) 11 o_a11_10) 14 o_a14_11) 12 o_a12_12) 13 o_a13_13) (va_up fv 14 o_fv14_14) := ⟨iv1_0, iv1_1, ia28_0, ia29_0, (show 0 ≤ o_v20_3.toInt by first | assumption | omega), (show o_v20_3.toInt ≤ 40 by first | assumption | omega), (show 0 ≤ o_v19_2.toInt by first | assumption | omega), (show o_v19_2.toInt ≤ 40 by first | assumption | omega), (show o_v19_2.toInt ≤ o_v20_3.toInt by first | assumption | omega), wr_1_6, wr_1_7, (show (o_fv14_14 2).toInt = -2 ∨ (0 ≤ (o_fv14_14 2).toInt ∧ (o_fv14_14 2).toInt < (v 1).toInt) by first | assumption | omega), iv4_0, iv4_1, ia18_0, iv24_0, iv24_1, iv25_0, iv25_1, iv25_2, iv26_0, iv26_1, ia19_0, iv5_0, iv5_1, iv6_0, iv6_1, iv6_2, iv11_0, iv11_1, iv14_0, iv14_1, iv0_0, iv0_1, iv0_2, ifv17_0, iv21_0, iv21_1, ia37_0, iv23_0, iv23_1, iv22_0, iv22_1⟩
  have hR1 : RI (va_up (va_up u 8 o_u8_18) 9 o_u9_19) (va_up (va_up (va_up (va_up (va_up (va_up (va_up (va_up (va_up b_ 10 o_b10_20) 11 o_b11_21) 12 o_b12_22) 13 o_b13_23) 2 o_b2_24) 3 o_b3_25) 4 o_b4_26) 5 o_b5_27) 6 o_b6_28) bw := ⟨iu1_0, iu1_1, ib67_0, ib66_0, (show 0 ≤ o_u8_18.toInt by first | assumption | omega), (show o_u8_18.toInt ≤ 40 by first | assumption | omega), wr_17_5, wr_17_6, (show 0 ≤ o_u9_19.toInt by first | assumption | omega), (show o_u9_19.toInt ≤ 40 by first | assumption | omega), (show o_u8_18.toInt + o_u9_19.toInt ≤ 40 by first | assumption | omega), iu15_0, iu15_1, hlaw, ib23_0, ib20_0, ib24_0, iu7_0, iu7_1, iu41_0, iu41_1, iu48_0, iu48_1, iu46_0, iu46_1, iu47_0, iu47_1, iu55_0, iu55_1, iu55_2, iu58_0, iu62_0, iu62_1, ib63_0, iu64_0, iu64_1⟩
  have hE1 : REL (va_up (va_up (va_up (va_up v 19 o_v19_2) 20 o_v20_3) 2 o_v2_4) 3 o_v3_5) (va_up (va_up (va_up (va_up (va_up (va_up (va_up (va_up a 24 o_a24_6) 25 o_a25_7) 26 o_a26_8) 27 o_a27_9) 11 o_a11_10) 14 o_a14_11) 12 o_a12_12) 13 o_a13_13) w (va_up fv 14 o_fv14_14) (va_up (va_up u 8 o_u8_18) 9 o_u9_19) (va_up (va_up (va_up (va_up (va_up (va_up (va_up (va_up (va_up b_ 10 o_b10_20) 11 o_b11_21) 12 o_b12_22) 13 o_b13_23) 2 o_b2_24) 3 o_b3_25) 4 o_b4_26) 5 o_b5_27) 6 o_b6_28) bw := ⟨(show (v 1).toInt = (u 1).toInt by first | omega | assumption | exact e1), (show (v 4).toInt = (u 15).toInt by first | omega | assumption | exact e4), (show (v 21).toInt = (u 62).toInt by first | omega | assumption | exact e21), (show (v 22).toInt = (u 64).toInt by first | omega | assumption | exact e22), (show (o_fv14_14 3) = (b_ 53) 0 by exact wr_1_0.trans es14), (show (fv 17 3) = (b_ 61) 0 by first | omega | assumption | exact es17), (show ((v 0).toInt < 0 ∧ (u 54).toInt = 0) ∨ (0 ≤ (v 0).toInt ∧ (u 54).toInt ≠ 0) by first | omega | assumption | exact eim), (show ∀ j, (a 37) j = (b_ 63) j by first | omega | assumption | exact ek), (show ∀ j, (a 38) j = (b_ 65) j by first | omega | assumption | exact et), (show SH (a 28) (a 29) w (b_ 66) (b_ 67) (bw 68) (v 21) by first | omega | assumption | exact esh)⟩
  exact kk ad rv (va_up (va_up (va_up (va_up v 19 o_v19_2) 20 o_v20_3) 2 o_v2_4) 3 o_v3_5) (va_up (va_up (va_up (va_up (va_up (va_up (va_up (va_up a 24 o_a24_6) 25 o_a25_7) 26 o_a26_8) 27 o_a27_9) 11 o_a11_10) 14 o_a14_11) 12 o_a12_12) 13 o_a13_13) w (va_up fv 14 o_fv14_14) (va_up fp 14 o_fp14_15) bd (va_up (va_up u 8 o_u8_18) 9 o_u9_19) (va_up (va_up (va_up (va_up (va_up (va_up (va_up (va_up (va_up b_ 10 o_b10_20) 11 o_b11_21) 12 o_b12_22) 13 o_b13_23) 2 o_b2_24) 3 o_b3_25) 4 o_b4_26) 5 o_b5_27) 6 o_b6_28) bw _ _ ls rfl rfl hI1 hR1 hE1 hP hD hS hl
set_option maxHeartbeats 8000000 in
set_option maxRecDepth 100000 in
theorem lc_of {p : Program} {e : Env} {s : State} {m : MethodId} {below : List Frame} {meth : Method} {c : Code} (l : Launch) {b L : Nat} {xs : Nat → Int32} (C0 : lw_At p s m meth c b L xs) (hL : L ≤ 3072) {D : va_G} {cs : Nat → ClassId} {fa fq : Nat → Nat} (hK : va_K D vwCl (TY cs) s) (hZ : ZS (fun q : Nat => s.heap.size ≤ q) s) {x0 y0 : Nat} {i : Int32} (hi0 : 0 ≤ i.toInt) (hiL : i.toInt + 6 ≤ (L : Int)) (ad rv : Nat → Nat) (v : Nat → Int32) (a : Nat → Nat → Int32) (w : Nat → Nat → Int64) (fv fp : Nat → Nat → Int32) (bd : Nat → Nat) (u : Nat → Int32) (b_ : Nat → Nat → Int32) (bw : Nat → Nat → Int64) (H : Heap) (locs : List Loc) (ls : Array Slot) (hl : lv_has ls 4 [(0, .ref b), (1, .ref x0), (2, .ref y0), (3, .int i)]) (hx0 : ad 0 = x0) (hy0 : bd 0 = y0) (hI : CI v a fv) (hR : RI u b_ bw) (hE : REL v a w fv u b_ bw) (hP : va_P D vwCl (CW cs ad fa fq rv v a w fv fp ++ RW cs bd u b_ bw) H) (hD : va_D (fun q : Nat => s.heap.size ≤ q) (CW cs ad fa fq rv v a w fv fp ++ RW cs bd u b_ bw)) (hS : va_S (fun q : Nat => s.heap.size ≤ q) s.heap H locs)
    (kk : ∀ (ad rv : Nat → Nat) (v : Nat → Int32) (a : Nat → Nat → Int32) (w : Nat → Nat → Int64) (fv fp : Nat → Nat → Int32) (bd : Nat → Nat) (u : Nat → Int32) (b_ : Nat → Nat → Int32) (bw : Nat → Nat → Int64) (H : Heap) (locs : List Loc) (ls : Array Slot) (hx0 : ad 0 = x0) (hy0 : bd 0 = y0) (hI : CI v a fv) (hR : RI u b_ bw) (hE : REL v a w fv u b_ bw) (hP : va_P D vwCl (CW cs ad fa fq rv v a w fv fp ++ RW cs bd u b_ bw) H) (hD : va_D (fun q : Nat => s.heap.size ≤ q) (CW cs ad fa fq rv v a w fv fp ++ RW cs bd u b_ bw)) (hS : va_S (fun q : Nat => s.heap.size ≤ q) s.heap H locs) (hl : lv_has ls 4 [(0, .ref b), (1, .ref x0), (2, .ref y0), (3, .int i)]), W p l e room_1 s m #[Value.ref b] below meth c H locs 200 9000 (lw_Z below #[Value.ref b] s) (F0 m 1387 ls [])) : W p l e room_1 s m #[Value.ref b] below meth c H locs 200 9000 (lw_Z below #[Value.ref b] s) (F0 m 305 ls []) := by
  obtain ⟨hx, hb, hr, hml, hown, hts, hX, hbl, hlocks, hgv⟩ := id C0
  have hg : ∀ w ∈ gw, w.before #[Value.ref b] s = true := fun w h => hts w (gw_in w h)
  have hbA : ¬ (fun q : Nat => s.heap.size ≤ q) b := Nat.not_le.mpr hbl
  subst hx0
  subst hy0
  obtain ⟨iv1_0, iv1_1, ia28_0, ia29_0, iv20_0, iv20_1, iv19_0, iv19_1, iv19_2, ia24_0, ia25_0, ifv14_0, iv4_0, iv4_1, ia18_0, iv24_0, iv24_1, iv25_0, iv25_1, iv25_2, iv26_0, iv26_1, ia19_0, iv5_0, iv5_1, iv6_0, iv6_1, iv6_2, iv11_0, iv11_1, iv14_0, iv14_1, iv0_0, iv0_1, iv0_2, ifv17_0, iv21_0, iv21_1, ia37_0, iv23_0, iv23_1, iv22_0, iv22_1⟩ := id hI
  obtain ⟨iu1_0, iu1_1, ib67_0, ib66_0, iu8_0, iu8_1, ib10_0, ib11_0, iu9_0, iu9_1, iu9_2, iu15_0, iu15_1, hlaw, ib23_0, ib20_0, ib24_0, iu7_0, iu7_1, iu41_0, iu41_1, iu48_0, iu48_1, iu46_0, iu46_1, iu47_0, iu47_1, iu55_0, iu55_1, iu55_2, iu58_0, iu62_0, iu62_1, ib63_0, iu64_0, iu64_1⟩ := id hR
  obtain ⟨e1, e4, e21, e22, es14, es17, eim, ek, et, esh⟩ := id hE
  obtain ⟨s1, hs1⟩ : ∃ y, xs (i + 1).toNatClampNeg = y := ⟨_, rfl⟩
  obtain ⟨s2, hs2⟩ : ∃ y, xs (i + 2).toNatClampNeg = y := ⟨_, rfl⟩
  obtain ⟨s3, hs3⟩ : ∃ y, xs (i + 3).toNatClampNeg = y := ⟨_, rfl⟩
  obtain ⟨s4, hs4⟩ : ∃ y, xs (i + 4).toNatClampNeg = y := ⟨_, rfl⟩
  obtain ⟨s5, hs5⟩ : ∃ y, xs (i + 5).toNatClampNeg = y := ⟨_, rfl⟩
  have hq1 : (i + 1).toInt = i.toInt + 1 := i_add (by show _ ≤ i.toInt + (1 : Int32).toInt; have q : (1 : Int32).toInt = 1 := rfl; omega) (by show i.toInt + (1 : Int32).toInt ≤ _; have q : (1 : Int32).toInt = 1 := rfl; omega)
  have hq2 : (i + 2).toInt = i.toInt + 2 := i_add (by show _ ≤ i.toInt + (2 : Int32).toInt; have q : (2 : Int32).toInt = 2 := rfl; omega) (by show i.toInt + (2 : Int32).toInt ≤ _; have q : (2 : Int32).toInt = 2 := rfl; omega)
  have hq3 : (i + 3).toInt = i.toInt + 3 := i_add (by show _ ≤ i.toInt + (3 : Int32).toInt; have q : (3 : Int32).toInt = 3 := rfl; omega) (by show i.toInt + (3 : Int32).toInt ≤ _; have q : (3 : Int32).toInt = 3 := rfl; omega)
  have hq4 : (i + 4).toInt = i.toInt + 4 := i_add (by show _ ≤ i.toInt + (4 : Int32).toInt; have q : (4 : Int32).toInt = 4 := rfl; omega) (by show i.toInt + (4 : Int32).toInt ≤ _; have q : (4 : Int32).toInt = 4 := rfl; omega)
  have hq5 : (i + 5).toInt = i.toInt + 5 := i_add (by show _ ≤ i.toInt + (5 : Int32).toInt; have q : (5 : Int32).toInt = 5 := rfl; omega) (by show i.toInt + (5 : Int32).toInt ≤ _; have q : (5 : Int32).toInt = 5 := rfl; omega)
  refine lv_aload_n hx hb dL_law_305 rfl (lv_at hl 1 rfl) ?_
  refine lv_aload_n hx hb dL_law_306 rfl (lv_at hl 0 rfl) ?_
  refine lv_iload_n hx hb dL_law_307 rfl (lv_at hl 3 rfl) ?_
  refine lv_iconst (v := 1) hx hb dL_law_308 (by decide) ?_
  refine lv_iadd hx hb dL_law_309 ?_
  refine va_sld hx hb hX hbl hbA hS (i_in (by omega) (by omega)) dL_law_310 ?_
  rw [hs1]
  refine lv_aload_n hx hb dL_law_311 rfl (lv_at hl 0 rfl) ?_
  refine lv_iload_n hx hb dL_law_312 rfl (lv_at hl 3 rfl) ?_
  refine lv_iconst (v := 2) hx hb dL_law_313 (by decide) ?_
  refine lv_iadd hx hb dL_law_314 ?_
  refine va_sld hx hb hX hbl hbA hS (i_in (by omega) (by omega)) dL_law_315 ?_
  rw [hs2]
  refine cL_ro (As := [.int s1, .int s2]) (rest := []) ⟨hx, hb, hml, hown, hg⟩ (k_X11_of l D cs _ ad fa fq rv v a w fv fp s1 s2 iv1_0 iv1_1) ca_X11_of q3_36 ⟨rfl, rfl⟩ ⟨Nat.le_of_ble_eq_true rfl, Nat.le_of_ble_eq_true rfl⟩ (rc_main hK (pw_l hP)) hK hP hD hS hZ rfl hl.1 rfl (Nat.le_of_ble_eq_true rfl) ⟨Nat.le_of_ble_eq_true rfl, Nat.le_of_ble_eq_true rfl⟩ dL_law_316 (fun r_1 wr_1 => ?_)
  have wr_1_0 : True := wr_1
  refine lv_pop hx hb dL_law_319 rfl ?_
  refine lv_aload_n hx hb dL_law_320 rfl (lv_at hl 2 rfl) ?_
  refine lv_aload_n hx hb dL_law_321 rfl (lv_at hl 0 rfl) ?_
  refine lv_iload_n hx hb dL_law_322 rfl (lv_at hl 3 rfl) ?_
  refine lv_iconst (v := 1) hx hb dL_law_323 (by decide) ?_
  refine lv_iadd hx hb dL_law_324 ?_
  refine va_sld hx hb hX hbl hbA hS (i_in (by omega) (by omega)) dL_law_325 ?_
  rw [hs1]
  refine lv_aload_n hx hb dL_law_326 rfl (lv_at hl 0 rfl) ?_
  refine lv_iload_n hx hb dL_law_327 rfl (lv_at hl 3 rfl) ?_
  refine lv_iconst (v := 2) hx hb dL_law_328 (by decide) ?_
  refine lv_iadd hx hb dL_law_329 ?_
  refine va_sld hx hb hX hbl hbA hS (i_in (by omega) (by omega)) dL_law_330 ?_
  rw [hs2]
  refine cR_ro (As := [.int s1, .int s2]) (rest := []) ⟨hx, hb, hml, hown, hg⟩ (k_X12_of l D cs _ bd u b_ bw s1 s2 iu1_0 iu1_1) ca_X12_of q6_22 ⟨rfl, rfl⟩ ⟨Nat.le_of_ble_eq_true rfl, Nat.le_of_ble_eq_true rfl⟩ (rc_model hK (pw_r hP)) hK hP hD hS hZ rfl hl.1 rfl (Nat.le_of_ble_eq_true rfl) ⟨Nat.le_of_ble_eq_true rfl, Nat.le_of_ble_eq_true rfl⟩ dL_law_331 (fun r_3 wr_3 => ?_)
  have wr_3_0 : True := wr_3
  refine lv_pop hx hb dL_law_334 rfl ?_
  refine lv_goto (tgt := 1387) hx hb dL_law_335 (by decide) ?_
  have hI1 : CI v a fv := ⟨iv1_0, iv1_1, ia28_0, ia29_0, iv20_0, iv20_1, iv19_0, iv19_1, iv19_2, ia24_0, ia25_0, ifv14_0, iv4_0, iv4_1, ia18_0, iv24_0, iv24_1, iv25_0, iv25_1, iv25_2, iv26_0, iv26_1, ia19_0, iv5_0, iv5_1, iv6_0, iv6_1, iv6_2, iv11_0, iv11_1, iv14_0, iv14_1, iv0_0, iv0_1, iv0_2, ifv17_0, iv21_0, iv21_1, ia37_0, iv23_0, iv23_1, iv22_0, iv22_1⟩
  have hR1 : RI u b_ bw := ⟨iu1_0, iu1_1, ib67_0, ib66_0, iu8_0, iu8_1, ib10_0, ib11_0, iu9_0, iu9_1, iu9_2, iu15_0, iu15_1, hlaw, ib23_0, ib20_0, ib24_0, iu7_0, iu7_1, iu41_0, iu41_1, iu48_0, iu48_1, iu46_0, iu46_1, iu47_0, iu47_1, iu55_0, iu55_1, iu55_2, iu58_0, iu62_0, iu62_1, ib63_0, iu64_0, iu64_1⟩
  have hE1 : REL v a w fv u b_ bw := ⟨(show (v 1).toInt = (u 1).toInt by first | omega | assumption | exact e1), (show (v 4).toInt = (u 15).toInt by first | omega | assumption | exact e4), (show (v 21).toInt = (u 62).toInt by first | omega | assumption | exact e21), (show (v 22).toInt = (u 64).toInt by first | omega | assumption | exact e22), (show (fv 14 3) = (b_ 53) 0 by first | omega | assumption | exact es14), (show (fv 17 3) = (b_ 61) 0 by first | omega | assumption | exact es17), (show ((v 0).toInt < 0 ∧ (u 54).toInt = 0) ∨ (0 ≤ (v 0).toInt ∧ (u 54).toInt ≠ 0) by first | omega | assumption | exact eim), (show ∀ j, (a 37) j = (b_ 63) j by first | omega | assumption | exact ek), (show ∀ j, (a 38) j = (b_ 65) j by first | omega | assumption | exact et), (show SH (a 28) (a 29) w (b_ 66) (b_ 67) (bw 68) (v 21) by first | omega | assumption | exact esh)⟩
  exact kk ad rv v a w fv fp bd u b_ bw _ _ ls rfl rfl hI1 hR1 hE1 hP hD hS hl
set_option maxHeartbeats 8000000 in
set_option maxRecDepth 100000 in
theorem lc_feed {p : Program} {e : Env} {s : State} {m : MethodId} {below : List Frame} {meth : Method} {c : Code} (l : Launch) {b L : Nat} {xs : Nat → Int32} (C0 : lw_At p s m meth c b L xs) (hL : L ≤ 3072) {D : va_G} {cs : Nat → ClassId} {fa fq : Nat → Nat} (hK : va_K D vwCl (TY cs) s) (hZ : ZS (fun q : Nat => s.heap.size ≤ q) s) {x0 y0 : Nat} {i : Int32} (hi0 : 0 ≤ i.toInt) (hiL : i.toInt + 6 ≤ (L : Int)) (ad rv : Nat → Nat) (v : Nat → Int32) (a : Nat → Nat → Int32) (w : Nat → Nat → Int64) (fv fp : Nat → Nat → Int32) (bd : Nat → Nat) (u : Nat → Int32) (b_ : Nat → Nat → Int32) (bw : Nat → Nat → Int64) (H : Heap) (locs : List Loc) (ls : Array Slot) (hl : lv_has ls 4 [(0, .ref b), (1, .ref x0), (2, .ref y0), (3, .int i)]) (hx0 : ad 0 = x0) (hy0 : bd 0 = y0) (hI : CI v a fv) (hR : RI u b_ bw) (hE : REL v a w fv u b_ bw) (hP : va_P D vwCl (CW cs ad fa fq rv v a w fv fp ++ RW cs bd u b_ bw) H) (hD : va_D (fun q : Nat => s.heap.size ≤ q) (CW cs ad fa fq rv v a w fv fp ++ RW cs bd u b_ bw)) (hS : va_S (fun q : Nat => s.heap.size ≤ q) s.heap H locs)
    (kk : ∀ (ad rv : Nat → Nat) (v : Nat → Int32) (a : Nat → Nat → Int32) (w : Nat → Nat → Int64) (fv fp : Nat → Nat → Int32) (bd : Nat → Nat) (u : Nat → Int32) (b_ : Nat → Nat → Int32) (bw : Nat → Nat → Int64) (H : Heap) (locs : List Loc) (ls : Array Slot) (hx0 : ad 0 = x0) (hy0 : bd 0 = y0) (hI : CI v a fv) (hR : RI u b_ bw) (hE : REL v a w fv u b_ bw) (hP : va_P D vwCl (CW cs ad fa fq rv v a w fv fp ++ RW cs bd u b_ bw) H) (hD : va_D (fun q : Nat => s.heap.size ≤ q) (CW cs ad fa fq rv v a w fv fp ++ RW cs bd u b_ bw)) (hS : va_S (fun q : Nat => s.heap.size ≤ q) s.heap H locs) (hl : lv_has ls 4 [(0, .ref b), (1, .ref x0), (2, .ref y0), (3, .int i)]), W p l e room_1 s m #[Value.ref b] below meth c H locs 200 9000 (lw_Z below #[Value.ref b] s) (F0 m 1387 ls [])) : W p l e room_1 s m #[Value.ref b] below meth c H locs 200 9000 (lw_Z below #[Value.ref b] s) (F0 m 338 ls []) := by
  obtain ⟨hx, hb, hr, hml, hown, hts, hX, hbl, hlocks, hgv⟩ := id C0
  have hg : ∀ w ∈ gw, w.before #[Value.ref b] s = true := fun w h => hts w (gw_in w h)
  have hbA : ¬ (fun q : Nat => s.heap.size ≤ q) b := Nat.not_le.mpr hbl
  subst hx0
  subst hy0
  obtain ⟨iv1_0, iv1_1, ia28_0, ia29_0, iv20_0, iv20_1, iv19_0, iv19_1, iv19_2, ia24_0, ia25_0, ifv14_0, iv4_0, iv4_1, ia18_0, iv24_0, iv24_1, iv25_0, iv25_1, iv25_2, iv26_0, iv26_1, ia19_0, iv5_0, iv5_1, iv6_0, iv6_1, iv6_2, iv11_0, iv11_1, iv14_0, iv14_1, iv0_0, iv0_1, iv0_2, ifv17_0, iv21_0, iv21_1, ia37_0, iv23_0, iv23_1, iv22_0, iv22_1⟩ := id hI
  obtain ⟨iu1_0, iu1_1, ib67_0, ib66_0, iu8_0, iu8_1, ib10_0, ib11_0, iu9_0, iu9_1, iu9_2, iu15_0, iu15_1, hlaw, ib23_0, ib20_0, ib24_0, iu7_0, iu7_1, iu41_0, iu41_1, iu48_0, iu48_1, iu46_0, iu46_1, iu47_0, iu47_1, iu55_0, iu55_1, iu55_2, iu58_0, iu62_0, iu62_1, ib63_0, iu64_0, iu64_1⟩ := id hR
  obtain ⟨e1, e4, e21, e22, es14, es17, eim, ek, et, esh⟩ := id hE
  obtain ⟨s1, hs1⟩ : ∃ y, xs (i + 1).toNatClampNeg = y := ⟨_, rfl⟩
  obtain ⟨s2, hs2⟩ : ∃ y, xs (i + 2).toNatClampNeg = y := ⟨_, rfl⟩
  obtain ⟨s3, hs3⟩ : ∃ y, xs (i + 3).toNatClampNeg = y := ⟨_, rfl⟩
  obtain ⟨s4, hs4⟩ : ∃ y, xs (i + 4).toNatClampNeg = y := ⟨_, rfl⟩
  obtain ⟨s5, hs5⟩ : ∃ y, xs (i + 5).toNatClampNeg = y := ⟨_, rfl⟩
  have hq1 : (i + 1).toInt = i.toInt + 1 := i_add (by show _ ≤ i.toInt + (1 : Int32).toInt; have q : (1 : Int32).toInt = 1 := rfl; omega) (by show i.toInt + (1 : Int32).toInt ≤ _; have q : (1 : Int32).toInt = 1 := rfl; omega)
  have hq2 : (i + 2).toInt = i.toInt + 2 := i_add (by show _ ≤ i.toInt + (2 : Int32).toInt; have q : (2 : Int32).toInt = 2 := rfl; omega) (by show i.toInt + (2 : Int32).toInt ≤ _; have q : (2 : Int32).toInt = 2 := rfl; omega)
  have hq3 : (i + 3).toInt = i.toInt + 3 := i_add (by show _ ≤ i.toInt + (3 : Int32).toInt; have q : (3 : Int32).toInt = 3 := rfl; omega) (by show i.toInt + (3 : Int32).toInt ≤ _; have q : (3 : Int32).toInt = 3 := rfl; omega)
  have hq4 : (i + 4).toInt = i.toInt + 4 := i_add (by show _ ≤ i.toInt + (4 : Int32).toInt; have q : (4 : Int32).toInt = 4 := rfl; omega) (by show i.toInt + (4 : Int32).toInt ≤ _; have q : (4 : Int32).toInt = 4 := rfl; omega)
  have hq5 : (i + 5).toInt = i.toInt + 5 := i_add (by show _ ≤ i.toInt + (5 : Int32).toInt; have q : (5 : Int32).toInt = 5 := rfl; omega) (by show i.toInt + (5 : Int32).toInt ≤ _; have q : (5 : Int32).toInt = 5 := rfl; omega)
  refine lv_aload_n hx hb dL_law_338 rfl (lv_at hl 1 rfl) ?_
  refine lv_aload_n hx hb dL_law_339 rfl (lv_at hl 0 rfl) ?_
  refine lv_iload_n hx hb dL_law_340 rfl (lv_at hl 3 rfl) ?_
  refine lv_iconst (v := 1) hx hb dL_law_341 (by decide) ?_
  refine lv_iadd hx hb dL_law_342 ?_
  refine va_sld hx hb hX hbl hbA hS (i_in (by omega) (by omega)) dL_law_343 ?_
  rw [hs1]
  refine cL_i (As := [.int s1]) (rest := []) ⟨hx, hb, hml, hown, hg⟩ (k_X11_feed l D cs _ ad fa fq rv v a w fv fp s1 iv4_0 iv4_1) ca_X11_feed q3_40 ⟨rfl, rfl⟩ ⟨Nat.le_of_ble_eq_true rfl, Nat.le_of_ble_eq_true rfl⟩ (rc_main hK (pw_l hP)) hK hP hD hS hZ rfl hl.1 rfl (Nat.le_of_ble_eq_true rfl) ⟨Nat.le_of_ble_eq_true rfl, Nat.le_of_ble_eq_true rfl⟩ dL_law_344 (fun r_1 z_4 H locs wr_1 hP hD hS => ?_)
  obtain ⟨o_v4_2, o_a15_3⟩ := z_4
  have hP : va_P D vwCl (CW cs ad fa fq rv (va_up v 4 o_v4_2) (va_up a 15 o_a15_3) w fv fp ++ RW cs bd u b_ bw) H := hP
  have hD : va_D (fun q : Nat => s.heap.size ≤ q) (CW cs ad fa fq rv (va_up v 4 o_v4_2) (va_up a 15 o_a15_3) w fv fp ++ RW cs bd u b_ bw) := hD
  obtain ⟨wr_1_0, wr_1_1, wr_1_2⟩ : (((0 ≤ s1.toInt ∧ s1.toInt ≤ 255) ∧ (v 4).toInt < 120 ∧ r_1.toInt = (v 4).toInt + 1 ∧ o_v4_2.toInt = (v 4).toInt + 1) ∨ ((0 ≤ s1.toInt ∧ s1.toInt ≤ 255) ∧ (v 4).toInt = 120 ∧ r_1.toInt = -3 ∧ o_v4_2.toInt = (v 4).toInt) ∨ (¬ (0 ≤ s1.toInt ∧ s1.toInt ≤ 255) ∧ r_1.toInt = -1 ∧ o_v4_2.toInt = (v 4).toInt)) ∧ (0 ≤ o_v4_2.toInt) ∧ (o_v4_2.toInt ≤ 120) := wr_1
  refine lv_pop hx hb dL_law_347 rfl ?_
  refine lv_aload_n hx hb dL_law_348 rfl (lv_at hl 2 rfl) ?_
  refine lv_aload_n hx hb dL_law_349 rfl (lv_at hl 0 rfl) ?_
  refine lv_iload_n hx hb dL_law_350 rfl (lv_at hl 3 rfl) ?_
  refine lv_iconst (v := 1) hx hb dL_law_351 (by decide) ?_
  refine lv_iadd hx hb dL_law_352 ?_
  refine va_sld hx hb hX hbl hbA hS (i_in (by omega) (by omega)) dL_law_353 ?_
  rw [hs1]
  refine cR_i (As := [.int s1]) (rest := []) ⟨hx, hb, hml, hown, hg⟩ (k_X12_feed l D cs _ bd u b_ bw s1 iu15_0 iu15_1) ca_X12_feed q6_26 ⟨rfl, rfl⟩ ⟨Nat.le_of_ble_eq_true rfl, Nat.le_of_ble_eq_true rfl⟩ (rc_model hK (pw_r hP)) hK hP hD hS hZ rfl hl.1 rfl (Nat.le_of_ble_eq_true rfl) ⟨Nat.le_of_ble_eq_true rfl, Nat.le_of_ble_eq_true rfl⟩ dL_law_354 (fun r_5 z_8 H locs wr_5 hP hD hS => ?_)
  obtain ⟨o_u15_6, o_b14_7⟩ := z_8
  have hP : va_P D vwCl (CW cs ad fa fq rv (va_up v 4 o_v4_2) (va_up a 15 o_a15_3) w fv fp ++ RW cs bd (va_up u 15 o_u15_6) (va_up b_ 14 o_b14_7) bw) H := hP
  have hD : va_D (fun q : Nat => s.heap.size ≤ q) (CW cs ad fa fq rv (va_up v 4 o_v4_2) (va_up a 15 o_a15_3) w fv fp ++ RW cs bd (va_up u 15 o_u15_6) (va_up b_ 14 o_b14_7) bw) := hD
  obtain ⟨wr_5_0, wr_5_1, wr_5_2⟩ : (((0 ≤ s1.toInt ∧ s1.toInt ≤ 255) ∧ (u 15).toInt < 120 ∧ r_5.toInt = (u 15).toInt + 1 ∧ o_u15_6.toInt = (u 15).toInt + 1) ∨ ((0 ≤ s1.toInt ∧ s1.toInt ≤ 255) ∧ (u 15).toInt = 120 ∧ r_5.toInt = -3 ∧ o_u15_6.toInt = (u 15).toInt) ∨ (¬ (0 ≤ s1.toInt ∧ s1.toInt ≤ 255) ∧ r_5.toInt = -1 ∧ o_u15_6.toInt = (u 15).toInt)) ∧ (0 ≤ o_u15_6.toInt) ∧ (o_u15_6.toInt ≤ 120) := wr_5
  refine lv_pop hx hb dL_law_357 rfl ?_
  refine lv_goto (tgt := 1387) hx hb dL_law_358 (by decide) ?_
  have hI1 : CI (va_up v 4 o_v4_2) (va_up a 15 o_a15_3) fv := ⟨iv1_0, iv1_1, ia28_0, ia29_0, iv20_0, iv20_1, iv19_0, iv19_1, iv19_2, ia24_0, ia25_0, ifv14_0, (show 0 ≤ o_v4_2.toInt by first | assumption | omega), (show o_v4_2.toInt ≤ 120 by first | assumption | omega), ia18_0, iv24_0, iv24_1, iv25_0, iv25_1, iv25_2, iv26_0, iv26_1, ia19_0, iv5_0, iv5_1, iv6_0, iv6_1, iv6_2, iv11_0, iv11_1, iv14_0, iv14_1, iv0_0, iv0_1, iv0_2, ifv17_0, iv21_0, iv21_1, ia37_0, iv23_0, iv23_1, iv22_0, iv22_1⟩
  have hR1 : RI (va_up u 15 o_u15_6) (va_up b_ 14 o_b14_7) bw := ⟨iu1_0, iu1_1, ib67_0, ib66_0, iu8_0, iu8_1, ib10_0, ib11_0, iu9_0, iu9_1, iu9_2, (show 0 ≤ o_u15_6.toInt by first | assumption | omega), (show o_u15_6.toInt ≤ 120 by first | assumption | omega), hlaw, ib23_0, ib20_0, ib24_0, iu7_0, iu7_1, iu41_0, iu41_1, iu48_0, iu48_1, iu46_0, iu46_1, iu47_0, iu47_1, iu55_0, iu55_1, iu55_2, iu58_0, iu62_0, iu62_1, ib63_0, iu64_0, iu64_1⟩
  have hE1 : REL (va_up v 4 o_v4_2) (va_up a 15 o_a15_3) w fv (va_up u 15 o_u15_6) (va_up b_ 14 o_b14_7) bw := ⟨(show (v 1).toInt = (u 1).toInt by first | omega | assumption | exact e1), (show (o_v4_2).toInt = (o_u15_6).toInt by first | omega | assumption | exact e4), (show (v 21).toInt = (u 62).toInt by first | omega | assumption | exact e21), (show (v 22).toInt = (u 64).toInt by first | omega | assumption | exact e22), (show (fv 14 3) = (b_ 53) 0 by first | omega | assumption | exact es14), (show (fv 17 3) = (b_ 61) 0 by first | omega | assumption | exact es17), (show ((v 0).toInt < 0 ∧ (u 54).toInt = 0) ∨ (0 ≤ (v 0).toInt ∧ (u 54).toInt ≠ 0) by first | omega | assumption | exact eim), (show ∀ j, (a 37) j = (b_ 63) j by first | omega | assumption | exact ek), (show ∀ j, (a 38) j = (b_ 65) j by first | omega | assumption | exact et), (show SH (a 28) (a 29) w (b_ 66) (b_ 67) (bw 68) (v 21) by first | omega | assumption | exact esh)⟩
  exact kk ad rv (va_up v 4 o_v4_2) (va_up a 15 o_a15_3) w fv fp bd (va_up u 15 o_u15_6) (va_up b_ 14 o_b14_7) bw _ _ ls rfl rfl hI1 hR1 hE1 hP hD hS hl
set_option maxHeartbeats 8000000 in
set_option maxRecDepth 100000 in
theorem lc_law {p : Program} {e : Env} {s : State} {m : MethodId} {below : List Frame} {meth : Method} {c : Code} (l : Launch) {b L : Nat} {xs : Nat → Int32} (C0 : lw_At p s m meth c b L xs) (hL : L ≤ 3072) {D : va_G} {cs : Nat → ClassId} {fa fq : Nat → Nat} (hK : va_K D vwCl (TY cs) s) (hZ : ZS (fun q : Nat => s.heap.size ≤ q) s) {x0 y0 : Nat} {i : Int32} (hi0 : 0 ≤ i.toInt) (hiL : i.toInt + 6 ≤ (L : Int)) (ad rv : Nat → Nat) (v : Nat → Int32) (a : Nat → Nat → Int32) (w : Nat → Nat → Int64) (fv fp : Nat → Nat → Int32) (bd : Nat → Nat) (u : Nat → Int32) (b_ : Nat → Nat → Int32) (bw : Nat → Nat → Int64) (H : Heap) (locs : List Loc) (ls : Array Slot) (hl : lv_has ls 4 [(0, .ref b), (1, .ref x0), (2, .ref y0), (3, .int i)]) (hx0 : ad 0 = x0) (hy0 : bd 0 = y0) (hI : CI v a fv) (hR : RI u b_ bw) (hE : REL v a w fv u b_ bw) (hP : va_P D vwCl (CW cs ad fa fq rv v a w fv fp ++ RW cs bd u b_ bw) H) (hD : va_D (fun q : Nat => s.heap.size ≤ q) (CW cs ad fa fq rv v a w fv fp ++ RW cs bd u b_ bw)) (hS : va_S (fun q : Nat => s.heap.size ≤ q) s.heap H locs)
    (kk : ∀ (ad rv : Nat → Nat) (v : Nat → Int32) (a : Nat → Nat → Int32) (w : Nat → Nat → Int64) (fv fp : Nat → Nat → Int32) (bd : Nat → Nat) (u : Nat → Int32) (b_ : Nat → Nat → Int32) (bw : Nat → Nat → Int64) (H : Heap) (locs : List Loc) (ls : Array Slot) (hx0 : ad 0 = x0) (hy0 : bd 0 = y0) (hI : CI v a fv) (hR : RI u b_ bw) (hE : REL v a w fv u b_ bw) (hP : va_P D vwCl (CW cs ad fa fq rv v a w fv fp ++ RW cs bd u b_ bw) H) (hD : va_D (fun q : Nat => s.heap.size ≤ q) (CW cs ad fa fq rv v a w fv fp ++ RW cs bd u b_ bw)) (hS : va_S (fun q : Nat => s.heap.size ≤ q) s.heap H locs) (hl : lv_has ls 4 [(0, .ref b), (1, .ref x0), (2, .ref y0), (3, .int i)]), W p l e room_1 s m #[Value.ref b] below meth c H locs 200 9000 (lw_Z below #[Value.ref b] s) (F0 m 1387 ls [])) : W p l e room_1 s m #[Value.ref b] below meth c H locs 200 9000 (lw_Z below #[Value.ref b] s) (F0 m 361 ls []) := by
  obtain ⟨hx, hb, hr, hml, hown, hts, hX, hbl, hlocks, hgv⟩ := id C0
  have hg : ∀ w ∈ gw, w.before #[Value.ref b] s = true := fun w h => hts w (gw_in w h)
  have hbA : ¬ (fun q : Nat => s.heap.size ≤ q) b := Nat.not_le.mpr hbl
  subst hx0
  subst hy0
  obtain ⟨iv1_0, iv1_1, ia28_0, ia29_0, iv20_0, iv20_1, iv19_0, iv19_1, iv19_2, ia24_0, ia25_0, ifv14_0, iv4_0, iv4_1, ia18_0, iv24_0, iv24_1, iv25_0, iv25_1, iv25_2, iv26_0, iv26_1, ia19_0, iv5_0, iv5_1, iv6_0, iv6_1, iv6_2, iv11_0, iv11_1, iv14_0, iv14_1, iv0_0, iv0_1, iv0_2, ifv17_0, iv21_0, iv21_1, ia37_0, iv23_0, iv23_1, iv22_0, iv22_1⟩ := id hI
  obtain ⟨iu1_0, iu1_1, ib67_0, ib66_0, iu8_0, iu8_1, ib10_0, ib11_0, iu9_0, iu9_1, iu9_2, iu15_0, iu15_1, hlaw, ib23_0, ib20_0, ib24_0, iu7_0, iu7_1, iu41_0, iu41_1, iu48_0, iu48_1, iu46_0, iu46_1, iu47_0, iu47_1, iu55_0, iu55_1, iu55_2, iu58_0, iu62_0, iu62_1, ib63_0, iu64_0, iu64_1⟩ := id hR
  obtain ⟨e1, e4, e21, e22, es14, es17, eim, ek, et, esh⟩ := id hE
  obtain ⟨s1, hs1⟩ : ∃ y, xs (i + 1).toNatClampNeg = y := ⟨_, rfl⟩
  obtain ⟨s2, hs2⟩ : ∃ y, xs (i + 2).toNatClampNeg = y := ⟨_, rfl⟩
  obtain ⟨s3, hs3⟩ : ∃ y, xs (i + 3).toNatClampNeg = y := ⟨_, rfl⟩
  obtain ⟨s4, hs4⟩ : ∃ y, xs (i + 4).toNatClampNeg = y := ⟨_, rfl⟩
  obtain ⟨s5, hs5⟩ : ∃ y, xs (i + 5).toNatClampNeg = y := ⟨_, rfl⟩
  have hq1 : (i + 1).toInt = i.toInt + 1 := i_add (by show _ ≤ i.toInt + (1 : Int32).toInt; have q : (1 : Int32).toInt = 1 := rfl; omega) (by show i.toInt + (1 : Int32).toInt ≤ _; have q : (1 : Int32).toInt = 1 := rfl; omega)
  have hq2 : (i + 2).toInt = i.toInt + 2 := i_add (by show _ ≤ i.toInt + (2 : Int32).toInt; have q : (2 : Int32).toInt = 2 := rfl; omega) (by show i.toInt + (2 : Int32).toInt ≤ _; have q : (2 : Int32).toInt = 2 := rfl; omega)
  have hq3 : (i + 3).toInt = i.toInt + 3 := i_add (by show _ ≤ i.toInt + (3 : Int32).toInt; have q : (3 : Int32).toInt = 3 := rfl; omega) (by show i.toInt + (3 : Int32).toInt ≤ _; have q : (3 : Int32).toInt = 3 := rfl; omega)
  have hq4 : (i + 4).toInt = i.toInt + 4 := i_add (by show _ ≤ i.toInt + (4 : Int32).toInt; have q : (4 : Int32).toInt = 4 := rfl; omega) (by show i.toInt + (4 : Int32).toInt ≤ _; have q : (4 : Int32).toInt = 4 := rfl; omega)
  have hq5 : (i + 5).toInt = i.toInt + 5 := i_add (by show _ ≤ i.toInt + (5 : Int32).toInt; have q : (5 : Int32).toInt = 5 := rfl; omega) (by show i.toInt + (5 : Int32).toInt ≤ _; have q : (5 : Int32).toInt = 5 := rfl; omega)
  refine lv_aload_n hx hb dL_law_361 rfl (lv_at hl 1 rfl) ?_
  refine cL_i (As := []) (rest := []) ⟨hx, hb, hml, hown, hg⟩ (k_X11_law l D cs _ ad fa fq rv v a w fv fp  ia18_0 iv4_0 iv4_1 iv24_0 iv24_1 iv25_0 iv25_1 iv25_2 iv26_0 iv26_1 ia19_0 iv5_0 iv5_1) ca_X11_law q3_48 ⟨rfl, rfl⟩ ⟨Nat.le_of_ble_eq_true rfl, Nat.le_of_ble_eq_true rfl⟩ (rc_main hK (pw_l hP)) hK hP hD hS hZ rfl hl.1 rfl (Nat.le_of_ble_eq_true rfl) ⟨Nat.le_of_ble_eq_true rfl, Nat.le_of_ble_eq_true rfl⟩ dL_law_362 (fun r_1 z_11 H locs wr_1 hP hD hS => ?_)
  obtain ⟨o_ad_2, o_a_3, o_rv0_4, o_rv1_5, o_v26_6, o_v25_7, o_v24_8, o_v4_9, o_v5_10⟩ := z_11
  have hP : va_P D vwCl (CW cs o_ad_2 fa fq (va_up (va_up rv 0 o_rv0_4) 1 o_rv1_5) (va_up (va_up (va_up (va_up (va_up v 26 o_v26_6) 25 o_v25_7) 24 o_v24_8) 4 o_v4_9) 5 o_v5_10) o_a_3 w fv fp ++ RW cs bd u b_ bw) H := hP
  have hD : va_D (fun q : Nat => s.heap.size ≤ q) (CW cs o_ad_2 fa fq (va_up (va_up rv 0 o_rv0_4) 1 o_rv1_5) (va_up (va_up (va_up (va_up (va_up v 26 o_v26_6) 25 o_v25_7) 24 o_v24_8) 4 o_v4_9) 5 o_v5_10) o_a_3 w fv fp ++ RW cs bd u b_ bw) := hD
  obtain ⟨wr_1_0, wr_1_1, wr_1_2, wr_1_3, wr_1_4, wr_1_5, wr_1_6, wr_1_7, wr_1_8, wr_1_9, wr_1_10, wr_1_11, wr_1_12, wr_1_13, wr_1_14, wr_1_15, wr_1_16⟩ : (∀ k : Nat, k ≠ 18 → k ≠ 19 → o_ad_2 k = ad k) ∧ (∀ k : Nat, k ≠ 18 → k ≠ 19 → o_a_3 k = a k) ∧ (AB (-1000) 20000 (o_a_3 18)) ∧ (AB (-1000) 20000 (o_a_3 19)) ∧ (o_v4_9.toInt = 0) ∧ (r_1.toInt = 1 ∨ r_1.toInt ≤ -100) ∧ (0 ≤ o_v26_6.toInt) ∧ (o_v26_6.toInt ≤ 256) ∧ (0 ≤ o_v25_7.toInt) ∧ (o_v25_7.toInt ≤ 120) ∧ (o_v25_7.toInt ≤ o_v24_8.toInt) ∧ (0 ≤ o_v24_8.toInt) ∧ (o_v24_8.toInt ≤ 120) ∧ (0 ≤ o_v4_9.toInt) ∧ (o_v4_9.toInt ≤ 120) ∧ (0 ≤ o_v5_10.toInt) ∧ (o_v5_10.toInt ≤ 256) := wr_1
  refine lv_pop hx hb dL_law_365 rfl ?_
  refine lv_aload_n hx hb dL_law_366 rfl (lv_at hl 2 rfl) ?_
  refine cR_i (As := []) (rest := []) ⟨hx, hb, hml, hown, hg⟩ (k_X12_law l D cs _ bd u b_ bw  hlaw iu15_0 iu15_1 ib23_0 ib20_0 ib24_0) ca_X12_law q6_30 ⟨rfl, rfl⟩ ⟨Nat.le_of_ble_eq_true rfl, Nat.le_of_ble_eq_true rfl⟩ (rc_model hK (pw_r hP)) hK hP hD hS hZ rfl hl.1 rfl (Nat.le_of_ble_eq_true rfl) ⟨Nat.le_of_ble_eq_true rfl, Nat.le_of_ble_eq_true rfl⟩ dL_law_367 (fun r_12 z_24 H locs wr_12 hP hD hS => ?_)
  obtain ⟨o_u15_13, o_u16_14, o_u17_15, o_u18_16, o_u19_17, o_u27_18, o_b20_19, o_b21_20, o_b22_21, o_b23_22, o_b24_23⟩ := z_24
  have hP : va_P D vwCl (CW cs o_ad_2 fa fq (va_up (va_up rv 0 o_rv0_4) 1 o_rv1_5) (va_up (va_up (va_up (va_up (va_up v 26 o_v26_6) 25 o_v25_7) 24 o_v24_8) 4 o_v4_9) 5 o_v5_10) o_a_3 w fv fp ++ RW cs bd (va_up (va_up (va_up (va_up (va_up (va_up u 15 o_u15_13) 16 o_u16_14) 17 o_u17_15) 18 o_u18_16) 19 o_u19_17) 27 o_u27_18) (va_up (va_up (va_up (va_up (va_up b_ 20 o_b20_19) 21 o_b21_20) 22 o_b22_21) 23 o_b23_22) 24 o_b24_23) bw) H := hP
  have hD : va_D (fun q : Nat => s.heap.size ≤ q) (CW cs o_ad_2 fa fq (va_up (va_up rv 0 o_rv0_4) 1 o_rv1_5) (va_up (va_up (va_up (va_up (va_up v 26 o_v26_6) 25 o_v25_7) 24 o_v24_8) 4 o_v4_9) 5 o_v5_10) o_a_3 w fv fp ++ RW cs bd (va_up (va_up (va_up (va_up (va_up (va_up u 15 o_u15_13) 16 o_u16_14) 17 o_u17_15) 18 o_u18_16) 19 o_u19_17) 27 o_u27_18) (va_up (va_up (va_up (va_up (va_up b_ 20 o_b20_19) 21 o_b21_20) 22 o_b22_21) 23 o_b23_22) 24 o_b24_23) bw) := hD
  obtain ⟨wr_12_0, wr_12_1, wr_12_2, wr_12_3, wr_12_4, wr_12_5, wr_12_6⟩ : (LAWOK o_b20_19 o_b21_20 o_b22_21 o_b23_22 o_b24_23) ∧ (o_u15_13.toInt = 0) ∧ (0 ≤ o_u15_13.toInt) ∧ (o_u15_13.toInt ≤ 120) ∧ (AB (-128) 127 o_b20_19) ∧ (AB (-32768) 32767 o_b23_22) ∧ (AB (-32768) 32767 o_b24_23) := wr_12
  refine lv_pop hx hb dL_law_370 rfl ?_
  refine lv_goto (tgt := 1387) hx hb dL_law_371 (by decide) ?_
  have hI1 : CI (va_up (va_up (va_up (va_up (va_up v 26 o_v26_6) 25 o_v25_7) 24 o_v24_8) 4 o_v4_9) 5 o_v5_10) o_a_3 fv := ⟨iv1_0, iv1_1, (show AB (-1) 5 (o_a_3 28) from by rw [wr_1_1 28 (by decide) (by decide)]; exact ia28_0), (show AB (-1) 60 (o_a_3 29) from by rw [wr_1_1 29 (by decide) (by decide)]; exact ia29_0), iv20_0, iv20_1, iv19_0, iv19_1, iv19_2, (show AB 0 7 (o_a_3 24) from by rw [wr_1_1 24 (by decide) (by decide)]; exact ia24_0), (show AB 0 7 (o_a_3 25) from by rw [wr_1_1 25 (by decide) (by decide)]; exact ia25_0), ifv14_0, (show 0 ≤ o_v4_9.toInt by first | assumption | omega), (show o_v4_9.toInt ≤ 120 by first | assumption | omega), wr_1_2, (show 0 ≤ o_v24_8.toInt by first | assumption | omega), (show o_v24_8.toInt ≤ 120 by first | assumption | omega), (show 0 ≤ o_v25_7.toInt by first | assumption | omega), (show o_v25_7.toInt ≤ 120 by first | assumption | omega), (show o_v25_7.toInt ≤ o_v24_8.toInt by first | assumption | omega), (show 0 ≤ o_v26_6.toInt by first | assumption | omega), (show o_v26_6.toInt ≤ 256 by first | assumption | omega), wr_1_3, (show 0 ≤ o_v5_10.toInt by first | assumption | omega), (show o_v5_10.toInt ≤ 256 by first | assumption | omega), iv6_0, iv6_1, (show DOK (v 6) (o_a_3 20) (v 1) from by rw [wr_1_1 20 (by decide) (by decide)]; exact iv6_2), iv11_0, iv11_1, iv14_0, iv14_1, iv0_0, iv0_1, iv0_2, ifv17_0, iv21_0, iv21_1, (show AB 0 7 (o_a_3 37) from by rw [wr_1_1 37 (by decide) (by decide)]; exact ia37_0), iv23_0, iv23_1, iv22_0, iv22_1⟩
  have hR1 : RI (va_up (va_up (va_up (va_up (va_up (va_up u 15 o_u15_13) 16 o_u16_14) 17 o_u17_15) 18 o_u18_16) 19 o_u19_17) 27 o_u27_18) (va_up (va_up (va_up (va_up (va_up b_ 20 o_b20_19) 21 o_b21_20) 22 o_b22_21) 23 o_b23_22) 24 o_b24_23) bw := ⟨iu1_0, iu1_1, ib67_0, ib66_0, iu8_0, iu8_1, ib10_0, ib11_0, iu9_0, iu9_1, iu9_2, (show 0 ≤ o_u15_13.toInt by first | assumption | omega), (show o_u15_13.toInt ≤ 120 by first | assumption | omega), wr_12_0, wr_12_5, wr_12_4, wr_12_6, iu7_0, iu7_1, iu41_0, iu41_1, iu48_0, iu48_1, iu46_0, iu46_1, iu47_0, iu47_1, iu55_0, iu55_1, iu55_2, iu58_0, iu62_0, iu62_1, ib63_0, iu64_0, iu64_1⟩
  have hE1 : REL (va_up (va_up (va_up (va_up (va_up v 26 o_v26_6) 25 o_v25_7) 24 o_v24_8) 4 o_v4_9) 5 o_v5_10) o_a_3 w fv (va_up (va_up (va_up (va_up (va_up (va_up u 15 o_u15_13) 16 o_u16_14) 17 o_u17_15) 18 o_u18_16) 19 o_u19_17) 27 o_u27_18) (va_up (va_up (va_up (va_up (va_up b_ 20 o_b20_19) 21 o_b21_20) 22 o_b22_21) 23 o_b23_22) 24 o_b24_23) bw := ⟨(show (v 1).toInt = (u 1).toInt by first | omega | assumption | exact e1), (show (o_v4_9).toInt = (o_u15_13).toInt by first | omega | assumption | exact e4), (show (v 21).toInt = (u 62).toInt by first | omega | assumption | exact e21), (show (v 22).toInt = (u 64).toInt by first | omega | assumption | exact e22), (show (fv 14 3) = (b_ 53) 0 by first | omega | assumption | exact es14), (show (fv 17 3) = (b_ 61) 0 by first | omega | assumption | exact es17), (show ((v 0).toInt < 0 ∧ (u 54).toInt = 0) ∨ (0 ≤ (v 0).toInt ∧ (u 54).toInt ≠ 0) by first | omega | assumption | exact eim), (show ∀ j, (o_a_3 37) j = (b_ 63) j by rw [wr_1_1 37 (by decide) (by decide)]; exact ek), (show ∀ j, (o_a_3 38) j = (b_ 65) j by rw [wr_1_1 38 (by decide) (by decide)]; exact et), (show SH (o_a_3 28) (o_a_3 29) w (b_ 66) (b_ 67) (bw 68) (v 21) by rw [wr_1_1 28 (by decide) (by decide), wr_1_1 29 (by decide) (by decide)]; exact esh)⟩
  exact kk o_ad_2 (va_up (va_up rv 0 o_rv0_4) 1 o_rv1_5) (va_up (va_up (va_up (va_up (va_up v 26 o_v26_6) 25 o_v25_7) 24 o_v24_8) 4 o_v4_9) 5 o_v5_10) o_a_3 w fv fp bd (va_up (va_up (va_up (va_up (va_up (va_up u 15 o_u15_13) 16 o_u16_14) 17 o_u17_15) 18 o_u18_16) 19 o_u19_17) 27 o_u27_18) (va_up (va_up (va_up (va_up (va_up b_ 20 o_b20_19) 21 o_b21_20) 22 o_b22_21) 23 o_b23_22) 24 o_b24_23) bw _ _ ls (wr_1_0 0 (by decide) (by decide)) rfl hI1 hR1 hE1 hP hD hS hl
set_option maxHeartbeats 8000000 in
set_option maxRecDepth 100000 in
theorem lc_loud {p : Program} {e : Env} {s : State} {m : MethodId} {below : List Frame} {meth : Method} {c : Code} (l : Launch) {b L : Nat} {xs : Nat → Int32} (C0 : lw_At p s m meth c b L xs) (hL : L ≤ 3072) {D : va_G} {cs : Nat → ClassId} {fa fq : Nat → Nat} (hK : va_K D vwCl (TY cs) s) (hZ : ZS (fun q : Nat => s.heap.size ≤ q) s) {x0 y0 : Nat} {i : Int32} (hi0 : 0 ≤ i.toInt) (hiL : i.toInt + 6 ≤ (L : Int)) (ad rv : Nat → Nat) (v : Nat → Int32) (a : Nat → Nat → Int32) (w : Nat → Nat → Int64) (fv fp : Nat → Nat → Int32) (bd : Nat → Nat) (u : Nat → Int32) (b_ : Nat → Nat → Int32) (bw : Nat → Nat → Int64) (H : Heap) (locs : List Loc) (ls : Array Slot) (hl : lv_has ls 4 [(0, .ref b), (1, .ref x0), (2, .ref y0), (3, .int i)]) (hx0 : ad 0 = x0) (hy0 : bd 0 = y0) (hI : CI v a fv) (hR : RI u b_ bw) (hE : REL v a w fv u b_ bw) (hP : va_P D vwCl (CW cs ad fa fq rv v a w fv fp ++ RW cs bd u b_ bw) H) (hD : va_D (fun q : Nat => s.heap.size ≤ q) (CW cs ad fa fq rv v a w fv fp ++ RW cs bd u b_ bw)) (hS : va_S (fun q : Nat => s.heap.size ≤ q) s.heap H locs)
    (kk : ∀ (ad rv : Nat → Nat) (v : Nat → Int32) (a : Nat → Nat → Int32) (w : Nat → Nat → Int64) (fv fp : Nat → Nat → Int32) (bd : Nat → Nat) (u : Nat → Int32) (b_ : Nat → Nat → Int32) (bw : Nat → Nat → Int64) (H : Heap) (locs : List Loc) (ls : Array Slot) (hx0 : ad 0 = x0) (hy0 : bd 0 = y0) (hI : CI v a fv) (hR : RI u b_ bw) (hE : REL v a w fv u b_ bw) (hP : va_P D vwCl (CW cs ad fa fq rv v a w fv fp ++ RW cs bd u b_ bw) H) (hD : va_D (fun q : Nat => s.heap.size ≤ q) (CW cs ad fa fq rv v a w fv fp ++ RW cs bd u b_ bw)) (hS : va_S (fun q : Nat => s.heap.size ≤ q) s.heap H locs) (hl : lv_has ls 4 [(0, .ref b), (1, .ref x0), (2, .ref y0), (3, .int i)]), W p l e room_1 s m #[Value.ref b] below meth c H locs 200 9000 (lw_Z below #[Value.ref b] s) (F0 m 1387 ls [])) : W p l e room_1 s m #[Value.ref b] below meth c H locs 200 9000 (lw_Z below #[Value.ref b] s) (F0 m 374 ls []) := by
  obtain ⟨hx, hb, hr, hml, hown, hts, hX, hbl, hlocks, hgv⟩ := id C0
  have hg : ∀ w ∈ gw, w.before #[Value.ref b] s = true := fun w h => hts w (gw_in w h)
  have hbA : ¬ (fun q : Nat => s.heap.size ≤ q) b := Nat.not_le.mpr hbl
  subst hx0
  subst hy0
  obtain ⟨iv1_0, iv1_1, ia28_0, ia29_0, iv20_0, iv20_1, iv19_0, iv19_1, iv19_2, ia24_0, ia25_0, ifv14_0, iv4_0, iv4_1, ia18_0, iv24_0, iv24_1, iv25_0, iv25_1, iv25_2, iv26_0, iv26_1, ia19_0, iv5_0, iv5_1, iv6_0, iv6_1, iv6_2, iv11_0, iv11_1, iv14_0, iv14_1, iv0_0, iv0_1, iv0_2, ifv17_0, iv21_0, iv21_1, ia37_0, iv23_0, iv23_1, iv22_0, iv22_1⟩ := id hI
  obtain ⟨iu1_0, iu1_1, ib67_0, ib66_0, iu8_0, iu8_1, ib10_0, ib11_0, iu9_0, iu9_1, iu9_2, iu15_0, iu15_1, hlaw, ib23_0, ib20_0, ib24_0, iu7_0, iu7_1, iu41_0, iu41_1, iu48_0, iu48_1, iu46_0, iu46_1, iu47_0, iu47_1, iu55_0, iu55_1, iu55_2, iu58_0, iu62_0, iu62_1, ib63_0, iu64_0, iu64_1⟩ := id hR
  obtain ⟨e1, e4, e21, e22, es14, es17, eim, ek, et, esh⟩ := id hE
  obtain ⟨s1, hs1⟩ : ∃ y, xs (i + 1).toNatClampNeg = y := ⟨_, rfl⟩
  obtain ⟨s2, hs2⟩ : ∃ y, xs (i + 2).toNatClampNeg = y := ⟨_, rfl⟩
  obtain ⟨s3, hs3⟩ : ∃ y, xs (i + 3).toNatClampNeg = y := ⟨_, rfl⟩
  obtain ⟨s4, hs4⟩ : ∃ y, xs (i + 4).toNatClampNeg = y := ⟨_, rfl⟩
  obtain ⟨s5, hs5⟩ : ∃ y, xs (i + 5).toNatClampNeg = y := ⟨_, rfl⟩
  have hq1 : (i + 1).toInt = i.toInt + 1 := i_add (by show _ ≤ i.toInt + (1 : Int32).toInt; have q : (1 : Int32).toInt = 1 := rfl; omega) (by show i.toInt + (1 : Int32).toInt ≤ _; have q : (1 : Int32).toInt = 1 := rfl; omega)
  have hq2 : (i + 2).toInt = i.toInt + 2 := i_add (by show _ ≤ i.toInt + (2 : Int32).toInt; have q : (2 : Int32).toInt = 2 := rfl; omega) (by show i.toInt + (2 : Int32).toInt ≤ _; have q : (2 : Int32).toInt = 2 := rfl; omega)
  have hq3 : (i + 3).toInt = i.toInt + 3 := i_add (by show _ ≤ i.toInt + (3 : Int32).toInt; have q : (3 : Int32).toInt = 3 := rfl; omega) (by show i.toInt + (3 : Int32).toInt ≤ _; have q : (3 : Int32).toInt = 3 := rfl; omega)
  have hq4 : (i + 4).toInt = i.toInt + 4 := i_add (by show _ ≤ i.toInt + (4 : Int32).toInt; have q : (4 : Int32).toInt = 4 := rfl; omega) (by show i.toInt + (4 : Int32).toInt ≤ _; have q : (4 : Int32).toInt = 4 := rfl; omega)
  have hq5 : (i + 5).toInt = i.toInt + 5 := i_add (by show _ ≤ i.toInt + (5 : Int32).toInt; have q : (5 : Int32).toInt = 5 := rfl; omega) (by show i.toInt + (5 : Int32).toInt ≤ _; have q : (5 : Int32).toInt = 5 := rfl; omega)
  refine lv_aload_n hx hb dL_law_374 rfl (lv_at hl 1 rfl) ?_
  refine lv_aload_n hx hb dL_law_375 rfl (lv_at hl 0 rfl) ?_
  refine lv_iload_n hx hb dL_law_376 rfl (lv_at hl 3 rfl) ?_
  refine lv_iconst (v := 1) hx hb dL_law_377 (by decide) ?_
  refine lv_iadd hx hb dL_law_378 ?_
  refine va_sld hx hb hX hbl hbA hS (i_in (by omega) (by omega)) dL_law_379 ?_
  rw [hs1]
  refine cL_i (As := [.int s1]) (rest := []) ⟨hx, hb, hml, hown, hg⟩ (k_X11_loud l D cs _ ad fa fq rv v a w fv fp s1 iv1_0 iv1_1 ifv14_0 iv5_0 iv5_1 ia18_0) ca_X11_loud q3_113 ⟨rfl, rfl⟩ ⟨Nat.le_of_ble_eq_true rfl, Nat.le_of_ble_eq_true rfl⟩ (rc_main hK (pw_l hP)) hK hP hD hS hZ rfl hl.1 rfl (Nat.le_of_ble_eq_true rfl) ⟨Nat.le_of_ble_eq_true rfl, Nat.le_of_ble_eq_true rfl⟩ dL_law_380 (fun r_1 z_6 H locs wr_1 hP hD hS => ?_)
  obtain ⟨o_a17_2, o_a16_3, o_fv15_4, o_fp15_5⟩ := z_6
  have hP : va_P D vwCl (CW cs ad fa fq rv v (va_up (va_up a 17 o_a17_2) 16 o_a16_3) w (va_up fv 15 o_fv15_4) (va_up fp 15 o_fp15_5) ++ RW cs bd u b_ bw) H := hP
  have hD : va_D (fun q : Nat => s.heap.size ≤ q) (CW cs ad fa fq rv v (va_up (va_up a 17 o_a17_2) 16 o_a16_3) w (va_up fv 15 o_fv15_4) (va_up fp 15 o_fp15_5) ++ RW cs bd u b_ bw) := hD
  have wr_1_0 : True := wr_1
  refine lv_pop hx hb dL_law_383 rfl ?_
  refine lv_aload_n hx hb dL_law_384 rfl (lv_at hl 2 rfl) ?_
  refine lv_aload_n hx hb dL_law_385 rfl (lv_at hl 0 rfl) ?_
  refine lv_iload_n hx hb dL_law_386 rfl (lv_at hl 3 rfl) ?_
  refine lv_iconst (v := 1) hx hb dL_law_387 (by decide) ?_
  refine lv_iadd hx hb dL_law_388 ?_
  refine va_sld hx hb hX hbl hbA hS (i_in (by omega) (by omega)) dL_law_389 ?_
  rw [hs1]
  refine cR_i (As := [.int s1]) (rest := []) ⟨hx, hb, hml, hown, hg⟩ (k_X12_loud l D cs _ bd u b_ bw s1 hlaw iu1_0 iu1_1 iu7_0 iu7_1 ib23_0 ib24_0 ib20_0) ca_X12_loud q6_89 ⟨rfl, rfl⟩ ⟨Nat.le_of_ble_eq_true rfl, Nat.le_of_ble_eq_true rfl⟩ (rc_model hK (pw_r hP)) hK hP hD hS hZ rfl hl.1 rfl (Nat.le_of_ble_eq_true rfl) ⟨Nat.le_of_ble_eq_true rfl, Nat.le_of_ble_eq_true rfl⟩ dL_law_390 (fun r_7 z_15 H locs wr_7 hP hD hS => ?_)
  obtain ⟨o_u28_8, o_u29_9, o_u30_10, o_u31_11, o_b32_12, o_b25_13, o_b26_14⟩ := z_15
  have hP : va_P D vwCl (CW cs ad fa fq rv v (va_up (va_up a 17 o_a17_2) 16 o_a16_3) w (va_up fv 15 o_fv15_4) (va_up fp 15 o_fp15_5) ++ RW cs bd (va_up (va_up (va_up (va_up u 28 o_u28_8) 29 o_u29_9) 30 o_u30_10) 31 o_u31_11) (va_up (va_up (va_up b_ 32 o_b32_12) 25 o_b25_13) 26 o_b26_14) bw) H := hP
  have hD : va_D (fun q : Nat => s.heap.size ≤ q) (CW cs ad fa fq rv v (va_up (va_up a 17 o_a17_2) 16 o_a16_3) w (va_up fv 15 o_fv15_4) (va_up fp 15 o_fp15_5) ++ RW cs bd (va_up (va_up (va_up (va_up u 28 o_u28_8) 29 o_u29_9) 30 o_u30_10) 31 o_u31_11) (va_up (va_up (va_up b_ 32 o_b32_12) 25 o_b25_13) 26 o_b26_14) bw) := hD
  have wr_7_0 : True := wr_7
  refine lv_pop hx hb dL_law_393 rfl ?_
  refine lv_goto (tgt := 1387) hx hb dL_law_394 (by decide) ?_
  have hI1 : CI v (va_up (va_up a 17 o_a17_2) 16 o_a16_3) (va_up fv 15 o_fv15_4) := ⟨iv1_0, iv1_1, ia28_0, ia29_0, iv20_0, iv20_1, iv19_0, iv19_1, iv19_2, ia24_0, ia25_0, ifv14_0, iv4_0, iv4_1, ia18_0, iv24_0, iv24_1, iv25_0, iv25_1, iv25_2, iv26_0, iv26_1, ia19_0, iv5_0, iv5_1, iv6_0, iv6_1, iv6_2, iv11_0, iv11_1, iv14_0, iv14_1, iv0_0, iv0_1, iv0_2, ifv17_0, iv21_0, iv21_1, ia37_0, iv23_0, iv23_1, iv22_0, iv22_1⟩
  have hR1 : RI (va_up (va_up (va_up (va_up u 28 o_u28_8) 29 o_u29_9) 30 o_u30_10) 31 o_u31_11) (va_up (va_up (va_up b_ 32 o_b32_12) 25 o_b25_13) 26 o_b26_14) bw := ⟨iu1_0, iu1_1, ib67_0, ib66_0, iu8_0, iu8_1, ib10_0, ib11_0, iu9_0, iu9_1, iu9_2, iu15_0, iu15_1, hlaw, ib23_0, ib20_0, ib24_0, iu7_0, iu7_1, iu41_0, iu41_1, iu48_0, iu48_1, iu46_0, iu46_1, iu47_0, iu47_1, iu55_0, iu55_1, iu55_2, iu58_0, iu62_0, iu62_1, ib63_0, iu64_0, iu64_1⟩
  have hE1 : REL v (va_up (va_up a 17 o_a17_2) 16 o_a16_3) w (va_up fv 15 o_fv15_4) (va_up (va_up (va_up (va_up u 28 o_u28_8) 29 o_u29_9) 30 o_u30_10) 31 o_u31_11) (va_up (va_up (va_up b_ 32 o_b32_12) 25 o_b25_13) 26 o_b26_14) bw := ⟨(show (v 1).toInt = (u 1).toInt by first | omega | assumption | exact e1), (show (v 4).toInt = (u 15).toInt by first | omega | assumption | exact e4), (show (v 21).toInt = (u 62).toInt by first | omega | assumption | exact e21), (show (v 22).toInt = (u 64).toInt by first | omega | assumption | exact e22), (show (fv 14 3) = (b_ 53) 0 by first | omega | assumption | exact es14), (show (fv 17 3) = (b_ 61) 0 by first | omega | assumption | exact es17), (show ((v 0).toInt < 0 ∧ (u 54).toInt = 0) ∨ (0 ≤ (v 0).toInt ∧ (u 54).toInt ≠ 0) by first | omega | assumption | exact eim), (show ∀ j, (a 37) j = (b_ 63) j by first | omega | assumption | exact ek), (show ∀ j, (a 38) j = (b_ 65) j by first | omega | assumption | exact et), (show SH (a 28) (a 29) w (b_ 66) (b_ 67) (bw 68) (v 21) by first | omega | assumption | exact esh)⟩
  exact kk ad rv v (va_up (va_up a 17 o_a17_2) 16 o_a16_3) w (va_up fv 15 o_fv15_4) (va_up fp 15 o_fp15_5) bd (va_up (va_up (va_up (va_up u 28 o_u28_8) 29 o_u29_9) 30 o_u30_10) 31 o_u31_11) (va_up (va_up (va_up b_ 32 o_b32_12) 25 o_b25_13) 26 o_b26_14) bw _ _ ls rfl rfl hI1 hR1 hE1 hP hD hS hl
set_option maxHeartbeats 8000000 in
set_option maxRecDepth 100000 in
theorem lc_day {p : Program} {e : Env} {s : State} {m : MethodId} {below : List Frame} {meth : Method} {c : Code} (l : Launch) {b L : Nat} {xs : Nat → Int32} (C0 : lw_At p s m meth c b L xs) (hL : L ≤ 3072) {D : va_G} {cs : Nat → ClassId} {fa fq : Nat → Nat} (hK : va_K D vwCl (TY cs) s) (hZ : ZS (fun q : Nat => s.heap.size ≤ q) s) {x0 y0 : Nat} {i : Int32} (hi0 : 0 ≤ i.toInt) (hiL : i.toInt + 6 ≤ (L : Int)) (ad rv : Nat → Nat) (v : Nat → Int32) (a : Nat → Nat → Int32) (w : Nat → Nat → Int64) (fv fp : Nat → Nat → Int32) (bd : Nat → Nat) (u : Nat → Int32) (b_ : Nat → Nat → Int32) (bw : Nat → Nat → Int64) (H : Heap) (locs : List Loc) (ls : Array Slot) (hl : lv_has ls 4 [(0, .ref b), (1, .ref x0), (2, .ref y0), (3, .int i)]) (hx0 : ad 0 = x0) (hy0 : bd 0 = y0) (hI : CI v a fv) (hR : RI u b_ bw) (hE : REL v a w fv u b_ bw) (hP : va_P D vwCl (CW cs ad fa fq rv v a w fv fp ++ RW cs bd u b_ bw) H) (hD : va_D (fun q : Nat => s.heap.size ≤ q) (CW cs ad fa fq rv v a w fv fp ++ RW cs bd u b_ bw)) (hS : va_S (fun q : Nat => s.heap.size ≤ q) s.heap H locs)
    (kk : ∀ (ad rv : Nat → Nat) (v : Nat → Int32) (a : Nat → Nat → Int32) (w : Nat → Nat → Int64) (fv fp : Nat → Nat → Int32) (bd : Nat → Nat) (u : Nat → Int32) (b_ : Nat → Nat → Int32) (bw : Nat → Nat → Int64) (H : Heap) (locs : List Loc) (ls : Array Slot) (hx0 : ad 0 = x0) (hy0 : bd 0 = y0) (hI : CI v a fv) (hR : RI u b_ bw) (hE : REL v a w fv u b_ bw) (hP : va_P D vwCl (CW cs ad fa fq rv v a w fv fp ++ RW cs bd u b_ bw) H) (hD : va_D (fun q : Nat => s.heap.size ≤ q) (CW cs ad fa fq rv v a w fv fp ++ RW cs bd u b_ bw)) (hS : va_S (fun q : Nat => s.heap.size ≤ q) s.heap H locs) (hl : lv_has ls 4 [(0, .ref b), (1, .ref x0), (2, .ref y0), (3, .int i)]), W p l e room_1 s m #[Value.ref b] below meth c H locs 200 9000 (lw_Z below #[Value.ref b] s) (F0 m 1387 ls [])) : W p l e room_1 s m #[Value.ref b] below meth c H locs 200 9000 (lw_Z below #[Value.ref b] s) (F0 m 397 ls []) := by
  obtain ⟨hx, hb, hr, hml, hown, hts, hX, hbl, hlocks, hgv⟩ := id C0
  have hg : ∀ w ∈ gw, w.before #[Value.ref b] s = true := fun w h => hts w (gw_in w h)
  have hbA : ¬ (fun q : Nat => s.heap.size ≤ q) b := Nat.not_le.mpr hbl
  subst hx0
  subst hy0
  obtain ⟨iv1_0, iv1_1, ia28_0, ia29_0, iv20_0, iv20_1, iv19_0, iv19_1, iv19_2, ia24_0, ia25_0, ifv14_0, iv4_0, iv4_1, ia18_0, iv24_0, iv24_1, iv25_0, iv25_1, iv25_2, iv26_0, iv26_1, ia19_0, iv5_0, iv5_1, iv6_0, iv6_1, iv6_2, iv11_0, iv11_1, iv14_0, iv14_1, iv0_0, iv0_1, iv0_2, ifv17_0, iv21_0, iv21_1, ia37_0, iv23_0, iv23_1, iv22_0, iv22_1⟩ := id hI
  obtain ⟨iu1_0, iu1_1, ib67_0, ib66_0, iu8_0, iu8_1, ib10_0, ib11_0, iu9_0, iu9_1, iu9_2, iu15_0, iu15_1, hlaw, ib23_0, ib20_0, ib24_0, iu7_0, iu7_1, iu41_0, iu41_1, iu48_0, iu48_1, iu46_0, iu46_1, iu47_0, iu47_1, iu55_0, iu55_1, iu55_2, iu58_0, iu62_0, iu62_1, ib63_0, iu64_0, iu64_1⟩ := id hR
  obtain ⟨e1, e4, e21, e22, es14, es17, eim, ek, et, esh⟩ := id hE
  obtain ⟨s1, hs1⟩ : ∃ y, xs (i + 1).toNatClampNeg = y := ⟨_, rfl⟩
  obtain ⟨s2, hs2⟩ : ∃ y, xs (i + 2).toNatClampNeg = y := ⟨_, rfl⟩
  obtain ⟨s3, hs3⟩ : ∃ y, xs (i + 3).toNatClampNeg = y := ⟨_, rfl⟩
  obtain ⟨s4, hs4⟩ : ∃ y, xs (i + 4).toNatClampNeg = y := ⟨_, rfl⟩
  obtain ⟨s5, hs5⟩ : ∃ y, xs (i + 5).toNatClampNeg = y := ⟨_, rfl⟩
  have hq1 : (i + 1).toInt = i.toInt + 1 := i_add (by show _ ≤ i.toInt + (1 : Int32).toInt; have q : (1 : Int32).toInt = 1 := rfl; omega) (by show i.toInt + (1 : Int32).toInt ≤ _; have q : (1 : Int32).toInt = 1 := rfl; omega)
  have hq2 : (i + 2).toInt = i.toInt + 2 := i_add (by show _ ≤ i.toInt + (2 : Int32).toInt; have q : (2 : Int32).toInt = 2 := rfl; omega) (by show i.toInt + (2 : Int32).toInt ≤ _; have q : (2 : Int32).toInt = 2 := rfl; omega)
  have hq3 : (i + 3).toInt = i.toInt + 3 := i_add (by show _ ≤ i.toInt + (3 : Int32).toInt; have q : (3 : Int32).toInt = 3 := rfl; omega) (by show i.toInt + (3 : Int32).toInt ≤ _; have q : (3 : Int32).toInt = 3 := rfl; omega)
  have hq4 : (i + 4).toInt = i.toInt + 4 := i_add (by show _ ≤ i.toInt + (4 : Int32).toInt; have q : (4 : Int32).toInt = 4 := rfl; omega) (by show i.toInt + (4 : Int32).toInt ≤ _; have q : (4 : Int32).toInt = 4 := rfl; omega)
  have hq5 : (i + 5).toInt = i.toInt + 5 := i_add (by show _ ≤ i.toInt + (5 : Int32).toInt; have q : (5 : Int32).toInt = 5 := rfl; omega) (by show i.toInt + (5 : Int32).toInt ≤ _; have q : (5 : Int32).toInt = 5 := rfl; omega)
  refine lv_aload_n hx hb dL_law_397 rfl (lv_at hl 1 rfl) ?_
  refine lv_aload_n hx hb dL_law_398 rfl (lv_at hl 0 rfl) ?_
  refine lv_iload_n hx hb dL_law_399 rfl (lv_at hl 3 rfl) ?_
  refine lv_iconst (v := 1) hx hb dL_law_400 (by decide) ?_
  refine lv_iadd hx hb dL_law_401 ?_
  refine va_sld hx hb hX hbl hbA hS (i_in (by omega) (by omega)) dL_law_402 ?_
  rw [hs1]
  refine lv_aload_n hx hb dL_law_403 rfl (lv_at hl 0 rfl) ?_
  refine lv_iload_n hx hb dL_law_404 rfl (lv_at hl 3 rfl) ?_
  refine lv_iconst (v := 2) hx hb dL_law_405 (by decide) ?_
  refine lv_iadd hx hb dL_law_406 ?_
  refine va_sld hx hb hX hbl hbA hS (i_in (by omega) (by omega)) dL_law_407 ?_
  rw [hs2]
  refine lv_aload_n hx hb dL_law_408 rfl (lv_at hl 0 rfl) ?_
  refine lv_iload_n hx hb dL_law_409 rfl (lv_at hl 3 rfl) ?_
  refine lv_iconst (v := 3) hx hb dL_law_410 (by decide) ?_
  refine lv_iadd hx hb dL_law_411 ?_
  refine va_sld hx hb hX hbl hbA hS (i_in (by omega) (by omega)) dL_law_412 ?_
  rw [hs3]
  refine cL_i (As := [.int s1, .int s2, .int s3]) (rest := []) ⟨hx, hb, hml, hown, hg⟩ (k_X11_day l D cs _ ad fa fq rv v a w fv fp s1 s2 s3 ia28_0 iv1_0 iv1_1 iv6_0 iv6_1 iv6_2 ia29_0 iv5_0 iv5_1 ia18_0 ifv14_0) ca_X11_day q3_143 ⟨rfl, rfl⟩ ⟨Nat.le_of_ble_eq_true rfl, Nat.le_of_ble_eq_true rfl⟩ (rc_main hK (pw_l hP)) hK hP hD hS hZ rfl hl.1 rfl (Nat.le_of_ble_eq_true rfl) ⟨Nat.le_of_ble_eq_true rfl, Nat.le_of_ble_eq_true rfl⟩ dL_law_413 (fun r_1 z_8 H locs wr_1 hP hD hS => ?_)
  obtain ⟨o_v6_2, o_a20_3, o_a17_4, o_a16_5, o_fv15_6, o_fp15_7⟩ := z_8
  have hP : va_P D vwCl (CW cs ad fa fq rv (va_up v 6 o_v6_2) (va_up (va_up (va_up a 20 o_a20_3) 17 o_a17_4) 16 o_a16_5) w (va_up fv 15 o_fv15_6) (va_up fp 15 o_fp15_7) ++ RW cs bd u b_ bw) H := hP
  have hD : va_D (fun q : Nat => s.heap.size ≤ q) (CW cs ad fa fq rv (va_up v 6 o_v6_2) (va_up (va_up (va_up a 20 o_a20_3) 17 o_a17_4) 16 o_a16_5) w (va_up fv 15 o_fv15_6) (va_up fp 15 o_fp15_7) ++ RW cs bd u b_ bw) := hD
  obtain ⟨wr_1_0, wr_1_1, wr_1_2⟩ : (0 ≤ o_v6_2.toInt) ∧ (o_v6_2.toInt ≤ 24) ∧ (DOK o_v6_2 o_a20_3 (v 1)) := wr_1
  refine lv_pop hx hb dL_law_416 rfl ?_
  refine lv_aload_n hx hb dL_law_417 rfl (lv_at hl 2 rfl) ?_
  refine lv_aload_n hx hb dL_law_418 rfl (lv_at hl 0 rfl) ?_
  refine lv_iload_n hx hb dL_law_419 rfl (lv_at hl 3 rfl) ?_
  refine lv_iconst (v := 1) hx hb dL_law_420 (by decide) ?_
  refine lv_iadd hx hb dL_law_421 ?_
  refine va_sld hx hb hX hbl hbA hS (i_in (by omega) (by omega)) dL_law_422 ?_
  rw [hs1]
  refine lv_aload_n hx hb dL_law_423 rfl (lv_at hl 0 rfl) ?_
  refine lv_iload_n hx hb dL_law_424 rfl (lv_at hl 3 rfl) ?_
  refine lv_iconst (v := 2) hx hb dL_law_425 (by decide) ?_
  refine lv_iadd hx hb dL_law_426 ?_
  refine va_sld hx hb hX hbl hbA hS (i_in (by omega) (by omega)) dL_law_427 ?_
  rw [hs2]
  refine lv_aload_n hx hb dL_law_428 rfl (lv_at hl 0 rfl) ?_
  refine lv_iload_n hx hb dL_law_429 rfl (lv_at hl 3 rfl) ?_
  refine lv_iconst (v := 3) hx hb dL_law_430 (by decide) ?_
  refine lv_iadd hx hb dL_law_431 ?_
  refine va_sld hx hb hX hbl hbA hS (i_in (by omega) (by omega)) dL_law_432 ?_
  rw [hs3]
  refine cR_i (As := [.int s1, .int s2, .int s3]) (rest := []) ⟨hx, hb, hml, hown, hg⟩ (k_X12_day l D cs _ bd u b_ bw s1 s2 s3 hlaw ib66_0 iu1_0 iu1_1 ib67_0 ib23_0 ib24_0 ib20_0 iu7_0 iu7_1) ca_X12_day q6_125 ⟨rfl, rfl⟩ ⟨Nat.le_of_ble_eq_true rfl, Nat.le_of_ble_eq_true rfl⟩ (rc_model hK (pw_r hP)) hK hP hD hS hZ rfl hl.1 rfl (Nat.le_of_ble_eq_true rfl) ⟨Nat.le_of_ble_eq_true rfl, Nat.le_of_ble_eq_true rfl⟩ dL_law_433 (fun r_9 z_23 H locs wr_9 hP hD hS => ?_)
  obtain ⟨o_u33_10, o_u34_11, o_u30_12, o_u28_13, o_u29_14, o_u31_15, o_u35_16, o_b32_17, o_b25_18, o_b26_19, o_b36_20, o_b37_21, o_b38_22⟩ := z_23
  have hP : va_P D vwCl (CW cs ad fa fq rv (va_up v 6 o_v6_2) (va_up (va_up (va_up a 20 o_a20_3) 17 o_a17_4) 16 o_a16_5) w (va_up fv 15 o_fv15_6) (va_up fp 15 o_fp15_7) ++ RW cs bd (va_up (va_up (va_up (va_up (va_up (va_up (va_up u 33 o_u33_10) 34 o_u34_11) 30 o_u30_12) 28 o_u28_13) 29 o_u29_14) 31 o_u31_15) 35 o_u35_16) (va_up (va_up (va_up (va_up (va_up (va_up b_ 32 o_b32_17) 25 o_b25_18) 26 o_b26_19) 36 o_b36_20) 37 o_b37_21) 38 o_b38_22) bw) H := hP
  have hD : va_D (fun q : Nat => s.heap.size ≤ q) (CW cs ad fa fq rv (va_up v 6 o_v6_2) (va_up (va_up (va_up a 20 o_a20_3) 17 o_a17_4) 16 o_a16_5) w (va_up fv 15 o_fv15_6) (va_up fp 15 o_fp15_7) ++ RW cs bd (va_up (va_up (va_up (va_up (va_up (va_up (va_up u 33 o_u33_10) 34 o_u34_11) 30 o_u30_12) 28 o_u28_13) 29 o_u29_14) 31 o_u31_15) 35 o_u35_16) (va_up (va_up (va_up (va_up (va_up (va_up b_ 32 o_b32_17) 25 o_b25_18) 26 o_b26_19) 36 o_b36_20) 37 o_b37_21) 38 o_b38_22) bw) := hD
  have wr_9_0 : True := wr_9
  refine lv_pop hx hb dL_law_436 rfl ?_
  refine lv_goto (tgt := 1387) hx hb dL_law_437 (by decide) ?_
  have hI1 : CI (va_up v 6 o_v6_2) (va_up (va_up (va_up a 20 o_a20_3) 17 o_a17_4) 16 o_a16_5) (va_up fv 15 o_fv15_6) := ⟨iv1_0, iv1_1, ia28_0, ia29_0, iv20_0, iv20_1, iv19_0, iv19_1, iv19_2, ia24_0, ia25_0, ifv14_0, iv4_0, iv4_1, ia18_0, iv24_0, iv24_1, iv25_0, iv25_1, iv25_2, iv26_0, iv26_1, ia19_0, iv5_0, iv5_1, (show 0 ≤ o_v6_2.toInt by first | assumption | omega), (show o_v6_2.toInt ≤ 24 by first | assumption | omega), wr_1_2, iv11_0, iv11_1, iv14_0, iv14_1, iv0_0, iv0_1, iv0_2, ifv17_0, iv21_0, iv21_1, ia37_0, iv23_0, iv23_1, iv22_0, iv22_1⟩
  have hR1 : RI (va_up (va_up (va_up (va_up (va_up (va_up (va_up u 33 o_u33_10) 34 o_u34_11) 30 o_u30_12) 28 o_u28_13) 29 o_u29_14) 31 o_u31_15) 35 o_u35_16) (va_up (va_up (va_up (va_up (va_up (va_up b_ 32 o_b32_17) 25 o_b25_18) 26 o_b26_19) 36 o_b36_20) 37 o_b37_21) 38 o_b38_22) bw := ⟨iu1_0, iu1_1, ib67_0, ib66_0, iu8_0, iu8_1, ib10_0, ib11_0, iu9_0, iu9_1, iu9_2, iu15_0, iu15_1, hlaw, ib23_0, ib20_0, ib24_0, iu7_0, iu7_1, iu41_0, iu41_1, iu48_0, iu48_1, iu46_0, iu46_1, iu47_0, iu47_1, iu55_0, iu55_1, iu55_2, iu58_0, iu62_0, iu62_1, ib63_0, iu64_0, iu64_1⟩
  have hE1 : REL (va_up v 6 o_v6_2) (va_up (va_up (va_up a 20 o_a20_3) 17 o_a17_4) 16 o_a16_5) w (va_up fv 15 o_fv15_6) (va_up (va_up (va_up (va_up (va_up (va_up (va_up u 33 o_u33_10) 34 o_u34_11) 30 o_u30_12) 28 o_u28_13) 29 o_u29_14) 31 o_u31_15) 35 o_u35_16) (va_up (va_up (va_up (va_up (va_up (va_up b_ 32 o_b32_17) 25 o_b25_18) 26 o_b26_19) 36 o_b36_20) 37 o_b37_21) 38 o_b38_22) bw := ⟨(show (v 1).toInt = (u 1).toInt by first | omega | assumption | exact e1), (show (v 4).toInt = (u 15).toInt by first | omega | assumption | exact e4), (show (v 21).toInt = (u 62).toInt by first | omega | assumption | exact e21), (show (v 22).toInt = (u 64).toInt by first | omega | assumption | exact e22), (show (fv 14 3) = (b_ 53) 0 by first | omega | assumption | exact es14), (show (fv 17 3) = (b_ 61) 0 by first | omega | assumption | exact es17), (show ((v 0).toInt < 0 ∧ (u 54).toInt = 0) ∨ (0 ≤ (v 0).toInt ∧ (u 54).toInt ≠ 0) by first | omega | assumption | exact eim), (show ∀ j, (a 37) j = (b_ 63) j by first | omega | assumption | exact ek), (show ∀ j, (a 38) j = (b_ 65) j by first | omega | assumption | exact et), (show SH (a 28) (a 29) w (b_ 66) (b_ 67) (bw 68) (v 21) by first | omega | assumption | exact esh)⟩
  exact kk ad rv (va_up v 6 o_v6_2) (va_up (va_up (va_up a 20 o_a20_3) 17 o_a17_4) 16 o_a16_5) w (va_up fv 15 o_fv15_6) (va_up fp 15 o_fp15_7) bd (va_up (va_up (va_up (va_up (va_up (va_up (va_up u 33 o_u33_10) 34 o_u34_11) 30 o_u30_12) 28 o_u28_13) 29 o_u29_14) 31 o_u31_15) 35 o_u35_16) (va_up (va_up (va_up (va_up (va_up (va_up b_ 32 o_b32_17) 25 o_b25_18) 26 o_b26_19) 36 o_b36_20) 37 o_b37_21) 38 o_b38_22) bw _ _ ls rfl rfl hI1 hR1 hE1 hP hD hS hl
set_option maxHeartbeats 8000000 in
set_option maxRecDepth 100000 in
theorem lc_stung {p : Program} {e : Env} {s : State} {m : MethodId} {below : List Frame} {meth : Method} {c : Code} (l : Launch) {b L : Nat} {xs : Nat → Int32} (C0 : lw_At p s m meth c b L xs) (hL : L ≤ 3072) {D : va_G} {cs : Nat → ClassId} {fa fq : Nat → Nat} (hK : va_K D vwCl (TY cs) s) (hZ : ZS (fun q : Nat => s.heap.size ≤ q) s) {x0 y0 : Nat} {i : Int32} (hi0 : 0 ≤ i.toInt) (hiL : i.toInt + 6 ≤ (L : Int)) (ad rv : Nat → Nat) (v : Nat → Int32) (a : Nat → Nat → Int32) (w : Nat → Nat → Int64) (fv fp : Nat → Nat → Int32) (bd : Nat → Nat) (u : Nat → Int32) (b_ : Nat → Nat → Int32) (bw : Nat → Nat → Int64) (H : Heap) (locs : List Loc) (ls : Array Slot) (hl : lv_has ls 4 [(0, .ref b), (1, .ref x0), (2, .ref y0), (3, .int i)]) (hx0 : ad 0 = x0) (hy0 : bd 0 = y0) (hI : CI v a fv) (hR : RI u b_ bw) (hE : REL v a w fv u b_ bw) (hP : va_P D vwCl (CW cs ad fa fq rv v a w fv fp ++ RW cs bd u b_ bw) H) (hD : va_D (fun q : Nat => s.heap.size ≤ q) (CW cs ad fa fq rv v a w fv fp ++ RW cs bd u b_ bw)) (hS : va_S (fun q : Nat => s.heap.size ≤ q) s.heap H locs)
    (kk : ∀ (ad rv : Nat → Nat) (v : Nat → Int32) (a : Nat → Nat → Int32) (w : Nat → Nat → Int64) (fv fp : Nat → Nat → Int32) (bd : Nat → Nat) (u : Nat → Int32) (b_ : Nat → Nat → Int32) (bw : Nat → Nat → Int64) (H : Heap) (locs : List Loc) (ls : Array Slot) (hx0 : ad 0 = x0) (hy0 : bd 0 = y0) (hI : CI v a fv) (hR : RI u b_ bw) (hE : REL v a w fv u b_ bw) (hP : va_P D vwCl (CW cs ad fa fq rv v a w fv fp ++ RW cs bd u b_ bw) H) (hD : va_D (fun q : Nat => s.heap.size ≤ q) (CW cs ad fa fq rv v a w fv fp ++ RW cs bd u b_ bw)) (hS : va_S (fun q : Nat => s.heap.size ≤ q) s.heap H locs) (hl : lv_has ls 4 [(0, .ref b), (1, .ref x0), (2, .ref y0), (3, .int i)]), W p l e room_1 s m #[Value.ref b] below meth c H locs 200 9000 (lw_Z below #[Value.ref b] s) (F0 m 1387 ls [])) : W p l e room_1 s m #[Value.ref b] below meth c H locs 200 9000 (lw_Z below #[Value.ref b] s) (F0 m 440 ls []) := by
  obtain ⟨hx, hb, hr, hml, hown, hts, hX, hbl, hlocks, hgv⟩ := id C0
  have hg : ∀ w ∈ gw, w.before #[Value.ref b] s = true := fun w h => hts w (gw_in w h)
  have hbA : ¬ (fun q : Nat => s.heap.size ≤ q) b := Nat.not_le.mpr hbl
  subst hx0
  subst hy0
  obtain ⟨iv1_0, iv1_1, ia28_0, ia29_0, iv20_0, iv20_1, iv19_0, iv19_1, iv19_2, ia24_0, ia25_0, ifv14_0, iv4_0, iv4_1, ia18_0, iv24_0, iv24_1, iv25_0, iv25_1, iv25_2, iv26_0, iv26_1, ia19_0, iv5_0, iv5_1, iv6_0, iv6_1, iv6_2, iv11_0, iv11_1, iv14_0, iv14_1, iv0_0, iv0_1, iv0_2, ifv17_0, iv21_0, iv21_1, ia37_0, iv23_0, iv23_1, iv22_0, iv22_1⟩ := id hI
  obtain ⟨iu1_0, iu1_1, ib67_0, ib66_0, iu8_0, iu8_1, ib10_0, ib11_0, iu9_0, iu9_1, iu9_2, iu15_0, iu15_1, hlaw, ib23_0, ib20_0, ib24_0, iu7_0, iu7_1, iu41_0, iu41_1, iu48_0, iu48_1, iu46_0, iu46_1, iu47_0, iu47_1, iu55_0, iu55_1, iu55_2, iu58_0, iu62_0, iu62_1, ib63_0, iu64_0, iu64_1⟩ := id hR
  obtain ⟨e1, e4, e21, e22, es14, es17, eim, ek, et, esh⟩ := id hE
  obtain ⟨s1, hs1⟩ : ∃ y, xs (i + 1).toNatClampNeg = y := ⟨_, rfl⟩
  obtain ⟨s2, hs2⟩ : ∃ y, xs (i + 2).toNatClampNeg = y := ⟨_, rfl⟩
  obtain ⟨s3, hs3⟩ : ∃ y, xs (i + 3).toNatClampNeg = y := ⟨_, rfl⟩
  obtain ⟨s4, hs4⟩ : ∃ y, xs (i + 4).toNatClampNeg = y := ⟨_, rfl⟩
  obtain ⟨s5, hs5⟩ : ∃ y, xs (i + 5).toNatClampNeg = y := ⟨_, rfl⟩
  have hq1 : (i + 1).toInt = i.toInt + 1 := i_add (by show _ ≤ i.toInt + (1 : Int32).toInt; have q : (1 : Int32).toInt = 1 := rfl; omega) (by show i.toInt + (1 : Int32).toInt ≤ _; have q : (1 : Int32).toInt = 1 := rfl; omega)
  have hq2 : (i + 2).toInt = i.toInt + 2 := i_add (by show _ ≤ i.toInt + (2 : Int32).toInt; have q : (2 : Int32).toInt = 2 := rfl; omega) (by show i.toInt + (2 : Int32).toInt ≤ _; have q : (2 : Int32).toInt = 2 := rfl; omega)
  have hq3 : (i + 3).toInt = i.toInt + 3 := i_add (by show _ ≤ i.toInt + (3 : Int32).toInt; have q : (3 : Int32).toInt = 3 := rfl; omega) (by show i.toInt + (3 : Int32).toInt ≤ _; have q : (3 : Int32).toInt = 3 := rfl; omega)
  have hq4 : (i + 4).toInt = i.toInt + 4 := i_add (by show _ ≤ i.toInt + (4 : Int32).toInt; have q : (4 : Int32).toInt = 4 := rfl; omega) (by show i.toInt + (4 : Int32).toInt ≤ _; have q : (4 : Int32).toInt = 4 := rfl; omega)
  have hq5 : (i + 5).toInt = i.toInt + 5 := i_add (by show _ ≤ i.toInt + (5 : Int32).toInt; have q : (5 : Int32).toInt = 5 := rfl; omega) (by show i.toInt + (5 : Int32).toInt ≤ _; have q : (5 : Int32).toInt = 5 := rfl; omega)
  refine lv_aload_n hx hb dL_law_440 rfl (lv_at hl 1 rfl) ?_
  refine lv_aload_n hx hb dL_law_441 rfl (lv_at hl 0 rfl) ?_
  refine lv_iload_n hx hb dL_law_442 rfl (lv_at hl 3 rfl) ?_
  refine lv_iconst (v := 1) hx hb dL_law_443 (by decide) ?_
  refine lv_iadd hx hb dL_law_444 ?_
  refine va_sld hx hb hX hbl hbA hS (i_in (by omega) (by omega)) dL_law_445 ?_
  rw [hs1]
  refine lv_aload_n hx hb dL_law_446 rfl (lv_at hl 0 rfl) ?_
  refine lv_iload_n hx hb dL_law_447 rfl (lv_at hl 3 rfl) ?_
  refine lv_iconst (v := 2) hx hb dL_law_448 (by decide) ?_
  refine lv_iadd hx hb dL_law_449 ?_
  refine va_sld hx hb hX hbl hbA hS (i_in (by omega) (by omega)) dL_law_450 ?_
  rw [hs2]
  refine lv_aload_n hx hb dL_law_451 rfl (lv_at hl 0 rfl) ?_
  refine lv_iload_n hx hb dL_law_452 rfl (lv_at hl 3 rfl) ?_
  refine lv_iconst (v := 3) hx hb dL_law_453 (by decide) ?_
  refine lv_iadd hx hb dL_law_454 ?_
  refine va_sld hx hb hX hbl hbA hS (i_in (by omega) (by omega)) dL_law_455 ?_
  rw [hs3]
  refine lv_aload_n hx hb dL_law_456 rfl (lv_at hl 0 rfl) ?_
  refine lv_iload_n hx hb dL_law_457 rfl (lv_at hl 3 rfl) ?_
  refine lv_iconst (v := 4) hx hb dL_law_458 (by decide) ?_
  refine lv_iadd hx hb dL_law_459 ?_
  refine va_sld hx hb hX hbl hbA hS (i_in (by omega) (by omega)) dL_law_460 ?_
  rw [hs4]
  refine cL_i (As := [.int s1, .int s2, .int s3, .int s4]) (rest := []) ⟨hx, hb, hml, hown, hg⟩ (k_X11_stung l D cs _ ad fa fq rv v a w fv fp s1 s2 s3 s4 iv1_0 iv1_1 iv6_0 iv6_1 iv6_2 iv5_0 iv5_1 ia18_0 ia28_0 ia29_0 ifv14_0) ca_X11_stung q3_192 ⟨rfl, rfl⟩ ⟨Nat.le_of_ble_eq_true rfl, Nat.le_of_ble_eq_true rfl⟩ (rc_main hK (pw_l hP)) hK hP hD hS hZ rfl hl.1 rfl (Nat.le_of_ble_eq_true rfl) ⟨Nat.le_of_ble_eq_true rfl, Nat.le_of_ble_eq_true rfl⟩ dL_law_461 (fun r_1 z_8 H locs wr_1 hP hD hS => ?_)
  obtain ⟨o_v6_2, o_a20_3, o_a17_4, o_a16_5, o_fv15_6, o_fp15_7⟩ := z_8
  have hP : va_P D vwCl (CW cs ad fa fq rv (va_up v 6 o_v6_2) (va_up (va_up (va_up a 20 o_a20_3) 17 o_a17_4) 16 o_a16_5) w (va_up fv 15 o_fv15_6) (va_up fp 15 o_fp15_7) ++ RW cs bd u b_ bw) H := hP
  have hD : va_D (fun q : Nat => s.heap.size ≤ q) (CW cs ad fa fq rv (va_up v 6 o_v6_2) (va_up (va_up (va_up a 20 o_a20_3) 17 o_a17_4) 16 o_a16_5) w (va_up fv 15 o_fv15_6) (va_up fp 15 o_fp15_7) ++ RW cs bd u b_ bw) := hD
  obtain ⟨wr_1_0, wr_1_1, wr_1_2⟩ : (0 ≤ o_v6_2.toInt) ∧ (o_v6_2.toInt ≤ 24) ∧ (DOK o_v6_2 o_a20_3 (v 1)) := wr_1
  refine lv_pop hx hb dL_law_464 rfl ?_
  refine lv_aload_n hx hb dL_law_465 rfl (lv_at hl 2 rfl) ?_
  refine lv_aload_n hx hb dL_law_466 rfl (lv_at hl 0 rfl) ?_
  refine lv_iload_n hx hb dL_law_467 rfl (lv_at hl 3 rfl) ?_
  refine lv_iconst (v := 1) hx hb dL_law_468 (by decide) ?_
  refine lv_iadd hx hb dL_law_469 ?_
  refine va_sld hx hb hX hbl hbA hS (i_in (by omega) (by omega)) dL_law_470 ?_
  rw [hs1]
  refine lv_aload_n hx hb dL_law_471 rfl (lv_at hl 0 rfl) ?_
  refine lv_iload_n hx hb dL_law_472 rfl (lv_at hl 3 rfl) ?_
  refine lv_iconst (v := 2) hx hb dL_law_473 (by decide) ?_
  refine lv_iadd hx hb dL_law_474 ?_
  refine va_sld hx hb hX hbl hbA hS (i_in (by omega) (by omega)) dL_law_475 ?_
  rw [hs2]
  refine lv_aload_n hx hb dL_law_476 rfl (lv_at hl 0 rfl) ?_
  refine lv_iload_n hx hb dL_law_477 rfl (lv_at hl 3 rfl) ?_
  refine lv_iconst (v := 3) hx hb dL_law_478 (by decide) ?_
  refine lv_iadd hx hb dL_law_479 ?_
  refine va_sld hx hb hX hbl hbA hS (i_in (by omega) (by omega)) dL_law_480 ?_
  rw [hs3]
  refine lv_aload_n hx hb dL_law_481 rfl (lv_at hl 0 rfl) ?_
  refine lv_iload_n hx hb dL_law_482 rfl (lv_at hl 3 rfl) ?_
  refine lv_iconst (v := 4) hx hb dL_law_483 (by decide) ?_
  refine lv_iadd hx hb dL_law_484 ?_
  refine va_sld hx hb hX hbl hbA hS (i_in (by omega) (by omega)) dL_law_485 ?_
  rw [hs4]
  refine cR_i (As := [.int s1, .int s2, .int s3, .int s4]) (rest := []) ⟨hx, hb, hml, hown, hg⟩ (k_X12_stung l D cs _ bd u b_ bw s1 s2 s3 s4 hlaw iu1_0 iu1_1 ib66_0 ib67_0 ib23_0 ib24_0 ib20_0 iu7_0 iu7_1) ca_X12_stung q6_159 ⟨rfl, rfl⟩ ⟨Nat.le_of_ble_eq_true rfl, Nat.le_of_ble_eq_true rfl⟩ (rc_model hK (pw_r hP)) hK hP hD hS hZ rfl hl.1 rfl (Nat.le_of_ble_eq_true rfl) ⟨Nat.le_of_ble_eq_true rfl, Nat.le_of_ble_eq_true rfl⟩ dL_law_486 (fun r_9 z_23 H locs wr_9 hP hD hS => ?_)
  obtain ⟨o_u33_10, o_u34_11, o_u30_12, o_u28_13, o_u29_14, o_u31_15, o_u35_16, o_b32_17, o_b25_18, o_b26_19, o_b36_20, o_b37_21, o_b38_22⟩ := z_23
  have hP : va_P D vwCl (CW cs ad fa fq rv (va_up v 6 o_v6_2) (va_up (va_up (va_up a 20 o_a20_3) 17 o_a17_4) 16 o_a16_5) w (va_up fv 15 o_fv15_6) (va_up fp 15 o_fp15_7) ++ RW cs bd (va_up (va_up (va_up (va_up (va_up (va_up (va_up u 33 o_u33_10) 34 o_u34_11) 30 o_u30_12) 28 o_u28_13) 29 o_u29_14) 31 o_u31_15) 35 o_u35_16) (va_up (va_up (va_up (va_up (va_up (va_up b_ 32 o_b32_17) 25 o_b25_18) 26 o_b26_19) 36 o_b36_20) 37 o_b37_21) 38 o_b38_22) bw) H := hP
  have hD : va_D (fun q : Nat => s.heap.size ≤ q) (CW cs ad fa fq rv (va_up v 6 o_v6_2) (va_up (va_up (va_up a 20 o_a20_3) 17 o_a17_4) 16 o_a16_5) w (va_up fv 15 o_fv15_6) (va_up fp 15 o_fp15_7) ++ RW cs bd (va_up (va_up (va_up (va_up (va_up (va_up (va_up u 33 o_u33_10) 34 o_u34_11) 30 o_u30_12) 28 o_u28_13) 29 o_u29_14) 31 o_u31_15) 35 o_u35_16) (va_up (va_up (va_up (va_up (va_up (va_up b_ 32 o_b32_17) 25 o_b25_18) 26 o_b26_19) 36 o_b36_20) 37 o_b37_21) 38 o_b38_22) bw) := hD
  have wr_9_0 : True := wr_9
  refine lv_pop hx hb dL_law_489 rfl ?_
  refine lv_goto (tgt := 1387) hx hb dL_law_490 (by decide) ?_
  have hI1 : CI (va_up v 6 o_v6_2) (va_up (va_up (va_up a 20 o_a20_3) 17 o_a17_4) 16 o_a16_5) (va_up fv 15 o_fv15_6) := ⟨iv1_0, iv1_1, ia28_0, ia29_0, iv20_0, iv20_1, iv19_0, iv19_1, iv19_2, ia24_0, ia25_0, ifv14_0, iv4_0, iv4_1, ia18_0, iv24_0, iv24_1, iv25_0, iv25_1, iv25_2, iv26_0, iv26_1, ia19_0, iv5_0, iv5_1, (show 0 ≤ o_v6_2.toInt by first | assumption | omega), (show o_v6_2.toInt ≤ 24 by first | assumption | omega), wr_1_2, iv11_0, iv11_1, iv14_0, iv14_1, iv0_0, iv0_1, iv0_2, ifv17_0, iv21_0, iv21_1, ia37_0, iv23_0, iv23_1, iv22_0, iv22_1⟩
  have hR1 : RI (va_up (va_up (va_up (va_up (va_up (va_up (va_up u 33 o_u33_10) 34 o_u34_11) 30 o_u30_12) 28 o_u28_13) 29 o_u29_14) 31 o_u31_15) 35 o_u35_16) (va_up (va_up (va_up (va_up (va_up (va_up b_ 32 o_b32_17) 25 o_b25_18) 26 o_b26_19) 36 o_b36_20) 37 o_b37_21) 38 o_b38_22) bw := ⟨iu1_0, iu1_1, ib67_0, ib66_0, iu8_0, iu8_1, ib10_0, ib11_0, iu9_0, iu9_1, iu9_2, iu15_0, iu15_1, hlaw, ib23_0, ib20_0, ib24_0, iu7_0, iu7_1, iu41_0, iu41_1, iu48_0, iu48_1, iu46_0, iu46_1, iu47_0, iu47_1, iu55_0, iu55_1, iu55_2, iu58_0, iu62_0, iu62_1, ib63_0, iu64_0, iu64_1⟩
  have hE1 : REL (va_up v 6 o_v6_2) (va_up (va_up (va_up a 20 o_a20_3) 17 o_a17_4) 16 o_a16_5) w (va_up fv 15 o_fv15_6) (va_up (va_up (va_up (va_up (va_up (va_up (va_up u 33 o_u33_10) 34 o_u34_11) 30 o_u30_12) 28 o_u28_13) 29 o_u29_14) 31 o_u31_15) 35 o_u35_16) (va_up (va_up (va_up (va_up (va_up (va_up b_ 32 o_b32_17) 25 o_b25_18) 26 o_b26_19) 36 o_b36_20) 37 o_b37_21) 38 o_b38_22) bw := ⟨(show (v 1).toInt = (u 1).toInt by first | omega | assumption | exact e1), (show (v 4).toInt = (u 15).toInt by first | omega | assumption | exact e4), (show (v 21).toInt = (u 62).toInt by first | omega | assumption | exact e21), (show (v 22).toInt = (u 64).toInt by first | omega | assumption | exact e22), (show (fv 14 3) = (b_ 53) 0 by first | omega | assumption | exact es14), (show (fv 17 3) = (b_ 61) 0 by first | omega | assumption | exact es17), (show ((v 0).toInt < 0 ∧ (u 54).toInt = 0) ∨ (0 ≤ (v 0).toInt ∧ (u 54).toInt ≠ 0) by first | omega | assumption | exact eim), (show ∀ j, (a 37) j = (b_ 63) j by first | omega | assumption | exact ek), (show ∀ j, (a 38) j = (b_ 65) j by first | omega | assumption | exact et), (show SH (a 28) (a 29) w (b_ 66) (b_ 67) (bw 68) (v 21) by first | omega | assumption | exact esh)⟩
  exact kk ad rv (va_up v 6 o_v6_2) (va_up (va_up (va_up a 20 o_a20_3) 17 o_a17_4) 16 o_a16_5) w (va_up fv 15 o_fv15_6) (va_up fp 15 o_fp15_7) bd (va_up (va_up (va_up (va_up (va_up (va_up (va_up u 33 o_u33_10) 34 o_u34_11) 30 o_u30_12) 28 o_u28_13) 29 o_u29_14) 31 o_u31_15) 35 o_u35_16) (va_up (va_up (va_up (va_up (va_up (va_up b_ 32 o_b32_17) 25 o_b25_18) 26 o_b26_19) 36 o_b36_20) 37 o_b37_21) 38 o_b38_22) bw _ _ ls rfl rfl hI1 hR1 hE1 hP hD hS hl
set_option maxHeartbeats 8000000 in
set_option maxRecDepth 100000 in
theorem lc_reach {p : Program} {e : Env} {s : State} {m : MethodId} {below : List Frame} {meth : Method} {c : Code} (l : Launch) {b L : Nat} {xs : Nat → Int32} (C0 : lw_At p s m meth c b L xs) (hL : L ≤ 3072) {D : va_G} {cs : Nat → ClassId} {fa fq : Nat → Nat} (hK : va_K D vwCl (TY cs) s) (hZ : ZS (fun q : Nat => s.heap.size ≤ q) s) {x0 y0 : Nat} {i : Int32} (hi0 : 0 ≤ i.toInt) (hiL : i.toInt + 6 ≤ (L : Int)) (ad rv : Nat → Nat) (v : Nat → Int32) (a : Nat → Nat → Int32) (w : Nat → Nat → Int64) (fv fp : Nat → Nat → Int32) (bd : Nat → Nat) (u : Nat → Int32) (b_ : Nat → Nat → Int32) (bw : Nat → Nat → Int64) (H : Heap) (locs : List Loc) (ls : Array Slot) (hl : lv_has ls 4 [(0, .ref b), (1, .ref x0), (2, .ref y0), (3, .int i)]) (hx0 : ad 0 = x0) (hy0 : bd 0 = y0) (hI : CI v a fv) (hR : RI u b_ bw) (hE : REL v a w fv u b_ bw) (hP : va_P D vwCl (CW cs ad fa fq rv v a w fv fp ++ RW cs bd u b_ bw) H) (hD : va_D (fun q : Nat => s.heap.size ≤ q) (CW cs ad fa fq rv v a w fv fp ++ RW cs bd u b_ bw)) (hS : va_S (fun q : Nat => s.heap.size ≤ q) s.heap H locs)
    (kk : ∀ (ad rv : Nat → Nat) (v : Nat → Int32) (a : Nat → Nat → Int32) (w : Nat → Nat → Int64) (fv fp : Nat → Nat → Int32) (bd : Nat → Nat) (u : Nat → Int32) (b_ : Nat → Nat → Int32) (bw : Nat → Nat → Int64) (H : Heap) (locs : List Loc) (ls : Array Slot) (hx0 : ad 0 = x0) (hy0 : bd 0 = y0) (hI : CI v a fv) (hR : RI u b_ bw) (hE : REL v a w fv u b_ bw) (hP : va_P D vwCl (CW cs ad fa fq rv v a w fv fp ++ RW cs bd u b_ bw) H) (hD : va_D (fun q : Nat => s.heap.size ≤ q) (CW cs ad fa fq rv v a w fv fp ++ RW cs bd u b_ bw)) (hS : va_S (fun q : Nat => s.heap.size ≤ q) s.heap H locs) (hl : lv_has ls 4 [(0, .ref b), (1, .ref x0), (2, .ref y0), (3, .int i)]), W p l e room_1 s m #[Value.ref b] below meth c H locs 200 9000 (lw_Z below #[Value.ref b] s) (F0 m 1387 ls [])) : W p l e room_1 s m #[Value.ref b] below meth c H locs 200 9000 (lw_Z below #[Value.ref b] s) (F0 m 493 ls []) := by
  obtain ⟨hx, hb, hr, hml, hown, hts, hX, hbl, hlocks, hgv⟩ := id C0
  have hg : ∀ w ∈ gw, w.before #[Value.ref b] s = true := fun w h => hts w (gw_in w h)
  have hbA : ¬ (fun q : Nat => s.heap.size ≤ q) b := Nat.not_le.mpr hbl
  subst hx0
  subst hy0
  obtain ⟨iv1_0, iv1_1, ia28_0, ia29_0, iv20_0, iv20_1, iv19_0, iv19_1, iv19_2, ia24_0, ia25_0, ifv14_0, iv4_0, iv4_1, ia18_0, iv24_0, iv24_1, iv25_0, iv25_1, iv25_2, iv26_0, iv26_1, ia19_0, iv5_0, iv5_1, iv6_0, iv6_1, iv6_2, iv11_0, iv11_1, iv14_0, iv14_1, iv0_0, iv0_1, iv0_2, ifv17_0, iv21_0, iv21_1, ia37_0, iv23_0, iv23_1, iv22_0, iv22_1⟩ := id hI
  obtain ⟨iu1_0, iu1_1, ib67_0, ib66_0, iu8_0, iu8_1, ib10_0, ib11_0, iu9_0, iu9_1, iu9_2, iu15_0, iu15_1, hlaw, ib23_0, ib20_0, ib24_0, iu7_0, iu7_1, iu41_0, iu41_1, iu48_0, iu48_1, iu46_0, iu46_1, iu47_0, iu47_1, iu55_0, iu55_1, iu55_2, iu58_0, iu62_0, iu62_1, ib63_0, iu64_0, iu64_1⟩ := id hR
  obtain ⟨e1, e4, e21, e22, es14, es17, eim, ek, et, esh⟩ := id hE
  obtain ⟨s1, hs1⟩ : ∃ y, xs (i + 1).toNatClampNeg = y := ⟨_, rfl⟩
  obtain ⟨s2, hs2⟩ : ∃ y, xs (i + 2).toNatClampNeg = y := ⟨_, rfl⟩
  obtain ⟨s3, hs3⟩ : ∃ y, xs (i + 3).toNatClampNeg = y := ⟨_, rfl⟩
  obtain ⟨s4, hs4⟩ : ∃ y, xs (i + 4).toNatClampNeg = y := ⟨_, rfl⟩
  obtain ⟨s5, hs5⟩ : ∃ y, xs (i + 5).toNatClampNeg = y := ⟨_, rfl⟩
  have hq1 : (i + 1).toInt = i.toInt + 1 := i_add (by show _ ≤ i.toInt + (1 : Int32).toInt; have q : (1 : Int32).toInt = 1 := rfl; omega) (by show i.toInt + (1 : Int32).toInt ≤ _; have q : (1 : Int32).toInt = 1 := rfl; omega)
  have hq2 : (i + 2).toInt = i.toInt + 2 := i_add (by show _ ≤ i.toInt + (2 : Int32).toInt; have q : (2 : Int32).toInt = 2 := rfl; omega) (by show i.toInt + (2 : Int32).toInt ≤ _; have q : (2 : Int32).toInt = 2 := rfl; omega)
  have hq3 : (i + 3).toInt = i.toInt + 3 := i_add (by show _ ≤ i.toInt + (3 : Int32).toInt; have q : (3 : Int32).toInt = 3 := rfl; omega) (by show i.toInt + (3 : Int32).toInt ≤ _; have q : (3 : Int32).toInt = 3 := rfl; omega)
  have hq4 : (i + 4).toInt = i.toInt + 4 := i_add (by show _ ≤ i.toInt + (4 : Int32).toInt; have q : (4 : Int32).toInt = 4 := rfl; omega) (by show i.toInt + (4 : Int32).toInt ≤ _; have q : (4 : Int32).toInt = 4 := rfl; omega)
  have hq5 : (i + 5).toInt = i.toInt + 5 := i_add (by show _ ≤ i.toInt + (5 : Int32).toInt; have q : (5 : Int32).toInt = 5 := rfl; omega) (by show i.toInt + (5 : Int32).toInt ≤ _; have q : (5 : Int32).toInt = 5 := rfl; omega)
  refine lv_aload_n hx hb dL_law_493 rfl (lv_at hl 1 rfl) ?_
  refine cL_ro (As := []) (rest := []) ⟨hx, hb, hml, hown, hg⟩ (k_X11_reach l D cs _ ad fa fq rv v a w fv fp  iv1_0 iv1_1) ca_X11_reach q3_196 ⟨rfl, rfl⟩ ⟨Nat.le_of_ble_eq_true rfl, Nat.le_of_ble_eq_true rfl⟩ (rc_main hK (pw_l hP)) hK hP hD hS hZ rfl hl.1 rfl (Nat.le_of_ble_eq_true rfl) ⟨Nat.le_of_ble_eq_true rfl, Nat.le_of_ble_eq_true rfl⟩ dL_law_494 (fun r_1 wr_1 => ?_)
  have wr_1_0 : True := wr_1
  refine lv_pop hx hb dL_law_497 rfl ?_
  refine lv_aload_n hx hb dL_law_498 rfl (lv_at hl 2 rfl) ?_
  refine cR_ro (As := []) (rest := []) ⟨hx, hb, hml, hown, hg⟩ (k_X12_reach l D cs _ bd u b_ bw  iu1_0 iu1_1) ca_X12_reach q6_163 ⟨rfl, rfl⟩ ⟨Nat.le_of_ble_eq_true rfl, Nat.le_of_ble_eq_true rfl⟩ (rc_model hK (pw_r hP)) hK hP hD hS hZ rfl hl.1 rfl (Nat.le_of_ble_eq_true rfl) ⟨Nat.le_of_ble_eq_true rfl, Nat.le_of_ble_eq_true rfl⟩ dL_law_499 (fun r_3 wr_3 => ?_)
  have wr_3_0 : True := wr_3
  refine lv_pop hx hb dL_law_502 rfl ?_
  refine lv_goto (tgt := 1387) hx hb dL_law_503 (by decide) ?_
  have hI1 : CI v a fv := ⟨iv1_0, iv1_1, ia28_0, ia29_0, iv20_0, iv20_1, iv19_0, iv19_1, iv19_2, ia24_0, ia25_0, ifv14_0, iv4_0, iv4_1, ia18_0, iv24_0, iv24_1, iv25_0, iv25_1, iv25_2, iv26_0, iv26_1, ia19_0, iv5_0, iv5_1, iv6_0, iv6_1, iv6_2, iv11_0, iv11_1, iv14_0, iv14_1, iv0_0, iv0_1, iv0_2, ifv17_0, iv21_0, iv21_1, ia37_0, iv23_0, iv23_1, iv22_0, iv22_1⟩
  have hR1 : RI u b_ bw := ⟨iu1_0, iu1_1, ib67_0, ib66_0, iu8_0, iu8_1, ib10_0, ib11_0, iu9_0, iu9_1, iu9_2, iu15_0, iu15_1, hlaw, ib23_0, ib20_0, ib24_0, iu7_0, iu7_1, iu41_0, iu41_1, iu48_0, iu48_1, iu46_0, iu46_1, iu47_0, iu47_1, iu55_0, iu55_1, iu55_2, iu58_0, iu62_0, iu62_1, ib63_0, iu64_0, iu64_1⟩
  have hE1 : REL v a w fv u b_ bw := ⟨(show (v 1).toInt = (u 1).toInt by first | omega | assumption | exact e1), (show (v 4).toInt = (u 15).toInt by first | omega | assumption | exact e4), (show (v 21).toInt = (u 62).toInt by first | omega | assumption | exact e21), (show (v 22).toInt = (u 64).toInt by first | omega | assumption | exact e22), (show (fv 14 3) = (b_ 53) 0 by first | omega | assumption | exact es14), (show (fv 17 3) = (b_ 61) 0 by first | omega | assumption | exact es17), (show ((v 0).toInt < 0 ∧ (u 54).toInt = 0) ∨ (0 ≤ (v 0).toInt ∧ (u 54).toInt ≠ 0) by first | omega | assumption | exact eim), (show ∀ j, (a 37) j = (b_ 63) j by first | omega | assumption | exact ek), (show ∀ j, (a 38) j = (b_ 65) j by first | omega | assumption | exact et), (show SH (a 28) (a 29) w (b_ 66) (b_ 67) (bw 68) (v 21) by first | omega | assumption | exact esh)⟩
  exact kk ad rv v a w fv fp bd u b_ bw _ _ ls rfl rfl hI1 hR1 hE1 hP hD hS hl
set_option maxHeartbeats 8000000 in
set_option maxRecDepth 100000 in
theorem lc_soon {p : Program} {e : Env} {s : State} {m : MethodId} {below : List Frame} {meth : Method} {c : Code} (l : Launch) {b L : Nat} {xs : Nat → Int32} (C0 : lw_At p s m meth c b L xs) (hL : L ≤ 3072) {D : va_G} {cs : Nat → ClassId} {fa fq : Nat → Nat} (hK : va_K D vwCl (TY cs) s) (hZ : ZS (fun q : Nat => s.heap.size ≤ q) s) {x0 y0 : Nat} {i : Int32} (hi0 : 0 ≤ i.toInt) (hiL : i.toInt + 6 ≤ (L : Int)) (ad rv : Nat → Nat) (v : Nat → Int32) (a : Nat → Nat → Int32) (w : Nat → Nat → Int64) (fv fp : Nat → Nat → Int32) (bd : Nat → Nat) (u : Nat → Int32) (b_ : Nat → Nat → Int32) (bw : Nat → Nat → Int64) (H : Heap) (locs : List Loc) (ls : Array Slot) (hl : lv_has ls 4 [(0, .ref b), (1, .ref x0), (2, .ref y0), (3, .int i)]) (hx0 : ad 0 = x0) (hy0 : bd 0 = y0) (hI : CI v a fv) (hR : RI u b_ bw) (hE : REL v a w fv u b_ bw) (hP : va_P D vwCl (CW cs ad fa fq rv v a w fv fp ++ RW cs bd u b_ bw) H) (hD : va_D (fun q : Nat => s.heap.size ≤ q) (CW cs ad fa fq rv v a w fv fp ++ RW cs bd u b_ bw)) (hS : va_S (fun q : Nat => s.heap.size ≤ q) s.heap H locs)
    (kk : ∀ (ad rv : Nat → Nat) (v : Nat → Int32) (a : Nat → Nat → Int32) (w : Nat → Nat → Int64) (fv fp : Nat → Nat → Int32) (bd : Nat → Nat) (u : Nat → Int32) (b_ : Nat → Nat → Int32) (bw : Nat → Nat → Int64) (H : Heap) (locs : List Loc) (ls : Array Slot) (hx0 : ad 0 = x0) (hy0 : bd 0 = y0) (hI : CI v a fv) (hR : RI u b_ bw) (hE : REL v a w fv u b_ bw) (hP : va_P D vwCl (CW cs ad fa fq rv v a w fv fp ++ RW cs bd u b_ bw) H) (hD : va_D (fun q : Nat => s.heap.size ≤ q) (CW cs ad fa fq rv v a w fv fp ++ RW cs bd u b_ bw)) (hS : va_S (fun q : Nat => s.heap.size ≤ q) s.heap H locs) (hl : lv_has ls 4 [(0, .ref b), (1, .ref x0), (2, .ref y0), (3, .int i)]), W p l e room_1 s m #[Value.ref b] below meth c H locs 200 9000 (lw_Z below #[Value.ref b] s) (F0 m 1387 ls [])) : W p l e room_1 s m #[Value.ref b] below meth c H locs 200 9000 (lw_Z below #[Value.ref b] s) (F0 m 506 ls []) := by
  obtain ⟨hx, hb, hr, hml, hown, hts, hX, hbl, hlocks, hgv⟩ := id C0
  have hg : ∀ w ∈ gw, w.before #[Value.ref b] s = true := fun w h => hts w (gw_in w h)
  have hbA : ¬ (fun q : Nat => s.heap.size ≤ q) b := Nat.not_le.mpr hbl
  subst hx0
  subst hy0
  obtain ⟨iv1_0, iv1_1, ia28_0, ia29_0, iv20_0, iv20_1, iv19_0, iv19_1, iv19_2, ia24_0, ia25_0, ifv14_0, iv4_0, iv4_1, ia18_0, iv24_0, iv24_1, iv25_0, iv25_1, iv25_2, iv26_0, iv26_1, ia19_0, iv5_0, iv5_1, iv6_0, iv6_1, iv6_2, iv11_0, iv11_1, iv14_0, iv14_1, iv0_0, iv0_1, iv0_2, ifv17_0, iv21_0, iv21_1, ia37_0, iv23_0, iv23_1, iv22_0, iv22_1⟩ := id hI
  obtain ⟨iu1_0, iu1_1, ib67_0, ib66_0, iu8_0, iu8_1, ib10_0, ib11_0, iu9_0, iu9_1, iu9_2, iu15_0, iu15_1, hlaw, ib23_0, ib20_0, ib24_0, iu7_0, iu7_1, iu41_0, iu41_1, iu48_0, iu48_1, iu46_0, iu46_1, iu47_0, iu47_1, iu55_0, iu55_1, iu55_2, iu58_0, iu62_0, iu62_1, ib63_0, iu64_0, iu64_1⟩ := id hR
  obtain ⟨e1, e4, e21, e22, es14, es17, eim, ek, et, esh⟩ := id hE
  obtain ⟨s1, hs1⟩ : ∃ y, xs (i + 1).toNatClampNeg = y := ⟨_, rfl⟩
  obtain ⟨s2, hs2⟩ : ∃ y, xs (i + 2).toNatClampNeg = y := ⟨_, rfl⟩
  obtain ⟨s3, hs3⟩ : ∃ y, xs (i + 3).toNatClampNeg = y := ⟨_, rfl⟩
  obtain ⟨s4, hs4⟩ : ∃ y, xs (i + 4).toNatClampNeg = y := ⟨_, rfl⟩
  obtain ⟨s5, hs5⟩ : ∃ y, xs (i + 5).toNatClampNeg = y := ⟨_, rfl⟩
  have hq1 : (i + 1).toInt = i.toInt + 1 := i_add (by show _ ≤ i.toInt + (1 : Int32).toInt; have q : (1 : Int32).toInt = 1 := rfl; omega) (by show i.toInt + (1 : Int32).toInt ≤ _; have q : (1 : Int32).toInt = 1 := rfl; omega)
  have hq2 : (i + 2).toInt = i.toInt + 2 := i_add (by show _ ≤ i.toInt + (2 : Int32).toInt; have q : (2 : Int32).toInt = 2 := rfl; omega) (by show i.toInt + (2 : Int32).toInt ≤ _; have q : (2 : Int32).toInt = 2 := rfl; omega)
  have hq3 : (i + 3).toInt = i.toInt + 3 := i_add (by show _ ≤ i.toInt + (3 : Int32).toInt; have q : (3 : Int32).toInt = 3 := rfl; omega) (by show i.toInt + (3 : Int32).toInt ≤ _; have q : (3 : Int32).toInt = 3 := rfl; omega)
  have hq4 : (i + 4).toInt = i.toInt + 4 := i_add (by show _ ≤ i.toInt + (4 : Int32).toInt; have q : (4 : Int32).toInt = 4 := rfl; omega) (by show i.toInt + (4 : Int32).toInt ≤ _; have q : (4 : Int32).toInt = 4 := rfl; omega)
  have hq5 : (i + 5).toInt = i.toInt + 5 := i_add (by show _ ≤ i.toInt + (5 : Int32).toInt; have q : (5 : Int32).toInt = 5 := rfl; omega) (by show i.toInt + (5 : Int32).toInt ≤ _; have q : (5 : Int32).toInt = 5 := rfl; omega)
  refine lv_aload_n hx hb dL_law_506 rfl (lv_at hl 1 rfl) ?_
  refine lv_aload_n hx hb dL_law_507 rfl (lv_at hl 0 rfl) ?_
  refine lv_iload_n hx hb dL_law_508 rfl (lv_at hl 3 rfl) ?_
  refine lv_iconst (v := 1) hx hb dL_law_509 (by decide) ?_
  refine lv_iadd hx hb dL_law_510 ?_
  refine va_sld hx hb hX hbl hbA hS (i_in (by omega) (by omega)) dL_law_511 ?_
  rw [hs1]
  refine cL_i (As := [.int s1]) (rest := []) ⟨hx, hb, hml, hown, hg⟩ (k_X11_soon l D cs _ ad fa fq rv v a w fv fp s1 iv1_0 iv1_1 ifv14_0 iv5_0 iv5_1 ia18_0) ca_X11_soon q3_201 ⟨rfl, rfl⟩ ⟨Nat.le_of_ble_eq_true rfl, Nat.le_of_ble_eq_true rfl⟩ (rc_main hK (pw_l hP)) hK hP hD hS hZ rfl hl.1 rfl (Nat.le_of_ble_eq_true rfl) ⟨Nat.le_of_ble_eq_true rfl, Nat.le_of_ble_eq_true rfl⟩ dL_law_512 (fun r_1 z_6 H locs wr_1 hP hD hS => ?_)
  obtain ⟨o_a17_2, o_a16_3, o_fv15_4, o_fp15_5⟩ := z_6
  have hP : va_P D vwCl (CW cs ad fa fq rv v (va_up (va_up a 17 o_a17_2) 16 o_a16_3) w (va_up fv 15 o_fv15_4) (va_up fp 15 o_fp15_5) ++ RW cs bd u b_ bw) H := hP
  have hD : va_D (fun q : Nat => s.heap.size ≤ q) (CW cs ad fa fq rv v (va_up (va_up a 17 o_a17_2) 16 o_a16_3) w (va_up fv 15 o_fv15_4) (va_up fp 15 o_fp15_5) ++ RW cs bd u b_ bw) := hD
  have wr_1_0 : True := wr_1
  refine lv_pop hx hb dL_law_515 rfl ?_
  refine lv_aload_n hx hb dL_law_516 rfl (lv_at hl 2 rfl) ?_
  refine lv_aload_n hx hb dL_law_517 rfl (lv_at hl 0 rfl) ?_
  refine lv_iload_n hx hb dL_law_518 rfl (lv_at hl 3 rfl) ?_
  refine lv_iconst (v := 1) hx hb dL_law_519 (by decide) ?_
  refine lv_iadd hx hb dL_law_520 ?_
  refine va_sld hx hb hX hbl hbA hS (i_in (by omega) (by omega)) dL_law_521 ?_
  rw [hs1]
  refine cR_i (As := [.int s1]) (rest := []) ⟨hx, hb, hml, hown, hg⟩ (k_X12_soon l D cs _ bd u b_ bw s1 hlaw iu1_0 iu1_1 iu7_0 iu7_1 ib23_0 ib24_0 ib20_0) ca_X12_soon q6_167 ⟨rfl, rfl⟩ ⟨Nat.le_of_ble_eq_true rfl, Nat.le_of_ble_eq_true rfl⟩ (rc_model hK (pw_r hP)) hK hP hD hS hZ rfl hl.1 rfl (Nat.le_of_ble_eq_true rfl) ⟨Nat.le_of_ble_eq_true rfl, Nat.le_of_ble_eq_true rfl⟩ dL_law_522 (fun r_7 z_17 H locs wr_7 hP hD hS => ?_)
  obtain ⟨o_u33_8, o_u34_9, o_u30_10, o_u28_11, o_u29_12, o_u31_13, o_b32_14, o_b25_15, o_b26_16⟩ := z_17
  have hP : va_P D vwCl (CW cs ad fa fq rv v (va_up (va_up a 17 o_a17_2) 16 o_a16_3) w (va_up fv 15 o_fv15_4) (va_up fp 15 o_fp15_5) ++ RW cs bd (va_up (va_up (va_up (va_up (va_up (va_up u 33 o_u33_8) 34 o_u34_9) 30 o_u30_10) 28 o_u28_11) 29 o_u29_12) 31 o_u31_13) (va_up (va_up (va_up b_ 32 o_b32_14) 25 o_b25_15) 26 o_b26_16) bw) H := hP
  have hD : va_D (fun q : Nat => s.heap.size ≤ q) (CW cs ad fa fq rv v (va_up (va_up a 17 o_a17_2) 16 o_a16_3) w (va_up fv 15 o_fv15_4) (va_up fp 15 o_fp15_5) ++ RW cs bd (va_up (va_up (va_up (va_up (va_up (va_up u 33 o_u33_8) 34 o_u34_9) 30 o_u30_10) 28 o_u28_11) 29 o_u29_12) 31 o_u31_13) (va_up (va_up (va_up b_ 32 o_b32_14) 25 o_b25_15) 26 o_b26_16) bw) := hD
  have wr_7_0 : True := wr_7
  refine lv_pop hx hb dL_law_525 rfl ?_
  refine lv_goto (tgt := 1387) hx hb dL_law_526 (by decide) ?_
  have hI1 : CI v (va_up (va_up a 17 o_a17_2) 16 o_a16_3) (va_up fv 15 o_fv15_4) := ⟨iv1_0, iv1_1, ia28_0, ia29_0, iv20_0, iv20_1, iv19_0, iv19_1, iv19_2, ia24_0, ia25_0, ifv14_0, iv4_0, iv4_1, ia18_0, iv24_0, iv24_1, iv25_0, iv25_1, iv25_2, iv26_0, iv26_1, ia19_0, iv5_0, iv5_1, iv6_0, iv6_1, iv6_2, iv11_0, iv11_1, iv14_0, iv14_1, iv0_0, iv0_1, iv0_2, ifv17_0, iv21_0, iv21_1, ia37_0, iv23_0, iv23_1, iv22_0, iv22_1⟩
  have hR1 : RI (va_up (va_up (va_up (va_up (va_up (va_up u 33 o_u33_8) 34 o_u34_9) 30 o_u30_10) 28 o_u28_11) 29 o_u29_12) 31 o_u31_13) (va_up (va_up (va_up b_ 32 o_b32_14) 25 o_b25_15) 26 o_b26_16) bw := ⟨iu1_0, iu1_1, ib67_0, ib66_0, iu8_0, iu8_1, ib10_0, ib11_0, iu9_0, iu9_1, iu9_2, iu15_0, iu15_1, hlaw, ib23_0, ib20_0, ib24_0, iu7_0, iu7_1, iu41_0, iu41_1, iu48_0, iu48_1, iu46_0, iu46_1, iu47_0, iu47_1, iu55_0, iu55_1, iu55_2, iu58_0, iu62_0, iu62_1, ib63_0, iu64_0, iu64_1⟩
  have hE1 : REL v (va_up (va_up a 17 o_a17_2) 16 o_a16_3) w (va_up fv 15 o_fv15_4) (va_up (va_up (va_up (va_up (va_up (va_up u 33 o_u33_8) 34 o_u34_9) 30 o_u30_10) 28 o_u28_11) 29 o_u29_12) 31 o_u31_13) (va_up (va_up (va_up b_ 32 o_b32_14) 25 o_b25_15) 26 o_b26_16) bw := ⟨(show (v 1).toInt = (u 1).toInt by first | omega | assumption | exact e1), (show (v 4).toInt = (u 15).toInt by first | omega | assumption | exact e4), (show (v 21).toInt = (u 62).toInt by first | omega | assumption | exact e21), (show (v 22).toInt = (u 64).toInt by first | omega | assumption | exact e22), (show (fv 14 3) = (b_ 53) 0 by first | omega | assumption | exact es14), (show (fv 17 3) = (b_ 61) 0 by first | omega | assumption | exact es17), (show ((v 0).toInt < 0 ∧ (u 54).toInt = 0) ∨ (0 ≤ (v 0).toInt ∧ (u 54).toInt ≠ 0) by first | omega | assumption | exact eim), (show ∀ j, (a 37) j = (b_ 63) j by first | omega | assumption | exact ek), (show ∀ j, (a 38) j = (b_ 65) j by first | omega | assumption | exact et), (show SH (a 28) (a 29) w (b_ 66) (b_ 67) (bw 68) (v 21) by first | omega | assumption | exact esh)⟩
  exact kk ad rv v (va_up (va_up a 17 o_a17_2) 16 o_a16_3) w (va_up fv 15 o_fv15_4) (va_up fp 15 o_fp15_5) bd (va_up (va_up (va_up (va_up (va_up (va_up u 33 o_u33_8) 34 o_u34_9) 30 o_u30_10) 28 o_u28_11) 29 o_u29_12) 31 o_u31_13) (va_up (va_up (va_up b_ 32 o_b32_14) 25 o_b25_15) 26 o_b26_16) bw _ _ ls rfl rfl hI1 hR1 hE1 hP hD hS hl
set_option maxHeartbeats 8000000 in
set_option maxRecDepth 100000 in
theorem lc_passOn {p : Program} {e : Env} {s : State} {m : MethodId} {below : List Frame} {meth : Method} {c : Code} (l : Launch) {b L : Nat} {xs : Nat → Int32} (C0 : lw_At p s m meth c b L xs) (hL : L ≤ 3072) {D : va_G} {cs : Nat → ClassId} {fa fq : Nat → Nat} (hK : va_K D vwCl (TY cs) s) (hZ : ZS (fun q : Nat => s.heap.size ≤ q) s) {x0 y0 : Nat} {i : Int32} (hi0 : 0 ≤ i.toInt) (hiL : i.toInt + 6 ≤ (L : Int)) (ad rv : Nat → Nat) (v : Nat → Int32) (a : Nat → Nat → Int32) (w : Nat → Nat → Int64) (fv fp : Nat → Nat → Int32) (bd : Nat → Nat) (u : Nat → Int32) (b_ : Nat → Nat → Int32) (bw : Nat → Nat → Int64) (H : Heap) (locs : List Loc) (ls : Array Slot) (hl : lv_has ls 4 [(0, .ref b), (1, .ref x0), (2, .ref y0), (3, .int i)]) (hx0 : ad 0 = x0) (hy0 : bd 0 = y0) (hI : CI v a fv) (hR : RI u b_ bw) (hE : REL v a w fv u b_ bw) (hP : va_P D vwCl (CW cs ad fa fq rv v a w fv fp ++ RW cs bd u b_ bw) H) (hD : va_D (fun q : Nat => s.heap.size ≤ q) (CW cs ad fa fq rv v a w fv fp ++ RW cs bd u b_ bw)) (hS : va_S (fun q : Nat => s.heap.size ≤ q) s.heap H locs)
    (kk : ∀ (ad rv : Nat → Nat) (v : Nat → Int32) (a : Nat → Nat → Int32) (w : Nat → Nat → Int64) (fv fp : Nat → Nat → Int32) (bd : Nat → Nat) (u : Nat → Int32) (b_ : Nat → Nat → Int32) (bw : Nat → Nat → Int64) (H : Heap) (locs : List Loc) (ls : Array Slot) (hx0 : ad 0 = x0) (hy0 : bd 0 = y0) (hI : CI v a fv) (hR : RI u b_ bw) (hE : REL v a w fv u b_ bw) (hP : va_P D vwCl (CW cs ad fa fq rv v a w fv fp ++ RW cs bd u b_ bw) H) (hD : va_D (fun q : Nat => s.heap.size ≤ q) (CW cs ad fa fq rv v a w fv fp ++ RW cs bd u b_ bw)) (hS : va_S (fun q : Nat => s.heap.size ≤ q) s.heap H locs) (hl : lv_has ls 4 [(0, .ref b), (1, .ref x0), (2, .ref y0), (3, .int i)]), W p l e room_1 s m #[Value.ref b] below meth c H locs 200 9000 (lw_Z below #[Value.ref b] s) (F0 m 1387 ls [])) : W p l e room_1 s m #[Value.ref b] below meth c H locs 200 9000 (lw_Z below #[Value.ref b] s) (F0 m 529 ls []) := by
  obtain ⟨hx, hb, hr, hml, hown, hts, hX, hbl, hlocks, hgv⟩ := id C0
  have hg : ∀ w ∈ gw, w.before #[Value.ref b] s = true := fun w h => hts w (gw_in w h)
  have hbA : ¬ (fun q : Nat => s.heap.size ≤ q) b := Nat.not_le.mpr hbl
  subst hx0
  subst hy0
  obtain ⟨iv1_0, iv1_1, ia28_0, ia29_0, iv20_0, iv20_1, iv19_0, iv19_1, iv19_2, ia24_0, ia25_0, ifv14_0, iv4_0, iv4_1, ia18_0, iv24_0, iv24_1, iv25_0, iv25_1, iv25_2, iv26_0, iv26_1, ia19_0, iv5_0, iv5_1, iv6_0, iv6_1, iv6_2, iv11_0, iv11_1, iv14_0, iv14_1, iv0_0, iv0_1, iv0_2, ifv17_0, iv21_0, iv21_1, ia37_0, iv23_0, iv23_1, iv22_0, iv22_1⟩ := id hI
  obtain ⟨iu1_0, iu1_1, ib67_0, ib66_0, iu8_0, iu8_1, ib10_0, ib11_0, iu9_0, iu9_1, iu9_2, iu15_0, iu15_1, hlaw, ib23_0, ib20_0, ib24_0, iu7_0, iu7_1, iu41_0, iu41_1, iu48_0, iu48_1, iu46_0, iu46_1, iu47_0, iu47_1, iu55_0, iu55_1, iu55_2, iu58_0, iu62_0, iu62_1, ib63_0, iu64_0, iu64_1⟩ := id hR
  obtain ⟨e1, e4, e21, e22, es14, es17, eim, ek, et, esh⟩ := id hE
  obtain ⟨s1, hs1⟩ : ∃ y, xs (i + 1).toNatClampNeg = y := ⟨_, rfl⟩
  obtain ⟨s2, hs2⟩ : ∃ y, xs (i + 2).toNatClampNeg = y := ⟨_, rfl⟩
  obtain ⟨s3, hs3⟩ : ∃ y, xs (i + 3).toNatClampNeg = y := ⟨_, rfl⟩
  obtain ⟨s4, hs4⟩ : ∃ y, xs (i + 4).toNatClampNeg = y := ⟨_, rfl⟩
  obtain ⟨s5, hs5⟩ : ∃ y, xs (i + 5).toNatClampNeg = y := ⟨_, rfl⟩
  have hq1 : (i + 1).toInt = i.toInt + 1 := i_add (by show _ ≤ i.toInt + (1 : Int32).toInt; have q : (1 : Int32).toInt = 1 := rfl; omega) (by show i.toInt + (1 : Int32).toInt ≤ _; have q : (1 : Int32).toInt = 1 := rfl; omega)
  have hq2 : (i + 2).toInt = i.toInt + 2 := i_add (by show _ ≤ i.toInt + (2 : Int32).toInt; have q : (2 : Int32).toInt = 2 := rfl; omega) (by show i.toInt + (2 : Int32).toInt ≤ _; have q : (2 : Int32).toInt = 2 := rfl; omega)
  have hq3 : (i + 3).toInt = i.toInt + 3 := i_add (by show _ ≤ i.toInt + (3 : Int32).toInt; have q : (3 : Int32).toInt = 3 := rfl; omega) (by show i.toInt + (3 : Int32).toInt ≤ _; have q : (3 : Int32).toInt = 3 := rfl; omega)
  have hq4 : (i + 4).toInt = i.toInt + 4 := i_add (by show _ ≤ i.toInt + (4 : Int32).toInt; have q : (4 : Int32).toInt = 4 := rfl; omega) (by show i.toInt + (4 : Int32).toInt ≤ _; have q : (4 : Int32).toInt = 4 := rfl; omega)
  have hq5 : (i + 5).toInt = i.toInt + 5 := i_add (by show _ ≤ i.toInt + (5 : Int32).toInt; have q : (5 : Int32).toInt = 5 := rfl; omega) (by show i.toInt + (5 : Int32).toInt ≤ _; have q : (5 : Int32).toInt = 5 := rfl; omega)
  refine lv_aload_n hx hb dL_law_529 rfl (lv_at hl 1 rfl) ?_
  refine lv_aload_n hx hb dL_law_530 rfl (lv_at hl 0 rfl) ?_
  refine lv_iload_n hx hb dL_law_531 rfl (lv_at hl 3 rfl) ?_
  refine lv_iconst (v := 1) hx hb dL_law_532 (by decide) ?_
  refine lv_iadd hx hb dL_law_533 ?_
  refine va_sld hx hb hX hbl hbA hS (i_in (by omega) (by omega)) dL_law_534 ?_
  rw [hs1]
  refine lv_aload_n hx hb dL_law_535 rfl (lv_at hl 0 rfl) ?_
  refine lv_iload_n hx hb dL_law_536 rfl (lv_at hl 3 rfl) ?_
  refine lv_iconst (v := 2) hx hb dL_law_537 (by decide) ?_
  refine lv_iadd hx hb dL_law_538 ?_
  refine va_sld hx hb hX hbl hbA hS (i_in (by omega) (by omega)) dL_law_539 ?_
  rw [hs2]
  refine lv_aload_n hx hb dL_law_540 rfl (lv_at hl 0 rfl) ?_
  refine lv_iload_n hx hb dL_law_541 rfl (lv_at hl 3 rfl) ?_
  refine lv_iconst (v := 3) hx hb dL_law_542 (by decide) ?_
  refine lv_iadd hx hb dL_law_543 ?_
  refine va_sld hx hb hX hbl hbA hS (i_in (by omega) (by omega)) dL_law_544 ?_
  rw [hs3]
  refine cL_i (As := [.int s1, .int s2, .int s3]) (rest := []) ⟨hx, hb, hml, hown, hg⟩ (k_X11_passOn l D cs _ ad fa fq rv v a w fv fp s1 s2 s3 iv1_0 iv1_1 iv5_0 iv5_1 ia18_0 ia28_0 iv6_0 iv6_1 iv6_2 ia29_0 ifv14_0) ca_X11_passOn q3_209 ⟨rfl, rfl⟩ ⟨Nat.le_of_ble_eq_true rfl, Nat.le_of_ble_eq_true rfl⟩ (rc_main hK (pw_l hP)) hK hP hD hS hZ rfl hl.1 rfl (Nat.le_of_ble_eq_true rfl) ⟨Nat.le_of_ble_eq_true rfl, Nat.le_of_ble_eq_true rfl⟩ dL_law_545 (fun r_1 z_10 H locs wr_1 hP hD hS => ?_)
  obtain ⟨o_v6_2, o_a20_3, o_a17_4, o_a16_5, o_fv16_6, o_fv15_7, o_fp16_8, o_fp15_9⟩ := z_10
  have hP : va_P D vwCl (CW cs ad fa fq rv (va_up v 6 o_v6_2) (va_up (va_up (va_up a 20 o_a20_3) 17 o_a17_4) 16 o_a16_5) w (va_up (va_up fv 16 o_fv16_6) 15 o_fv15_7) (va_up (va_up fp 16 o_fp16_8) 15 o_fp15_9) ++ RW cs bd u b_ bw) H := hP
  have hD : va_D (fun q : Nat => s.heap.size ≤ q) (CW cs ad fa fq rv (va_up v 6 o_v6_2) (va_up (va_up (va_up a 20 o_a20_3) 17 o_a17_4) 16 o_a16_5) w (va_up (va_up fv 16 o_fv16_6) 15 o_fv15_7) (va_up (va_up fp 16 o_fp16_8) 15 o_fp15_9) ++ RW cs bd u b_ bw) := hD
  obtain ⟨wr_1_0, wr_1_1, wr_1_2⟩ : (0 ≤ o_v6_2.toInt) ∧ (o_v6_2.toInt ≤ 24) ∧ (DOK o_v6_2 o_a20_3 (v 1)) := wr_1
  refine lv_pop hx hb dL_law_548 rfl ?_
  refine lv_aload_n hx hb dL_law_549 rfl (lv_at hl 2 rfl) ?_
  refine lv_aload_n hx hb dL_law_550 rfl (lv_at hl 0 rfl) ?_
  refine lv_iload_n hx hb dL_law_551 rfl (lv_at hl 3 rfl) ?_
  refine lv_iconst (v := 1) hx hb dL_law_552 (by decide) ?_
  refine lv_iadd hx hb dL_law_553 ?_
  refine va_sld hx hb hX hbl hbA hS (i_in (by omega) (by omega)) dL_law_554 ?_
  rw [hs1]
  refine lv_aload_n hx hb dL_law_555 rfl (lv_at hl 0 rfl) ?_
  refine lv_iload_n hx hb dL_law_556 rfl (lv_at hl 3 rfl) ?_
  refine lv_iconst (v := 2) hx hb dL_law_557 (by decide) ?_
  refine lv_iadd hx hb dL_law_558 ?_
  refine va_sld hx hb hX hbl hbA hS (i_in (by omega) (by omega)) dL_law_559 ?_
  rw [hs2]
  refine lv_aload_n hx hb dL_law_560 rfl (lv_at hl 0 rfl) ?_
  refine lv_iload_n hx hb dL_law_561 rfl (lv_at hl 3 rfl) ?_
  refine lv_iconst (v := 3) hx hb dL_law_562 (by decide) ?_
  refine lv_iadd hx hb dL_law_563 ?_
  refine va_sld hx hb hX hbl hbA hS (i_in (by omega) (by omega)) dL_law_564 ?_
  rw [hs3]
  refine cR_i (As := [.int s1, .int s2, .int s3]) (rest := []) ⟨hx, hb, hml, hown, hg⟩ (k_X12_passOn l D cs _ bd u b_ bw s1 s2 s3 hlaw iu1_0 iu1_1 ib67_0 ib23_0 ib24_0 ib20_0 iu7_0 iu7_1 ib66_0) ca_X12_passOn q6_175 ⟨rfl, rfl⟩ ⟨Nat.le_of_ble_eq_true rfl, Nat.le_of_ble_eq_true rfl⟩ (rc_model hK (pw_r hP)) hK hP hD hS hZ rfl hl.1 rfl (Nat.le_of_ble_eq_true rfl) ⟨Nat.le_of_ble_eq_true rfl, Nat.le_of_ble_eq_true rfl⟩ dL_law_565 (fun r_11 z_25 H locs wr_11 hP hD hS => ?_)
  obtain ⟨o_u35_12, o_u33_13, o_u34_14, o_u30_15, o_u28_16, o_u29_17, o_u31_18, o_b36_19, o_b37_20, o_b38_21, o_b32_22, o_b25_23, o_b26_24⟩ := z_25
  have hP : va_P D vwCl (CW cs ad fa fq rv (va_up v 6 o_v6_2) (va_up (va_up (va_up a 20 o_a20_3) 17 o_a17_4) 16 o_a16_5) w (va_up (va_up fv 16 o_fv16_6) 15 o_fv15_7) (va_up (va_up fp 16 o_fp16_8) 15 o_fp15_9) ++ RW cs bd (va_up (va_up (va_up (va_up (va_up (va_up (va_up u 35 o_u35_12) 33 o_u33_13) 34 o_u34_14) 30 o_u30_15) 28 o_u28_16) 29 o_u29_17) 31 o_u31_18) (va_up (va_up (va_up (va_up (va_up (va_up b_ 36 o_b36_19) 37 o_b37_20) 38 o_b38_21) 32 o_b32_22) 25 o_b25_23) 26 o_b26_24) bw) H := hP
  have hD : va_D (fun q : Nat => s.heap.size ≤ q) (CW cs ad fa fq rv (va_up v 6 o_v6_2) (va_up (va_up (va_up a 20 o_a20_3) 17 o_a17_4) 16 o_a16_5) w (va_up (va_up fv 16 o_fv16_6) 15 o_fv15_7) (va_up (va_up fp 16 o_fp16_8) 15 o_fp15_9) ++ RW cs bd (va_up (va_up (va_up (va_up (va_up (va_up (va_up u 35 o_u35_12) 33 o_u33_13) 34 o_u34_14) 30 o_u30_15) 28 o_u28_16) 29 o_u29_17) 31 o_u31_18) (va_up (va_up (va_up (va_up (va_up (va_up b_ 36 o_b36_19) 37 o_b37_20) 38 o_b38_21) 32 o_b32_22) 25 o_b25_23) 26 o_b26_24) bw) := hD
  have wr_11_0 : True := wr_11
  refine lv_pop hx hb dL_law_568 rfl ?_
  refine lv_goto (tgt := 1387) hx hb dL_law_569 (by decide) ?_
  have hI1 : CI (va_up v 6 o_v6_2) (va_up (va_up (va_up a 20 o_a20_3) 17 o_a17_4) 16 o_a16_5) (va_up (va_up fv 16 o_fv16_6) 15 o_fv15_7) := ⟨iv1_0, iv1_1, ia28_0, ia29_0, iv20_0, iv20_1, iv19_0, iv19_1, iv19_2, ia24_0, ia25_0, ifv14_0, iv4_0, iv4_1, ia18_0, iv24_0, iv24_1, iv25_0, iv25_1, iv25_2, iv26_0, iv26_1, ia19_0, iv5_0, iv5_1, (show 0 ≤ o_v6_2.toInt by first | assumption | omega), (show o_v6_2.toInt ≤ 24 by first | assumption | omega), wr_1_2, iv11_0, iv11_1, iv14_0, iv14_1, iv0_0, iv0_1, iv0_2, ifv17_0, iv21_0, iv21_1, ia37_0, iv23_0, iv23_1, iv22_0, iv22_1⟩
  have hR1 : RI (va_up (va_up (va_up (va_up (va_up (va_up (va_up u 35 o_u35_12) 33 o_u33_13) 34 o_u34_14) 30 o_u30_15) 28 o_u28_16) 29 o_u29_17) 31 o_u31_18) (va_up (va_up (va_up (va_up (va_up (va_up b_ 36 o_b36_19) 37 o_b37_20) 38 o_b38_21) 32 o_b32_22) 25 o_b25_23) 26 o_b26_24) bw := ⟨iu1_0, iu1_1, ib67_0, ib66_0, iu8_0, iu8_1, ib10_0, ib11_0, iu9_0, iu9_1, iu9_2, iu15_0, iu15_1, hlaw, ib23_0, ib20_0, ib24_0, iu7_0, iu7_1, iu41_0, iu41_1, iu48_0, iu48_1, iu46_0, iu46_1, iu47_0, iu47_1, iu55_0, iu55_1, iu55_2, iu58_0, iu62_0, iu62_1, ib63_0, iu64_0, iu64_1⟩
  have hE1 : REL (va_up v 6 o_v6_2) (va_up (va_up (va_up a 20 o_a20_3) 17 o_a17_4) 16 o_a16_5) w (va_up (va_up fv 16 o_fv16_6) 15 o_fv15_7) (va_up (va_up (va_up (va_up (va_up (va_up (va_up u 35 o_u35_12) 33 o_u33_13) 34 o_u34_14) 30 o_u30_15) 28 o_u28_16) 29 o_u29_17) 31 o_u31_18) (va_up (va_up (va_up (va_up (va_up (va_up b_ 36 o_b36_19) 37 o_b37_20) 38 o_b38_21) 32 o_b32_22) 25 o_b25_23) 26 o_b26_24) bw := ⟨(show (v 1).toInt = (u 1).toInt by first | omega | assumption | exact e1), (show (v 4).toInt = (u 15).toInt by first | omega | assumption | exact e4), (show (v 21).toInt = (u 62).toInt by first | omega | assumption | exact e21), (show (v 22).toInt = (u 64).toInt by first | omega | assumption | exact e22), (show (fv 14 3) = (b_ 53) 0 by first | omega | assumption | exact es14), (show (fv 17 3) = (b_ 61) 0 by first | omega | assumption | exact es17), (show ((v 0).toInt < 0 ∧ (u 54).toInt = 0) ∨ (0 ≤ (v 0).toInt ∧ (u 54).toInt ≠ 0) by first | omega | assumption | exact eim), (show ∀ j, (a 37) j = (b_ 63) j by first | omega | assumption | exact ek), (show ∀ j, (a 38) j = (b_ 65) j by first | omega | assumption | exact et), (show SH (a 28) (a 29) w (b_ 66) (b_ 67) (bw 68) (v 21) by first | omega | assumption | exact esh)⟩
  exact kk ad rv (va_up v 6 o_v6_2) (va_up (va_up (va_up a 20 o_a20_3) 17 o_a17_4) 16 o_a16_5) w (va_up (va_up fv 16 o_fv16_6) 15 o_fv15_7) (va_up (va_up fp 16 o_fp16_8) 15 o_fp15_9) bd (va_up (va_up (va_up (va_up (va_up (va_up (va_up u 35 o_u35_12) 33 o_u33_13) 34 o_u34_14) 30 o_u30_15) 28 o_u28_16) 29 o_u29_17) 31 o_u31_18) (va_up (va_up (va_up (va_up (va_up (va_up b_ 36 o_b36_19) 37 o_b37_20) 38 o_b38_21) 32 o_b32_22) 25 o_b25_23) 26 o_b26_24) bw _ _ ls rfl rfl hI1 hR1 hE1 hP hD hS hl
set_option maxHeartbeats 8000000 in
set_option maxRecDepth 100000 in
theorem lc_orders {p : Program} {e : Env} {s : State} {m : MethodId} {below : List Frame} {meth : Method} {c : Code} (l : Launch) {b L : Nat} {xs : Nat → Int32} (C0 : lw_At p s m meth c b L xs) (hL : L ≤ 3072) {D : va_G} {cs : Nat → ClassId} {fa fq : Nat → Nat} (hK : va_K D vwCl (TY cs) s) (hZ : ZS (fun q : Nat => s.heap.size ≤ q) s) {x0 y0 : Nat} {i : Int32} (hi0 : 0 ≤ i.toInt) (hiL : i.toInt + 6 ≤ (L : Int)) (ad rv : Nat → Nat) (v : Nat → Int32) (a : Nat → Nat → Int32) (w : Nat → Nat → Int64) (fv fp : Nat → Nat → Int32) (bd : Nat → Nat) (u : Nat → Int32) (b_ : Nat → Nat → Int32) (bw : Nat → Nat → Int64) (H : Heap) (locs : List Loc) (ls : Array Slot) (hl : lv_has ls 4 [(0, .ref b), (1, .ref x0), (2, .ref y0), (3, .int i)]) (hx0 : ad 0 = x0) (hy0 : bd 0 = y0) (hI : CI v a fv) (hR : RI u b_ bw) (hE : REL v a w fv u b_ bw) (hP : va_P D vwCl (CW cs ad fa fq rv v a w fv fp ++ RW cs bd u b_ bw) H) (hD : va_D (fun q : Nat => s.heap.size ≤ q) (CW cs ad fa fq rv v a w fv fp ++ RW cs bd u b_ bw)) (hS : va_S (fun q : Nat => s.heap.size ≤ q) s.heap H locs)
    (kk : ∀ (ad rv : Nat → Nat) (v : Nat → Int32) (a : Nat → Nat → Int32) (w : Nat → Nat → Int64) (fv fp : Nat → Nat → Int32) (bd : Nat → Nat) (u : Nat → Int32) (b_ : Nat → Nat → Int32) (bw : Nat → Nat → Int64) (H : Heap) (locs : List Loc) (ls : Array Slot) (hx0 : ad 0 = x0) (hy0 : bd 0 = y0) (hI : CI v a fv) (hR : RI u b_ bw) (hE : REL v a w fv u b_ bw) (hP : va_P D vwCl (CW cs ad fa fq rv v a w fv fp ++ RW cs bd u b_ bw) H) (hD : va_D (fun q : Nat => s.heap.size ≤ q) (CW cs ad fa fq rv v a w fv fp ++ RW cs bd u b_ bw)) (hS : va_S (fun q : Nat => s.heap.size ≤ q) s.heap H locs) (hl : lv_has ls 4 [(0, .ref b), (1, .ref x0), (2, .ref y0), (3, .int i)]), W p l e room_1 s m #[Value.ref b] below meth c H locs 200 9000 (lw_Z below #[Value.ref b] s) (F0 m 1387 ls [])) : W p l e room_1 s m #[Value.ref b] below meth c H locs 200 9000 (lw_Z below #[Value.ref b] s) (F0 m 572 ls []) := by
  obtain ⟨hx, hb, hr, hml, hown, hts, hX, hbl, hlocks, hgv⟩ := id C0
  have hg : ∀ w ∈ gw, w.before #[Value.ref b] s = true := fun w h => hts w (gw_in w h)
  have hbA : ¬ (fun q : Nat => s.heap.size ≤ q) b := Nat.not_le.mpr hbl
  subst hx0
  subst hy0
  obtain ⟨iv1_0, iv1_1, ia28_0, ia29_0, iv20_0, iv20_1, iv19_0, iv19_1, iv19_2, ia24_0, ia25_0, ifv14_0, iv4_0, iv4_1, ia18_0, iv24_0, iv24_1, iv25_0, iv25_1, iv25_2, iv26_0, iv26_1, ia19_0, iv5_0, iv5_1, iv6_0, iv6_1, iv6_2, iv11_0, iv11_1, iv14_0, iv14_1, iv0_0, iv0_1, iv0_2, ifv17_0, iv21_0, iv21_1, ia37_0, iv23_0, iv23_1, iv22_0, iv22_1⟩ := id hI
  obtain ⟨iu1_0, iu1_1, ib67_0, ib66_0, iu8_0, iu8_1, ib10_0, ib11_0, iu9_0, iu9_1, iu9_2, iu15_0, iu15_1, hlaw, ib23_0, ib20_0, ib24_0, iu7_0, iu7_1, iu41_0, iu41_1, iu48_0, iu48_1, iu46_0, iu46_1, iu47_0, iu47_1, iu55_0, iu55_1, iu55_2, iu58_0, iu62_0, iu62_1, ib63_0, iu64_0, iu64_1⟩ := id hR
  obtain ⟨e1, e4, e21, e22, es14, es17, eim, ek, et, esh⟩ := id hE
  obtain ⟨s1, hs1⟩ : ∃ y, xs (i + 1).toNatClampNeg = y := ⟨_, rfl⟩
  obtain ⟨s2, hs2⟩ : ∃ y, xs (i + 2).toNatClampNeg = y := ⟨_, rfl⟩
  obtain ⟨s3, hs3⟩ : ∃ y, xs (i + 3).toNatClampNeg = y := ⟨_, rfl⟩
  obtain ⟨s4, hs4⟩ : ∃ y, xs (i + 4).toNatClampNeg = y := ⟨_, rfl⟩
  obtain ⟨s5, hs5⟩ : ∃ y, xs (i + 5).toNatClampNeg = y := ⟨_, rfl⟩
  have hq1 : (i + 1).toInt = i.toInt + 1 := i_add (by show _ ≤ i.toInt + (1 : Int32).toInt; have q : (1 : Int32).toInt = 1 := rfl; omega) (by show i.toInt + (1 : Int32).toInt ≤ _; have q : (1 : Int32).toInt = 1 := rfl; omega)
  have hq2 : (i + 2).toInt = i.toInt + 2 := i_add (by show _ ≤ i.toInt + (2 : Int32).toInt; have q : (2 : Int32).toInt = 2 := rfl; omega) (by show i.toInt + (2 : Int32).toInt ≤ _; have q : (2 : Int32).toInt = 2 := rfl; omega)
  have hq3 : (i + 3).toInt = i.toInt + 3 := i_add (by show _ ≤ i.toInt + (3 : Int32).toInt; have q : (3 : Int32).toInt = 3 := rfl; omega) (by show i.toInt + (3 : Int32).toInt ≤ _; have q : (3 : Int32).toInt = 3 := rfl; omega)
  have hq4 : (i + 4).toInt = i.toInt + 4 := i_add (by show _ ≤ i.toInt + (4 : Int32).toInt; have q : (4 : Int32).toInt = 4 := rfl; omega) (by show i.toInt + (4 : Int32).toInt ≤ _; have q : (4 : Int32).toInt = 4 := rfl; omega)
  have hq5 : (i + 5).toInt = i.toInt + 5 := i_add (by show _ ≤ i.toInt + (5 : Int32).toInt; have q : (5 : Int32).toInt = 5 := rfl; omega) (by show i.toInt + (5 : Int32).toInt ≤ _; have q : (5 : Int32).toInt = 5 := rfl; omega)
  refine lv_aload_n hx hb dL_law_572 rfl (lv_at hl 1 rfl) ?_
  refine lv_aload_n hx hb dL_law_573 rfl (lv_at hl 0 rfl) ?_
  refine lv_iload_n hx hb dL_law_574 rfl (lv_at hl 3 rfl) ?_
  refine lv_iconst (v := 1) hx hb dL_law_575 (by decide) ?_
  refine lv_iadd hx hb dL_law_576 ?_
  refine va_sld hx hb hX hbl hbA hS (i_in (by omega) (by omega)) dL_law_577 ?_
  rw [hs1]
  refine lv_aload_n hx hb dL_law_578 rfl (lv_at hl 0 rfl) ?_
  refine lv_iload_n hx hb dL_law_579 rfl (lv_at hl 3 rfl) ?_
  refine lv_iconst (v := 2) hx hb dL_law_580 (by decide) ?_
  refine lv_iadd hx hb dL_law_581 ?_
  refine va_sld hx hb hX hbl hbA hS (i_in (by omega) (by omega)) dL_law_582 ?_
  rw [hs2]
  refine cL_i (As := [.int s1, .int s2]) (rest := []) ⟨hx, hb, hml, hown, hg⟩ (k_X11_orders l D cs _ ad fa fq rv v a w fv fp s1 s2 ia28_0 iv1_0 iv1_1 iv6_0 iv6_1 iv6_2 ia29_0 ifv14_0 iv5_0 iv5_1 ia18_0) ca_X11_orders q3_214 ⟨rfl, rfl⟩ ⟨Nat.le_of_ble_eq_true rfl, Nat.le_of_ble_eq_true rfl⟩ (rc_main hK (pw_l hP)) hK hP hD hS hZ rfl hl.1 rfl (Nat.le_of_ble_eq_true rfl) ⟨Nat.le_of_ble_eq_true rfl, Nat.le_of_ble_eq_true rfl⟩ dL_law_583 (fun r_1 z_12 H locs wr_1 hP hD hS => ?_)
  obtain ⟨o_fv_2, o_fp_3, o_v6_4, o_v7_5, o_v8_6, o_a20_7, o_a22_8, o_a21_9, o_a17_10, o_a16_11⟩ := z_12
  have hP : va_P D vwCl (CW cs ad fa fq rv (va_up (va_up (va_up v 6 o_v6_4) 7 o_v7_5) 8 o_v8_6) (va_up (va_up (va_up (va_up (va_up a 20 o_a20_7) 22 o_a22_8) 21 o_a21_9) 17 o_a17_10) 16 o_a16_11) w o_fv_2 o_fp_3 ++ RW cs bd u b_ bw) H := hP
  have hD : va_D (fun q : Nat => s.heap.size ≤ q) (CW cs ad fa fq rv (va_up (va_up (va_up v 6 o_v6_4) 7 o_v7_5) 8 o_v8_6) (va_up (va_up (va_up (va_up (va_up a 20 o_a20_7) 22 o_a22_8) 21 o_a21_9) 17 o_a17_10) 16 o_a16_11) w o_fv_2 o_fp_3 ++ RW cs bd u b_ bw) := hD
  obtain ⟨wr_1_0, wr_1_1, wr_1_2, wr_1_3⟩ : (∀ f : Nat, 14 ≤ f → o_fv_2 f = fv f) ∧ (0 ≤ o_v6_4.toInt) ∧ (o_v6_4.toInt ≤ 24) ∧ (DOK o_v6_4 o_a20_7 (v 1)) := wr_1
  refine lv_pop hx hb dL_law_586 rfl ?_
  refine lv_aload_n hx hb dL_law_587 rfl (lv_at hl 2 rfl) ?_
  refine lv_aload_n hx hb dL_law_588 rfl (lv_at hl 0 rfl) ?_
  refine lv_iload_n hx hb dL_law_589 rfl (lv_at hl 3 rfl) ?_
  refine lv_iconst (v := 1) hx hb dL_law_590 (by decide) ?_
  refine lv_iadd hx hb dL_law_591 ?_
  refine va_sld hx hb hX hbl hbA hS (i_in (by omega) (by omega)) dL_law_592 ?_
  rw [hs1]
  refine lv_aload_n hx hb dL_law_593 rfl (lv_at hl 0 rfl) ?_
  refine lv_iload_n hx hb dL_law_594 rfl (lv_at hl 3 rfl) ?_
  refine lv_iconst (v := 2) hx hb dL_law_595 (by decide) ?_
  refine lv_iadd hx hb dL_law_596 ?_
  refine va_sld hx hb hX hbl hbA hS (i_in (by omega) (by omega)) dL_law_597 ?_
  rw [hs2]
  refine cR_i (As := [.int s1, .int s2]) (rest := []) ⟨hx, hb, hml, hown, hg⟩ (k_X12_orders l D cs _ bd u b_ bw s1 s2 hlaw ib66_0 ib67_0 iu1_0 iu1_1 iu41_0 iu41_1 iu7_0 iu7_1 ib23_0 ib24_0 ib20_0) ca_X12_orders q6_179 ⟨rfl, rfl⟩ ⟨Nat.le_of_ble_eq_true rfl, Nat.le_of_ble_eq_true rfl⟩ (rc_model hK (pw_r hP)) hK hP hD hS hZ rfl hl.1 rfl (Nat.le_of_ble_eq_true rfl) ⟨Nat.le_of_ble_eq_true rfl, Nat.le_of_ble_eq_true rfl⟩ dL_law_598 (fun r_13 z_28 H locs wr_13 hP hD hS => ?_)
  obtain ⟨o_u41_14, o_u43_15, o_u42_16, o_u33_17, o_u34_18, o_u28_19, o_u29_20, o_u30_21, o_u31_22, o_b40_23, o_b39_24, o_b32_25, o_b25_26, o_b26_27⟩ := z_28
  have hP : va_P D vwCl (CW cs ad fa fq rv (va_up (va_up (va_up v 6 o_v6_4) 7 o_v7_5) 8 o_v8_6) (va_up (va_up (va_up (va_up (va_up a 20 o_a20_7) 22 o_a22_8) 21 o_a21_9) 17 o_a17_10) 16 o_a16_11) w o_fv_2 o_fp_3 ++ RW cs bd (va_up (va_up (va_up (va_up (va_up (va_up (va_up (va_up (va_up u 41 o_u41_14) 43 o_u43_15) 42 o_u42_16) 33 o_u33_17) 34 o_u34_18) 28 o_u28_19) 29 o_u29_20) 30 o_u30_21) 31 o_u31_22) (va_up (va_up (va_up (va_up (va_up b_ 40 o_b40_23) 39 o_b39_24) 32 o_b32_25) 25 o_b25_26) 26 o_b26_27) bw) H := hP
  have hD : va_D (fun q : Nat => s.heap.size ≤ q) (CW cs ad fa fq rv (va_up (va_up (va_up v 6 o_v6_4) 7 o_v7_5) 8 o_v8_6) (va_up (va_up (va_up (va_up (va_up a 20 o_a20_7) 22 o_a22_8) 21 o_a21_9) 17 o_a17_10) 16 o_a16_11) w o_fv_2 o_fp_3 ++ RW cs bd (va_up (va_up (va_up (va_up (va_up (va_up (va_up (va_up (va_up u 41 o_u41_14) 43 o_u43_15) 42 o_u42_16) 33 o_u33_17) 34 o_u34_18) 28 o_u28_19) 29 o_u29_20) 30 o_u30_21) 31 o_u31_22) (va_up (va_up (va_up (va_up (va_up b_ 40 o_b40_23) 39 o_b39_24) 32 o_b32_25) 25 o_b25_26) 26 o_b26_27) bw) := hD
  obtain ⟨wr_13_0, wr_13_1⟩ : (0 ≤ o_u41_14.toInt) ∧ (o_u41_14.toInt ≤ 24) := wr_13
  refine lv_pop hx hb dL_law_601 rfl ?_
  refine lv_goto (tgt := 1387) hx hb dL_law_602 (by decide) ?_
  have hI1 : CI (va_up (va_up (va_up v 6 o_v6_4) 7 o_v7_5) 8 o_v8_6) (va_up (va_up (va_up (va_up (va_up a 20 o_a20_7) 22 o_a22_8) 21 o_a21_9) 17 o_a17_10) 16 o_a16_11) o_fv_2 := ⟨iv1_0, iv1_1, ia28_0, ia29_0, iv20_0, iv20_1, iv19_0, iv19_1, iv19_2, ia24_0, ia25_0, (show (o_fv_2 14 2).toInt = -2 ∨ (0 ≤ (o_fv_2 14 2).toInt ∧ (o_fv_2 14 2).toInt < (v 1).toInt) from by rw [wr_1_0 14 (by decide)]; exact ifv14_0), iv4_0, iv4_1, ia18_0, iv24_0, iv24_1, iv25_0, iv25_1, iv25_2, iv26_0, iv26_1, ia19_0, iv5_0, iv5_1, (show 0 ≤ o_v6_4.toInt by first | assumption | omega), (show o_v6_4.toInt ≤ 24 by first | assumption | omega), wr_1_3, iv11_0, iv11_1, iv14_0, iv14_1, iv0_0, iv0_1, iv0_2, (show (o_fv_2 17 2).toInt = -2 ∨ (0 ≤ (o_fv_2 17 2).toInt ∧ (o_fv_2 17 2).toInt < (v 1).toInt) from by rw [wr_1_0 17 (by decide)]; exact ifv17_0), iv21_0, iv21_1, ia37_0, iv23_0, iv23_1, iv22_0, iv22_1⟩
  have hR1 : RI (va_up (va_up (va_up (va_up (va_up (va_up (va_up (va_up (va_up u 41 o_u41_14) 43 o_u43_15) 42 o_u42_16) 33 o_u33_17) 34 o_u34_18) 28 o_u28_19) 29 o_u29_20) 30 o_u30_21) 31 o_u31_22) (va_up (va_up (va_up (va_up (va_up b_ 40 o_b40_23) 39 o_b39_24) 32 o_b32_25) 25 o_b25_26) 26 o_b26_27) bw := ⟨iu1_0, iu1_1, ib67_0, ib66_0, iu8_0, iu8_1, ib10_0, ib11_0, iu9_0, iu9_1, iu9_2, iu15_0, iu15_1, hlaw, ib23_0, ib20_0, ib24_0, iu7_0, iu7_1, (show 0 ≤ o_u41_14.toInt by first | assumption | omega), (show o_u41_14.toInt ≤ 24 by first | assumption | omega), iu48_0, iu48_1, iu46_0, iu46_1, iu47_0, iu47_1, iu55_0, iu55_1, iu55_2, iu58_0, iu62_0, iu62_1, ib63_0, iu64_0, iu64_1⟩
  have hE1 : REL (va_up (va_up (va_up v 6 o_v6_4) 7 o_v7_5) 8 o_v8_6) (va_up (va_up (va_up (va_up (va_up a 20 o_a20_7) 22 o_a22_8) 21 o_a21_9) 17 o_a17_10) 16 o_a16_11) w o_fv_2 (va_up (va_up (va_up (va_up (va_up (va_up (va_up (va_up (va_up u 41 o_u41_14) 43 o_u43_15) 42 o_u42_16) 33 o_u33_17) 34 o_u34_18) 28 o_u28_19) 29 o_u29_20) 30 o_u30_21) 31 o_u31_22) (va_up (va_up (va_up (va_up (va_up b_ 40 o_b40_23) 39 o_b39_24) 32 o_b32_25) 25 o_b25_26) 26 o_b26_27) bw := ⟨(show (v 1).toInt = (u 1).toInt by first | omega | assumption | exact e1), (show (v 4).toInt = (u 15).toInt by first | omega | assumption | exact e4), (show (v 21).toInt = (u 62).toInt by first | omega | assumption | exact e21), (show (v 22).toInt = (u 64).toInt by first | omega | assumption | exact e22), (show (o_fv_2 14 3) = (b_ 53) 0 by exact (congrFun (wr_1_0 14 (by decide)) 3).trans es14), (show (o_fv_2 17 3) = (b_ 61) 0 by exact (congrFun (wr_1_0 17 (by decide)) 3).trans es17), (show ((v 0).toInt < 0 ∧ (u 54).toInt = 0) ∨ (0 ≤ (v 0).toInt ∧ (u 54).toInt ≠ 0) by first | omega | assumption | exact eim), (show ∀ j, (a 37) j = (b_ 63) j by first | omega | assumption | exact ek), (show ∀ j, (a 38) j = (b_ 65) j by first | omega | assumption | exact et), (show SH (a 28) (a 29) w (b_ 66) (b_ 67) (bw 68) (v 21) by first | omega | assumption | exact esh)⟩
  exact kk ad rv (va_up (va_up (va_up v 6 o_v6_4) 7 o_v7_5) 8 o_v8_6) (va_up (va_up (va_up (va_up (va_up a 20 o_a20_7) 22 o_a22_8) 21 o_a21_9) 17 o_a17_10) 16 o_a16_11) w o_fv_2 o_fp_3 bd (va_up (va_up (va_up (va_up (va_up (va_up (va_up (va_up (va_up u 41 o_u41_14) 43 o_u43_15) 42 o_u42_16) 33 o_u33_17) 34 o_u34_18) 28 o_u28_19) 29 o_u29_20) 30 o_u30_21) 31 o_u31_22) (va_up (va_up (va_up (va_up (va_up b_ 40 o_b40_23) 39 o_b39_24) 32 o_b32_25) 25 o_b25_26) 26 o_b26_27) bw _ _ ls rfl rfl hI1 hR1 hE1 hP hD hS hl
set_option maxHeartbeats 8000000 in
set_option maxRecDepth 100000 in
theorem lc_stand {p : Program} {e : Env} {s : State} {m : MethodId} {below : List Frame} {meth : Method} {c : Code} (l : Launch) {b L : Nat} {xs : Nat → Int32} (C0 : lw_At p s m meth c b L xs) (hL : L ≤ 3072) {D : va_G} {cs : Nat → ClassId} {fa fq : Nat → Nat} (hK : va_K D vwCl (TY cs) s) (hZ : ZS (fun q : Nat => s.heap.size ≤ q) s) {x0 y0 : Nat} {i : Int32} (hi0 : 0 ≤ i.toInt) (hiL : i.toInt + 6 ≤ (L : Int)) (ad rv : Nat → Nat) (v : Nat → Int32) (a : Nat → Nat → Int32) (w : Nat → Nat → Int64) (fv fp : Nat → Nat → Int32) (bd : Nat → Nat) (u : Nat → Int32) (b_ : Nat → Nat → Int32) (bw : Nat → Nat → Int64) (H : Heap) (locs : List Loc) (ls : Array Slot) (hl : lv_has ls 4 [(0, .ref b), (1, .ref x0), (2, .ref y0), (3, .int i)]) (hx0 : ad 0 = x0) (hy0 : bd 0 = y0) (hI : CI v a fv) (hR : RI u b_ bw) (hE : REL v a w fv u b_ bw) (hP : va_P D vwCl (CW cs ad fa fq rv v a w fv fp ++ RW cs bd u b_ bw) H) (hD : va_D (fun q : Nat => s.heap.size ≤ q) (CW cs ad fa fq rv v a w fv fp ++ RW cs bd u b_ bw)) (hS : va_S (fun q : Nat => s.heap.size ≤ q) s.heap H locs)
    (kk : ∀ (ad rv : Nat → Nat) (v : Nat → Int32) (a : Nat → Nat → Int32) (w : Nat → Nat → Int64) (fv fp : Nat → Nat → Int32) (bd : Nat → Nat) (u : Nat → Int32) (b_ : Nat → Nat → Int32) (bw : Nat → Nat → Int64) (H : Heap) (locs : List Loc) (ls : Array Slot) (hx0 : ad 0 = x0) (hy0 : bd 0 = y0) (hI : CI v a fv) (hR : RI u b_ bw) (hE : REL v a w fv u b_ bw) (hP : va_P D vwCl (CW cs ad fa fq rv v a w fv fp ++ RW cs bd u b_ bw) H) (hD : va_D (fun q : Nat => s.heap.size ≤ q) (CW cs ad fa fq rv v a w fv fp ++ RW cs bd u b_ bw)) (hS : va_S (fun q : Nat => s.heap.size ≤ q) s.heap H locs) (hl : lv_has ls 4 [(0, .ref b), (1, .ref x0), (2, .ref y0), (3, .int i)]), W p l e room_1 s m #[Value.ref b] below meth c H locs 200 9000 (lw_Z below #[Value.ref b] s) (F0 m 1387 ls [])) : W p l e room_1 s m #[Value.ref b] below meth c H locs 200 9000 (lw_Z below #[Value.ref b] s) (F0 m 605 ls []) := by
  obtain ⟨hx, hb, hr, hml, hown, hts, hX, hbl, hlocks, hgv⟩ := id C0
  have hg : ∀ w ∈ gw, w.before #[Value.ref b] s = true := fun w h => hts w (gw_in w h)
  have hbA : ¬ (fun q : Nat => s.heap.size ≤ q) b := Nat.not_le.mpr hbl
  subst hx0
  subst hy0
  obtain ⟨iv1_0, iv1_1, ia28_0, ia29_0, iv20_0, iv20_1, iv19_0, iv19_1, iv19_2, ia24_0, ia25_0, ifv14_0, iv4_0, iv4_1, ia18_0, iv24_0, iv24_1, iv25_0, iv25_1, iv25_2, iv26_0, iv26_1, ia19_0, iv5_0, iv5_1, iv6_0, iv6_1, iv6_2, iv11_0, iv11_1, iv14_0, iv14_1, iv0_0, iv0_1, iv0_2, ifv17_0, iv21_0, iv21_1, ia37_0, iv23_0, iv23_1, iv22_0, iv22_1⟩ := id hI
  obtain ⟨iu1_0, iu1_1, ib67_0, ib66_0, iu8_0, iu8_1, ib10_0, ib11_0, iu9_0, iu9_1, iu9_2, iu15_0, iu15_1, hlaw, ib23_0, ib20_0, ib24_0, iu7_0, iu7_1, iu41_0, iu41_1, iu48_0, iu48_1, iu46_0, iu46_1, iu47_0, iu47_1, iu55_0, iu55_1, iu55_2, iu58_0, iu62_0, iu62_1, ib63_0, iu64_0, iu64_1⟩ := id hR
  obtain ⟨e1, e4, e21, e22, es14, es17, eim, ek, et, esh⟩ := id hE
  obtain ⟨s1, hs1⟩ : ∃ y, xs (i + 1).toNatClampNeg = y := ⟨_, rfl⟩
  obtain ⟨s2, hs2⟩ : ∃ y, xs (i + 2).toNatClampNeg = y := ⟨_, rfl⟩
  obtain ⟨s3, hs3⟩ : ∃ y, xs (i + 3).toNatClampNeg = y := ⟨_, rfl⟩
  obtain ⟨s4, hs4⟩ : ∃ y, xs (i + 4).toNatClampNeg = y := ⟨_, rfl⟩
  obtain ⟨s5, hs5⟩ : ∃ y, xs (i + 5).toNatClampNeg = y := ⟨_, rfl⟩
  have hq1 : (i + 1).toInt = i.toInt + 1 := i_add (by show _ ≤ i.toInt + (1 : Int32).toInt; have q : (1 : Int32).toInt = 1 := rfl; omega) (by show i.toInt + (1 : Int32).toInt ≤ _; have q : (1 : Int32).toInt = 1 := rfl; omega)
  have hq2 : (i + 2).toInt = i.toInt + 2 := i_add (by show _ ≤ i.toInt + (2 : Int32).toInt; have q : (2 : Int32).toInt = 2 := rfl; omega) (by show i.toInt + (2 : Int32).toInt ≤ _; have q : (2 : Int32).toInt = 2 := rfl; omega)
  have hq3 : (i + 3).toInt = i.toInt + 3 := i_add (by show _ ≤ i.toInt + (3 : Int32).toInt; have q : (3 : Int32).toInt = 3 := rfl; omega) (by show i.toInt + (3 : Int32).toInt ≤ _; have q : (3 : Int32).toInt = 3 := rfl; omega)
  have hq4 : (i + 4).toInt = i.toInt + 4 := i_add (by show _ ≤ i.toInt + (4 : Int32).toInt; have q : (4 : Int32).toInt = 4 := rfl; omega) (by show i.toInt + (4 : Int32).toInt ≤ _; have q : (4 : Int32).toInt = 4 := rfl; omega)
  have hq5 : (i + 5).toInt = i.toInt + 5 := i_add (by show _ ≤ i.toInt + (5 : Int32).toInt; have q : (5 : Int32).toInt = 5 := rfl; omega) (by show i.toInt + (5 : Int32).toInt ≤ _; have q : (5 : Int32).toInt = 5 := rfl; omega)
  refine lv_aload_n hx hb dL_law_605 rfl (lv_at hl 1 rfl) ?_
  refine lv_aload_n hx hb dL_law_606 rfl (lv_at hl 0 rfl) ?_
  refine lv_iload_n hx hb dL_law_607 rfl (lv_at hl 3 rfl) ?_
  refine lv_iconst (v := 1) hx hb dL_law_608 (by decide) ?_
  refine lv_iadd hx hb dL_law_609 ?_
  refine va_sld hx hb hX hbl hbA hS (i_in (by omega) (by omega)) dL_law_610 ?_
  rw [hs1]
  refine lv_aload_n hx hb dL_law_611 rfl (lv_at hl 0 rfl) ?_
  refine lv_iload_n hx hb dL_law_612 rfl (lv_at hl 3 rfl) ?_
  refine lv_iconst (v := 2) hx hb dL_law_613 (by decide) ?_
  refine lv_iadd hx hb dL_law_614 ?_
  refine va_sld hx hb hX hbl hbA hS (i_in (by omega) (by omega)) dL_law_615 ?_
  rw [hs2]
  refine lv_aload_n hx hb dL_law_616 rfl (lv_at hl 0 rfl) ?_
  refine lv_iload_n hx hb dL_law_617 rfl (lv_at hl 3 rfl) ?_
  refine lv_iconst (v := 3) hx hb dL_law_618 (by decide) ?_
  refine lv_iadd hx hb dL_law_619 ?_
  refine va_sld hx hb hX hbl hbA hS (i_in (by omega) (by omega)) dL_law_620 ?_
  rw [hs3]
  refine cL_i (As := [.int s1, .int s2, .int s3]) (rest := []) ⟨hx, hb, hml, hown, hg⟩ (k_X11_stand l D cs _ ad fa fq rv v a w fv fp s1 s2 s3 iv1_0 iv1_1 iv6_0 iv6_1 iv6_2 iv5_0 iv5_1 ia18_0 ifv14_0 ia28_0 ia29_0) ca_X11_stand q3_239 ⟨rfl, rfl⟩ ⟨Nat.le_of_ble_eq_true rfl, Nat.le_of_ble_eq_true rfl⟩ (rc_main hK (pw_l hP)) hK hP hD hS hZ rfl hl.1 rfl (Nat.le_of_ble_eq_true rfl) ⟨Nat.le_of_ble_eq_true rfl, Nat.le_of_ble_eq_true rfl⟩ dL_law_621 (fun r_1 z_10 H locs wr_1 hP hD hS => ?_)
  obtain ⟨o_a11_2, o_a14_3, o_v6_4, o_a20_5, o_a17_6, o_a16_7, o_fv15_8, o_fp15_9⟩ := z_10
  have hP : va_P D vwCl (CW cs ad fa fq rv (va_up v 6 o_v6_4) (va_up (va_up (va_up (va_up (va_up a 11 o_a11_2) 14 o_a14_3) 20 o_a20_5) 17 o_a17_6) 16 o_a16_7) w (va_up fv 15 o_fv15_8) (va_up fp 15 o_fp15_9) ++ RW cs bd u b_ bw) H := hP
  have hD : va_D (fun q : Nat => s.heap.size ≤ q) (CW cs ad fa fq rv (va_up v 6 o_v6_4) (va_up (va_up (va_up (va_up (va_up a 11 o_a11_2) 14 o_a14_3) 20 o_a20_5) 17 o_a17_6) 16 o_a16_7) w (va_up fv 15 o_fv15_8) (va_up fp 15 o_fp15_9) ++ RW cs bd u b_ bw) := hD
  obtain ⟨wr_1_0, wr_1_1, wr_1_2⟩ : (0 ≤ o_v6_4.toInt) ∧ (o_v6_4.toInt ≤ 24) ∧ (DOK o_v6_4 o_a20_5 (v 1)) := wr_1
  refine lv_pop hx hb dL_law_624 rfl ?_
  refine lv_aload_n hx hb dL_law_625 rfl (lv_at hl 2 rfl) ?_
  refine lv_aload_n hx hb dL_law_626 rfl (lv_at hl 0 rfl) ?_
  refine lv_iload_n hx hb dL_law_627 rfl (lv_at hl 3 rfl) ?_
  refine lv_iconst (v := 1) hx hb dL_law_628 (by decide) ?_
  refine lv_iadd hx hb dL_law_629 ?_
  refine va_sld hx hb hX hbl hbA hS (i_in (by omega) (by omega)) dL_law_630 ?_
  rw [hs1]
  refine lv_aload_n hx hb dL_law_631 rfl (lv_at hl 0 rfl) ?_
  refine lv_iload_n hx hb dL_law_632 rfl (lv_at hl 3 rfl) ?_
  refine lv_iconst (v := 2) hx hb dL_law_633 (by decide) ?_
  refine lv_iadd hx hb dL_law_634 ?_
  refine va_sld hx hb hX hbl hbA hS (i_in (by omega) (by omega)) dL_law_635 ?_
  rw [hs2]
  refine lv_aload_n hx hb dL_law_636 rfl (lv_at hl 0 rfl) ?_
  refine lv_iload_n hx hb dL_law_637 rfl (lv_at hl 3 rfl) ?_
  refine lv_iconst (v := 3) hx hb dL_law_638 (by decide) ?_
  refine lv_iadd hx hb dL_law_639 ?_
  refine va_sld hx hb hX hbl hbA hS (i_in (by omega) (by omega)) dL_law_640 ?_
  rw [hs3]
  refine cR_i (As := [.int s1, .int s2, .int s3]) (rest := []) ⟨hx, hb, hml, hown, hg⟩ (k_X12_stand l D cs _ bd u b_ bw s1 s2 s3 hlaw iu1_0 iu1_1 ib67_0 ib23_0 ib24_0 ib20_0 iu7_0 iu7_1 ib66_0) ca_X12_stand q6_187 ⟨rfl, rfl⟩ ⟨Nat.le_of_ble_eq_true rfl, Nat.le_of_ble_eq_true rfl⟩ (rc_model hK (pw_r hP)) hK hP hD hS hZ rfl hl.1 rfl (Nat.le_of_ble_eq_true rfl) ⟨Nat.le_of_ble_eq_true rfl, Nat.le_of_ble_eq_true rfl⟩ dL_law_641 (fun r_11 z_26 H locs wr_11 hP hD hS => ?_)
  obtain ⟨o_b2_12, o_u33_13, o_u34_14, o_u30_15, o_u28_16, o_u29_17, o_u31_18, o_u35_19, o_b32_20, o_b25_21, o_b26_22, o_b36_23, o_b37_24, o_b38_25⟩ := z_26
  have hP : va_P D vwCl (CW cs ad fa fq rv (va_up v 6 o_v6_4) (va_up (va_up (va_up (va_up (va_up a 11 o_a11_2) 14 o_a14_3) 20 o_a20_5) 17 o_a17_6) 16 o_a16_7) w (va_up fv 15 o_fv15_8) (va_up fp 15 o_fp15_9) ++ RW cs bd (va_up (va_up (va_up (va_up (va_up (va_up (va_up u 33 o_u33_13) 34 o_u34_14) 30 o_u30_15) 28 o_u28_16) 29 o_u29_17) 31 o_u31_18) 35 o_u35_19) (va_up (va_up (va_up (va_up (va_up (va_up (va_up b_ 2 o_b2_12) 32 o_b32_20) 25 o_b25_21) 26 o_b26_22) 36 o_b36_23) 37 o_b37_24) 38 o_b38_25) bw) H := hP
  have hD : va_D (fun q : Nat => s.heap.size ≤ q) (CW cs ad fa fq rv (va_up v 6 o_v6_4) (va_up (va_up (va_up (va_up (va_up a 11 o_a11_2) 14 o_a14_3) 20 o_a20_5) 17 o_a17_6) 16 o_a16_7) w (va_up fv 15 o_fv15_8) (va_up fp 15 o_fp15_9) ++ RW cs bd (va_up (va_up (va_up (va_up (va_up (va_up (va_up u 33 o_u33_13) 34 o_u34_14) 30 o_u30_15) 28 o_u28_16) 29 o_u29_17) 31 o_u31_18) 35 o_u35_19) (va_up (va_up (va_up (va_up (va_up (va_up (va_up b_ 2 o_b2_12) 32 o_b32_20) 25 o_b25_21) 26 o_b26_22) 36 o_b36_23) 37 o_b37_24) 38 o_b38_25) bw) := hD
  have wr_11_0 : True := wr_11
  refine lv_pop hx hb dL_law_644 rfl ?_
  refine lv_goto (tgt := 1387) hx hb dL_law_645 (by decide) ?_
  have hI1 : CI (va_up v 6 o_v6_4) (va_up (va_up (va_up (va_up (va_up a 11 o_a11_2) 14 o_a14_3) 20 o_a20_5) 17 o_a17_6) 16 o_a16_7) (va_up fv 15 o_fv15_8) := ⟨iv1_0, iv1_1, ia28_0, ia29_0, iv20_0, iv20_1, iv19_0, iv19_1, iv19_2, ia24_0, ia25_0, ifv14_0, iv4_0, iv4_1, ia18_0, iv24_0, iv24_1, iv25_0, iv25_1, iv25_2, iv26_0, iv26_1, ia19_0, iv5_0, iv5_1, (show 0 ≤ o_v6_4.toInt by first | assumption | omega), (show o_v6_4.toInt ≤ 24 by first | assumption | omega), wr_1_2, iv11_0, iv11_1, iv14_0, iv14_1, iv0_0, iv0_1, iv0_2, ifv17_0, iv21_0, iv21_1, ia37_0, iv23_0, iv23_1, iv22_0, iv22_1⟩
  have hR1 : RI (va_up (va_up (va_up (va_up (va_up (va_up (va_up u 33 o_u33_13) 34 o_u34_14) 30 o_u30_15) 28 o_u28_16) 29 o_u29_17) 31 o_u31_18) 35 o_u35_19) (va_up (va_up (va_up (va_up (va_up (va_up (va_up b_ 2 o_b2_12) 32 o_b32_20) 25 o_b25_21) 26 o_b26_22) 36 o_b36_23) 37 o_b37_24) 38 o_b38_25) bw := ⟨iu1_0, iu1_1, ib67_0, ib66_0, iu8_0, iu8_1, ib10_0, ib11_0, iu9_0, iu9_1, iu9_2, iu15_0, iu15_1, hlaw, ib23_0, ib20_0, ib24_0, iu7_0, iu7_1, iu41_0, iu41_1, iu48_0, iu48_1, iu46_0, iu46_1, iu47_0, iu47_1, iu55_0, iu55_1, iu55_2, iu58_0, iu62_0, iu62_1, ib63_0, iu64_0, iu64_1⟩
  have hE1 : REL (va_up v 6 o_v6_4) (va_up (va_up (va_up (va_up (va_up a 11 o_a11_2) 14 o_a14_3) 20 o_a20_5) 17 o_a17_6) 16 o_a16_7) w (va_up fv 15 o_fv15_8) (va_up (va_up (va_up (va_up (va_up (va_up (va_up u 33 o_u33_13) 34 o_u34_14) 30 o_u30_15) 28 o_u28_16) 29 o_u29_17) 31 o_u31_18) 35 o_u35_19) (va_up (va_up (va_up (va_up (va_up (va_up (va_up b_ 2 o_b2_12) 32 o_b32_20) 25 o_b25_21) 26 o_b26_22) 36 o_b36_23) 37 o_b37_24) 38 o_b38_25) bw := ⟨(show (v 1).toInt = (u 1).toInt by first | omega | assumption | exact e1), (show (v 4).toInt = (u 15).toInt by first | omega | assumption | exact e4), (show (v 21).toInt = (u 62).toInt by first | omega | assumption | exact e21), (show (v 22).toInt = (u 64).toInt by first | omega | assumption | exact e22), (show (fv 14 3) = (b_ 53) 0 by first | omega | assumption | exact es14), (show (fv 17 3) = (b_ 61) 0 by first | omega | assumption | exact es17), (show ((v 0).toInt < 0 ∧ (u 54).toInt = 0) ∨ (0 ≤ (v 0).toInt ∧ (u 54).toInt ≠ 0) by first | omega | assumption | exact eim), (show ∀ j, (a 37) j = (b_ 63) j by first | omega | assumption | exact ek), (show ∀ j, (a 38) j = (b_ 65) j by first | omega | assumption | exact et), (show SH (a 28) (a 29) w (b_ 66) (b_ 67) (bw 68) (v 21) by first | omega | assumption | exact esh)⟩
  exact kk ad rv (va_up v 6 o_v6_4) (va_up (va_up (va_up (va_up (va_up a 11 o_a11_2) 14 o_a14_3) 20 o_a20_5) 17 o_a17_6) 16 o_a16_7) w (va_up fv 15 o_fv15_8) (va_up fp 15 o_fp15_9) bd (va_up (va_up (va_up (va_up (va_up (va_up (va_up u 33 o_u33_13) 34 o_u34_14) 30 o_u30_15) 28 o_u28_16) 29 o_u29_17) 31 o_u31_18) 35 o_u35_19) (va_up (va_up (va_up (va_up (va_up (va_up (va_up b_ 2 o_b2_12) 32 o_b32_20) 25 o_b25_21) 26 o_b26_22) 36 o_b36_23) 37 o_b37_24) 38 o_b38_25) bw _ _ ls rfl rfl hI1 hR1 hE1 hP hD hS hl
set_option maxHeartbeats 8000000 in
set_option maxRecDepth 100000 in
theorem lc_lastWord {p : Program} {e : Env} {s : State} {m : MethodId} {below : List Frame} {meth : Method} {c : Code} (l : Launch) {b L : Nat} {xs : Nat → Int32} (C0 : lw_At p s m meth c b L xs) (hL : L ≤ 3072) {D : va_G} {cs : Nat → ClassId} {fa fq : Nat → Nat} (hK : va_K D vwCl (TY cs) s) (hZ : ZS (fun q : Nat => s.heap.size ≤ q) s) {x0 y0 : Nat} {i : Int32} (hi0 : 0 ≤ i.toInt) (hiL : i.toInt + 6 ≤ (L : Int)) (ad rv : Nat → Nat) (v : Nat → Int32) (a : Nat → Nat → Int32) (w : Nat → Nat → Int64) (fv fp : Nat → Nat → Int32) (bd : Nat → Nat) (u : Nat → Int32) (b_ : Nat → Nat → Int32) (bw : Nat → Nat → Int64) (H : Heap) (locs : List Loc) (ls : Array Slot) (hl : lv_has ls 4 [(0, .ref b), (1, .ref x0), (2, .ref y0), (3, .int i)]) (hx0 : ad 0 = x0) (hy0 : bd 0 = y0) (hI : CI v a fv) (hR : RI u b_ bw) (hE : REL v a w fv u b_ bw) (hP : va_P D vwCl (CW cs ad fa fq rv v a w fv fp ++ RW cs bd u b_ bw) H) (hD : va_D (fun q : Nat => s.heap.size ≤ q) (CW cs ad fa fq rv v a w fv fp ++ RW cs bd u b_ bw)) (hS : va_S (fun q : Nat => s.heap.size ≤ q) s.heap H locs)
    (kk : ∀ (ad rv : Nat → Nat) (v : Nat → Int32) (a : Nat → Nat → Int32) (w : Nat → Nat → Int64) (fv fp : Nat → Nat → Int32) (bd : Nat → Nat) (u : Nat → Int32) (b_ : Nat → Nat → Int32) (bw : Nat → Nat → Int64) (H : Heap) (locs : List Loc) (ls : Array Slot) (hx0 : ad 0 = x0) (hy0 : bd 0 = y0) (hI : CI v a fv) (hR : RI u b_ bw) (hE : REL v a w fv u b_ bw) (hP : va_P D vwCl (CW cs ad fa fq rv v a w fv fp ++ RW cs bd u b_ bw) H) (hD : va_D (fun q : Nat => s.heap.size ≤ q) (CW cs ad fa fq rv v a w fv fp ++ RW cs bd u b_ bw)) (hS : va_S (fun q : Nat => s.heap.size ≤ q) s.heap H locs) (hl : lv_has ls 4 [(0, .ref b), (1, .ref x0), (2, .ref y0), (3, .int i)]), W p l e room_1 s m #[Value.ref b] below meth c H locs 200 9000 (lw_Z below #[Value.ref b] s) (F0 m 1387 ls [])) : W p l e room_1 s m #[Value.ref b] below meth c H locs 200 9000 (lw_Z below #[Value.ref b] s) (F0 m 648 ls []) := by
  obtain ⟨hx, hb, hr, hml, hown, hts, hX, hbl, hlocks, hgv⟩ := id C0
  have hg : ∀ w ∈ gw, w.before #[Value.ref b] s = true := fun w h => hts w (gw_in w h)
  have hbA : ¬ (fun q : Nat => s.heap.size ≤ q) b := Nat.not_le.mpr hbl
  subst hx0
  subst hy0
  obtain ⟨iv1_0, iv1_1, ia28_0, ia29_0, iv20_0, iv20_1, iv19_0, iv19_1, iv19_2, ia24_0, ia25_0, ifv14_0, iv4_0, iv4_1, ia18_0, iv24_0, iv24_1, iv25_0, iv25_1, iv25_2, iv26_0, iv26_1, ia19_0, iv5_0, iv5_1, iv6_0, iv6_1, iv6_2, iv11_0, iv11_1, iv14_0, iv14_1, iv0_0, iv0_1, iv0_2, ifv17_0, iv21_0, iv21_1, ia37_0, iv23_0, iv23_1, iv22_0, iv22_1⟩ := id hI
  obtain ⟨iu1_0, iu1_1, ib67_0, ib66_0, iu8_0, iu8_1, ib10_0, ib11_0, iu9_0, iu9_1, iu9_2, iu15_0, iu15_1, hlaw, ib23_0, ib20_0, ib24_0, iu7_0, iu7_1, iu41_0, iu41_1, iu48_0, iu48_1, iu46_0, iu46_1, iu47_0, iu47_1, iu55_0, iu55_1, iu55_2, iu58_0, iu62_0, iu62_1, ib63_0, iu64_0, iu64_1⟩ := id hR
  obtain ⟨e1, e4, e21, e22, es14, es17, eim, ek, et, esh⟩ := id hE
  obtain ⟨s1, hs1⟩ : ∃ y, xs (i + 1).toNatClampNeg = y := ⟨_, rfl⟩
  obtain ⟨s2, hs2⟩ : ∃ y, xs (i + 2).toNatClampNeg = y := ⟨_, rfl⟩
  obtain ⟨s3, hs3⟩ : ∃ y, xs (i + 3).toNatClampNeg = y := ⟨_, rfl⟩
  obtain ⟨s4, hs4⟩ : ∃ y, xs (i + 4).toNatClampNeg = y := ⟨_, rfl⟩
  obtain ⟨s5, hs5⟩ : ∃ y, xs (i + 5).toNatClampNeg = y := ⟨_, rfl⟩
  have hq1 : (i + 1).toInt = i.toInt + 1 := i_add (by show _ ≤ i.toInt + (1 : Int32).toInt; have q : (1 : Int32).toInt = 1 := rfl; omega) (by show i.toInt + (1 : Int32).toInt ≤ _; have q : (1 : Int32).toInt = 1 := rfl; omega)
  have hq2 : (i + 2).toInt = i.toInt + 2 := i_add (by show _ ≤ i.toInt + (2 : Int32).toInt; have q : (2 : Int32).toInt = 2 := rfl; omega) (by show i.toInt + (2 : Int32).toInt ≤ _; have q : (2 : Int32).toInt = 2 := rfl; omega)
  have hq3 : (i + 3).toInt = i.toInt + 3 := i_add (by show _ ≤ i.toInt + (3 : Int32).toInt; have q : (3 : Int32).toInt = 3 := rfl; omega) (by show i.toInt + (3 : Int32).toInt ≤ _; have q : (3 : Int32).toInt = 3 := rfl; omega)
  have hq4 : (i + 4).toInt = i.toInt + 4 := i_add (by show _ ≤ i.toInt + (4 : Int32).toInt; have q : (4 : Int32).toInt = 4 := rfl; omega) (by show i.toInt + (4 : Int32).toInt ≤ _; have q : (4 : Int32).toInt = 4 := rfl; omega)
  have hq5 : (i + 5).toInt = i.toInt + 5 := i_add (by show _ ≤ i.toInt + (5 : Int32).toInt; have q : (5 : Int32).toInt = 5 := rfl; omega) (by show i.toInt + (5 : Int32).toInt ≤ _; have q : (5 : Int32).toInt = 5 := rfl; omega)
  refine lv_aload_n hx hb dL_law_648 rfl (lv_at hl 1 rfl) ?_
  refine lv_aload_n hx hb dL_law_649 rfl (lv_at hl 0 rfl) ?_
  refine lv_iload_n hx hb dL_law_650 rfl (lv_at hl 3 rfl) ?_
  refine lv_iconst (v := 1) hx hb dL_law_651 (by decide) ?_
  refine lv_iadd hx hb dL_law_652 ?_
  refine va_sld hx hb hX hbl hbA hS (i_in (by omega) (by omega)) dL_law_653 ?_
  rw [hs1]
  refine lv_aload_n hx hb dL_law_654 rfl (lv_at hl 0 rfl) ?_
  refine lv_iload_n hx hb dL_law_655 rfl (lv_at hl 3 rfl) ?_
  refine lv_iconst (v := 2) hx hb dL_law_656 (by decide) ?_
  refine lv_iadd hx hb dL_law_657 ?_
  refine va_sld hx hb hX hbl hbA hS (i_in (by omega) (by omega)) dL_law_658 ?_
  rw [hs2]
  refine lv_aload_n hx hb dL_law_659 rfl (lv_at hl 0 rfl) ?_
  refine lv_iload_n hx hb dL_law_660 rfl (lv_at hl 3 rfl) ?_
  refine lv_iconst (v := 3) hx hb dL_law_661 (by decide) ?_
  refine lv_iadd hx hb dL_law_662 ?_
  refine va_sld hx hb hX hbl hbA hS (i_in (by omega) (by omega)) dL_law_663 ?_
  rw [hs3]
  refine cL_i (As := [.int s1, .int s2, .int s3]) (rest := []) ⟨hx, hb, hml, hown, hg⟩ (k_X11_lastWord l D cs _ ad fa fq rv v a w fv fp s1 s2 s3 iv1_0 iv1_1 ifv14_0 iv11_0 iv11_1 iv5_0 iv5_1 ia18_0) ca_X11_lastWord q4_7 ⟨rfl, rfl⟩ ⟨Nat.le_of_ble_eq_true rfl, Nat.le_of_ble_eq_true rfl⟩ (rc_main hK (pw_l hP)) hK hP hD hS hZ rfl hl.1 rfl (Nat.le_of_ble_eq_true rfl) ⟨Nat.le_of_ble_eq_true rfl, Nat.le_of_ble_eq_true rfl⟩ dL_law_664 (fun r_1 z_11 H locs wr_1 hP hD hS => ?_)
  obtain ⟨o_fv_2, o_fp_3, o_v9_4, o_v10_5, o_v11_6, o_v13_7, o_v12_8, o_a17_9, o_a16_10⟩ := z_11
  have hP : va_P D vwCl (CW cs ad fa fq rv (va_up (va_up (va_up (va_up (va_up v 9 o_v9_4) 10 o_v10_5) 11 o_v11_6) 13 o_v13_7) 12 o_v12_8) (va_up (va_up a 17 o_a17_9) 16 o_a16_10) w o_fv_2 o_fp_3 ++ RW cs bd u b_ bw) H := hP
  have hD : va_D (fun q : Nat => s.heap.size ≤ q) (CW cs ad fa fq rv (va_up (va_up (va_up (va_up (va_up v 9 o_v9_4) 10 o_v10_5) 11 o_v11_6) 13 o_v13_7) 12 o_v12_8) (va_up (va_up a 17 o_a17_9) 16 o_a16_10) w o_fv_2 o_fp_3 ++ RW cs bd u b_ bw) := hD
  obtain ⟨wr_1_0, wr_1_1, wr_1_2⟩ : (∀ f : Nat, 14 ≤ f → o_fv_2 f = fv f) ∧ (0 ≤ o_v11_6.toInt) ∧ (o_v11_6.toInt ≤ 6) := wr_1
  refine lv_pop hx hb dL_law_667 rfl ?_
  refine lv_aload_n hx hb dL_law_668 rfl (lv_at hl 2 rfl) ?_
  refine lv_aload_n hx hb dL_law_669 rfl (lv_at hl 0 rfl) ?_
  refine lv_iload_n hx hb dL_law_670 rfl (lv_at hl 3 rfl) ?_
  refine lv_iconst (v := 1) hx hb dL_law_671 (by decide) ?_
  refine lv_iadd hx hb dL_law_672 ?_
  refine va_sld hx hb hX hbl hbA hS (i_in (by omega) (by omega)) dL_law_673 ?_
  rw [hs1]
  refine lv_aload_n hx hb dL_law_674 rfl (lv_at hl 0 rfl) ?_
  refine lv_iload_n hx hb dL_law_675 rfl (lv_at hl 3 rfl) ?_
  refine lv_iconst (v := 2) hx hb dL_law_676 (by decide) ?_
  refine lv_iadd hx hb dL_law_677 ?_
  refine va_sld hx hb hX hbl hbA hS (i_in (by omega) (by omega)) dL_law_678 ?_
  rw [hs2]
  refine lv_aload_n hx hb dL_law_679 rfl (lv_at hl 0 rfl) ?_
  refine lv_iload_n hx hb dL_law_680 rfl (lv_at hl 3 rfl) ?_
  refine lv_iconst (v := 3) hx hb dL_law_681 (by decide) ?_
  refine lv_iadd hx hb dL_law_682 ?_
  refine va_sld hx hb hX hbl hbA hS (i_in (by omega) (by omega)) dL_law_683 ?_
  rw [hs3]
  refine cR_i (As := [.int s1, .int s2, .int s3]) (rest := []) ⟨hx, hb, hml, hown, hg⟩ (k_X12_lastWord l D cs _ bd u b_ bw s1 s2 s3 hlaw iu1_0 iu1_1 iu7_0 iu7_1 ib23_0 ib24_0 ib20_0) ca_X12_lastWord q6_191 ⟨rfl, rfl⟩ ⟨Nat.le_of_ble_eq_true rfl, Nat.le_of_ble_eq_true rfl⟩ (rc_model hK (pw_r hP)) hK hP hD hS hZ rfl hl.1 rfl (Nat.le_of_ble_eq_true rfl) ⟨Nat.le_of_ble_eq_true rfl, Nat.le_of_ble_eq_true rfl⟩ dL_law_684 (fun r_12 z_24 H locs wr_12 hP hD hS => ?_)
  obtain ⟨o_u44_13, o_u45_14, o_u33_15, o_u34_16, o_u30_17, o_u28_18, o_u29_19, o_u31_20, o_b32_21, o_b25_22, o_b26_23⟩ := z_24
  have hP : va_P D vwCl (CW cs ad fa fq rv (va_up (va_up (va_up (va_up (va_up v 9 o_v9_4) 10 o_v10_5) 11 o_v11_6) 13 o_v13_7) 12 o_v12_8) (va_up (va_up a 17 o_a17_9) 16 o_a16_10) w o_fv_2 o_fp_3 ++ RW cs bd (va_up (va_up (va_up (va_up (va_up (va_up (va_up (va_up u 44 o_u44_13) 45 o_u45_14) 33 o_u33_15) 34 o_u34_16) 30 o_u30_17) 28 o_u28_18) 29 o_u29_19) 31 o_u31_20) (va_up (va_up (va_up b_ 32 o_b32_21) 25 o_b25_22) 26 o_b26_23) bw) H := hP
  have hD : va_D (fun q : Nat => s.heap.size ≤ q) (CW cs ad fa fq rv (va_up (va_up (va_up (va_up (va_up v 9 o_v9_4) 10 o_v10_5) 11 o_v11_6) 13 o_v13_7) 12 o_v12_8) (va_up (va_up a 17 o_a17_9) 16 o_a16_10) w o_fv_2 o_fp_3 ++ RW cs bd (va_up (va_up (va_up (va_up (va_up (va_up (va_up (va_up u 44 o_u44_13) 45 o_u45_14) 33 o_u33_15) 34 o_u34_16) 30 o_u30_17) 28 o_u28_18) 29 o_u29_19) 31 o_u31_20) (va_up (va_up (va_up b_ 32 o_b32_21) 25 o_b25_22) 26 o_b26_23) bw) := hD
  have wr_12_0 : True := wr_12
  refine lv_pop hx hb dL_law_687 rfl ?_
  refine lv_goto (tgt := 1387) hx hb dL_law_688 (by decide) ?_
  have hI1 : CI (va_up (va_up (va_up (va_up (va_up v 9 o_v9_4) 10 o_v10_5) 11 o_v11_6) 13 o_v13_7) 12 o_v12_8) (va_up (va_up a 17 o_a17_9) 16 o_a16_10) o_fv_2 := ⟨iv1_0, iv1_1, ia28_0, ia29_0, iv20_0, iv20_1, iv19_0, iv19_1, iv19_2, ia24_0, ia25_0, (show (o_fv_2 14 2).toInt = -2 ∨ (0 ≤ (o_fv_2 14 2).toInt ∧ (o_fv_2 14 2).toInt < (v 1).toInt) from by rw [wr_1_0 14 (by decide)]; exact ifv14_0), iv4_0, iv4_1, ia18_0, iv24_0, iv24_1, iv25_0, iv25_1, iv25_2, iv26_0, iv26_1, ia19_0, iv5_0, iv5_1, iv6_0, iv6_1, iv6_2, (show 0 ≤ o_v11_6.toInt by first | assumption | omega), (show o_v11_6.toInt ≤ 6 by first | assumption | omega), iv14_0, iv14_1, iv0_0, iv0_1, iv0_2, (show (o_fv_2 17 2).toInt = -2 ∨ (0 ≤ (o_fv_2 17 2).toInt ∧ (o_fv_2 17 2).toInt < (v 1).toInt) from by rw [wr_1_0 17 (by decide)]; exact ifv17_0), iv21_0, iv21_1, ia37_0, iv23_0, iv23_1, iv22_0, iv22_1⟩
  have hR1 : RI (va_up (va_up (va_up (va_up (va_up (va_up (va_up (va_up u 44 o_u44_13) 45 o_u45_14) 33 o_u33_15) 34 o_u34_16) 30 o_u30_17) 28 o_u28_18) 29 o_u29_19) 31 o_u31_20) (va_up (va_up (va_up b_ 32 o_b32_21) 25 o_b25_22) 26 o_b26_23) bw := ⟨iu1_0, iu1_1, ib67_0, ib66_0, iu8_0, iu8_1, ib10_0, ib11_0, iu9_0, iu9_1, iu9_2, iu15_0, iu15_1, hlaw, ib23_0, ib20_0, ib24_0, iu7_0, iu7_1, iu41_0, iu41_1, iu48_0, iu48_1, iu46_0, iu46_1, iu47_0, iu47_1, iu55_0, iu55_1, iu55_2, iu58_0, iu62_0, iu62_1, ib63_0, iu64_0, iu64_1⟩
  have hE1 : REL (va_up (va_up (va_up (va_up (va_up v 9 o_v9_4) 10 o_v10_5) 11 o_v11_6) 13 o_v13_7) 12 o_v12_8) (va_up (va_up a 17 o_a17_9) 16 o_a16_10) w o_fv_2 (va_up (va_up (va_up (va_up (va_up (va_up (va_up (va_up u 44 o_u44_13) 45 o_u45_14) 33 o_u33_15) 34 o_u34_16) 30 o_u30_17) 28 o_u28_18) 29 o_u29_19) 31 o_u31_20) (va_up (va_up (va_up b_ 32 o_b32_21) 25 o_b25_22) 26 o_b26_23) bw := ⟨(show (v 1).toInt = (u 1).toInt by first | omega | assumption | exact e1), (show (v 4).toInt = (u 15).toInt by first | omega | assumption | exact e4), (show (v 21).toInt = (u 62).toInt by first | omega | assumption | exact e21), (show (v 22).toInt = (u 64).toInt by first | omega | assumption | exact e22), (show (o_fv_2 14 3) = (b_ 53) 0 by exact (congrFun (wr_1_0 14 (by decide)) 3).trans es14), (show (o_fv_2 17 3) = (b_ 61) 0 by exact (congrFun (wr_1_0 17 (by decide)) 3).trans es17), (show ((v 0).toInt < 0 ∧ (u 54).toInt = 0) ∨ (0 ≤ (v 0).toInt ∧ (u 54).toInt ≠ 0) by first | omega | assumption | exact eim), (show ∀ j, (a 37) j = (b_ 63) j by first | omega | assumption | exact ek), (show ∀ j, (a 38) j = (b_ 65) j by first | omega | assumption | exact et), (show SH (a 28) (a 29) w (b_ 66) (b_ 67) (bw 68) (v 21) by first | omega | assumption | exact esh)⟩
  exact kk ad rv (va_up (va_up (va_up (va_up (va_up v 9 o_v9_4) 10 o_v10_5) 11 o_v11_6) 13 o_v13_7) 12 o_v12_8) (va_up (va_up a 17 o_a17_9) 16 o_a16_10) w o_fv_2 o_fp_3 bd (va_up (va_up (va_up (va_up (va_up (va_up (va_up (va_up u 44 o_u44_13) 45 o_u45_14) 33 o_u33_15) 34 o_u34_16) 30 o_u30_17) 28 o_u28_18) 29 o_u29_19) 31 o_u31_20) (va_up (va_up (va_up b_ 32 o_b32_21) 25 o_b25_22) 26 o_b26_23) bw _ _ ls rfl rfl hI1 hR1 hE1 hP hD hS hl
set_option maxHeartbeats 8000000 in
set_option maxRecDepth 100000 in
theorem lc_crier {p : Program} {e : Env} {s : State} {m : MethodId} {below : List Frame} {meth : Method} {c : Code} (l : Launch) {b L : Nat} {xs : Nat → Int32} (C0 : lw_At p s m meth c b L xs) (hL : L ≤ 3072) {D : va_G} {cs : Nat → ClassId} {fa fq : Nat → Nat} (hK : va_K D vwCl (TY cs) s) (hZ : ZS (fun q : Nat => s.heap.size ≤ q) s) {x0 y0 : Nat} {i : Int32} (hi0 : 0 ≤ i.toInt) (hiL : i.toInt + 6 ≤ (L : Int)) (ad rv : Nat → Nat) (v : Nat → Int32) (a : Nat → Nat → Int32) (w : Nat → Nat → Int64) (fv fp : Nat → Nat → Int32) (bd : Nat → Nat) (u : Nat → Int32) (b_ : Nat → Nat → Int32) (bw : Nat → Nat → Int64) (H : Heap) (locs : List Loc) (ls : Array Slot) (hl : lv_has ls 4 [(0, .ref b), (1, .ref x0), (2, .ref y0), (3, .int i)]) (hx0 : ad 0 = x0) (hy0 : bd 0 = y0) (hI : CI v a fv) (hR : RI u b_ bw) (hE : REL v a w fv u b_ bw) (hP : va_P D vwCl (CW cs ad fa fq rv v a w fv fp ++ RW cs bd u b_ bw) H) (hD : va_D (fun q : Nat => s.heap.size ≤ q) (CW cs ad fa fq rv v a w fv fp ++ RW cs bd u b_ bw)) (hS : va_S (fun q : Nat => s.heap.size ≤ q) s.heap H locs)
    (kk : ∀ (ad rv : Nat → Nat) (v : Nat → Int32) (a : Nat → Nat → Int32) (w : Nat → Nat → Int64) (fv fp : Nat → Nat → Int32) (bd : Nat → Nat) (u : Nat → Int32) (b_ : Nat → Nat → Int32) (bw : Nat → Nat → Int64) (H : Heap) (locs : List Loc) (ls : Array Slot) (hx0 : ad 0 = x0) (hy0 : bd 0 = y0) (hI : CI v a fv) (hR : RI u b_ bw) (hE : REL v a w fv u b_ bw) (hP : va_P D vwCl (CW cs ad fa fq rv v a w fv fp ++ RW cs bd u b_ bw) H) (hD : va_D (fun q : Nat => s.heap.size ≤ q) (CW cs ad fa fq rv v a w fv fp ++ RW cs bd u b_ bw)) (hS : va_S (fun q : Nat => s.heap.size ≤ q) s.heap H locs) (hl : lv_has ls 4 [(0, .ref b), (1, .ref x0), (2, .ref y0), (3, .int i)]), W p l e room_1 s m #[Value.ref b] below meth c H locs 200 9000 (lw_Z below #[Value.ref b] s) (F0 m 1387 ls [])) : W p l e room_1 s m #[Value.ref b] below meth c H locs 200 9000 (lw_Z below #[Value.ref b] s) (F0 m 691 ls []) := by
  obtain ⟨hx, hb, hr, hml, hown, hts, hX, hbl, hlocks, hgv⟩ := id C0
  have hg : ∀ w ∈ gw, w.before #[Value.ref b] s = true := fun w h => hts w (gw_in w h)
  have hbA : ¬ (fun q : Nat => s.heap.size ≤ q) b := Nat.not_le.mpr hbl
  subst hx0
  subst hy0
  obtain ⟨iv1_0, iv1_1, ia28_0, ia29_0, iv20_0, iv20_1, iv19_0, iv19_1, iv19_2, ia24_0, ia25_0, ifv14_0, iv4_0, iv4_1, ia18_0, iv24_0, iv24_1, iv25_0, iv25_1, iv25_2, iv26_0, iv26_1, ia19_0, iv5_0, iv5_1, iv6_0, iv6_1, iv6_2, iv11_0, iv11_1, iv14_0, iv14_1, iv0_0, iv0_1, iv0_2, ifv17_0, iv21_0, iv21_1, ia37_0, iv23_0, iv23_1, iv22_0, iv22_1⟩ := id hI
  obtain ⟨iu1_0, iu1_1, ib67_0, ib66_0, iu8_0, iu8_1, ib10_0, ib11_0, iu9_0, iu9_1, iu9_2, iu15_0, iu15_1, hlaw, ib23_0, ib20_0, ib24_0, iu7_0, iu7_1, iu41_0, iu41_1, iu48_0, iu48_1, iu46_0, iu46_1, iu47_0, iu47_1, iu55_0, iu55_1, iu55_2, iu58_0, iu62_0, iu62_1, ib63_0, iu64_0, iu64_1⟩ := id hR
  obtain ⟨e1, e4, e21, e22, es14, es17, eim, ek, et, esh⟩ := id hE
  obtain ⟨s1, hs1⟩ : ∃ y, xs (i + 1).toNatClampNeg = y := ⟨_, rfl⟩
  obtain ⟨s2, hs2⟩ : ∃ y, xs (i + 2).toNatClampNeg = y := ⟨_, rfl⟩
  obtain ⟨s3, hs3⟩ : ∃ y, xs (i + 3).toNatClampNeg = y := ⟨_, rfl⟩
  obtain ⟨s4, hs4⟩ : ∃ y, xs (i + 4).toNatClampNeg = y := ⟨_, rfl⟩
  obtain ⟨s5, hs5⟩ : ∃ y, xs (i + 5).toNatClampNeg = y := ⟨_, rfl⟩
  have hq1 : (i + 1).toInt = i.toInt + 1 := i_add (by show _ ≤ i.toInt + (1 : Int32).toInt; have q : (1 : Int32).toInt = 1 := rfl; omega) (by show i.toInt + (1 : Int32).toInt ≤ _; have q : (1 : Int32).toInt = 1 := rfl; omega)
  have hq2 : (i + 2).toInt = i.toInt + 2 := i_add (by show _ ≤ i.toInt + (2 : Int32).toInt; have q : (2 : Int32).toInt = 2 := rfl; omega) (by show i.toInt + (2 : Int32).toInt ≤ _; have q : (2 : Int32).toInt = 2 := rfl; omega)
  have hq3 : (i + 3).toInt = i.toInt + 3 := i_add (by show _ ≤ i.toInt + (3 : Int32).toInt; have q : (3 : Int32).toInt = 3 := rfl; omega) (by show i.toInt + (3 : Int32).toInt ≤ _; have q : (3 : Int32).toInt = 3 := rfl; omega)
  have hq4 : (i + 4).toInt = i.toInt + 4 := i_add (by show _ ≤ i.toInt + (4 : Int32).toInt; have q : (4 : Int32).toInt = 4 := rfl; omega) (by show i.toInt + (4 : Int32).toInt ≤ _; have q : (4 : Int32).toInt = 4 := rfl; omega)
  have hq5 : (i + 5).toInt = i.toInt + 5 := i_add (by show _ ≤ i.toInt + (5 : Int32).toInt; have q : (5 : Int32).toInt = 5 := rfl; omega) (by show i.toInt + (5 : Int32).toInt ≤ _; have q : (5 : Int32).toInt = 5 := rfl; omega)
  refine lv_aload_n hx hb dL_law_691 rfl (lv_at hl 1 rfl) ?_
  refine lv_aload_n hx hb dL_law_692 rfl (lv_at hl 0 rfl) ?_
  refine lv_iload_n hx hb dL_law_693 rfl (lv_at hl 3 rfl) ?_
  refine lv_iconst (v := 1) hx hb dL_law_694 (by decide) ?_
  refine lv_iadd hx hb dL_law_695 ?_
  refine va_sld hx hb hX hbl hbA hS (i_in (by omega) (by omega)) dL_law_696 ?_
  rw [hs1]
  refine lv_aload_n hx hb dL_law_697 rfl (lv_at hl 0 rfl) ?_
  refine lv_iload_n hx hb dL_law_698 rfl (lv_at hl 3 rfl) ?_
  refine lv_iconst (v := 2) hx hb dL_law_699 (by decide) ?_
  refine lv_iadd hx hb dL_law_700 ?_
  refine va_sld hx hb hX hbl hbA hS (i_in (by omega) (by omega)) dL_law_701 ?_
  rw [hs2]
  refine cL_ro (As := [.int s1, .int s2]) (rest := []) ⟨hx, hb, hml, hown, hg⟩ (k_X11_crier l D cs _ ad fa fq rv v a w fv fp s1 s2 iv1_0 iv1_1) ca_X11_crier q4_34 ⟨rfl, rfl⟩ ⟨Nat.le_of_ble_eq_true rfl, Nat.le_of_ble_eq_true rfl⟩ (rc_main hK (pw_l hP)) hK hP hD hS hZ rfl hl.1 rfl (Nat.le_of_ble_eq_true rfl) ⟨Nat.le_of_ble_eq_true rfl, Nat.le_of_ble_eq_true rfl⟩ dL_law_702 (fun r_1 wr_1 => ?_)
  have wr_1_0 : True := wr_1
  refine lv_pop hx hb dL_law_705 rfl ?_
  refine lv_aload_n hx hb dL_law_706 rfl (lv_at hl 2 rfl) ?_
  refine lv_aload_n hx hb dL_law_707 rfl (lv_at hl 0 rfl) ?_
  refine lv_iload_n hx hb dL_law_708 rfl (lv_at hl 3 rfl) ?_
  refine lv_iconst (v := 1) hx hb dL_law_709 (by decide) ?_
  refine lv_iadd hx hb dL_law_710 ?_
  refine va_sld hx hb hX hbl hbA hS (i_in (by omega) (by omega)) dL_law_711 ?_
  rw [hs1]
  refine lv_aload_n hx hb dL_law_712 rfl (lv_at hl 0 rfl) ?_
  refine lv_iload_n hx hb dL_law_713 rfl (lv_at hl 3 rfl) ?_
  refine lv_iconst (v := 2) hx hb dL_law_714 (by decide) ?_
  refine lv_iadd hx hb dL_law_715 ?_
  refine va_sld hx hb hX hbl hbA hS (i_in (by omega) (by omega)) dL_law_716 ?_
  rw [hs2]
  refine cR_ro (As := [.int s1, .int s2]) (rest := []) ⟨hx, hb, hml, hown, hg⟩ (k_X12_crier l D cs _ bd u b_ bw s1 s2 iu1_0 iu1_1) ca_X12_crier q6_218 ⟨rfl, rfl⟩ ⟨Nat.le_of_ble_eq_true rfl, Nat.le_of_ble_eq_true rfl⟩ (rc_model hK (pw_r hP)) hK hP hD hS hZ rfl hl.1 rfl (Nat.le_of_ble_eq_true rfl) ⟨Nat.le_of_ble_eq_true rfl, Nat.le_of_ble_eq_true rfl⟩ dL_law_717 (fun r_3 wr_3 => ?_)
  have wr_3_0 : True := wr_3
  refine lv_pop hx hb dL_law_720 rfl ?_
  refine lv_goto (tgt := 1387) hx hb dL_law_721 (by decide) ?_
  have hI1 : CI v a fv := ⟨iv1_0, iv1_1, ia28_0, ia29_0, iv20_0, iv20_1, iv19_0, iv19_1, iv19_2, ia24_0, ia25_0, ifv14_0, iv4_0, iv4_1, ia18_0, iv24_0, iv24_1, iv25_0, iv25_1, iv25_2, iv26_0, iv26_1, ia19_0, iv5_0, iv5_1, iv6_0, iv6_1, iv6_2, iv11_0, iv11_1, iv14_0, iv14_1, iv0_0, iv0_1, iv0_2, ifv17_0, iv21_0, iv21_1, ia37_0, iv23_0, iv23_1, iv22_0, iv22_1⟩
  have hR1 : RI u b_ bw := ⟨iu1_0, iu1_1, ib67_0, ib66_0, iu8_0, iu8_1, ib10_0, ib11_0, iu9_0, iu9_1, iu9_2, iu15_0, iu15_1, hlaw, ib23_0, ib20_0, ib24_0, iu7_0, iu7_1, iu41_0, iu41_1, iu48_0, iu48_1, iu46_0, iu46_1, iu47_0, iu47_1, iu55_0, iu55_1, iu55_2, iu58_0, iu62_0, iu62_1, ib63_0, iu64_0, iu64_1⟩
  have hE1 : REL v a w fv u b_ bw := ⟨(show (v 1).toInt = (u 1).toInt by first | omega | assumption | exact e1), (show (v 4).toInt = (u 15).toInt by first | omega | assumption | exact e4), (show (v 21).toInt = (u 62).toInt by first | omega | assumption | exact e21), (show (v 22).toInt = (u 64).toInt by first | omega | assumption | exact e22), (show (fv 14 3) = (b_ 53) 0 by first | omega | assumption | exact es14), (show (fv 17 3) = (b_ 61) 0 by first | omega | assumption | exact es17), (show ((v 0).toInt < 0 ∧ (u 54).toInt = 0) ∨ (0 ≤ (v 0).toInt ∧ (u 54).toInt ≠ 0) by first | omega | assumption | exact eim), (show ∀ j, (a 37) j = (b_ 63) j by first | omega | assumption | exact ek), (show ∀ j, (a 38) j = (b_ 65) j by first | omega | assumption | exact et), (show SH (a 28) (a 29) w (b_ 66) (b_ 67) (bw 68) (v 21) by first | omega | assumption | exact esh)⟩
  exact kk ad rv v a w fv fp bd u b_ bw _ _ ls rfl rfl hI1 hR1 hE1 hP hD hS hl
set_option maxHeartbeats 8000000 in
set_option maxRecDepth 100000 in
theorem lc_keepNear {p : Program} {e : Env} {s : State} {m : MethodId} {below : List Frame} {meth : Method} {c : Code} (l : Launch) {b L : Nat} {xs : Nat → Int32} (C0 : lw_At p s m meth c b L xs) (hL : L ≤ 3072) {D : va_G} {cs : Nat → ClassId} {fa fq : Nat → Nat} (hK : va_K D vwCl (TY cs) s) (hZ : ZS (fun q : Nat => s.heap.size ≤ q) s) {x0 y0 : Nat} {i : Int32} (hi0 : 0 ≤ i.toInt) (hiL : i.toInt + 6 ≤ (L : Int)) (ad rv : Nat → Nat) (v : Nat → Int32) (a : Nat → Nat → Int32) (w : Nat → Nat → Int64) (fv fp : Nat → Nat → Int32) (bd : Nat → Nat) (u : Nat → Int32) (b_ : Nat → Nat → Int32) (bw : Nat → Nat → Int64) (H : Heap) (locs : List Loc) (ls : Array Slot) (hl : lv_has ls 4 [(0, .ref b), (1, .ref x0), (2, .ref y0), (3, .int i)]) (hx0 : ad 0 = x0) (hy0 : bd 0 = y0) (hI : CI v a fv) (hR : RI u b_ bw) (hE : REL v a w fv u b_ bw) (hP : va_P D vwCl (CW cs ad fa fq rv v a w fv fp ++ RW cs bd u b_ bw) H) (hD : va_D (fun q : Nat => s.heap.size ≤ q) (CW cs ad fa fq rv v a w fv fp ++ RW cs bd u b_ bw)) (hS : va_S (fun q : Nat => s.heap.size ≤ q) s.heap H locs)
    (kk : ∀ (ad rv : Nat → Nat) (v : Nat → Int32) (a : Nat → Nat → Int32) (w : Nat → Nat → Int64) (fv fp : Nat → Nat → Int32) (bd : Nat → Nat) (u : Nat → Int32) (b_ : Nat → Nat → Int32) (bw : Nat → Nat → Int64) (H : Heap) (locs : List Loc) (ls : Array Slot) (hx0 : ad 0 = x0) (hy0 : bd 0 = y0) (hI : CI v a fv) (hR : RI u b_ bw) (hE : REL v a w fv u b_ bw) (hP : va_P D vwCl (CW cs ad fa fq rv v a w fv fp ++ RW cs bd u b_ bw) H) (hD : va_D (fun q : Nat => s.heap.size ≤ q) (CW cs ad fa fq rv v a w fv fp ++ RW cs bd u b_ bw)) (hS : va_S (fun q : Nat => s.heap.size ≤ q) s.heap H locs) (hl : lv_has ls 4 [(0, .ref b), (1, .ref x0), (2, .ref y0), (3, .int i)]), W p l e room_1 s m #[Value.ref b] below meth c H locs 200 9000 (lw_Z below #[Value.ref b] s) (F0 m 1387 ls [])) : W p l e room_1 s m #[Value.ref b] below meth c H locs 200 9000 (lw_Z below #[Value.ref b] s) (F0 m 724 ls []) := by
  obtain ⟨hx, hb, hr, hml, hown, hts, hX, hbl, hlocks, hgv⟩ := id C0
  have hg : ∀ w ∈ gw, w.before #[Value.ref b] s = true := fun w h => hts w (gw_in w h)
  have hbA : ¬ (fun q : Nat => s.heap.size ≤ q) b := Nat.not_le.mpr hbl
  subst hx0
  subst hy0
  obtain ⟨iv1_0, iv1_1, ia28_0, ia29_0, iv20_0, iv20_1, iv19_0, iv19_1, iv19_2, ia24_0, ia25_0, ifv14_0, iv4_0, iv4_1, ia18_0, iv24_0, iv24_1, iv25_0, iv25_1, iv25_2, iv26_0, iv26_1, ia19_0, iv5_0, iv5_1, iv6_0, iv6_1, iv6_2, iv11_0, iv11_1, iv14_0, iv14_1, iv0_0, iv0_1, iv0_2, ifv17_0, iv21_0, iv21_1, ia37_0, iv23_0, iv23_1, iv22_0, iv22_1⟩ := id hI
  obtain ⟨iu1_0, iu1_1, ib67_0, ib66_0, iu8_0, iu8_1, ib10_0, ib11_0, iu9_0, iu9_1, iu9_2, iu15_0, iu15_1, hlaw, ib23_0, ib20_0, ib24_0, iu7_0, iu7_1, iu41_0, iu41_1, iu48_0, iu48_1, iu46_0, iu46_1, iu47_0, iu47_1, iu55_0, iu55_1, iu55_2, iu58_0, iu62_0, iu62_1, ib63_0, iu64_0, iu64_1⟩ := id hR
  obtain ⟨e1, e4, e21, e22, es14, es17, eim, ek, et, esh⟩ := id hE
  obtain ⟨s1, hs1⟩ : ∃ y, xs (i + 1).toNatClampNeg = y := ⟨_, rfl⟩
  obtain ⟨s2, hs2⟩ : ∃ y, xs (i + 2).toNatClampNeg = y := ⟨_, rfl⟩
  obtain ⟨s3, hs3⟩ : ∃ y, xs (i + 3).toNatClampNeg = y := ⟨_, rfl⟩
  obtain ⟨s4, hs4⟩ : ∃ y, xs (i + 4).toNatClampNeg = y := ⟨_, rfl⟩
  obtain ⟨s5, hs5⟩ : ∃ y, xs (i + 5).toNatClampNeg = y := ⟨_, rfl⟩
  have hq1 : (i + 1).toInt = i.toInt + 1 := i_add (by show _ ≤ i.toInt + (1 : Int32).toInt; have q : (1 : Int32).toInt = 1 := rfl; omega) (by show i.toInt + (1 : Int32).toInt ≤ _; have q : (1 : Int32).toInt = 1 := rfl; omega)
  have hq2 : (i + 2).toInt = i.toInt + 2 := i_add (by show _ ≤ i.toInt + (2 : Int32).toInt; have q : (2 : Int32).toInt = 2 := rfl; omega) (by show i.toInt + (2 : Int32).toInt ≤ _; have q : (2 : Int32).toInt = 2 := rfl; omega)
  have hq3 : (i + 3).toInt = i.toInt + 3 := i_add (by show _ ≤ i.toInt + (3 : Int32).toInt; have q : (3 : Int32).toInt = 3 := rfl; omega) (by show i.toInt + (3 : Int32).toInt ≤ _; have q : (3 : Int32).toInt = 3 := rfl; omega)
  have hq4 : (i + 4).toInt = i.toInt + 4 := i_add (by show _ ≤ i.toInt + (4 : Int32).toInt; have q : (4 : Int32).toInt = 4 := rfl; omega) (by show i.toInt + (4 : Int32).toInt ≤ _; have q : (4 : Int32).toInt = 4 := rfl; omega)
  have hq5 : (i + 5).toInt = i.toInt + 5 := i_add (by show _ ≤ i.toInt + (5 : Int32).toInt; have q : (5 : Int32).toInt = 5 := rfl; omega) (by show i.toInt + (5 : Int32).toInt ≤ _; have q : (5 : Int32).toInt = 5 := rfl; omega)
  refine lv_aload_n hx hb dL_law_724 rfl (lv_at hl 1 rfl) ?_
  refine lv_aload_n hx hb dL_law_725 rfl (lv_at hl 0 rfl) ?_
  refine lv_iload_n hx hb dL_law_726 rfl (lv_at hl 3 rfl) ?_
  refine lv_iconst (v := 1) hx hb dL_law_727 (by decide) ?_
  refine lv_iadd hx hb dL_law_728 ?_
  refine va_sld hx hb hX hbl hbA hS (i_in (by omega) (by omega)) dL_law_729 ?_
  rw [hs1]
  refine cL_ro (As := [.int s1]) (rest := []) ⟨hx, hb, hml, hown, hg⟩ (k_X11_keepNear l D cs _ ad fa fq rv v a w fv fp s1 iv1_0 iv1_1) ca_X11_keepNear q4_38 ⟨rfl, rfl⟩ ⟨Nat.le_of_ble_eq_true rfl, Nat.le_of_ble_eq_true rfl⟩ (rc_main hK (pw_l hP)) hK hP hD hS hZ rfl hl.1 rfl (Nat.le_of_ble_eq_true rfl) ⟨Nat.le_of_ble_eq_true rfl, Nat.le_of_ble_eq_true rfl⟩ dL_law_730 (fun r_1 wr_1 => ?_)
  have wr_1_0 : True := wr_1
  refine lv_pop hx hb dL_law_733 rfl ?_
  refine lv_aload_n hx hb dL_law_734 rfl (lv_at hl 2 rfl) ?_
  refine lv_aload_n hx hb dL_law_735 rfl (lv_at hl 0 rfl) ?_
  refine lv_iload_n hx hb dL_law_736 rfl (lv_at hl 3 rfl) ?_
  refine lv_iconst (v := 1) hx hb dL_law_737 (by decide) ?_
  refine lv_iadd hx hb dL_law_738 ?_
  refine va_sld hx hb hX hbl hbA hS (i_in (by omega) (by omega)) dL_law_739 ?_
  rw [hs1]
  refine cR_ro (As := [.int s1]) (rest := []) ⟨hx, hb, hml, hown, hg⟩ (k_X12_keepNear l D cs _ bd u b_ bw s1 iu1_0 iu1_1) ca_X12_keepNear q6_227 ⟨rfl, rfl⟩ ⟨Nat.le_of_ble_eq_true rfl, Nat.le_of_ble_eq_true rfl⟩ (rc_model hK (pw_r hP)) hK hP hD hS hZ rfl hl.1 rfl (Nat.le_of_ble_eq_true rfl) ⟨Nat.le_of_ble_eq_true rfl, Nat.le_of_ble_eq_true rfl⟩ dL_law_740 (fun r_3 wr_3 => ?_)
  have wr_3_0 : True := wr_3
  refine lv_pop hx hb dL_law_743 rfl ?_
  refine lv_goto (tgt := 1387) hx hb dL_law_744 (by decide) ?_
  have hI1 : CI v a fv := ⟨iv1_0, iv1_1, ia28_0, ia29_0, iv20_0, iv20_1, iv19_0, iv19_1, iv19_2, ia24_0, ia25_0, ifv14_0, iv4_0, iv4_1, ia18_0, iv24_0, iv24_1, iv25_0, iv25_1, iv25_2, iv26_0, iv26_1, ia19_0, iv5_0, iv5_1, iv6_0, iv6_1, iv6_2, iv11_0, iv11_1, iv14_0, iv14_1, iv0_0, iv0_1, iv0_2, ifv17_0, iv21_0, iv21_1, ia37_0, iv23_0, iv23_1, iv22_0, iv22_1⟩
  have hR1 : RI u b_ bw := ⟨iu1_0, iu1_1, ib67_0, ib66_0, iu8_0, iu8_1, ib10_0, ib11_0, iu9_0, iu9_1, iu9_2, iu15_0, iu15_1, hlaw, ib23_0, ib20_0, ib24_0, iu7_0, iu7_1, iu41_0, iu41_1, iu48_0, iu48_1, iu46_0, iu46_1, iu47_0, iu47_1, iu55_0, iu55_1, iu55_2, iu58_0, iu62_0, iu62_1, ib63_0, iu64_0, iu64_1⟩
  have hE1 : REL v a w fv u b_ bw := ⟨(show (v 1).toInt = (u 1).toInt by first | omega | assumption | exact e1), (show (v 4).toInt = (u 15).toInt by first | omega | assumption | exact e4), (show (v 21).toInt = (u 62).toInt by first | omega | assumption | exact e21), (show (v 22).toInt = (u 64).toInt by first | omega | assumption | exact e22), (show (fv 14 3) = (b_ 53) 0 by first | omega | assumption | exact es14), (show (fv 17 3) = (b_ 61) 0 by first | omega | assumption | exact es17), (show ((v 0).toInt < 0 ∧ (u 54).toInt = 0) ∨ (0 ≤ (v 0).toInt ∧ (u 54).toInt ≠ 0) by first | omega | assumption | exact eim), (show ∀ j, (a 37) j = (b_ 63) j by first | omega | assumption | exact ek), (show ∀ j, (a 38) j = (b_ 65) j by first | omega | assumption | exact et), (show SH (a 28) (a 29) w (b_ 66) (b_ 67) (bw 68) (v 21) by first | omega | assumption | exact esh)⟩
  exact kk ad rv v a w fv fp bd u b_ bw _ _ ls rfl rfl hI1 hR1 hE1 hP hD hS hl
set_option maxHeartbeats 8000000 in
set_option maxRecDepth 100000 in
theorem lc_heard {p : Program} {e : Env} {s : State} {m : MethodId} {below : List Frame} {meth : Method} {c : Code} (l : Launch) {b L : Nat} {xs : Nat → Int32} (C0 : lw_At p s m meth c b L xs) (hL : L ≤ 3072) {D : va_G} {cs : Nat → ClassId} {fa fq : Nat → Nat} (hK : va_K D vwCl (TY cs) s) (hZ : ZS (fun q : Nat => s.heap.size ≤ q) s) {x0 y0 : Nat} {i : Int32} (hi0 : 0 ≤ i.toInt) (hiL : i.toInt + 6 ≤ (L : Int)) (ad rv : Nat → Nat) (v : Nat → Int32) (a : Nat → Nat → Int32) (w : Nat → Nat → Int64) (fv fp : Nat → Nat → Int32) (bd : Nat → Nat) (u : Nat → Int32) (b_ : Nat → Nat → Int32) (bw : Nat → Nat → Int64) (H : Heap) (locs : List Loc) (ls : Array Slot) (hl : lv_has ls 4 [(0, .ref b), (1, .ref x0), (2, .ref y0), (3, .int i)]) (hx0 : ad 0 = x0) (hy0 : bd 0 = y0) (hI : CI v a fv) (hR : RI u b_ bw) (hE : REL v a w fv u b_ bw) (hP : va_P D vwCl (CW cs ad fa fq rv v a w fv fp ++ RW cs bd u b_ bw) H) (hD : va_D (fun q : Nat => s.heap.size ≤ q) (CW cs ad fa fq rv v a w fv fp ++ RW cs bd u b_ bw)) (hS : va_S (fun q : Nat => s.heap.size ≤ q) s.heap H locs)
    (kk : ∀ (ad rv : Nat → Nat) (v : Nat → Int32) (a : Nat → Nat → Int32) (w : Nat → Nat → Int64) (fv fp : Nat → Nat → Int32) (bd : Nat → Nat) (u : Nat → Int32) (b_ : Nat → Nat → Int32) (bw : Nat → Nat → Int64) (H : Heap) (locs : List Loc) (ls : Array Slot) (hx0 : ad 0 = x0) (hy0 : bd 0 = y0) (hI : CI v a fv) (hR : RI u b_ bw) (hE : REL v a w fv u b_ bw) (hP : va_P D vwCl (CW cs ad fa fq rv v a w fv fp ++ RW cs bd u b_ bw) H) (hD : va_D (fun q : Nat => s.heap.size ≤ q) (CW cs ad fa fq rv v a w fv fp ++ RW cs bd u b_ bw)) (hS : va_S (fun q : Nat => s.heap.size ≤ q) s.heap H locs) (hl : lv_has ls 4 [(0, .ref b), (1, .ref x0), (2, .ref y0), (3, .int i)]), W p l e room_1 s m #[Value.ref b] below meth c H locs 200 9000 (lw_Z below #[Value.ref b] s) (F0 m 1387 ls [])) : W p l e room_1 s m #[Value.ref b] below meth c H locs 200 9000 (lw_Z below #[Value.ref b] s) (F0 m 747 ls []) := by
  obtain ⟨hx, hb, hr, hml, hown, hts, hX, hbl, hlocks, hgv⟩ := id C0
  have hg : ∀ w ∈ gw, w.before #[Value.ref b] s = true := fun w h => hts w (gw_in w h)
  have hbA : ¬ (fun q : Nat => s.heap.size ≤ q) b := Nat.not_le.mpr hbl
  subst hx0
  subst hy0
  obtain ⟨iv1_0, iv1_1, ia28_0, ia29_0, iv20_0, iv20_1, iv19_0, iv19_1, iv19_2, ia24_0, ia25_0, ifv14_0, iv4_0, iv4_1, ia18_0, iv24_0, iv24_1, iv25_0, iv25_1, iv25_2, iv26_0, iv26_1, ia19_0, iv5_0, iv5_1, iv6_0, iv6_1, iv6_2, iv11_0, iv11_1, iv14_0, iv14_1, iv0_0, iv0_1, iv0_2, ifv17_0, iv21_0, iv21_1, ia37_0, iv23_0, iv23_1, iv22_0, iv22_1⟩ := id hI
  obtain ⟨iu1_0, iu1_1, ib67_0, ib66_0, iu8_0, iu8_1, ib10_0, ib11_0, iu9_0, iu9_1, iu9_2, iu15_0, iu15_1, hlaw, ib23_0, ib20_0, ib24_0, iu7_0, iu7_1, iu41_0, iu41_1, iu48_0, iu48_1, iu46_0, iu46_1, iu47_0, iu47_1, iu55_0, iu55_1, iu55_2, iu58_0, iu62_0, iu62_1, ib63_0, iu64_0, iu64_1⟩ := id hR
  obtain ⟨e1, e4, e21, e22, es14, es17, eim, ek, et, esh⟩ := id hE
  obtain ⟨s1, hs1⟩ : ∃ y, xs (i + 1).toNatClampNeg = y := ⟨_, rfl⟩
  obtain ⟨s2, hs2⟩ : ∃ y, xs (i + 2).toNatClampNeg = y := ⟨_, rfl⟩
  obtain ⟨s3, hs3⟩ : ∃ y, xs (i + 3).toNatClampNeg = y := ⟨_, rfl⟩
  obtain ⟨s4, hs4⟩ : ∃ y, xs (i + 4).toNatClampNeg = y := ⟨_, rfl⟩
  obtain ⟨s5, hs5⟩ : ∃ y, xs (i + 5).toNatClampNeg = y := ⟨_, rfl⟩
  have hq1 : (i + 1).toInt = i.toInt + 1 := i_add (by show _ ≤ i.toInt + (1 : Int32).toInt; have q : (1 : Int32).toInt = 1 := rfl; omega) (by show i.toInt + (1 : Int32).toInt ≤ _; have q : (1 : Int32).toInt = 1 := rfl; omega)
  have hq2 : (i + 2).toInt = i.toInt + 2 := i_add (by show _ ≤ i.toInt + (2 : Int32).toInt; have q : (2 : Int32).toInt = 2 := rfl; omega) (by show i.toInt + (2 : Int32).toInt ≤ _; have q : (2 : Int32).toInt = 2 := rfl; omega)
  have hq3 : (i + 3).toInt = i.toInt + 3 := i_add (by show _ ≤ i.toInt + (3 : Int32).toInt; have q : (3 : Int32).toInt = 3 := rfl; omega) (by show i.toInt + (3 : Int32).toInt ≤ _; have q : (3 : Int32).toInt = 3 := rfl; omega)
  have hq4 : (i + 4).toInt = i.toInt + 4 := i_add (by show _ ≤ i.toInt + (4 : Int32).toInt; have q : (4 : Int32).toInt = 4 := rfl; omega) (by show i.toInt + (4 : Int32).toInt ≤ _; have q : (4 : Int32).toInt = 4 := rfl; omega)
  have hq5 : (i + 5).toInt = i.toInt + 5 := i_add (by show _ ≤ i.toInt + (5 : Int32).toInt; have q : (5 : Int32).toInt = 5 := rfl; omega) (by show i.toInt + (5 : Int32).toInt ≤ _; have q : (5 : Int32).toInt = 5 := rfl; omega)
  refine lv_aload_n hx hb dL_law_747 rfl (lv_at hl 1 rfl) ?_
  refine lv_aload_n hx hb dL_law_748 rfl (lv_at hl 0 rfl) ?_
  refine lv_iload_n hx hb dL_law_749 rfl (lv_at hl 3 rfl) ?_
  refine lv_iconst (v := 1) hx hb dL_law_750 (by decide) ?_
  refine lv_iadd hx hb dL_law_751 ?_
  refine va_sld hx hb hX hbl hbA hS (i_in (by omega) (by omega)) dL_law_752 ?_
  rw [hs1]
  refine lv_aload_n hx hb dL_law_753 rfl (lv_at hl 0 rfl) ?_
  refine lv_iload_n hx hb dL_law_754 rfl (lv_at hl 3 rfl) ?_
  refine lv_iconst (v := 2) hx hb dL_law_755 (by decide) ?_
  refine lv_iadd hx hb dL_law_756 ?_
  refine va_sld hx hb hX hbl hbA hS (i_in (by omega) (by omega)) dL_law_757 ?_
  rw [hs2]
  refine lv_aload_n hx hb dL_law_758 rfl (lv_at hl 0 rfl) ?_
  refine lv_iload_n hx hb dL_law_759 rfl (lv_at hl 3 rfl) ?_
  refine lv_iconst (v := 3) hx hb dL_law_760 (by decide) ?_
  refine lv_iadd hx hb dL_law_761 ?_
  refine va_sld hx hb hX hbl hbA hS (i_in (by omega) (by omega)) dL_law_762 ?_
  rw [hs3]
  refine cL_i (As := [.int s1, .int s2, .int s3]) (rest := []) ⟨hx, hb, hml, hown, hg⟩ (k_X11_heard l D cs _ ad fa fq rv v a w fv fp s1 s2 s3 ia28_0 iv1_0 iv1_1 iv6_0 iv6_1 iv6_2 ia29_0 iv14_0 iv14_1 ifv14_0 iv5_0 iv5_1 ia18_0) ca_X11_heard q4_46 ⟨rfl, rfl⟩ ⟨Nat.le_of_ble_eq_true rfl, Nat.le_of_ble_eq_true rfl⟩ (rc_main hK (pw_l hP)) hK hP hD hS hZ rfl hl.1 rfl (Nat.le_of_ble_eq_true rfl) ⟨Nat.le_of_ble_eq_true rfl, Nat.le_of_ble_eq_true rfl⟩ dL_law_763 (fun r_1 z_14 H locs wr_1 hP hD hS => ?_)
  obtain ⟨o_fv_2, o_fp_3, o_v6_4, o_v16_5, o_v17_6, o_v18_7, o_v15_8, o_v14_9, o_a20_10, o_a17_11, o_a16_12, o_a23_13⟩ := z_14
  have hP : va_P D vwCl (CW cs ad fa fq rv (va_up (va_up (va_up (va_up (va_up (va_up v 6 o_v6_4) 16 o_v16_5) 17 o_v17_6) 18 o_v18_7) 15 o_v15_8) 14 o_v14_9) (va_up (va_up (va_up (va_up a 20 o_a20_10) 17 o_a17_11) 16 o_a16_12) 23 o_a23_13) w o_fv_2 o_fp_3 ++ RW cs bd u b_ bw) H := hP
  have hD : va_D (fun q : Nat => s.heap.size ≤ q) (CW cs ad fa fq rv (va_up (va_up (va_up (va_up (va_up (va_up v 6 o_v6_4) 16 o_v16_5) 17 o_v17_6) 18 o_v18_7) 15 o_v15_8) 14 o_v14_9) (va_up (va_up (va_up (va_up a 20 o_a20_10) 17 o_a17_11) 16 o_a16_12) 23 o_a23_13) w o_fv_2 o_fp_3 ++ RW cs bd u b_ bw) := hD
  obtain ⟨wr_1_0, wr_1_1, wr_1_2, wr_1_3, wr_1_4, wr_1_5⟩ : (∀ f : Nat, 14 ≤ f → o_fv_2 f = fv f) ∧ (0 ≤ o_v6_4.toInt) ∧ (o_v6_4.toInt ≤ 24) ∧ (DOK o_v6_4 o_a20_10 (v 1)) ∧ ((-1) ≤ o_v14_9.toInt) ∧ (o_v14_9.toInt ≤ 12) := wr_1
  refine lv_pop hx hb dL_law_766 rfl ?_
  refine lv_aload_n hx hb dL_law_767 rfl (lv_at hl 2 rfl) ?_
  refine lv_aload_n hx hb dL_law_768 rfl (lv_at hl 0 rfl) ?_
  refine lv_iload_n hx hb dL_law_769 rfl (lv_at hl 3 rfl) ?_
  refine lv_iconst (v := 1) hx hb dL_law_770 (by decide) ?_
  refine lv_iadd hx hb dL_law_771 ?_
  refine va_sld hx hb hX hbl hbA hS (i_in (by omega) (by omega)) dL_law_772 ?_
  rw [hs1]
  refine lv_aload_n hx hb dL_law_773 rfl (lv_at hl 0 rfl) ?_
  refine lv_iload_n hx hb dL_law_774 rfl (lv_at hl 3 rfl) ?_
  refine lv_iconst (v := 2) hx hb dL_law_775 (by decide) ?_
  refine lv_iadd hx hb dL_law_776 ?_
  refine va_sld hx hb hX hbl hbA hS (i_in (by omega) (by omega)) dL_law_777 ?_
  rw [hs2]
  refine lv_aload_n hx hb dL_law_778 rfl (lv_at hl 0 rfl) ?_
  refine lv_iload_n hx hb dL_law_779 rfl (lv_at hl 3 rfl) ?_
  refine lv_iconst (v := 3) hx hb dL_law_780 (by decide) ?_
  refine lv_iadd hx hb dL_law_781 ?_
  refine va_sld hx hb hX hbl hbA hS (i_in (by omega) (by omega)) dL_law_782 ?_
  rw [hs3]
  refine cR_i (As := [.int s1, .int s2, .int s3]) (rest := []) ⟨hx, hb, hml, hown, hg⟩ (k_X12_heard l D cs _ bd u b_ bw s1 s2 s3 hlaw ib66_0 ib67_0 iu1_0 iu1_1 iu48_0 iu48_1 iu7_0 iu7_1 iu46_0 iu46_1 ib23_0 ib24_0 ib20_0 iu47_0 iu47_1) ca_X12_heard q6_231 ⟨rfl, rfl⟩ ⟨Nat.le_of_ble_eq_true rfl, Nat.le_of_ble_eq_true rfl⟩ (rc_model hK (pw_r hP)) hK hP hD hS hZ rfl hl.1 rfl (Nat.le_of_ble_eq_true rfl) ⟨Nat.le_of_ble_eq_true rfl, Nat.le_of_ble_eq_true rfl⟩ dL_law_783 (fun r_15 z_32 H locs wr_15 hP hD hS => ?_)
  obtain ⟨o_u48_16, o_u46_17, o_u47_18, o_u49_19, o_u52_20, o_u50_21, o_u51_22, o_u33_23, o_u34_24, o_u28_25, o_u29_26, o_u30_27, o_u31_28, o_b32_29, o_b25_30, o_b26_31⟩ := z_32
  have hP : va_P D vwCl (CW cs ad fa fq rv (va_up (va_up (va_up (va_up (va_up (va_up v 6 o_v6_4) 16 o_v16_5) 17 o_v17_6) 18 o_v18_7) 15 o_v15_8) 14 o_v14_9) (va_up (va_up (va_up (va_up a 20 o_a20_10) 17 o_a17_11) 16 o_a16_12) 23 o_a23_13) w o_fv_2 o_fp_3 ++ RW cs bd (va_up (va_up (va_up (va_up (va_up (va_up (va_up (va_up (va_up (va_up (va_up (va_up (va_up u 48 o_u48_16) 46 o_u46_17) 47 o_u47_18) 49 o_u49_19) 52 o_u52_20) 50 o_u50_21) 51 o_u51_22) 33 o_u33_23) 34 o_u34_24) 28 o_u28_25) 29 o_u29_26) 30 o_u30_27) 31 o_u31_28) (va_up (va_up (va_up b_ 32 o_b32_29) 25 o_b25_30) 26 o_b26_31) bw) H := hP
  have hD : va_D (fun q : Nat => s.heap.size ≤ q) (CW cs ad fa fq rv (va_up (va_up (va_up (va_up (va_up (va_up v 6 o_v6_4) 16 o_v16_5) 17 o_v17_6) 18 o_v18_7) 15 o_v15_8) 14 o_v14_9) (va_up (va_up (va_up (va_up a 20 o_a20_10) 17 o_a17_11) 16 o_a16_12) 23 o_a23_13) w o_fv_2 o_fp_3 ++ RW cs bd (va_up (va_up (va_up (va_up (va_up (va_up (va_up (va_up (va_up (va_up (va_up (va_up (va_up u 48 o_u48_16) 46 o_u46_17) 47 o_u47_18) 49 o_u49_19) 52 o_u52_20) 50 o_u50_21) 51 o_u51_22) 33 o_u33_23) 34 o_u34_24) 28 o_u28_25) 29 o_u29_26) 30 o_u30_27) 31 o_u31_28) (va_up (va_up (va_up b_ 32 o_b32_29) 25 o_b25_30) 26 o_b26_31) bw) := hD
  obtain ⟨wr_15_0, wr_15_1, wr_15_2, wr_15_3, wr_15_4, wr_15_5⟩ : (0 ≤ o_u48_16.toInt) ∧ (o_u48_16.toInt ≤ 24) ∧ (0 ≤ o_u46_17.toInt) ∧ (o_u46_17.toInt ≤ 5) ∧ (0 ≤ o_u47_18.toInt) ∧ (o_u47_18.toInt ≤ 5) := wr_15
  refine lv_pop hx hb dL_law_786 rfl ?_
  refine lv_goto (tgt := 1387) hx hb dL_law_787 (by decide) ?_
  have hI1 : CI (va_up (va_up (va_up (va_up (va_up (va_up v 6 o_v6_4) 16 o_v16_5) 17 o_v17_6) 18 o_v18_7) 15 o_v15_8) 14 o_v14_9) (va_up (va_up (va_up (va_up a 20 o_a20_10) 17 o_a17_11) 16 o_a16_12) 23 o_a23_13) o_fv_2 := ⟨iv1_0, iv1_1, ia28_0, ia29_0, iv20_0, iv20_1, iv19_0, iv19_1, iv19_2, ia24_0, ia25_0, (show (o_fv_2 14 2).toInt = -2 ∨ (0 ≤ (o_fv_2 14 2).toInt ∧ (o_fv_2 14 2).toInt < (v 1).toInt) from by rw [wr_1_0 14 (by decide)]; exact ifv14_0), iv4_0, iv4_1, ia18_0, iv24_0, iv24_1, iv25_0, iv25_1, iv25_2, iv26_0, iv26_1, ia19_0, iv5_0, iv5_1, (show 0 ≤ o_v6_4.toInt by first | assumption | omega), (show o_v6_4.toInt ≤ 24 by first | assumption | omega), wr_1_3, iv11_0, iv11_1, (show (-1) ≤ o_v14_9.toInt by first | assumption | omega), (show o_v14_9.toInt ≤ 12 by first | assumption | omega), iv0_0, iv0_1, iv0_2, (show (o_fv_2 17 2).toInt = -2 ∨ (0 ≤ (o_fv_2 17 2).toInt ∧ (o_fv_2 17 2).toInt < (v 1).toInt) from by rw [wr_1_0 17 (by decide)]; exact ifv17_0), iv21_0, iv21_1, ia37_0, iv23_0, iv23_1, iv22_0, iv22_1⟩
  have hR1 : RI (va_up (va_up (va_up (va_up (va_up (va_up (va_up (va_up (va_up (va_up (va_up (va_up (va_up u 48 o_u48_16) 46 o_u46_17) 47 o_u47_18) 49 o_u49_19) 52 o_u52_20) 50 o_u50_21) 51 o_u51_22) 33 o_u33_23) 34 o_u34_24) 28 o_u28_25) 29 o_u29_26) 30 o_u30_27) 31 o_u31_28) (va_up (va_up (va_up b_ 32 o_b32_29) 25 o_b25_30) 26 o_b26_31) bw := ⟨iu1_0, iu1_1, ib67_0, ib66_0, iu8_0, iu8_1, ib10_0, ib11_0, iu9_0, iu9_1, iu9_2, iu15_0, iu15_1, hlaw, ib23_0, ib20_0, ib24_0, iu7_0, iu7_1, iu41_0, iu41_1, (show 0 ≤ o_u48_16.toInt by first | assumption | omega), (show o_u48_16.toInt ≤ 24 by first | assumption | omega), (show 0 ≤ o_u46_17.toInt by first | assumption | omega), (show o_u46_17.toInt ≤ 5 by first | assumption | omega), (show 0 ≤ o_u47_18.toInt by first | assumption | omega), (show o_u47_18.toInt ≤ 5 by first | assumption | omega), iu55_0, iu55_1, iu55_2, iu58_0, iu62_0, iu62_1, ib63_0, iu64_0, iu64_1⟩
  have hE1 : REL (va_up (va_up (va_up (va_up (va_up (va_up v 6 o_v6_4) 16 o_v16_5) 17 o_v17_6) 18 o_v18_7) 15 o_v15_8) 14 o_v14_9) (va_up (va_up (va_up (va_up a 20 o_a20_10) 17 o_a17_11) 16 o_a16_12) 23 o_a23_13) w o_fv_2 (va_up (va_up (va_up (va_up (va_up (va_up (va_up (va_up (va_up (va_up (va_up (va_up (va_up u 48 o_u48_16) 46 o_u46_17) 47 o_u47_18) 49 o_u49_19) 52 o_u52_20) 50 o_u50_21) 51 o_u51_22) 33 o_u33_23) 34 o_u34_24) 28 o_u28_25) 29 o_u29_26) 30 o_u30_27) 31 o_u31_28) (va_up (va_up (va_up b_ 32 o_b32_29) 25 o_b25_30) 26 o_b26_31) bw := ⟨(show (v 1).toInt = (u 1).toInt by first | omega | assumption | exact e1), (show (v 4).toInt = (u 15).toInt by first | omega | assumption | exact e4), (show (v 21).toInt = (u 62).toInt by first | omega | assumption | exact e21), (show (v 22).toInt = (u 64).toInt by first | omega | assumption | exact e22), (show (o_fv_2 14 3) = (b_ 53) 0 by exact (congrFun (wr_1_0 14 (by decide)) 3).trans es14), (show (o_fv_2 17 3) = (b_ 61) 0 by exact (congrFun (wr_1_0 17 (by decide)) 3).trans es17), (show ((v 0).toInt < 0 ∧ (u 54).toInt = 0) ∨ (0 ≤ (v 0).toInt ∧ (u 54).toInt ≠ 0) by first | omega | assumption | exact eim), (show ∀ j, (a 37) j = (b_ 63) j by first | omega | assumption | exact ek), (show ∀ j, (a 38) j = (b_ 65) j by first | omega | assumption | exact et), (show SH (a 28) (a 29) w (b_ 66) (b_ 67) (bw 68) (v 21) by first | omega | assumption | exact esh)⟩
  exact kk ad rv (va_up (va_up (va_up (va_up (va_up (va_up v 6 o_v6_4) 16 o_v16_5) 17 o_v17_6) 18 o_v18_7) 15 o_v15_8) 14 o_v14_9) (va_up (va_up (va_up (va_up a 20 o_a20_10) 17 o_a17_11) 16 o_a16_12) 23 o_a23_13) w o_fv_2 o_fp_3 bd (va_up (va_up (va_up (va_up (va_up (va_up (va_up (va_up (va_up (va_up (va_up (va_up (va_up u 48 o_u48_16) 46 o_u46_17) 47 o_u47_18) 49 o_u49_19) 52 o_u52_20) 50 o_u50_21) 51 o_u51_22) 33 o_u33_23) 34 o_u34_24) 28 o_u28_25) 29 o_u29_26) 30 o_u30_27) 31 o_u31_28) (va_up (va_up (va_up b_ 32 o_b32_29) 25 o_b25_30) 26 o_b26_31) bw _ _ ls rfl rfl hI1 hR1 hE1 hP hD hS hl
set_option maxHeartbeats 8000000 in
set_option maxRecDepth 100000 in
theorem lc_drawn {p : Program} {e : Env} {s : State} {m : MethodId} {below : List Frame} {meth : Method} {c : Code} (l : Launch) {b L : Nat} {xs : Nat → Int32} (C0 : lw_At p s m meth c b L xs) (hL : L ≤ 3072) {D : va_G} {cs : Nat → ClassId} {fa fq : Nat → Nat} (hK : va_K D vwCl (TY cs) s) (hZ : ZS (fun q : Nat => s.heap.size ≤ q) s) {x0 y0 : Nat} {i : Int32} (hi0 : 0 ≤ i.toInt) (hiL : i.toInt + 6 ≤ (L : Int)) (ad rv : Nat → Nat) (v : Nat → Int32) (a : Nat → Nat → Int32) (w : Nat → Nat → Int64) (fv fp : Nat → Nat → Int32) (bd : Nat → Nat) (u : Nat → Int32) (b_ : Nat → Nat → Int32) (bw : Nat → Nat → Int64) (H : Heap) (locs : List Loc) (ls : Array Slot) (hl : lv_has ls 4 [(0, .ref b), (1, .ref x0), (2, .ref y0), (3, .int i)]) (hx0 : ad 0 = x0) (hy0 : bd 0 = y0) (hI : CI v a fv) (hR : RI u b_ bw) (hE : REL v a w fv u b_ bw) (hP : va_P D vwCl (CW cs ad fa fq rv v a w fv fp ++ RW cs bd u b_ bw) H) (hD : va_D (fun q : Nat => s.heap.size ≤ q) (CW cs ad fa fq rv v a w fv fp ++ RW cs bd u b_ bw)) (hS : va_S (fun q : Nat => s.heap.size ≤ q) s.heap H locs)
    (kk : ∀ (ad rv : Nat → Nat) (v : Nat → Int32) (a : Nat → Nat → Int32) (w : Nat → Nat → Int64) (fv fp : Nat → Nat → Int32) (bd : Nat → Nat) (u : Nat → Int32) (b_ : Nat → Nat → Int32) (bw : Nat → Nat → Int64) (H : Heap) (locs : List Loc) (ls : Array Slot) (hx0 : ad 0 = x0) (hy0 : bd 0 = y0) (hI : CI v a fv) (hR : RI u b_ bw) (hE : REL v a w fv u b_ bw) (hP : va_P D vwCl (CW cs ad fa fq rv v a w fv fp ++ RW cs bd u b_ bw) H) (hD : va_D (fun q : Nat => s.heap.size ≤ q) (CW cs ad fa fq rv v a w fv fp ++ RW cs bd u b_ bw)) (hS : va_S (fun q : Nat => s.heap.size ≤ q) s.heap H locs) (hl : lv_has ls 4 [(0, .ref b), (1, .ref x0), (2, .ref y0), (3, .int i)]), W p l e room_1 s m #[Value.ref b] below meth c H locs 200 9000 (lw_Z below #[Value.ref b] s) (F0 m 1387 ls [])) : W p l e room_1 s m #[Value.ref b] below meth c H locs 200 9000 (lw_Z below #[Value.ref b] s) (F0 m 790 ls []) := by
  obtain ⟨hx, hb, hr, hml, hown, hts, hX, hbl, hlocks, hgv⟩ := id C0
  have hg : ∀ w ∈ gw, w.before #[Value.ref b] s = true := fun w h => hts w (gw_in w h)
  have hbA : ¬ (fun q : Nat => s.heap.size ≤ q) b := Nat.not_le.mpr hbl
  subst hx0
  subst hy0
  obtain ⟨iv1_0, iv1_1, ia28_0, ia29_0, iv20_0, iv20_1, iv19_0, iv19_1, iv19_2, ia24_0, ia25_0, ifv14_0, iv4_0, iv4_1, ia18_0, iv24_0, iv24_1, iv25_0, iv25_1, iv25_2, iv26_0, iv26_1, ia19_0, iv5_0, iv5_1, iv6_0, iv6_1, iv6_2, iv11_0, iv11_1, iv14_0, iv14_1, iv0_0, iv0_1, iv0_2, ifv17_0, iv21_0, iv21_1, ia37_0, iv23_0, iv23_1, iv22_0, iv22_1⟩ := id hI
  obtain ⟨iu1_0, iu1_1, ib67_0, ib66_0, iu8_0, iu8_1, ib10_0, ib11_0, iu9_0, iu9_1, iu9_2, iu15_0, iu15_1, hlaw, ib23_0, ib20_0, ib24_0, iu7_0, iu7_1, iu41_0, iu41_1, iu48_0, iu48_1, iu46_0, iu46_1, iu47_0, iu47_1, iu55_0, iu55_1, iu55_2, iu58_0, iu62_0, iu62_1, ib63_0, iu64_0, iu64_1⟩ := id hR
  obtain ⟨e1, e4, e21, e22, es14, es17, eim, ek, et, esh⟩ := id hE
  obtain ⟨s1, hs1⟩ : ∃ y, xs (i + 1).toNatClampNeg = y := ⟨_, rfl⟩
  obtain ⟨s2, hs2⟩ : ∃ y, xs (i + 2).toNatClampNeg = y := ⟨_, rfl⟩
  obtain ⟨s3, hs3⟩ : ∃ y, xs (i + 3).toNatClampNeg = y := ⟨_, rfl⟩
  obtain ⟨s4, hs4⟩ : ∃ y, xs (i + 4).toNatClampNeg = y := ⟨_, rfl⟩
  obtain ⟨s5, hs5⟩ : ∃ y, xs (i + 5).toNatClampNeg = y := ⟨_, rfl⟩
  have hq1 : (i + 1).toInt = i.toInt + 1 := i_add (by show _ ≤ i.toInt + (1 : Int32).toInt; have q : (1 : Int32).toInt = 1 := rfl; omega) (by show i.toInt + (1 : Int32).toInt ≤ _; have q : (1 : Int32).toInt = 1 := rfl; omega)
  have hq2 : (i + 2).toInt = i.toInt + 2 := i_add (by show _ ≤ i.toInt + (2 : Int32).toInt; have q : (2 : Int32).toInt = 2 := rfl; omega) (by show i.toInt + (2 : Int32).toInt ≤ _; have q : (2 : Int32).toInt = 2 := rfl; omega)
  have hq3 : (i + 3).toInt = i.toInt + 3 := i_add (by show _ ≤ i.toInt + (3 : Int32).toInt; have q : (3 : Int32).toInt = 3 := rfl; omega) (by show i.toInt + (3 : Int32).toInt ≤ _; have q : (3 : Int32).toInt = 3 := rfl; omega)
  have hq4 : (i + 4).toInt = i.toInt + 4 := i_add (by show _ ≤ i.toInt + (4 : Int32).toInt; have q : (4 : Int32).toInt = 4 := rfl; omega) (by show i.toInt + (4 : Int32).toInt ≤ _; have q : (4 : Int32).toInt = 4 := rfl; omega)
  have hq5 : (i + 5).toInt = i.toInt + 5 := i_add (by show _ ≤ i.toInt + (5 : Int32).toInt; have q : (5 : Int32).toInt = 5 := rfl; omega) (by show i.toInt + (5 : Int32).toInt ≤ _; have q : (5 : Int32).toInt = 5 := rfl; omega)
  refine lv_aload_n hx hb dL_law_790 rfl (lv_at hl 1 rfl) ?_
  refine lv_aload_n hx hb dL_law_791 rfl (lv_at hl 0 rfl) ?_
  refine lv_iload_n hx hb dL_law_792 rfl (lv_at hl 3 rfl) ?_
  refine lv_iconst (v := 1) hx hb dL_law_793 (by decide) ?_
  refine lv_iadd hx hb dL_law_794 ?_
  refine va_sld hx hb hX hbl hbA hS (i_in (by omega) (by omega)) dL_law_795 ?_
  rw [hs1]
  refine lv_aload_n hx hb dL_law_796 rfl (lv_at hl 0 rfl) ?_
  refine lv_iload_n hx hb dL_law_797 rfl (lv_at hl 3 rfl) ?_
  refine lv_iconst (v := 2) hx hb dL_law_798 (by decide) ?_
  refine lv_iadd hx hb dL_law_799 ?_
  refine va_sld hx hb hX hbl hbA hS (i_in (by omega) (by omega)) dL_law_800 ?_
  rw [hs2]
  refine lv_aload_n hx hb dL_law_801 rfl (lv_at hl 0 rfl) ?_
  refine lv_iload_n hx hb dL_law_802 rfl (lv_at hl 3 rfl) ?_
  refine lv_iconst (v := 3) hx hb dL_law_803 (by decide) ?_
  refine lv_iadd hx hb dL_law_804 ?_
  refine va_sld hx hb hX hbl hbA hS (i_in (by omega) (by omega)) dL_law_805 ?_
  rw [hs3]
  refine cL_i (As := [.int s1, .int s2, .int s3]) (rest := []) ⟨hx, hb, hml, hown, hg⟩ (k_X11_drawn l D cs _ ad fa fq rv v a w fv fp s1 s2 s3 iv1_0 iv1_1 ifv14_0 iv5_0 iv5_1 ia18_0) ca_X11_drawn q4_73 ⟨rfl, rfl⟩ ⟨Nat.le_of_ble_eq_true rfl, Nat.le_of_ble_eq_true rfl⟩ (rc_main hK (pw_l hP)) hK hP hD hS hZ rfl hl.1 rfl (Nat.le_of_ble_eq_true rfl) ⟨Nat.le_of_ble_eq_true rfl, Nat.le_of_ble_eq_true rfl⟩ dL_law_806 (fun r_1 z_6 H locs wr_1 hP hD hS => ?_)
  obtain ⟨o_a17_2, o_a16_3, o_fv15_4, o_fp15_5⟩ := z_6
  have hP : va_P D vwCl (CW cs ad fa fq rv v (va_up (va_up a 17 o_a17_2) 16 o_a16_3) w (va_up fv 15 o_fv15_4) (va_up fp 15 o_fp15_5) ++ RW cs bd u b_ bw) H := hP
  have hD : va_D (fun q : Nat => s.heap.size ≤ q) (CW cs ad fa fq rv v (va_up (va_up a 17 o_a17_2) 16 o_a16_3) w (va_up fv 15 o_fv15_4) (va_up fp 15 o_fp15_5) ++ RW cs bd u b_ bw) := hD
  have wr_1_0 : True := wr_1
  refine lv_pop hx hb dL_law_809 rfl ?_
  refine lv_aload_n hx hb dL_law_810 rfl (lv_at hl 2 rfl) ?_
  refine lv_aload_n hx hb dL_law_811 rfl (lv_at hl 0 rfl) ?_
  refine lv_iload_n hx hb dL_law_812 rfl (lv_at hl 3 rfl) ?_
  refine lv_iconst (v := 1) hx hb dL_law_813 (by decide) ?_
  refine lv_iadd hx hb dL_law_814 ?_
  refine va_sld hx hb hX hbl hbA hS (i_in (by omega) (by omega)) dL_law_815 ?_
  rw [hs1]
  refine lv_aload_n hx hb dL_law_816 rfl (lv_at hl 0 rfl) ?_
  refine lv_iload_n hx hb dL_law_817 rfl (lv_at hl 3 rfl) ?_
  refine lv_iconst (v := 2) hx hb dL_law_818 (by decide) ?_
  refine lv_iadd hx hb dL_law_819 ?_
  refine va_sld hx hb hX hbl hbA hS (i_in (by omega) (by omega)) dL_law_820 ?_
  rw [hs2]
  refine lv_aload_n hx hb dL_law_821 rfl (lv_at hl 0 rfl) ?_
  refine lv_iload_n hx hb dL_law_822 rfl (lv_at hl 3 rfl) ?_
  refine lv_iconst (v := 3) hx hb dL_law_823 (by decide) ?_
  refine lv_iadd hx hb dL_law_824 ?_
  refine va_sld hx hb hX hbl hbA hS (i_in (by omega) (by omega)) dL_law_825 ?_
  rw [hs3]
  refine cR_i (As := [.int s1, .int s2, .int s3]) (rest := []) ⟨hx, hb, hml, hown, hg⟩ (k_X12_drawn l D cs _ bd u b_ bw s1 s2 s3 hlaw iu1_0 iu1_1 iu7_0 iu7_1 ib23_0 ib24_0 ib20_0) ca_X12_drawn q7_3 ⟨rfl, rfl⟩ ⟨Nat.le_of_ble_eq_true rfl, Nat.le_of_ble_eq_true rfl⟩ (rc_model hK (pw_r hP)) hK hP hD hS hZ rfl hl.1 rfl (Nat.le_of_ble_eq_true rfl) ⟨Nat.le_of_ble_eq_true rfl, Nat.le_of_ble_eq_true rfl⟩ dL_law_826 (fun r_7 z_17 H locs wr_7 hP hD hS => ?_)
  obtain ⟨o_u28_8, o_u29_9, o_u30_10, o_u31_11, o_u33_12, o_u34_13, o_b32_14, o_b25_15, o_b26_16⟩ := z_17
  have hP : va_P D vwCl (CW cs ad fa fq rv v (va_up (va_up a 17 o_a17_2) 16 o_a16_3) w (va_up fv 15 o_fv15_4) (va_up fp 15 o_fp15_5) ++ RW cs bd (va_up (va_up (va_up (va_up (va_up (va_up u 28 o_u28_8) 29 o_u29_9) 30 o_u30_10) 31 o_u31_11) 33 o_u33_12) 34 o_u34_13) (va_up (va_up (va_up b_ 32 o_b32_14) 25 o_b25_15) 26 o_b26_16) bw) H := hP
  have hD : va_D (fun q : Nat => s.heap.size ≤ q) (CW cs ad fa fq rv v (va_up (va_up a 17 o_a17_2) 16 o_a16_3) w (va_up fv 15 o_fv15_4) (va_up fp 15 o_fp15_5) ++ RW cs bd (va_up (va_up (va_up (va_up (va_up (va_up u 28 o_u28_8) 29 o_u29_9) 30 o_u30_10) 31 o_u31_11) 33 o_u33_12) 34 o_u34_13) (va_up (va_up (va_up b_ 32 o_b32_14) 25 o_b25_15) 26 o_b26_16) bw) := hD
  have wr_7_0 : True := wr_7
  refine lv_pop hx hb dL_law_829 rfl ?_
  refine lv_goto (tgt := 1387) hx hb dL_law_830 (by decide) ?_
  have hI1 : CI v (va_up (va_up a 17 o_a17_2) 16 o_a16_3) (va_up fv 15 o_fv15_4) := ⟨iv1_0, iv1_1, ia28_0, ia29_0, iv20_0, iv20_1, iv19_0, iv19_1, iv19_2, ia24_0, ia25_0, ifv14_0, iv4_0, iv4_1, ia18_0, iv24_0, iv24_1, iv25_0, iv25_1, iv25_2, iv26_0, iv26_1, ia19_0, iv5_0, iv5_1, iv6_0, iv6_1, iv6_2, iv11_0, iv11_1, iv14_0, iv14_1, iv0_0, iv0_1, iv0_2, ifv17_0, iv21_0, iv21_1, ia37_0, iv23_0, iv23_1, iv22_0, iv22_1⟩
  have hR1 : RI (va_up (va_up (va_up (va_up (va_up (va_up u 28 o_u28_8) 29 o_u29_9) 30 o_u30_10) 31 o_u31_11) 33 o_u33_12) 34 o_u34_13) (va_up (va_up (va_up b_ 32 o_b32_14) 25 o_b25_15) 26 o_b26_16) bw := ⟨iu1_0, iu1_1, ib67_0, ib66_0, iu8_0, iu8_1, ib10_0, ib11_0, iu9_0, iu9_1, iu9_2, iu15_0, iu15_1, hlaw, ib23_0, ib20_0, ib24_0, iu7_0, iu7_1, iu41_0, iu41_1, iu48_0, iu48_1, iu46_0, iu46_1, iu47_0, iu47_1, iu55_0, iu55_1, iu55_2, iu58_0, iu62_0, iu62_1, ib63_0, iu64_0, iu64_1⟩
  have hE1 : REL v (va_up (va_up a 17 o_a17_2) 16 o_a16_3) w (va_up fv 15 o_fv15_4) (va_up (va_up (va_up (va_up (va_up (va_up u 28 o_u28_8) 29 o_u29_9) 30 o_u30_10) 31 o_u31_11) 33 o_u33_12) 34 o_u34_13) (va_up (va_up (va_up b_ 32 o_b32_14) 25 o_b25_15) 26 o_b26_16) bw := ⟨(show (v 1).toInt = (u 1).toInt by first | omega | assumption | exact e1), (show (v 4).toInt = (u 15).toInt by first | omega | assumption | exact e4), (show (v 21).toInt = (u 62).toInt by first | omega | assumption | exact e21), (show (v 22).toInt = (u 64).toInt by first | omega | assumption | exact e22), (show (fv 14 3) = (b_ 53) 0 by first | omega | assumption | exact es14), (show (fv 17 3) = (b_ 61) 0 by first | omega | assumption | exact es17), (show ((v 0).toInt < 0 ∧ (u 54).toInt = 0) ∨ (0 ≤ (v 0).toInt ∧ (u 54).toInt ≠ 0) by first | omega | assumption | exact eim), (show ∀ j, (a 37) j = (b_ 63) j by first | omega | assumption | exact ek), (show ∀ j, (a 38) j = (b_ 65) j by first | omega | assumption | exact et), (show SH (a 28) (a 29) w (b_ 66) (b_ 67) (bw 68) (v 21) by first | omega | assumption | exact esh)⟩
  exact kk ad rv v (va_up (va_up a 17 o_a17_2) 16 o_a16_3) w (va_up fv 15 o_fv15_4) (va_up fp 15 o_fp15_5) bd (va_up (va_up (va_up (va_up (va_up (va_up u 28 o_u28_8) 29 o_u29_9) 30 o_u30_10) 31 o_u31_11) 33 o_u33_12) 34 o_u34_13) (va_up (va_up (va_up b_ 32 o_b32_14) 25 o_b25_15) 26 o_b26_16) bw _ _ ls rfl rfl hI1 hR1 hE1 hP hD hS hl
set_option maxHeartbeats 8000000 in
set_option maxRecDepth 100000 in
theorem lc_say {p : Program} {e : Env} {s : State} {m : MethodId} {below : List Frame} {meth : Method} {c : Code} (l : Launch) {b L : Nat} {xs : Nat → Int32} (C0 : lw_At p s m meth c b L xs) (hL : L ≤ 3072) {D : va_G} {cs : Nat → ClassId} {fa fq : Nat → Nat} (hK : va_K D vwCl (TY cs) s) (hZ : ZS (fun q : Nat => s.heap.size ≤ q) s) {x0 y0 : Nat} {i : Int32} (hi0 : 0 ≤ i.toInt) (hiL : i.toInt + 6 ≤ (L : Int)) (ad rv : Nat → Nat) (v : Nat → Int32) (a : Nat → Nat → Int32) (w : Nat → Nat → Int64) (fv fp : Nat → Nat → Int32) (bd : Nat → Nat) (u : Nat → Int32) (b_ : Nat → Nat → Int32) (bw : Nat → Nat → Int64) (H : Heap) (locs : List Loc) (ls : Array Slot) (hl : lv_has ls 4 [(0, .ref b), (1, .ref x0), (2, .ref y0), (3, .int i)]) (hx0 : ad 0 = x0) (hy0 : bd 0 = y0) (hI : CI v a fv) (hR : RI u b_ bw) (hE : REL v a w fv u b_ bw) (hP : va_P D vwCl (CW cs ad fa fq rv v a w fv fp ++ RW cs bd u b_ bw) H) (hD : va_D (fun q : Nat => s.heap.size ≤ q) (CW cs ad fa fq rv v a w fv fp ++ RW cs bd u b_ bw)) (hS : va_S (fun q : Nat => s.heap.size ≤ q) s.heap H locs)
    (kk : ∀ (ad rv : Nat → Nat) (v : Nat → Int32) (a : Nat → Nat → Int32) (w : Nat → Nat → Int64) (fv fp : Nat → Nat → Int32) (bd : Nat → Nat) (u : Nat → Int32) (b_ : Nat → Nat → Int32) (bw : Nat → Nat → Int64) (H : Heap) (locs : List Loc) (ls : Array Slot) (hx0 : ad 0 = x0) (hy0 : bd 0 = y0) (hI : CI v a fv) (hR : RI u b_ bw) (hE : REL v a w fv u b_ bw) (hP : va_P D vwCl (CW cs ad fa fq rv v a w fv fp ++ RW cs bd u b_ bw) H) (hD : va_D (fun q : Nat => s.heap.size ≤ q) (CW cs ad fa fq rv v a w fv fp ++ RW cs bd u b_ bw)) (hS : va_S (fun q : Nat => s.heap.size ≤ q) s.heap H locs) (hl : lv_has ls 4 [(0, .ref b), (1, .ref x0), (2, .ref y0), (3, .int i)]), W p l e room_1 s m #[Value.ref b] below meth c H locs 200 9000 (lw_Z below #[Value.ref b] s) (F0 m 1387 ls [])) : W p l e room_1 s m #[Value.ref b] below meth c H locs 200 9000 (lw_Z below #[Value.ref b] s) (F0 m 833 ls []) := by
  obtain ⟨hx, hb, hr, hml, hown, hts, hX, hbl, hlocks, hgv⟩ := id C0
  have hg : ∀ w ∈ gw, w.before #[Value.ref b] s = true := fun w h => hts w (gw_in w h)
  have hbA : ¬ (fun q : Nat => s.heap.size ≤ q) b := Nat.not_le.mpr hbl
  subst hx0
  subst hy0
  obtain ⟨iv1_0, iv1_1, ia28_0, ia29_0, iv20_0, iv20_1, iv19_0, iv19_1, iv19_2, ia24_0, ia25_0, ifv14_0, iv4_0, iv4_1, ia18_0, iv24_0, iv24_1, iv25_0, iv25_1, iv25_2, iv26_0, iv26_1, ia19_0, iv5_0, iv5_1, iv6_0, iv6_1, iv6_2, iv11_0, iv11_1, iv14_0, iv14_1, iv0_0, iv0_1, iv0_2, ifv17_0, iv21_0, iv21_1, ia37_0, iv23_0, iv23_1, iv22_0, iv22_1⟩ := id hI
  obtain ⟨iu1_0, iu1_1, ib67_0, ib66_0, iu8_0, iu8_1, ib10_0, ib11_0, iu9_0, iu9_1, iu9_2, iu15_0, iu15_1, hlaw, ib23_0, ib20_0, ib24_0, iu7_0, iu7_1, iu41_0, iu41_1, iu48_0, iu48_1, iu46_0, iu46_1, iu47_0, iu47_1, iu55_0, iu55_1, iu55_2, iu58_0, iu62_0, iu62_1, ib63_0, iu64_0, iu64_1⟩ := id hR
  obtain ⟨e1, e4, e21, e22, es14, es17, eim, ek, et, esh⟩ := id hE
  obtain ⟨s1, hs1⟩ : ∃ y, xs (i + 1).toNatClampNeg = y := ⟨_, rfl⟩
  obtain ⟨s2, hs2⟩ : ∃ y, xs (i + 2).toNatClampNeg = y := ⟨_, rfl⟩
  obtain ⟨s3, hs3⟩ : ∃ y, xs (i + 3).toNatClampNeg = y := ⟨_, rfl⟩
  obtain ⟨s4, hs4⟩ : ∃ y, xs (i + 4).toNatClampNeg = y := ⟨_, rfl⟩
  obtain ⟨s5, hs5⟩ : ∃ y, xs (i + 5).toNatClampNeg = y := ⟨_, rfl⟩
  have hq1 : (i + 1).toInt = i.toInt + 1 := i_add (by show _ ≤ i.toInt + (1 : Int32).toInt; have q : (1 : Int32).toInt = 1 := rfl; omega) (by show i.toInt + (1 : Int32).toInt ≤ _; have q : (1 : Int32).toInt = 1 := rfl; omega)
  have hq2 : (i + 2).toInt = i.toInt + 2 := i_add (by show _ ≤ i.toInt + (2 : Int32).toInt; have q : (2 : Int32).toInt = 2 := rfl; omega) (by show i.toInt + (2 : Int32).toInt ≤ _; have q : (2 : Int32).toInt = 2 := rfl; omega)
  have hq3 : (i + 3).toInt = i.toInt + 3 := i_add (by show _ ≤ i.toInt + (3 : Int32).toInt; have q : (3 : Int32).toInt = 3 := rfl; omega) (by show i.toInt + (3 : Int32).toInt ≤ _; have q : (3 : Int32).toInt = 3 := rfl; omega)
  have hq4 : (i + 4).toInt = i.toInt + 4 := i_add (by show _ ≤ i.toInt + (4 : Int32).toInt; have q : (4 : Int32).toInt = 4 := rfl; omega) (by show i.toInt + (4 : Int32).toInt ≤ _; have q : (4 : Int32).toInt = 4 := rfl; omega)
  have hq5 : (i + 5).toInt = i.toInt + 5 := i_add (by show _ ≤ i.toInt + (5 : Int32).toInt; have q : (5 : Int32).toInt = 5 := rfl; omega) (by show i.toInt + (5 : Int32).toInt ≤ _; have q : (5 : Int32).toInt = 5 := rfl; omega)
  refine lv_aload_n hx hb dL_law_833 rfl (lv_at hl 1 rfl) ?_
  refine lv_aload_n hx hb dL_law_834 rfl (lv_at hl 0 rfl) ?_
  refine lv_iload_n hx hb dL_law_835 rfl (lv_at hl 3 rfl) ?_
  refine lv_iconst (v := 1) hx hb dL_law_836 (by decide) ?_
  refine lv_iadd hx hb dL_law_837 ?_
  refine va_sld hx hb hX hbl hbA hS (i_in (by omega) (by omega)) dL_law_838 ?_
  rw [hs1]
  refine lv_aload_n hx hb dL_law_839 rfl (lv_at hl 0 rfl) ?_
  refine lv_iload_n hx hb dL_law_840 rfl (lv_at hl 3 rfl) ?_
  refine lv_iconst (v := 2) hx hb dL_law_841 (by decide) ?_
  refine lv_iadd hx hb dL_law_842 ?_
  refine va_sld hx hb hX hbl hbA hS (i_in (by omega) (by omega)) dL_law_843 ?_
  rw [hs2]
  refine cL_i (As := [.int s1, .int s2]) (rest := []) ⟨hx, hb, hml, hown, hg⟩ (k_X11_say l D cs _ ad fa fq rv v a w fv fp s1 s2 iv1_0 iv1_1 ifv14_0 iv5_0 iv5_1 ia18_0) ca_X11_say q4_78 ⟨rfl, rfl⟩ ⟨Nat.le_of_ble_eq_true rfl, Nat.le_of_ble_eq_true rfl⟩ (rc_main hK (pw_l hP)) hK hP hD hS hZ rfl hl.1 rfl (Nat.le_of_ble_eq_true rfl) ⟨Nat.le_of_ble_eq_true rfl, Nat.le_of_ble_eq_true rfl⟩ dL_law_844 (fun r_1 z_6 H locs wr_1 hP hD hS => ?_)
  obtain ⟨o_a17_2, o_a16_3, o_fv14_4, o_fp14_5⟩ := z_6
  have hP : va_P D vwCl (CW cs ad fa fq rv v (va_up (va_up a 17 o_a17_2) 16 o_a16_3) w (va_up fv 14 o_fv14_4) (va_up fp 14 o_fp14_5) ++ RW cs bd u b_ bw) H := hP
  have hD : va_D (fun q : Nat => s.heap.size ≤ q) (CW cs ad fa fq rv v (va_up (va_up a 17 o_a17_2) 16 o_a16_3) w (va_up fv 14 o_fv14_4) (va_up fp 14 o_fp14_5) ++ RW cs bd u b_ bw) := hD
  obtain ⟨wr_1_0, wr_1_1⟩ : ((r_1.toInt = -1 ∧ ¬ ((0 ≤ s1.toInt ∧ s1.toInt < (v 1).toInt) ∧ 0 ≤ s2.toInt ∧ s2.toInt ≤ 1) ∧ o_fv14_4 3 = (fv 14 3)) ∨ (r_1.toInt ≠ -1 ∧ ((0 ≤ s1.toInt ∧ s1.toInt < (v 1).toInt) ∧ 0 ≤ s2.toInt ∧ s2.toInt ≤ 1) ∧ o_fv14_4 3 = (fv 14 3) + 1)) ∧ ((o_fv14_4 2).toInt = -2 ∨ (0 ≤ (o_fv14_4 2).toInt ∧ (o_fv14_4 2).toInt < (v 1).toInt)) := wr_1
  refine lv_pop hx hb dL_law_847 rfl ?_
  refine lv_aload_n hx hb dL_law_848 rfl (lv_at hl 2 rfl) ?_
  refine lv_aload_n hx hb dL_law_849 rfl (lv_at hl 0 rfl) ?_
  refine lv_iload_n hx hb dL_law_850 rfl (lv_at hl 3 rfl) ?_
  refine lv_iconst (v := 1) hx hb dL_law_851 (by decide) ?_
  refine lv_iadd hx hb dL_law_852 ?_
  refine va_sld hx hb hX hbl hbA hS (i_in (by omega) (by omega)) dL_law_853 ?_
  rw [hs1]
  refine lv_aload_n hx hb dL_law_854 rfl (lv_at hl 0 rfl) ?_
  refine lv_iload_n hx hb dL_law_855 rfl (lv_at hl 3 rfl) ?_
  refine lv_iconst (v := 2) hx hb dL_law_856 (by decide) ?_
  refine lv_iadd hx hb dL_law_857 ?_
  refine va_sld hx hb hX hbl hbA hS (i_in (by omega) (by omega)) dL_law_858 ?_
  rw [hs2]
  refine cR_i (As := [.int s1, .int s2]) (rest := []) ⟨hx, hb, hml, hown, hg⟩ (k_X12_say l D cs _ bd u b_ bw s1 s2 hlaw iu1_0 iu1_1 iu7_0 iu7_1 ib23_0 ib24_0 ib20_0) ca_X12_say q7_8 ⟨rfl, rfl⟩ ⟨Nat.le_of_ble_eq_true rfl, Nat.le_of_ble_eq_true rfl⟩ (rc_model hK (pw_r hP)) hK hP hD hS hZ rfl hl.1 rfl (Nat.le_of_ble_eq_true rfl) ⟨Nat.le_of_ble_eq_true rfl, Nat.le_of_ble_eq_true rfl⟩ dL_law_859 (fun r_7 z_21 H locs wr_7 hP hD hS => ?_)
  obtain ⟨o_b53_8, o_u33_9, o_u34_10, o_u30_11, o_u28_12, o_u29_13, o_u31_14, o_u7_15, o_b4_16, o_b32_17, o_b25_18, o_b26_19, o_b6_20⟩ := z_21
  have hP : va_P D vwCl (CW cs ad fa fq rv v (va_up (va_up a 17 o_a17_2) 16 o_a16_3) w (va_up fv 14 o_fv14_4) (va_up fp 14 o_fp14_5) ++ RW cs bd (va_up (va_up (va_up (va_up (va_up (va_up (va_up u 33 o_u33_9) 34 o_u34_10) 30 o_u30_11) 28 o_u28_12) 29 o_u29_13) 31 o_u31_14) 7 o_u7_15) (va_up (va_up (va_up (va_up (va_up (va_up b_ 53 o_b53_8) 4 o_b4_16) 32 o_b32_17) 25 o_b25_18) 26 o_b26_19) 6 o_b6_20) bw) H := hP
  have hD : va_D (fun q : Nat => s.heap.size ≤ q) (CW cs ad fa fq rv v (va_up (va_up a 17 o_a17_2) 16 o_a16_3) w (va_up fv 14 o_fv14_4) (va_up fp 14 o_fp14_5) ++ RW cs bd (va_up (va_up (va_up (va_up (va_up (va_up (va_up u 33 o_u33_9) 34 o_u34_10) 30 o_u30_11) 28 o_u28_12) 29 o_u29_13) 31 o_u31_14) 7 o_u7_15) (va_up (va_up (va_up (va_up (va_up (va_up b_ 53 o_b53_8) 4 o_b4_16) 32 o_b32_17) 25 o_b25_18) 26 o_b26_19) 6 o_b6_20) bw) := hD
  obtain ⟨wr_7_0, wr_7_1, wr_7_2⟩ : ((r_7.toInt = -1 ∧ ¬ ((0 ≤ s1.toInt ∧ s1.toInt < (u 1).toInt) ∧ 0 ≤ s2.toInt ∧ s2.toInt ≤ 1) ∧ o_b53_8 0 = ((b_ 53) 0)) ∨ (r_7.toInt ≠ -1 ∧ ((0 ≤ s1.toInt ∧ s1.toInt < (u 1).toInt) ∧ 0 ≤ s2.toInt ∧ s2.toInt ≤ 1) ∧ o_b53_8 0 = ((b_ 53) 0) + 1)) ∧ (-1 ≤ o_u7_15.toInt) ∧ (o_u7_15.toInt < (u 1).toInt) := wr_7
  have hse : o_fv14_4 3 = o_b53_8 0 := by
    rcases wr_1_0 with ⟨a0, a1, a2⟩ | ⟨a0, a1, a2⟩ <;> rcases wr_7_0 with ⟨b0, b1, b2⟩ | ⟨b0, b1, b2⟩ <;> first | (exfalso; omega) | rw [a2, b2, es14]
  refine lv_pop hx hb dL_law_862 rfl ?_
  refine lv_goto (tgt := 1387) hx hb dL_law_863 (by decide) ?_
  have hI1 : CI v (va_up (va_up a 17 o_a17_2) 16 o_a16_3) (va_up fv 14 o_fv14_4) := ⟨iv1_0, iv1_1, ia28_0, ia29_0, iv20_0, iv20_1, iv19_0, iv19_1, iv19_2, ia24_0, ia25_0, (show (o_fv14_4 2).toInt = -2 ∨ (0 ≤ (o_fv14_4 2).toInt ∧ (o_fv14_4 2).toInt < (v 1).toInt) by first | assumption | omega), iv4_0, iv4_1, ia18_0, iv24_0, iv24_1, iv25_0, iv25_1, iv25_2, iv26_0, iv26_1, ia19_0, iv5_0, iv5_1, iv6_0, iv6_1, iv6_2, iv11_0, iv11_1, iv14_0, iv14_1, iv0_0, iv0_1, iv0_2, ifv17_0, iv21_0, iv21_1, ia37_0, iv23_0, iv23_1, iv22_0, iv22_1⟩
  have hR1 : RI (va_up (va_up (va_up (va_up (va_up (va_up (va_up u 33 o_u33_9) 34 o_u34_10) 30 o_u30_11) 28 o_u28_12) 29 o_u29_13) 31 o_u31_14) 7 o_u7_15) (va_up (va_up (va_up (va_up (va_up (va_up b_ 53 o_b53_8) 4 o_b4_16) 32 o_b32_17) 25 o_b25_18) 26 o_b26_19) 6 o_b6_20) bw := ⟨iu1_0, iu1_1, ib67_0, ib66_0, iu8_0, iu8_1, ib10_0, ib11_0, iu9_0, iu9_1, iu9_2, iu15_0, iu15_1, hlaw, ib23_0, ib20_0, ib24_0, (show -1 ≤ o_u7_15.toInt by first | assumption | omega), (show o_u7_15.toInt < (u 1).toInt by first | assumption | omega), iu41_0, iu41_1, iu48_0, iu48_1, iu46_0, iu46_1, iu47_0, iu47_1, iu55_0, iu55_1, iu55_2, iu58_0, iu62_0, iu62_1, ib63_0, iu64_0, iu64_1⟩
  have hE1 : REL v (va_up (va_up a 17 o_a17_2) 16 o_a16_3) w (va_up fv 14 o_fv14_4) (va_up (va_up (va_up (va_up (va_up (va_up (va_up u 33 o_u33_9) 34 o_u34_10) 30 o_u30_11) 28 o_u28_12) 29 o_u29_13) 31 o_u31_14) 7 o_u7_15) (va_up (va_up (va_up (va_up (va_up (va_up b_ 53 o_b53_8) 4 o_b4_16) 32 o_b32_17) 25 o_b25_18) 26 o_b26_19) 6 o_b6_20) bw := ⟨(show (v 1).toInt = (u 1).toInt by first | omega | assumption | exact e1), (show (v 4).toInt = (u 15).toInt by first | omega | assumption | exact e4), (show (v 21).toInt = (u 62).toInt by first | omega | assumption | exact e21), (show (v 22).toInt = (u 64).toInt by first | omega | assumption | exact e22), (show (o_fv14_4 3) = o_b53_8 0 by first | (exact hse) | first | omega | assumption | exact es14), (show (fv 17 3) = (b_ 61) 0 by first | omega | assumption | exact es17), (show ((v 0).toInt < 0 ∧ (u 54).toInt = 0) ∨ (0 ≤ (v 0).toInt ∧ (u 54).toInt ≠ 0) by first | omega | assumption | exact eim), (show ∀ j, (a 37) j = (b_ 63) j by first | omega | assumption | exact ek), (show ∀ j, (a 38) j = (b_ 65) j by first | omega | assumption | exact et), (show SH (a 28) (a 29) w (b_ 66) (b_ 67) (bw 68) (v 21) by first | omega | assumption | exact esh)⟩
  exact kk ad rv v (va_up (va_up a 17 o_a17_2) 16 o_a16_3) w (va_up fv 14 o_fv14_4) (va_up fp 14 o_fp14_5) bd (va_up (va_up (va_up (va_up (va_up (va_up (va_up u 33 o_u33_9) 34 o_u34_10) 30 o_u30_11) 28 o_u28_12) 29 o_u29_13) 31 o_u31_14) 7 o_u7_15) (va_up (va_up (va_up (va_up (va_up (va_up b_ 53 o_b53_8) 4 o_b4_16) 32 o_b32_17) 25 o_b25_18) 26 o_b26_19) 6 o_b6_20) bw _ _ ls rfl rfl hI1 hR1 hE1 hP hD hS hl
set_option maxHeartbeats 8000000 in
set_option maxRecDepth 100000 in
theorem lc_go {p : Program} {e : Env} {s : State} {m : MethodId} {below : List Frame} {meth : Method} {c : Code} (l : Launch) {b L : Nat} {xs : Nat → Int32} (C0 : lw_At p s m meth c b L xs) (hL : L ≤ 3072) {D : va_G} {cs : Nat → ClassId} {fa fq : Nat → Nat} (hK : va_K D vwCl (TY cs) s) (hZ : ZS (fun q : Nat => s.heap.size ≤ q) s) {x0 y0 : Nat} {i : Int32} (hi0 : 0 ≤ i.toInt) (hiL : i.toInt + 6 ≤ (L : Int)) (ad rv : Nat → Nat) (v : Nat → Int32) (a : Nat → Nat → Int32) (w : Nat → Nat → Int64) (fv fp : Nat → Nat → Int32) (bd : Nat → Nat) (u : Nat → Int32) (b_ : Nat → Nat → Int32) (bw : Nat → Nat → Int64) (H : Heap) (locs : List Loc) (ls : Array Slot) (hl : lv_has ls 4 [(0, .ref b), (1, .ref x0), (2, .ref y0), (3, .int i)]) (hx0 : ad 0 = x0) (hy0 : bd 0 = y0) (hI : CI v a fv) (hR : RI u b_ bw) (hE : REL v a w fv u b_ bw) (hP : va_P D vwCl (CW cs ad fa fq rv v a w fv fp ++ RW cs bd u b_ bw) H) (hD : va_D (fun q : Nat => s.heap.size ≤ q) (CW cs ad fa fq rv v a w fv fp ++ RW cs bd u b_ bw)) (hS : va_S (fun q : Nat => s.heap.size ≤ q) s.heap H locs)
    (kk : ∀ (ad rv : Nat → Nat) (v : Nat → Int32) (a : Nat → Nat → Int32) (w : Nat → Nat → Int64) (fv fp : Nat → Nat → Int32) (bd : Nat → Nat) (u : Nat → Int32) (b_ : Nat → Nat → Int32) (bw : Nat → Nat → Int64) (H : Heap) (locs : List Loc) (ls : Array Slot) (hx0 : ad 0 = x0) (hy0 : bd 0 = y0) (hI : CI v a fv) (hR : RI u b_ bw) (hE : REL v a w fv u b_ bw) (hP : va_P D vwCl (CW cs ad fa fq rv v a w fv fp ++ RW cs bd u b_ bw) H) (hD : va_D (fun q : Nat => s.heap.size ≤ q) (CW cs ad fa fq rv v a w fv fp ++ RW cs bd u b_ bw)) (hS : va_S (fun q : Nat => s.heap.size ≤ q) s.heap H locs) (hl : lv_has ls 4 [(0, .ref b), (1, .ref x0), (2, .ref y0), (3, .int i)]), W p l e room_1 s m #[Value.ref b] below meth c H locs 200 9000 (lw_Z below #[Value.ref b] s) (F0 m 1387 ls [])) : W p l e room_1 s m #[Value.ref b] below meth c H locs 200 9000 (lw_Z below #[Value.ref b] s) (F0 m 866 ls []) := by
  obtain ⟨hx, hb, hr, hml, hown, hts, hX, hbl, hlocks, hgv⟩ := id C0
  have hg : ∀ w ∈ gw, w.before #[Value.ref b] s = true := fun w h => hts w (gw_in w h)
  have hbA : ¬ (fun q : Nat => s.heap.size ≤ q) b := Nat.not_le.mpr hbl
  subst hx0
  subst hy0
  obtain ⟨iv1_0, iv1_1, ia28_0, ia29_0, iv20_0, iv20_1, iv19_0, iv19_1, iv19_2, ia24_0, ia25_0, ifv14_0, iv4_0, iv4_1, ia18_0, iv24_0, iv24_1, iv25_0, iv25_1, iv25_2, iv26_0, iv26_1, ia19_0, iv5_0, iv5_1, iv6_0, iv6_1, iv6_2, iv11_0, iv11_1, iv14_0, iv14_1, iv0_0, iv0_1, iv0_2, ifv17_0, iv21_0, iv21_1, ia37_0, iv23_0, iv23_1, iv22_0, iv22_1⟩ := id hI
  obtain ⟨iu1_0, iu1_1, ib67_0, ib66_0, iu8_0, iu8_1, ib10_0, ib11_0, iu9_0, iu9_1, iu9_2, iu15_0, iu15_1, hlaw, ib23_0, ib20_0, ib24_0, iu7_0, iu7_1, iu41_0, iu41_1, iu48_0, iu48_1, iu46_0, iu46_1, iu47_0, iu47_1, iu55_0, iu55_1, iu55_2, iu58_0, iu62_0, iu62_1, ib63_0, iu64_0, iu64_1⟩ := id hR
  obtain ⟨e1, e4, e21, e22, es14, es17, eim, ek, et, esh⟩ := id hE
  obtain ⟨s1, hs1⟩ : ∃ y, xs (i + 1).toNatClampNeg = y := ⟨_, rfl⟩
  obtain ⟨s2, hs2⟩ : ∃ y, xs (i + 2).toNatClampNeg = y := ⟨_, rfl⟩
  obtain ⟨s3, hs3⟩ : ∃ y, xs (i + 3).toNatClampNeg = y := ⟨_, rfl⟩
  obtain ⟨s4, hs4⟩ : ∃ y, xs (i + 4).toNatClampNeg = y := ⟨_, rfl⟩
  obtain ⟨s5, hs5⟩ : ∃ y, xs (i + 5).toNatClampNeg = y := ⟨_, rfl⟩
  have hq1 : (i + 1).toInt = i.toInt + 1 := i_add (by show _ ≤ i.toInt + (1 : Int32).toInt; have q : (1 : Int32).toInt = 1 := rfl; omega) (by show i.toInt + (1 : Int32).toInt ≤ _; have q : (1 : Int32).toInt = 1 := rfl; omega)
  have hq2 : (i + 2).toInt = i.toInt + 2 := i_add (by show _ ≤ i.toInt + (2 : Int32).toInt; have q : (2 : Int32).toInt = 2 := rfl; omega) (by show i.toInt + (2 : Int32).toInt ≤ _; have q : (2 : Int32).toInt = 2 := rfl; omega)
  have hq3 : (i + 3).toInt = i.toInt + 3 := i_add (by show _ ≤ i.toInt + (3 : Int32).toInt; have q : (3 : Int32).toInt = 3 := rfl; omega) (by show i.toInt + (3 : Int32).toInt ≤ _; have q : (3 : Int32).toInt = 3 := rfl; omega)
  have hq4 : (i + 4).toInt = i.toInt + 4 := i_add (by show _ ≤ i.toInt + (4 : Int32).toInt; have q : (4 : Int32).toInt = 4 := rfl; omega) (by show i.toInt + (4 : Int32).toInt ≤ _; have q : (4 : Int32).toInt = 4 := rfl; omega)
  have hq5 : (i + 5).toInt = i.toInt + 5 := i_add (by show _ ≤ i.toInt + (5 : Int32).toInt; have q : (5 : Int32).toInt = 5 := rfl; omega) (by show i.toInt + (5 : Int32).toInt ≤ _; have q : (5 : Int32).toInt = 5 := rfl; omega)
  refine lv_aload_n hx hb dL_law_866 rfl (lv_at hl 1 rfl) ?_
  refine lv_aload_n hx hb dL_law_867 rfl (lv_at hl 0 rfl) ?_
  refine lv_iload_n hx hb dL_law_868 rfl (lv_at hl 3 rfl) ?_
  refine lv_iconst (v := 1) hx hb dL_law_869 (by decide) ?_
  refine lv_iadd hx hb dL_law_870 ?_
  refine va_sld hx hb hX hbl hbA hS (i_in (by omega) (by omega)) dL_law_871 ?_
  rw [hs1]
  refine lv_aload_n hx hb dL_law_872 rfl (lv_at hl 0 rfl) ?_
  refine lv_iload_n hx hb dL_law_873 rfl (lv_at hl 3 rfl) ?_
  refine lv_iconst (v := 2) hx hb dL_law_874 (by decide) ?_
  refine lv_iadd hx hb dL_law_875 ?_
  refine va_sld hx hb hX hbl hbA hS (i_in (by omega) (by omega)) dL_law_876 ?_
  rw [hs2]
  refine cL_i (As := [.int s1, .int s2]) (rest := []) ⟨hx, hb, hml, hown, hg⟩ (k_X11_go l D cs _ ad fa fq rv v a w fv fp s1 s2 iv1_0 iv1_1) ca_X11_go q4_82 ⟨rfl, rfl⟩ ⟨Nat.le_of_ble_eq_true rfl, Nat.le_of_ble_eq_true rfl⟩ (rc_main hK (pw_l hP)) hK hP hD hS hZ rfl hl.1 rfl (Nat.le_of_ble_eq_true rfl) ⟨Nat.le_of_ble_eq_true rfl, Nat.le_of_ble_eq_true rfl⟩ dL_law_877 (fun r_1 z_4 H locs wr_1 hP hD hS => ?_)
  obtain ⟨o_a11_2, o_a14_3⟩ := z_4
  have hP : va_P D vwCl (CW cs ad fa fq rv v (va_up (va_up a 11 o_a11_2) 14 o_a14_3) w fv fp ++ RW cs bd u b_ bw) H := hP
  have hD : va_D (fun q : Nat => s.heap.size ≤ q) (CW cs ad fa fq rv v (va_up (va_up a 11 o_a11_2) 14 o_a14_3) w fv fp ++ RW cs bd u b_ bw) := hD
  have wr_1_0 : True := wr_1
  refine lv_pop hx hb dL_law_880 rfl ?_
  refine lv_aload_n hx hb dL_law_881 rfl (lv_at hl 2 rfl) ?_
  refine lv_aload_n hx hb dL_law_882 rfl (lv_at hl 0 rfl) ?_
  refine lv_iload_n hx hb dL_law_883 rfl (lv_at hl 3 rfl) ?_
  refine lv_iconst (v := 1) hx hb dL_law_884 (by decide) ?_
  refine lv_iadd hx hb dL_law_885 ?_
  refine va_sld hx hb hX hbl hbA hS (i_in (by omega) (by omega)) dL_law_886 ?_
  rw [hs1]
  refine lv_aload_n hx hb dL_law_887 rfl (lv_at hl 0 rfl) ?_
  refine lv_iload_n hx hb dL_law_888 rfl (lv_at hl 3 rfl) ?_
  refine lv_iconst (v := 2) hx hb dL_law_889 (by decide) ?_
  refine lv_iadd hx hb dL_law_890 ?_
  refine va_sld hx hb hX hbl hbA hS (i_in (by omega) (by omega)) dL_law_891 ?_
  rw [hs2]
  refine cR_i (As := [.int s1, .int s2]) (rest := []) ⟨hx, hb, hml, hown, hg⟩ (k_X12_go l D cs _ bd u b_ bw s1 s2 iu1_0 iu1_1) ca_X12_go q7_12 ⟨rfl, rfl⟩ ⟨Nat.le_of_ble_eq_true rfl, Nat.le_of_ble_eq_true rfl⟩ (rc_model hK (pw_r hP)) hK hP hD hS hZ rfl hl.1 rfl (Nat.le_of_ble_eq_true rfl) ⟨Nat.le_of_ble_eq_true rfl, Nat.le_of_ble_eq_true rfl⟩ dL_law_892 (fun r_5 o_b2_6 H locs wr_5 hP hD hS => ?_)
  have hP : va_P D vwCl (CW cs ad fa fq rv v (va_up (va_up a 11 o_a11_2) 14 o_a14_3) w fv fp ++ RW cs bd u (va_up b_ 2 o_b2_6) bw) H := hP
  have hD : va_D (fun q : Nat => s.heap.size ≤ q) (CW cs ad fa fq rv v (va_up (va_up a 11 o_a11_2) 14 o_a14_3) w fv fp ++ RW cs bd u (va_up b_ 2 o_b2_6) bw) := hD
  have wr_5_0 : True := wr_5
  refine lv_pop hx hb dL_law_895 rfl ?_
  refine lv_goto (tgt := 1387) hx hb dL_law_896 (by decide) ?_
  have hI1 : CI v (va_up (va_up a 11 o_a11_2) 14 o_a14_3) fv := ⟨iv1_0, iv1_1, ia28_0, ia29_0, iv20_0, iv20_1, iv19_0, iv19_1, iv19_2, ia24_0, ia25_0, ifv14_0, iv4_0, iv4_1, ia18_0, iv24_0, iv24_1, iv25_0, iv25_1, iv25_2, iv26_0, iv26_1, ia19_0, iv5_0, iv5_1, iv6_0, iv6_1, iv6_2, iv11_0, iv11_1, iv14_0, iv14_1, iv0_0, iv0_1, iv0_2, ifv17_0, iv21_0, iv21_1, ia37_0, iv23_0, iv23_1, iv22_0, iv22_1⟩
  have hR1 : RI u (va_up b_ 2 o_b2_6) bw := ⟨iu1_0, iu1_1, ib67_0, ib66_0, iu8_0, iu8_1, ib10_0, ib11_0, iu9_0, iu9_1, iu9_2, iu15_0, iu15_1, hlaw, ib23_0, ib20_0, ib24_0, iu7_0, iu7_1, iu41_0, iu41_1, iu48_0, iu48_1, iu46_0, iu46_1, iu47_0, iu47_1, iu55_0, iu55_1, iu55_2, iu58_0, iu62_0, iu62_1, ib63_0, iu64_0, iu64_1⟩
  have hE1 : REL v (va_up (va_up a 11 o_a11_2) 14 o_a14_3) w fv u (va_up b_ 2 o_b2_6) bw := ⟨(show (v 1).toInt = (u 1).toInt by first | omega | assumption | exact e1), (show (v 4).toInt = (u 15).toInt by first | omega | assumption | exact e4), (show (v 21).toInt = (u 62).toInt by first | omega | assumption | exact e21), (show (v 22).toInt = (u 64).toInt by first | omega | assumption | exact e22), (show (fv 14 3) = (b_ 53) 0 by first | omega | assumption | exact es14), (show (fv 17 3) = (b_ 61) 0 by first | omega | assumption | exact es17), (show ((v 0).toInt < 0 ∧ (u 54).toInt = 0) ∨ (0 ≤ (v 0).toInt ∧ (u 54).toInt ≠ 0) by first | omega | assumption | exact eim), (show ∀ j, (a 37) j = (b_ 63) j by first | omega | assumption | exact ek), (show ∀ j, (a 38) j = (b_ 65) j by first | omega | assumption | exact et), (show SH (a 28) (a 29) w (b_ 66) (b_ 67) (bw 68) (v 21) by first | omega | assumption | exact esh)⟩
  exact kk ad rv v (va_up (va_up a 11 o_a11_2) 14 o_a14_3) w fv fp bd u (va_up b_ 2 o_b2_6) bw _ _ ls rfl rfl hI1 hR1 hE1 hP hD hS hl
set_option maxHeartbeats 8000000 in
set_option maxRecDepth 100000 in
theorem lc_pad {p : Program} {e : Env} {s : State} {m : MethodId} {below : List Frame} {meth : Method} {c : Code} (l : Launch) {b L : Nat} {xs : Nat → Int32} (C0 : lw_At p s m meth c b L xs) (hL : L ≤ 3072) {D : va_G} {cs : Nat → ClassId} {fa fq : Nat → Nat} (hK : va_K D vwCl (TY cs) s) (hZ : ZS (fun q : Nat => s.heap.size ≤ q) s) {x0 y0 : Nat} {i : Int32} (hi0 : 0 ≤ i.toInt) (hiL : i.toInt + 6 ≤ (L : Int)) (ad rv : Nat → Nat) (v : Nat → Int32) (a : Nat → Nat → Int32) (w : Nat → Nat → Int64) (fv fp : Nat → Nat → Int32) (bd : Nat → Nat) (u : Nat → Int32) (b_ : Nat → Nat → Int32) (bw : Nat → Nat → Int64) (H : Heap) (locs : List Loc) (ls : Array Slot) (hl : lv_has ls 4 [(0, .ref b), (1, .ref x0), (2, .ref y0), (3, .int i)]) (hx0 : ad 0 = x0) (hy0 : bd 0 = y0) (hI : CI v a fv) (hR : RI u b_ bw) (hE : REL v a w fv u b_ bw) (hP : va_P D vwCl (CW cs ad fa fq rv v a w fv fp ++ RW cs bd u b_ bw) H) (hD : va_D (fun q : Nat => s.heap.size ≤ q) (CW cs ad fa fq rv v a w fv fp ++ RW cs bd u b_ bw)) (hS : va_S (fun q : Nat => s.heap.size ≤ q) s.heap H locs)
    (kk : ∀ (ad rv : Nat → Nat) (v : Nat → Int32) (a : Nat → Nat → Int32) (w : Nat → Nat → Int64) (fv fp : Nat → Nat → Int32) (bd : Nat → Nat) (u : Nat → Int32) (b_ : Nat → Nat → Int32) (bw : Nat → Nat → Int64) (H : Heap) (locs : List Loc) (ls : Array Slot) (hx0 : ad 0 = x0) (hy0 : bd 0 = y0) (hI : CI v a fv) (hR : RI u b_ bw) (hE : REL v a w fv u b_ bw) (hP : va_P D vwCl (CW cs ad fa fq rv v a w fv fp ++ RW cs bd u b_ bw) H) (hD : va_D (fun q : Nat => s.heap.size ≤ q) (CW cs ad fa fq rv v a w fv fp ++ RW cs bd u b_ bw)) (hS : va_S (fun q : Nat => s.heap.size ≤ q) s.heap H locs) (hl : lv_has ls 4 [(0, .ref b), (1, .ref x0), (2, .ref y0), (3, .int i)]), W p l e room_1 s m #[Value.ref b] below meth c H locs 200 9000 (lw_Z below #[Value.ref b] s) (F0 m 1387 ls [])) : W p l e room_1 s m #[Value.ref b] below meth c H locs 200 9000 (lw_Z below #[Value.ref b] s) (F0 m 899 ls []) := by
  obtain ⟨hx, hb, hr, hml, hown, hts, hX, hbl, hlocks, hgv⟩ := id C0
  have hg : ∀ w ∈ gw, w.before #[Value.ref b] s = true := fun w h => hts w (gw_in w h)
  have hbA : ¬ (fun q : Nat => s.heap.size ≤ q) b := Nat.not_le.mpr hbl
  subst hx0
  subst hy0
  obtain ⟨iv1_0, iv1_1, ia28_0, ia29_0, iv20_0, iv20_1, iv19_0, iv19_1, iv19_2, ia24_0, ia25_0, ifv14_0, iv4_0, iv4_1, ia18_0, iv24_0, iv24_1, iv25_0, iv25_1, iv25_2, iv26_0, iv26_1, ia19_0, iv5_0, iv5_1, iv6_0, iv6_1, iv6_2, iv11_0, iv11_1, iv14_0, iv14_1, iv0_0, iv0_1, iv0_2, ifv17_0, iv21_0, iv21_1, ia37_0, iv23_0, iv23_1, iv22_0, iv22_1⟩ := id hI
  obtain ⟨iu1_0, iu1_1, ib67_0, ib66_0, iu8_0, iu8_1, ib10_0, ib11_0, iu9_0, iu9_1, iu9_2, iu15_0, iu15_1, hlaw, ib23_0, ib20_0, ib24_0, iu7_0, iu7_1, iu41_0, iu41_1, iu48_0, iu48_1, iu46_0, iu46_1, iu47_0, iu47_1, iu55_0, iu55_1, iu55_2, iu58_0, iu62_0, iu62_1, ib63_0, iu64_0, iu64_1⟩ := id hR
  obtain ⟨e1, e4, e21, e22, es14, es17, eim, ek, et, esh⟩ := id hE
  obtain ⟨s1, hs1⟩ : ∃ y, xs (i + 1).toNatClampNeg = y := ⟨_, rfl⟩
  obtain ⟨s2, hs2⟩ : ∃ y, xs (i + 2).toNatClampNeg = y := ⟨_, rfl⟩
  obtain ⟨s3, hs3⟩ : ∃ y, xs (i + 3).toNatClampNeg = y := ⟨_, rfl⟩
  obtain ⟨s4, hs4⟩ : ∃ y, xs (i + 4).toNatClampNeg = y := ⟨_, rfl⟩
  obtain ⟨s5, hs5⟩ : ∃ y, xs (i + 5).toNatClampNeg = y := ⟨_, rfl⟩
  have hq1 : (i + 1).toInt = i.toInt + 1 := i_add (by show _ ≤ i.toInt + (1 : Int32).toInt; have q : (1 : Int32).toInt = 1 := rfl; omega) (by show i.toInt + (1 : Int32).toInt ≤ _; have q : (1 : Int32).toInt = 1 := rfl; omega)
  have hq2 : (i + 2).toInt = i.toInt + 2 := i_add (by show _ ≤ i.toInt + (2 : Int32).toInt; have q : (2 : Int32).toInt = 2 := rfl; omega) (by show i.toInt + (2 : Int32).toInt ≤ _; have q : (2 : Int32).toInt = 2 := rfl; omega)
  have hq3 : (i + 3).toInt = i.toInt + 3 := i_add (by show _ ≤ i.toInt + (3 : Int32).toInt; have q : (3 : Int32).toInt = 3 := rfl; omega) (by show i.toInt + (3 : Int32).toInt ≤ _; have q : (3 : Int32).toInt = 3 := rfl; omega)
  have hq4 : (i + 4).toInt = i.toInt + 4 := i_add (by show _ ≤ i.toInt + (4 : Int32).toInt; have q : (4 : Int32).toInt = 4 := rfl; omega) (by show i.toInt + (4 : Int32).toInt ≤ _; have q : (4 : Int32).toInt = 4 := rfl; omega)
  have hq5 : (i + 5).toInt = i.toInt + 5 := i_add (by show _ ≤ i.toInt + (5 : Int32).toInt; have q : (5 : Int32).toInt = 5 := rfl; omega) (by show i.toInt + (5 : Int32).toInt ≤ _; have q : (5 : Int32).toInt = 5 := rfl; omega)
  refine lv_aload_n hx hb dL_law_899 rfl (lv_at hl 1 rfl) ?_
  refine lv_aload_n hx hb dL_law_900 rfl (lv_at hl 0 rfl) ?_
  refine lv_iload_n hx hb dL_law_901 rfl (lv_at hl 3 rfl) ?_
  refine lv_iconst (v := 1) hx hb dL_law_902 (by decide) ?_
  refine lv_iadd hx hb dL_law_903 ?_
  refine va_sld hx hb hX hbl hbA hS (i_in (by omega) (by omega)) dL_law_904 ?_
  rw [hs1]
  refine cL_i (As := [.int s1]) (rest := []) ⟨hx, hb, hml, hown, hg⟩ (k_X11_pad l D cs _ ad fa fq rv v a w fv fp s1 iv1_0 iv1_1) ca_X11_pad q4_86 ⟨rfl, rfl⟩ ⟨Nat.le_of_ble_eq_true rfl, Nat.le_of_ble_eq_true rfl⟩ (rc_main hK (pw_l hP)) hK hP hD hS hZ rfl hl.1 rfl (Nat.le_of_ble_eq_true rfl) ⟨Nat.le_of_ble_eq_true rfl, Nat.le_of_ble_eq_true rfl⟩ dL_law_905 (fun r_1 o_fp14_2 H locs wr_1 hP hD hS => ?_)
  have hP : va_P D vwCl (CW cs ad fa fq rv v a w fv (va_up fp 14 o_fp14_2) ++ RW cs bd u b_ bw) H := hP
  have hD : va_D (fun q : Nat => s.heap.size ≤ q) (CW cs ad fa fq rv v a w fv (va_up fp 14 o_fp14_2) ++ RW cs bd u b_ bw) := hD
  have wr_1_0 : True := wr_1
  refine lv_pop hx hb dL_law_908 rfl ?_
  refine lv_aload_n hx hb dL_law_909 rfl (lv_at hl 2 rfl) ?_
  refine lv_aload_n hx hb dL_law_910 rfl (lv_at hl 0 rfl) ?_
  refine lv_iload_n hx hb dL_law_911 rfl (lv_at hl 3 rfl) ?_
  refine lv_iconst (v := 1) hx hb dL_law_912 (by decide) ?_
  refine lv_iadd hx hb dL_law_913 ?_
  refine va_sld hx hb hX hbl hbA hS (i_in (by omega) (by omega)) dL_law_914 ?_
  rw [hs1]
  refine cR_i (As := [.int s1]) (rest := []) ⟨hx, hb, hml, hown, hg⟩ (k_X12_pad l D cs _ bd u b_ bw s1 iu1_0 iu1_1) ca_X12_pad q7_16 ⟨rfl, rfl⟩ ⟨Nat.le_of_ble_eq_true rfl, Nat.le_of_ble_eq_true rfl⟩ (rc_model hK (pw_r hP)) hK hP hD hS hZ rfl hl.1 rfl (Nat.le_of_ble_eq_true rfl) ⟨Nat.le_of_ble_eq_true rfl, Nat.le_of_ble_eq_true rfl⟩ dL_law_915 (fun r_3 o_b4_4 H locs wr_3 hP hD hS => ?_)
  have hP : va_P D vwCl (CW cs ad fa fq rv v a w fv (va_up fp 14 o_fp14_2) ++ RW cs bd u (va_up b_ 4 o_b4_4) bw) H := hP
  have hD : va_D (fun q : Nat => s.heap.size ≤ q) (CW cs ad fa fq rv v a w fv (va_up fp 14 o_fp14_2) ++ RW cs bd u (va_up b_ 4 o_b4_4) bw) := hD
  have wr_3_0 : True := wr_3
  refine lv_pop hx hb dL_law_918 rfl ?_
  refine lv_goto (tgt := 1387) hx hb dL_law_919 (by decide) ?_
  have hI1 : CI v a fv := ⟨iv1_0, iv1_1, ia28_0, ia29_0, iv20_0, iv20_1, iv19_0, iv19_1, iv19_2, ia24_0, ia25_0, ifv14_0, iv4_0, iv4_1, ia18_0, iv24_0, iv24_1, iv25_0, iv25_1, iv25_2, iv26_0, iv26_1, ia19_0, iv5_0, iv5_1, iv6_0, iv6_1, iv6_2, iv11_0, iv11_1, iv14_0, iv14_1, iv0_0, iv0_1, iv0_2, ifv17_0, iv21_0, iv21_1, ia37_0, iv23_0, iv23_1, iv22_0, iv22_1⟩
  have hR1 : RI u (va_up b_ 4 o_b4_4) bw := ⟨iu1_0, iu1_1, ib67_0, ib66_0, iu8_0, iu8_1, ib10_0, ib11_0, iu9_0, iu9_1, iu9_2, iu15_0, iu15_1, hlaw, ib23_0, ib20_0, ib24_0, iu7_0, iu7_1, iu41_0, iu41_1, iu48_0, iu48_1, iu46_0, iu46_1, iu47_0, iu47_1, iu55_0, iu55_1, iu55_2, iu58_0, iu62_0, iu62_1, ib63_0, iu64_0, iu64_1⟩
  have hE1 : REL v a w fv u (va_up b_ 4 o_b4_4) bw := ⟨(show (v 1).toInt = (u 1).toInt by first | omega | assumption | exact e1), (show (v 4).toInt = (u 15).toInt by first | omega | assumption | exact e4), (show (v 21).toInt = (u 62).toInt by first | omega | assumption | exact e21), (show (v 22).toInt = (u 64).toInt by first | omega | assumption | exact e22), (show (fv 14 3) = (b_ 53) 0 by first | omega | assumption | exact es14), (show (fv 17 3) = (b_ 61) 0 by first | omega | assumption | exact es17), (show ((v 0).toInt < 0 ∧ (u 54).toInt = 0) ∨ (0 ≤ (v 0).toInt ∧ (u 54).toInt ≠ 0) by first | omega | assumption | exact eim), (show ∀ j, (a 37) j = (b_ 63) j by first | omega | assumption | exact ek), (show ∀ j, (a 38) j = (b_ 65) j by first | omega | assumption | exact et), (show SH (a 28) (a 29) w (b_ 66) (b_ 67) (bw 68) (v 21) by first | omega | assumption | exact esh)⟩
  exact kk ad rv v a w fv (va_up fp 14 o_fp14_2) bd u (va_up b_ 4 o_b4_4) bw _ _ ls rfl rfl hI1 hR1 hE1 hP hD hS hl
set_option maxHeartbeats 8000000 in
set_option maxRecDepth 100000 in
theorem lc_led {p : Program} {e : Env} {s : State} {m : MethodId} {below : List Frame} {meth : Method} {c : Code} (l : Launch) {b L : Nat} {xs : Nat → Int32} (C0 : lw_At p s m meth c b L xs) (hL : L ≤ 3072) {D : va_G} {cs : Nat → ClassId} {fa fq : Nat → Nat} (hK : va_K D vwCl (TY cs) s) (hZ : ZS (fun q : Nat => s.heap.size ≤ q) s) {x0 y0 : Nat} {i : Int32} (hi0 : 0 ≤ i.toInt) (hiL : i.toInt + 6 ≤ (L : Int)) (ad rv : Nat → Nat) (v : Nat → Int32) (a : Nat → Nat → Int32) (w : Nat → Nat → Int64) (fv fp : Nat → Nat → Int32) (bd : Nat → Nat) (u : Nat → Int32) (b_ : Nat → Nat → Int32) (bw : Nat → Nat → Int64) (H : Heap) (locs : List Loc) (ls : Array Slot) (hl : lv_has ls 4 [(0, .ref b), (1, .ref x0), (2, .ref y0), (3, .int i)]) (hx0 : ad 0 = x0) (hy0 : bd 0 = y0) (hI : CI v a fv) (hR : RI u b_ bw) (hE : REL v a w fv u b_ bw) (hP : va_P D vwCl (CW cs ad fa fq rv v a w fv fp ++ RW cs bd u b_ bw) H) (hD : va_D (fun q : Nat => s.heap.size ≤ q) (CW cs ad fa fq rv v a w fv fp ++ RW cs bd u b_ bw)) (hS : va_S (fun q : Nat => s.heap.size ≤ q) s.heap H locs)
    (kk : ∀ (ad rv : Nat → Nat) (v : Nat → Int32) (a : Nat → Nat → Int32) (w : Nat → Nat → Int64) (fv fp : Nat → Nat → Int32) (bd : Nat → Nat) (u : Nat → Int32) (b_ : Nat → Nat → Int32) (bw : Nat → Nat → Int64) (H : Heap) (locs : List Loc) (ls : Array Slot) (hx0 : ad 0 = x0) (hy0 : bd 0 = y0) (hI : CI v a fv) (hR : RI u b_ bw) (hE : REL v a w fv u b_ bw) (hP : va_P D vwCl (CW cs ad fa fq rv v a w fv fp ++ RW cs bd u b_ bw) H) (hD : va_D (fun q : Nat => s.heap.size ≤ q) (CW cs ad fa fq rv v a w fv fp ++ RW cs bd u b_ bw)) (hS : va_S (fun q : Nat => s.heap.size ≤ q) s.heap H locs) (hl : lv_has ls 4 [(0, .ref b), (1, .ref x0), (2, .ref y0), (3, .int i)]), W p l e room_1 s m #[Value.ref b] below meth c H locs 200 9000 (lw_Z below #[Value.ref b] s) (F0 m 1387 ls [])) : W p l e room_1 s m #[Value.ref b] below meth c H locs 200 9000 (lw_Z below #[Value.ref b] s) (F0 m 922 ls []) := by
  obtain ⟨hx, hb, hr, hml, hown, hts, hX, hbl, hlocks, hgv⟩ := id C0
  have hg : ∀ w ∈ gw, w.before #[Value.ref b] s = true := fun w h => hts w (gw_in w h)
  have hbA : ¬ (fun q : Nat => s.heap.size ≤ q) b := Nat.not_le.mpr hbl
  subst hx0
  subst hy0
  obtain ⟨iv1_0, iv1_1, ia28_0, ia29_0, iv20_0, iv20_1, iv19_0, iv19_1, iv19_2, ia24_0, ia25_0, ifv14_0, iv4_0, iv4_1, ia18_0, iv24_0, iv24_1, iv25_0, iv25_1, iv25_2, iv26_0, iv26_1, ia19_0, iv5_0, iv5_1, iv6_0, iv6_1, iv6_2, iv11_0, iv11_1, iv14_0, iv14_1, iv0_0, iv0_1, iv0_2, ifv17_0, iv21_0, iv21_1, ia37_0, iv23_0, iv23_1, iv22_0, iv22_1⟩ := id hI
  obtain ⟨iu1_0, iu1_1, ib67_0, ib66_0, iu8_0, iu8_1, ib10_0, ib11_0, iu9_0, iu9_1, iu9_2, iu15_0, iu15_1, hlaw, ib23_0, ib20_0, ib24_0, iu7_0, iu7_1, iu41_0, iu41_1, iu48_0, iu48_1, iu46_0, iu46_1, iu47_0, iu47_1, iu55_0, iu55_1, iu55_2, iu58_0, iu62_0, iu62_1, ib63_0, iu64_0, iu64_1⟩ := id hR
  obtain ⟨e1, e4, e21, e22, es14, es17, eim, ek, et, esh⟩ := id hE
  obtain ⟨s1, hs1⟩ : ∃ y, xs (i + 1).toNatClampNeg = y := ⟨_, rfl⟩
  obtain ⟨s2, hs2⟩ : ∃ y, xs (i + 2).toNatClampNeg = y := ⟨_, rfl⟩
  obtain ⟨s3, hs3⟩ : ∃ y, xs (i + 3).toNatClampNeg = y := ⟨_, rfl⟩
  obtain ⟨s4, hs4⟩ : ∃ y, xs (i + 4).toNatClampNeg = y := ⟨_, rfl⟩
  obtain ⟨s5, hs5⟩ : ∃ y, xs (i + 5).toNatClampNeg = y := ⟨_, rfl⟩
  have hq1 : (i + 1).toInt = i.toInt + 1 := i_add (by show _ ≤ i.toInt + (1 : Int32).toInt; have q : (1 : Int32).toInt = 1 := rfl; omega) (by show i.toInt + (1 : Int32).toInt ≤ _; have q : (1 : Int32).toInt = 1 := rfl; omega)
  have hq2 : (i + 2).toInt = i.toInt + 2 := i_add (by show _ ≤ i.toInt + (2 : Int32).toInt; have q : (2 : Int32).toInt = 2 := rfl; omega) (by show i.toInt + (2 : Int32).toInt ≤ _; have q : (2 : Int32).toInt = 2 := rfl; omega)
  have hq3 : (i + 3).toInt = i.toInt + 3 := i_add (by show _ ≤ i.toInt + (3 : Int32).toInt; have q : (3 : Int32).toInt = 3 := rfl; omega) (by show i.toInt + (3 : Int32).toInt ≤ _; have q : (3 : Int32).toInt = 3 := rfl; omega)
  have hq4 : (i + 4).toInt = i.toInt + 4 := i_add (by show _ ≤ i.toInt + (4 : Int32).toInt; have q : (4 : Int32).toInt = 4 := rfl; omega) (by show i.toInt + (4 : Int32).toInt ≤ _; have q : (4 : Int32).toInt = 4 := rfl; omega)
  have hq5 : (i + 5).toInt = i.toInt + 5 := i_add (by show _ ≤ i.toInt + (5 : Int32).toInt; have q : (5 : Int32).toInt = 5 := rfl; omega) (by show i.toInt + (5 : Int32).toInt ≤ _; have q : (5 : Int32).toInt = 5 := rfl; omega)
  refine lv_aload_n hx hb dL_law_922 rfl (lv_at hl 1 rfl) ?_
  refine lv_aload_n hx hb dL_law_923 rfl (lv_at hl 0 rfl) ?_
  refine lv_iload_n hx hb dL_law_924 rfl (lv_at hl 3 rfl) ?_
  refine lv_iconst (v := 1) hx hb dL_law_925 (by decide) ?_
  refine lv_iadd hx hb dL_law_926 ?_
  refine va_sld hx hb hX hbl hbA hS (i_in (by omega) (by omega)) dL_law_927 ?_
  rw [hs1]
  refine cL_ro (As := [.int s1]) (rest := []) ⟨hx, hb, hml, hown, hg⟩ (k_X11_led l D cs _ ad fa fq rv v a w fv fp s1 iv1_0 iv1_1 ifv14_0) ca_X11_led q4_91 ⟨rfl, rfl⟩ ⟨Nat.le_of_ble_eq_true rfl, Nat.le_of_ble_eq_true rfl⟩ (rc_main hK (pw_l hP)) hK hP hD hS hZ rfl hl.1 rfl (Nat.le_of_ble_eq_true rfl) ⟨Nat.le_of_ble_eq_true rfl, Nat.le_of_ble_eq_true rfl⟩ dL_law_928 (fun r_1 wr_1 => ?_)
  have wr_1_0 : True := wr_1
  refine lv_pop hx hb dL_law_931 rfl ?_
  refine lv_aload_n hx hb dL_law_932 rfl (lv_at hl 2 rfl) ?_
  refine lv_aload_n hx hb dL_law_933 rfl (lv_at hl 0 rfl) ?_
  refine lv_iload_n hx hb dL_law_934 rfl (lv_at hl 3 rfl) ?_
  refine lv_iconst (v := 1) hx hb dL_law_935 (by decide) ?_
  refine lv_iadd hx hb dL_law_936 ?_
  refine va_sld hx hb hX hbl hbA hS (i_in (by omega) (by omega)) dL_law_937 ?_
  rw [hs1]
  refine cR_ro (As := [.int s1]) (rest := []) ⟨hx, hb, hml, hown, hg⟩ (k_X12_led l D cs _ bd u b_ bw s1 iu1_0 iu1_1 iu7_0 iu7_1) ca_X12_led q7_20 ⟨rfl, rfl⟩ ⟨Nat.le_of_ble_eq_true rfl, Nat.le_of_ble_eq_true rfl⟩ (rc_model hK (pw_r hP)) hK hP hD hS hZ rfl hl.1 rfl (Nat.le_of_ble_eq_true rfl) ⟨Nat.le_of_ble_eq_true rfl, Nat.le_of_ble_eq_true rfl⟩ dL_law_938 (fun r_3 wr_3 => ?_)
  have wr_3_0 : True := wr_3
  refine lv_pop hx hb dL_law_941 rfl ?_
  refine lv_goto (tgt := 1387) hx hb dL_law_942 (by decide) ?_
  have hI1 : CI v a fv := ⟨iv1_0, iv1_1, ia28_0, ia29_0, iv20_0, iv20_1, iv19_0, iv19_1, iv19_2, ia24_0, ia25_0, ifv14_0, iv4_0, iv4_1, ia18_0, iv24_0, iv24_1, iv25_0, iv25_1, iv25_2, iv26_0, iv26_1, ia19_0, iv5_0, iv5_1, iv6_0, iv6_1, iv6_2, iv11_0, iv11_1, iv14_0, iv14_1, iv0_0, iv0_1, iv0_2, ifv17_0, iv21_0, iv21_1, ia37_0, iv23_0, iv23_1, iv22_0, iv22_1⟩
  have hR1 : RI u b_ bw := ⟨iu1_0, iu1_1, ib67_0, ib66_0, iu8_0, iu8_1, ib10_0, ib11_0, iu9_0, iu9_1, iu9_2, iu15_0, iu15_1, hlaw, ib23_0, ib20_0, ib24_0, iu7_0, iu7_1, iu41_0, iu41_1, iu48_0, iu48_1, iu46_0, iu46_1, iu47_0, iu47_1, iu55_0, iu55_1, iu55_2, iu58_0, iu62_0, iu62_1, ib63_0, iu64_0, iu64_1⟩
  have hE1 : REL v a w fv u b_ bw := ⟨(show (v 1).toInt = (u 1).toInt by first | omega | assumption | exact e1), (show (v 4).toInt = (u 15).toInt by first | omega | assumption | exact e4), (show (v 21).toInt = (u 62).toInt by first | omega | assumption | exact e21), (show (v 22).toInt = (u 64).toInt by first | omega | assumption | exact e22), (show (fv 14 3) = (b_ 53) 0 by first | omega | assumption | exact es14), (show (fv 17 3) = (b_ 61) 0 by first | omega | assumption | exact es17), (show ((v 0).toInt < 0 ∧ (u 54).toInt = 0) ∨ (0 ≤ (v 0).toInt ∧ (u 54).toInt ≠ 0) by first | omega | assumption | exact eim), (show ∀ j, (a 37) j = (b_ 63) j by first | omega | assumption | exact ek), (show ∀ j, (a 38) j = (b_ 65) j by first | omega | assumption | exact et), (show SH (a 28) (a 29) w (b_ 66) (b_ 67) (bw 68) (v 21) by first | omega | assumption | exact esh)⟩
  exact kk ad rv v a w fv fp bd u b_ bw _ _ ls rfl rfl hI1 hR1 hE1 hP hD hS hl
set_option maxHeartbeats 8000000 in
set_option maxRecDepth 100000 in
theorem lc_image {p : Program} {e : Env} {s : State} {m : MethodId} {below : List Frame} {meth : Method} {c : Code} (l : Launch) {b L : Nat} {xs : Nat → Int32} (C0 : lw_At p s m meth c b L xs) (hL : L ≤ 3072) {D : va_G} {cs : Nat → ClassId} {fa fq : Nat → Nat} (hK : va_K D vwCl (TY cs) s) (hZ : ZS (fun q : Nat => s.heap.size ≤ q) s) {x0 y0 : Nat} {i : Int32} (hi0 : 0 ≤ i.toInt) (hiL : i.toInt + 6 ≤ (L : Int)) (ad rv : Nat → Nat) (v : Nat → Int32) (a : Nat → Nat → Int32) (w : Nat → Nat → Int64) (fv fp : Nat → Nat → Int32) (bd : Nat → Nat) (u : Nat → Int32) (b_ : Nat → Nat → Int32) (bw : Nat → Nat → Int64) (H : Heap) (locs : List Loc) (ls : Array Slot) (hl : lv_has ls 4 [(0, .ref b), (1, .ref x0), (2, .ref y0), (3, .int i)]) (hx0 : ad 0 = x0) (hy0 : bd 0 = y0) (hI : CI v a fv) (hR : RI u b_ bw) (hE : REL v a w fv u b_ bw) (hP : va_P D vwCl (CW cs ad fa fq rv v a w fv fp ++ RW cs bd u b_ bw) H) (hD : va_D (fun q : Nat => s.heap.size ≤ q) (CW cs ad fa fq rv v a w fv fp ++ RW cs bd u b_ bw)) (hS : va_S (fun q : Nat => s.heap.size ≤ q) s.heap H locs)
    (kk : ∀ (ad rv : Nat → Nat) (v : Nat → Int32) (a : Nat → Nat → Int32) (w : Nat → Nat → Int64) (fv fp : Nat → Nat → Int32) (bd : Nat → Nat) (u : Nat → Int32) (b_ : Nat → Nat → Int32) (bw : Nat → Nat → Int64) (H : Heap) (locs : List Loc) (ls : Array Slot) (hx0 : ad 0 = x0) (hy0 : bd 0 = y0) (hI : CI v a fv) (hR : RI u b_ bw) (hE : REL v a w fv u b_ bw) (hP : va_P D vwCl (CW cs ad fa fq rv v a w fv fp ++ RW cs bd u b_ bw) H) (hD : va_D (fun q : Nat => s.heap.size ≤ q) (CW cs ad fa fq rv v a w fv fp ++ RW cs bd u b_ bw)) (hS : va_S (fun q : Nat => s.heap.size ≤ q) s.heap H locs) (hl : lv_has ls 4 [(0, .ref b), (1, .ref x0), (2, .ref y0), (3, .int i)]), W p l e room_1 s m #[Value.ref b] below meth c H locs 200 9000 (lw_Z below #[Value.ref b] s) (F0 m 1387 ls [])) : W p l e room_1 s m #[Value.ref b] below meth c H locs 200 9000 (lw_Z below #[Value.ref b] s) (F0 m 945 ls []) := by
  obtain ⟨hx, hb, hr, hml, hown, hts, hX, hbl, hlocks, hgv⟩ := id C0
  have hg : ∀ w ∈ gw, w.before #[Value.ref b] s = true := fun w h => hts w (gw_in w h)
  have hbA : ¬ (fun q : Nat => s.heap.size ≤ q) b := Nat.not_le.mpr hbl
  subst hx0
  subst hy0
  obtain ⟨iv1_0, iv1_1, ia28_0, ia29_0, iv20_0, iv20_1, iv19_0, iv19_1, iv19_2, ia24_0, ia25_0, ifv14_0, iv4_0, iv4_1, ia18_0, iv24_0, iv24_1, iv25_0, iv25_1, iv25_2, iv26_0, iv26_1, ia19_0, iv5_0, iv5_1, iv6_0, iv6_1, iv6_2, iv11_0, iv11_1, iv14_0, iv14_1, iv0_0, iv0_1, iv0_2, ifv17_0, iv21_0, iv21_1, ia37_0, iv23_0, iv23_1, iv22_0, iv22_1⟩ := id hI
  obtain ⟨iu1_0, iu1_1, ib67_0, ib66_0, iu8_0, iu8_1, ib10_0, ib11_0, iu9_0, iu9_1, iu9_2, iu15_0, iu15_1, hlaw, ib23_0, ib20_0, ib24_0, iu7_0, iu7_1, iu41_0, iu41_1, iu48_0, iu48_1, iu46_0, iu46_1, iu47_0, iu47_1, iu55_0, iu55_1, iu55_2, iu58_0, iu62_0, iu62_1, ib63_0, iu64_0, iu64_1⟩ := id hR
  obtain ⟨e1, e4, e21, e22, es14, es17, eim, ek, et, esh⟩ := id hE
  obtain ⟨s1, hs1⟩ : ∃ y, xs (i + 1).toNatClampNeg = y := ⟨_, rfl⟩
  obtain ⟨s2, hs2⟩ : ∃ y, xs (i + 2).toNatClampNeg = y := ⟨_, rfl⟩
  obtain ⟨s3, hs3⟩ : ∃ y, xs (i + 3).toNatClampNeg = y := ⟨_, rfl⟩
  obtain ⟨s4, hs4⟩ : ∃ y, xs (i + 4).toNatClampNeg = y := ⟨_, rfl⟩
  obtain ⟨s5, hs5⟩ : ∃ y, xs (i + 5).toNatClampNeg = y := ⟨_, rfl⟩
  have hq1 : (i + 1).toInt = i.toInt + 1 := i_add (by show _ ≤ i.toInt + (1 : Int32).toInt; have q : (1 : Int32).toInt = 1 := rfl; omega) (by show i.toInt + (1 : Int32).toInt ≤ _; have q : (1 : Int32).toInt = 1 := rfl; omega)
  have hq2 : (i + 2).toInt = i.toInt + 2 := i_add (by show _ ≤ i.toInt + (2 : Int32).toInt; have q : (2 : Int32).toInt = 2 := rfl; omega) (by show i.toInt + (2 : Int32).toInt ≤ _; have q : (2 : Int32).toInt = 2 := rfl; omega)
  have hq3 : (i + 3).toInt = i.toInt + 3 := i_add (by show _ ≤ i.toInt + (3 : Int32).toInt; have q : (3 : Int32).toInt = 3 := rfl; omega) (by show i.toInt + (3 : Int32).toInt ≤ _; have q : (3 : Int32).toInt = 3 := rfl; omega)
  have hq4 : (i + 4).toInt = i.toInt + 4 := i_add (by show _ ≤ i.toInt + (4 : Int32).toInt; have q : (4 : Int32).toInt = 4 := rfl; omega) (by show i.toInt + (4 : Int32).toInt ≤ _; have q : (4 : Int32).toInt = 4 := rfl; omega)
  have hq5 : (i + 5).toInt = i.toInt + 5 := i_add (by show _ ≤ i.toInt + (5 : Int32).toInt; have q : (5 : Int32).toInt = 5 := rfl; omega) (by show i.toInt + (5 : Int32).toInt ≤ _; have q : (5 : Int32).toInt = 5 := rfl; omega)
  refine lv_aload_n hx hb dL_law_945 rfl (lv_at hl 1 rfl) ?_
  refine cL_i (As := []) (rest := []) ⟨hx, hb, hml, hown, hg⟩ (k_X11_image l D cs _ ad fa fq rv v a w fv fp  iv1_0 iv1_1 ifv14_0 iv0_0 iv0_1 iv0_2 ifv17_0) ca_X11_image q4_95 ⟨rfl, rfl⟩ ⟨Nat.le_of_ble_eq_true rfl, Nat.le_of_ble_eq_true rfl⟩ (rc_main hK (pw_l hP)) hK hP hD hS hZ rfl hl.1 rfl (Nat.le_of_ble_eq_true rfl) ⟨Nat.le_of_ble_eq_true rfl, Nat.le_of_ble_eq_true rfl⟩ dL_law_946 (fun r_1 z_6 H locs wr_1 hP hD hS => ?_)
  obtain ⟨o_v0_2, o_a39_3, o_fv17_4, o_fp17_5⟩ := z_6
  have hP : va_P D vwCl (CW cs ad fa fq rv (va_up v 0 o_v0_2) (va_up a 39 o_a39_3) w (va_up fv 17 o_fv17_4) (va_up fp 17 o_fp17_5) ++ RW cs bd u b_ bw) H := hP
  have hD : va_D (fun q : Nat => s.heap.size ≤ q) (CW cs ad fa fq rv (va_up v 0 o_v0_2) (va_up a 39 o_a39_3) w (va_up fv 17 o_fv17_4) (va_up fp 17 o_fp17_5) ++ RW cs bd u b_ bw) := hD
  obtain ⟨wr_1_0, wr_1_1, wr_1_2, wr_1_3, wr_1_4, wr_1_5, wr_1_6⟩ : (r_1 = (fv 14 3)) ∧ (o_fv17_4 3 = (fv 14 3)) ∧ (o_v0_2.toInt = (v 1).toInt) ∧ ((-1) ≤ o_v0_2.toInt) ∧ (o_v0_2.toInt ≤ 8) ∧ (o_v0_2.toInt ≤ (v 1).toInt) ∧ ((o_fv17_4 2).toInt = -2 ∨ (0 ≤ (o_fv17_4 2).toInt ∧ (o_fv17_4 2).toInt < (v 1).toInt)) := wr_1
  refine lv_pop hx hb dL_law_949 rfl ?_
  refine lv_aload_n hx hb dL_law_950 rfl (lv_at hl 2 rfl) ?_
  refine cR_i (As := []) (rest := []) ⟨hx, hb, hml, hown, hg⟩ (k_X12_image l D cs _ bd u b_ bw  iu1_0 iu1_1 iu7_0 iu7_1 iu55_0 iu55_1 iu55_2 iu58_0) ca_X12_image q7_24 ⟨rfl, rfl⟩ ⟨Nat.le_of_ble_eq_true rfl, Nat.le_of_ble_eq_true rfl⟩ (rc_model hK (pw_r hP)) hK hP hD hS hZ rfl hl.1 rfl (Nat.le_of_ble_eq_true rfl) ⟨Nat.le_of_ble_eq_true rfl, Nat.le_of_ble_eq_true rfl⟩ dL_law_951 (fun r_7 z_16 H locs wr_7 hP hD hS => ?_)
  obtain ⟨o_b61_8, o_u54_9, o_u55_10, o_u56_11, o_u57_12, o_u58_13, o_b59_14, o_b60_15⟩ := z_16
  have hP : va_P D vwCl (CW cs ad fa fq rv (va_up v 0 o_v0_2) (va_up a 39 o_a39_3) w (va_up fv 17 o_fv17_4) (va_up fp 17 o_fp17_5) ++ RW cs bd (va_up (va_up (va_up (va_up (va_up u 54 o_u54_9) 55 o_u55_10) 56 o_u56_11) 57 o_u57_12) 58 o_u58_13) (va_up (va_up (va_up b_ 61 o_b61_8) 59 o_b59_14) 60 o_b60_15) bw) H := hP
  have hD : va_D (fun q : Nat => s.heap.size ≤ q) (CW cs ad fa fq rv (va_up v 0 o_v0_2) (va_up a 39 o_a39_3) w (va_up fv 17 o_fv17_4) (va_up fp 17 o_fp17_5) ++ RW cs bd (va_up (va_up (va_up (va_up (va_up u 54 o_u54_9) 55 o_u55_10) 56 o_u56_11) 57 o_u57_12) 58 o_u58_13) (va_up (va_up (va_up b_ 61 o_b61_8) 59 o_b59_14) 60 o_b60_15) bw) := hD
  obtain ⟨wr_7_0, wr_7_1, wr_7_2, wr_7_3, wr_7_4, wr_7_5, wr_7_6, wr_7_7⟩ : (r_7 = ((b_ 53) 0)) ∧ (o_b61_8 0 = ((b_ 53) 0)) ∧ (o_u55_10.toInt = (u 1).toInt) ∧ (o_u54_9.toInt = 1) ∧ (0 ≤ o_u55_10.toInt) ∧ (o_u55_10.toInt ≤ 8) ∧ (o_u55_10.toInt ≤ (u 1).toInt) ∧ (o_u54_9.toInt = 0 ∨ (-1 ≤ o_u58_13.toInt ∧ o_u58_13.toInt < (u 1).toInt)) := wr_7
  refine lv_pop hx hb dL_law_954 rfl ?_
  refine lv_goto (tgt := 1387) hx hb dL_law_955 (by decide) ?_
  have hI1 : CI (va_up v 0 o_v0_2) (va_up a 39 o_a39_3) (va_up fv 17 o_fv17_4) := ⟨iv1_0, iv1_1, ia28_0, ia29_0, iv20_0, iv20_1, iv19_0, iv19_1, iv19_2, ia24_0, ia25_0, ifv14_0, iv4_0, iv4_1, ia18_0, iv24_0, iv24_1, iv25_0, iv25_1, iv25_2, iv26_0, iv26_1, ia19_0, iv5_0, iv5_1, iv6_0, iv6_1, iv6_2, iv11_0, iv11_1, iv14_0, iv14_1, (show (-1) ≤ o_v0_2.toInt by first | assumption | omega), (show o_v0_2.toInt ≤ 8 by first | assumption | omega), (show o_v0_2.toInt ≤ (v 1).toInt by first | assumption | omega), (show (o_fv17_4 2).toInt = -2 ∨ (0 ≤ (o_fv17_4 2).toInt ∧ (o_fv17_4 2).toInt < (v 1).toInt) by first | assumption | omega), iv21_0, iv21_1, ia37_0, iv23_0, iv23_1, iv22_0, iv22_1⟩
  have hR1 : RI (va_up (va_up (va_up (va_up (va_up u 54 o_u54_9) 55 o_u55_10) 56 o_u56_11) 57 o_u57_12) 58 o_u58_13) (va_up (va_up (va_up b_ 61 o_b61_8) 59 o_b59_14) 60 o_b60_15) bw := ⟨iu1_0, iu1_1, ib67_0, ib66_0, iu8_0, iu8_1, ib10_0, ib11_0, iu9_0, iu9_1, iu9_2, iu15_0, iu15_1, hlaw, ib23_0, ib20_0, ib24_0, iu7_0, iu7_1, iu41_0, iu41_1, iu48_0, iu48_1, iu46_0, iu46_1, iu47_0, iu47_1, (show 0 ≤ o_u55_10.toInt by first | assumption | omega), (show o_u55_10.toInt ≤ 8 by first | assumption | omega), (show o_u55_10.toInt ≤ (u 1).toInt by first | assumption | omega), (show o_u54_9.toInt = 0 ∨ (-1 ≤ o_u58_13.toInt ∧ o_u58_13.toInt < (u 1).toInt) by first | assumption | omega), iu62_0, iu62_1, ib63_0, iu64_0, iu64_1⟩
  have hE1 : REL (va_up v 0 o_v0_2) (va_up a 39 o_a39_3) w (va_up fv 17 o_fv17_4) (va_up (va_up (va_up (va_up (va_up u 54 o_u54_9) 55 o_u55_10) 56 o_u56_11) 57 o_u57_12) 58 o_u58_13) (va_up (va_up (va_up b_ 61 o_b61_8) 59 o_b59_14) 60 o_b60_15) bw := ⟨(show (v 1).toInt = (u 1).toInt by first | omega | assumption | exact e1), (show (v 4).toInt = (u 15).toInt by first | omega | assumption | exact e4), (show (v 21).toInt = (u 62).toInt by first | omega | assumption | exact e21), (show (v 22).toInt = (u 64).toInt by first | omega | assumption | exact e22), (show (fv 14 3) = (b_ 53) 0 by first | omega | assumption | exact es14), (show (o_fv17_4 3) = o_b61_8 0 by first | (exact wr_1_1.trans (es14.trans wr_7_1.symm)) | first | omega | assumption | exact es17), (show ((o_v0_2).toInt < 0 ∧ (o_u54_9).toInt = 0) ∨ (0 ≤ (o_v0_2).toInt ∧ (o_u54_9).toInt ≠ 0) by first | (exact Or.inr ⟨by omega, by omega⟩) | first | omega | assumption | exact eim), (show ∀ j, (a 37) j = (b_ 63) j by first | omega | assumption | exact ek), (show ∀ j, (a 38) j = (b_ 65) j by first | omega | assumption | exact et), (show SH (a 28) (a 29) w (b_ 66) (b_ 67) (bw 68) (v 21) by first | omega | assumption | exact esh)⟩
  exact kk ad rv (va_up v 0 o_v0_2) (va_up a 39 o_a39_3) w (va_up fv 17 o_fv17_4) (va_up fp 17 o_fp17_5) bd (va_up (va_up (va_up (va_up (va_up u 54 o_u54_9) 55 o_u55_10) 56 o_u56_11) 57 o_u57_12) 58 o_u58_13) (va_up (va_up (va_up b_ 61 o_b61_8) 59 o_b59_14) 60 o_b60_15) bw _ _ ls rfl rfl hI1 hR1 hE1 hP hD hS hl
set_option maxHeartbeats 8000000 in
set_option maxRecDepth 100000 in
theorem lc_back {p : Program} {e : Env} {s : State} {m : MethodId} {below : List Frame} {meth : Method} {c : Code} (l : Launch) {b L : Nat} {xs : Nat → Int32} (C0 : lw_At p s m meth c b L xs) (hL : L ≤ 3072) {D : va_G} {cs : Nat → ClassId} {fa fq : Nat → Nat} (hK : va_K D vwCl (TY cs) s) (hZ : ZS (fun q : Nat => s.heap.size ≤ q) s) {x0 y0 : Nat} {i : Int32} (hi0 : 0 ≤ i.toInt) (hiL : i.toInt + 6 ≤ (L : Int)) (ad rv : Nat → Nat) (v : Nat → Int32) (a : Nat → Nat → Int32) (w : Nat → Nat → Int64) (fv fp : Nat → Nat → Int32) (bd : Nat → Nat) (u : Nat → Int32) (b_ : Nat → Nat → Int32) (bw : Nat → Nat → Int64) (H : Heap) (locs : List Loc) (ls : Array Slot) (hl : lv_has ls 4 [(0, .ref b), (1, .ref x0), (2, .ref y0), (3, .int i)]) (hx0 : ad 0 = x0) (hy0 : bd 0 = y0) (hI : CI v a fv) (hR : RI u b_ bw) (hE : REL v a w fv u b_ bw) (hP : va_P D vwCl (CW cs ad fa fq rv v a w fv fp ++ RW cs bd u b_ bw) H) (hD : va_D (fun q : Nat => s.heap.size ≤ q) (CW cs ad fa fq rv v a w fv fp ++ RW cs bd u b_ bw)) (hS : va_S (fun q : Nat => s.heap.size ≤ q) s.heap H locs)
    (kk : ∀ (ad rv : Nat → Nat) (v : Nat → Int32) (a : Nat → Nat → Int32) (w : Nat → Nat → Int64) (fv fp : Nat → Nat → Int32) (bd : Nat → Nat) (u : Nat → Int32) (b_ : Nat → Nat → Int32) (bw : Nat → Nat → Int64) (H : Heap) (locs : List Loc) (ls : Array Slot) (hx0 : ad 0 = x0) (hy0 : bd 0 = y0) (hI : CI v a fv) (hR : RI u b_ bw) (hE : REL v a w fv u b_ bw) (hP : va_P D vwCl (CW cs ad fa fq rv v a w fv fp ++ RW cs bd u b_ bw) H) (hD : va_D (fun q : Nat => s.heap.size ≤ q) (CW cs ad fa fq rv v a w fv fp ++ RW cs bd u b_ bw)) (hS : va_S (fun q : Nat => s.heap.size ≤ q) s.heap H locs) (hl : lv_has ls 4 [(0, .ref b), (1, .ref x0), (2, .ref y0), (3, .int i)]), W p l e room_1 s m #[Value.ref b] below meth c H locs 200 9000 (lw_Z below #[Value.ref b] s) (F0 m 1387 ls [])) : W p l e room_1 s m #[Value.ref b] below meth c H locs 200 9000 (lw_Z below #[Value.ref b] s) (F0 m 958 ls []) := by
  obtain ⟨hx, hb, hr, hml, hown, hts, hX, hbl, hlocks, hgv⟩ := id C0
  have hg : ∀ w ∈ gw, w.before #[Value.ref b] s = true := fun w h => hts w (gw_in w h)
  have hbA : ¬ (fun q : Nat => s.heap.size ≤ q) b := Nat.not_le.mpr hbl
  subst hx0
  subst hy0
  obtain ⟨iv1_0, iv1_1, ia28_0, ia29_0, iv20_0, iv20_1, iv19_0, iv19_1, iv19_2, ia24_0, ia25_0, ifv14_0, iv4_0, iv4_1, ia18_0, iv24_0, iv24_1, iv25_0, iv25_1, iv25_2, iv26_0, iv26_1, ia19_0, iv5_0, iv5_1, iv6_0, iv6_1, iv6_2, iv11_0, iv11_1, iv14_0, iv14_1, iv0_0, iv0_1, iv0_2, ifv17_0, iv21_0, iv21_1, ia37_0, iv23_0, iv23_1, iv22_0, iv22_1⟩ := id hI
  obtain ⟨iu1_0, iu1_1, ib67_0, ib66_0, iu8_0, iu8_1, ib10_0, ib11_0, iu9_0, iu9_1, iu9_2, iu15_0, iu15_1, hlaw, ib23_0, ib20_0, ib24_0, iu7_0, iu7_1, iu41_0, iu41_1, iu48_0, iu48_1, iu46_0, iu46_1, iu47_0, iu47_1, iu55_0, iu55_1, iu55_2, iu58_0, iu62_0, iu62_1, ib63_0, iu64_0, iu64_1⟩ := id hR
  obtain ⟨e1, e4, e21, e22, es14, es17, eim, ek, et, esh⟩ := id hE
  obtain ⟨s1, hs1⟩ : ∃ y, xs (i + 1).toNatClampNeg = y := ⟨_, rfl⟩
  obtain ⟨s2, hs2⟩ : ∃ y, xs (i + 2).toNatClampNeg = y := ⟨_, rfl⟩
  obtain ⟨s3, hs3⟩ : ∃ y, xs (i + 3).toNatClampNeg = y := ⟨_, rfl⟩
  obtain ⟨s4, hs4⟩ : ∃ y, xs (i + 4).toNatClampNeg = y := ⟨_, rfl⟩
  obtain ⟨s5, hs5⟩ : ∃ y, xs (i + 5).toNatClampNeg = y := ⟨_, rfl⟩
  have hq1 : (i + 1).toInt = i.toInt + 1 := i_add (by show _ ≤ i.toInt + (1 : Int32).toInt; have q : (1 : Int32).toInt = 1 := rfl; omega) (by show i.toInt + (1 : Int32).toInt ≤ _; have q : (1 : Int32).toInt = 1 := rfl; omega)
  have hq2 : (i + 2).toInt = i.toInt + 2 := i_add (by show _ ≤ i.toInt + (2 : Int32).toInt; have q : (2 : Int32).toInt = 2 := rfl; omega) (by show i.toInt + (2 : Int32).toInt ≤ _; have q : (2 : Int32).toInt = 2 := rfl; omega)
  have hq3 : (i + 3).toInt = i.toInt + 3 := i_add (by show _ ≤ i.toInt + (3 : Int32).toInt; have q : (3 : Int32).toInt = 3 := rfl; omega) (by show i.toInt + (3 : Int32).toInt ≤ _; have q : (3 : Int32).toInt = 3 := rfl; omega)
  have hq4 : (i + 4).toInt = i.toInt + 4 := i_add (by show _ ≤ i.toInt + (4 : Int32).toInt; have q : (4 : Int32).toInt = 4 := rfl; omega) (by show i.toInt + (4 : Int32).toInt ≤ _; have q : (4 : Int32).toInt = 4 := rfl; omega)
  have hq5 : (i + 5).toInt = i.toInt + 5 := i_add (by show _ ≤ i.toInt + (5 : Int32).toInt; have q : (5 : Int32).toInt = 5 := rfl; omega) (by show i.toInt + (5 : Int32).toInt ≤ _; have q : (5 : Int32).toInt = 5 := rfl; omega)
  refine lv_aload_n hx hb dL_law_958 rfl (lv_at hl 1 rfl) ?_
  refine cL_i (As := []) (rest := []) ⟨hx, hb, hml, hown, hg⟩ (k_X11_back l D cs _ ad fa fq rv v a w fv fp  iv1_0 iv1_1 iv0_0 iv0_1 iv0_2 ifv17_0 ifv14_0) ca_X11_back q4_100 ⟨rfl, rfl⟩ ⟨Nat.le_of_ble_eq_true rfl, Nat.le_of_ble_eq_true rfl⟩ (rc_main hK (pw_l hP)) hK hP hD hS hZ rfl hl.1 rfl (Nat.le_of_ble_eq_true rfl) ⟨Nat.le_of_ble_eq_true rfl, Nat.le_of_ble_eq_true rfl⟩ dL_law_959 (fun r_1 z_6 H locs wr_1 hP hD hS => ?_)
  obtain ⟨o_fv14_2, o_fp14_3, o_a11_4, o_a14_5⟩ := z_6
  have hP : va_P D vwCl (CW cs ad fa fq rv v (va_up (va_up a 11 o_a11_4) 14 o_a14_5) w (va_up fv 14 o_fv14_2) (va_up fp 14 o_fp14_3) ++ RW cs bd u b_ bw) H := hP
  have hD : va_D (fun q : Nat => s.heap.size ≤ q) (CW cs ad fa fq rv v (va_up (va_up a 11 o_a11_4) 14 o_a14_5) w (va_up fv 14 o_fv14_2) (va_up fp 14 o_fp14_3) ++ RW cs bd u b_ bw) := hD
  obtain ⟨wr_1_0, wr_1_1⟩ : (((v 0).toInt < 0 ∧ r_1.toInt = -5 ∧ o_fv14_2 3 = (fv 14 3)) ∨ (0 ≤ (v 0).toInt ∧ r_1 = (fv 17 3) ∧ o_fv14_2 3 = (fv 17 3))) ∧ ((o_fv14_2 2).toInt = -2 ∨ (0 ≤ (o_fv14_2 2).toInt ∧ (o_fv14_2 2).toInt < (v 1).toInt)) := wr_1
  refine lv_pop hx hb dL_law_962 rfl ?_
  refine lv_aload_n hx hb dL_law_963 rfl (lv_at hl 2 rfl) ?_
  refine cR_i (As := []) (rest := []) ⟨hx, hb, hml, hown, hg⟩ (k_X12_back l D cs _ bd u b_ bw  iu1_0 iu1_1 iu55_0 iu55_1 iu55_2 iu58_0 iu7_0 iu7_1) ca_X12_back q7_28 ⟨rfl, rfl⟩ ⟨Nat.le_of_ble_eq_true rfl, Nat.le_of_ble_eq_true rfl⟩ (rc_model hK (pw_r hP)) hK hP hD hS hZ rfl hl.1 rfl (Nat.le_of_ble_eq_true rfl) ⟨Nat.le_of_ble_eq_true rfl, Nat.le_of_ble_eq_true rfl⟩ dL_law_964 (fun r_7 z_13 H locs wr_7 hP hD hS => ?_)
  obtain ⟨o_b53_8, o_u7_9, o_b2_10, o_b4_11, o_b6_12⟩ := z_13
  have hP : va_P D vwCl (CW cs ad fa fq rv v (va_up (va_up a 11 o_a11_4) 14 o_a14_5) w (va_up fv 14 o_fv14_2) (va_up fp 14 o_fp14_3) ++ RW cs bd (va_up u 7 o_u7_9) (va_up (va_up (va_up (va_up b_ 53 o_b53_8) 2 o_b2_10) 4 o_b4_11) 6 o_b6_12) bw) H := hP
  have hD : va_D (fun q : Nat => s.heap.size ≤ q) (CW cs ad fa fq rv v (va_up (va_up a 11 o_a11_4) 14 o_a14_5) w (va_up fv 14 o_fv14_2) (va_up fp 14 o_fp14_3) ++ RW cs bd (va_up u 7 o_u7_9) (va_up (va_up (va_up (va_up b_ 53 o_b53_8) 2 o_b2_10) 4 o_b4_11) 6 o_b6_12) bw) := hD
  obtain ⟨wr_7_0, wr_7_1, wr_7_2⟩ : (((u 54).toInt = 0 ∧ r_7.toInt = -5 ∧ o_b53_8 0 = ((b_ 53) 0)) ∨ ((u 54).toInt ≠ 0 ∧ r_7 = ((b_ 61) 0) ∧ o_b53_8 0 = ((b_ 61) 0))) ∧ (-1 ≤ o_u7_9.toInt) ∧ (o_u7_9.toInt < (u 1).toInt) := wr_7
  have hbe : r_1.toInt = r_7.toInt ∧ o_fv14_2 3 = o_b53_8 0 := by
    rcases wr_1_0 with ⟨a0, a1, a2⟩ | ⟨a0, a1, a2⟩ <;> rcases wr_7_0 with ⟨b0, b1, b2⟩ | ⟨b0, b1, b2⟩ <;> first | (exfalso; omega) | exact ⟨by omega, by rw [a2, b2, es14]⟩ | exact ⟨by rw [a1, b1, es17], by rw [a2, b2, es17]⟩
  refine lv_pop hx hb dL_law_967 rfl ?_
  refine lv_goto (tgt := 1387) hx hb dL_law_968 (by decide) ?_
  have hI1 : CI v (va_up (va_up a 11 o_a11_4) 14 o_a14_5) (va_up fv 14 o_fv14_2) := ⟨iv1_0, iv1_1, ia28_0, ia29_0, iv20_0, iv20_1, iv19_0, iv19_1, iv19_2, ia24_0, ia25_0, (show (o_fv14_2 2).toInt = -2 ∨ (0 ≤ (o_fv14_2 2).toInt ∧ (o_fv14_2 2).toInt < (v 1).toInt) by first | assumption | omega), iv4_0, iv4_1, ia18_0, iv24_0, iv24_1, iv25_0, iv25_1, iv25_2, iv26_0, iv26_1, ia19_0, iv5_0, iv5_1, iv6_0, iv6_1, iv6_2, iv11_0, iv11_1, iv14_0, iv14_1, iv0_0, iv0_1, iv0_2, ifv17_0, iv21_0, iv21_1, ia37_0, iv23_0, iv23_1, iv22_0, iv22_1⟩
  have hR1 : RI (va_up u 7 o_u7_9) (va_up (va_up (va_up (va_up b_ 53 o_b53_8) 2 o_b2_10) 4 o_b4_11) 6 o_b6_12) bw := ⟨iu1_0, iu1_1, ib67_0, ib66_0, iu8_0, iu8_1, ib10_0, ib11_0, iu9_0, iu9_1, iu9_2, iu15_0, iu15_1, hlaw, ib23_0, ib20_0, ib24_0, (show -1 ≤ o_u7_9.toInt by first | assumption | omega), (show o_u7_9.toInt < (u 1).toInt by first | assumption | omega), iu41_0, iu41_1, iu48_0, iu48_1, iu46_0, iu46_1, iu47_0, iu47_1, iu55_0, iu55_1, iu55_2, iu58_0, iu62_0, iu62_1, ib63_0, iu64_0, iu64_1⟩
  have hE1 : REL v (va_up (va_up a 11 o_a11_4) 14 o_a14_5) w (va_up fv 14 o_fv14_2) (va_up u 7 o_u7_9) (va_up (va_up (va_up (va_up b_ 53 o_b53_8) 2 o_b2_10) 4 o_b4_11) 6 o_b6_12) bw := ⟨(show (v 1).toInt = (u 1).toInt by first | omega | assumption | exact e1), (show (v 4).toInt = (u 15).toInt by first | omega | assumption | exact e4), (show (v 21).toInt = (u 62).toInt by first | omega | assumption | exact e21), (show (v 22).toInt = (u 64).toInt by first | omega | assumption | exact e22), (show (o_fv14_2 3) = o_b53_8 0 by first | (exact hbe.2) | first | omega | assumption | exact es14), (show (fv 17 3) = (b_ 61) 0 by first | omega | assumption | exact es17), (show ((v 0).toInt < 0 ∧ (u 54).toInt = 0) ∨ (0 ≤ (v 0).toInt ∧ (u 54).toInt ≠ 0) by first | omega | assumption | exact eim), (show ∀ j, (a 37) j = (b_ 63) j by first | omega | assumption | exact ek), (show ∀ j, (a 38) j = (b_ 65) j by first | omega | assumption | exact et), (show SH (a 28) (a 29) w (b_ 66) (b_ 67) (bw 68) (v 21) by first | omega | assumption | exact esh)⟩
  exact kk ad rv v (va_up (va_up a 11 o_a11_4) 14 o_a14_5) w (va_up fv 14 o_fv14_2) (va_up fp 14 o_fp14_3) bd (va_up u 7 o_u7_9) (va_up (va_up (va_up (va_up b_ 53 o_b53_8) 2 o_b2_10) 4 o_b4_11) 6 o_b6_12) bw _ _ ls rfl rfl hI1 hR1 hE1 hP hD hS hl
set_option maxHeartbeats 8000000 in
set_option maxRecDepth 100000 in
theorem lc_undo {p : Program} {e : Env} {s : State} {m : MethodId} {below : List Frame} {meth : Method} {c : Code} (l : Launch) {b L : Nat} {xs : Nat → Int32} (C0 : lw_At p s m meth c b L xs) (hL : L ≤ 3072) {D : va_G} {cs : Nat → ClassId} {fa fq : Nat → Nat} (hK : va_K D vwCl (TY cs) s) (hZ : ZS (fun q : Nat => s.heap.size ≤ q) s) {x0 y0 : Nat} {i : Int32} (hi0 : 0 ≤ i.toInt) (hiL : i.toInt + 6 ≤ (L : Int)) (ad rv : Nat → Nat) (v : Nat → Int32) (a : Nat → Nat → Int32) (w : Nat → Nat → Int64) (fv fp : Nat → Nat → Int32) (bd : Nat → Nat) (u : Nat → Int32) (b_ : Nat → Nat → Int32) (bw : Nat → Nat → Int64) (H : Heap) (locs : List Loc) (ls : Array Slot) (hl : lv_has ls 4 [(0, .ref b), (1, .ref x0), (2, .ref y0), (3, .int i)]) (hx0 : ad 0 = x0) (hy0 : bd 0 = y0) (hI : CI v a fv) (hR : RI u b_ bw) (hE : REL v a w fv u b_ bw) (hP : va_P D vwCl (CW cs ad fa fq rv v a w fv fp ++ RW cs bd u b_ bw) H) (hD : va_D (fun q : Nat => s.heap.size ≤ q) (CW cs ad fa fq rv v a w fv fp ++ RW cs bd u b_ bw)) (hS : va_S (fun q : Nat => s.heap.size ≤ q) s.heap H locs)
    (kk : ∀ (ad rv : Nat → Nat) (v : Nat → Int32) (a : Nat → Nat → Int32) (w : Nat → Nat → Int64) (fv fp : Nat → Nat → Int32) (bd : Nat → Nat) (u : Nat → Int32) (b_ : Nat → Nat → Int32) (bw : Nat → Nat → Int64) (H : Heap) (locs : List Loc) (ls : Array Slot) (hx0 : ad 0 = x0) (hy0 : bd 0 = y0) (hI : CI v a fv) (hR : RI u b_ bw) (hE : REL v a w fv u b_ bw) (hP : va_P D vwCl (CW cs ad fa fq rv v a w fv fp ++ RW cs bd u b_ bw) H) (hD : va_D (fun q : Nat => s.heap.size ≤ q) (CW cs ad fa fq rv v a w fv fp ++ RW cs bd u b_ bw)) (hS : va_S (fun q : Nat => s.heap.size ≤ q) s.heap H locs) (hl : lv_has ls 4 [(0, .ref b), (1, .ref x0), (2, .ref y0), (3, .int i)]), W p l e room_1 s m #[Value.ref b] below meth c H locs 200 9000 (lw_Z below #[Value.ref b] s) (F0 m 1387 ls [])) : W p l e room_1 s m #[Value.ref b] below meth c H locs 200 9000 (lw_Z below #[Value.ref b] s) (F0 m 971 ls []) := by
  obtain ⟨hx, hb, hr, hml, hown, hts, hX, hbl, hlocks, hgv⟩ := id C0
  have hg : ∀ w ∈ gw, w.before #[Value.ref b] s = true := fun w h => hts w (gw_in w h)
  have hbA : ¬ (fun q : Nat => s.heap.size ≤ q) b := Nat.not_le.mpr hbl
  subst hx0
  subst hy0
  obtain ⟨iv1_0, iv1_1, ia28_0, ia29_0, iv20_0, iv20_1, iv19_0, iv19_1, iv19_2, ia24_0, ia25_0, ifv14_0, iv4_0, iv4_1, ia18_0, iv24_0, iv24_1, iv25_0, iv25_1, iv25_2, iv26_0, iv26_1, ia19_0, iv5_0, iv5_1, iv6_0, iv6_1, iv6_2, iv11_0, iv11_1, iv14_0, iv14_1, iv0_0, iv0_1, iv0_2, ifv17_0, iv21_0, iv21_1, ia37_0, iv23_0, iv23_1, iv22_0, iv22_1⟩ := id hI
  obtain ⟨iu1_0, iu1_1, ib67_0, ib66_0, iu8_0, iu8_1, ib10_0, ib11_0, iu9_0, iu9_1, iu9_2, iu15_0, iu15_1, hlaw, ib23_0, ib20_0, ib24_0, iu7_0, iu7_1, iu41_0, iu41_1, iu48_0, iu48_1, iu46_0, iu46_1, iu47_0, iu47_1, iu55_0, iu55_1, iu55_2, iu58_0, iu62_0, iu62_1, ib63_0, iu64_0, iu64_1⟩ := id hR
  obtain ⟨e1, e4, e21, e22, es14, es17, eim, ek, et, esh⟩ := id hE
  obtain ⟨s1, hs1⟩ : ∃ y, xs (i + 1).toNatClampNeg = y := ⟨_, rfl⟩
  obtain ⟨s2, hs2⟩ : ∃ y, xs (i + 2).toNatClampNeg = y := ⟨_, rfl⟩
  obtain ⟨s3, hs3⟩ : ∃ y, xs (i + 3).toNatClampNeg = y := ⟨_, rfl⟩
  obtain ⟨s4, hs4⟩ : ∃ y, xs (i + 4).toNatClampNeg = y := ⟨_, rfl⟩
  obtain ⟨s5, hs5⟩ : ∃ y, xs (i + 5).toNatClampNeg = y := ⟨_, rfl⟩
  have hq1 : (i + 1).toInt = i.toInt + 1 := i_add (by show _ ≤ i.toInt + (1 : Int32).toInt; have q : (1 : Int32).toInt = 1 := rfl; omega) (by show i.toInt + (1 : Int32).toInt ≤ _; have q : (1 : Int32).toInt = 1 := rfl; omega)
  have hq2 : (i + 2).toInt = i.toInt + 2 := i_add (by show _ ≤ i.toInt + (2 : Int32).toInt; have q : (2 : Int32).toInt = 2 := rfl; omega) (by show i.toInt + (2 : Int32).toInt ≤ _; have q : (2 : Int32).toInt = 2 := rfl; omega)
  have hq3 : (i + 3).toInt = i.toInt + 3 := i_add (by show _ ≤ i.toInt + (3 : Int32).toInt; have q : (3 : Int32).toInt = 3 := rfl; omega) (by show i.toInt + (3 : Int32).toInt ≤ _; have q : (3 : Int32).toInt = 3 := rfl; omega)
  have hq4 : (i + 4).toInt = i.toInt + 4 := i_add (by show _ ≤ i.toInt + (4 : Int32).toInt; have q : (4 : Int32).toInt = 4 := rfl; omega) (by show i.toInt + (4 : Int32).toInt ≤ _; have q : (4 : Int32).toInt = 4 := rfl; omega)
  have hq5 : (i + 5).toInt = i.toInt + 5 := i_add (by show _ ≤ i.toInt + (5 : Int32).toInt; have q : (5 : Int32).toInt = 5 := rfl; omega) (by show i.toInt + (5 : Int32).toInt ≤ _; have q : (5 : Int32).toInt = 5 := rfl; omega)
  refine lv_aload_n hx hb dL_law_971 rfl (lv_at hl 1 rfl) ?_
  refine cL_i (As := []) (rest := []) ⟨hx, hb, hml, hown, hg⟩ (k_X11_undo l D cs _ ad fa fq rv v a w fv fp  iv20_0 iv20_1 iv19_0 iv19_1 iv19_2 ia24_0 ia25_0 iv1_0 iv1_1 ifv14_0) ca_X11_undo q4_104 ⟨rfl, rfl⟩ ⟨Nat.le_of_ble_eq_true rfl, Nat.le_of_ble_eq_true rfl⟩ (rc_main hK (pw_l hP)) hK hP hD hS hZ rfl hl.1 rfl (Nat.le_of_ble_eq_true rfl) ⟨Nat.le_of_ble_eq_true rfl, Nat.le_of_ble_eq_true rfl⟩ dL_law_972 (fun r_1 z_11 H locs wr_1 hP hD hS => ?_)
  obtain ⟨o_v19_2, o_v2_3, o_v3_4, o_a11_5, o_a14_6, o_a12_7, o_a13_8, o_fv14_9, o_fp14_10⟩ := z_11
  have hP : va_P D vwCl (CW cs ad fa fq rv (va_up (va_up (va_up v 19 o_v19_2) 2 o_v2_3) 3 o_v3_4) (va_up (va_up (va_up (va_up a 11 o_a11_5) 14 o_a14_6) 12 o_a12_7) 13 o_a13_8) w (va_up fv 14 o_fv14_9) (va_up fp 14 o_fp14_10) ++ RW cs bd u b_ bw) H := hP
  have hD : va_D (fun q : Nat => s.heap.size ≤ q) (CW cs ad fa fq rv (va_up (va_up (va_up v 19 o_v19_2) 2 o_v2_3) 3 o_v3_4) (va_up (va_up (va_up (va_up a 11 o_a11_5) 14 o_a14_6) 12 o_a12_7) 13 o_a13_8) w (va_up fv 14 o_fv14_9) (va_up fp 14 o_fp14_10) ++ RW cs bd u b_ bw) := hD
  obtain ⟨wr_1_0, wr_1_1, wr_1_2, wr_1_3, wr_1_4⟩ : (o_fv14_9 3 = (fv 14 3)) ∧ (0 ≤ o_v19_2.toInt) ∧ (o_v19_2.toInt ≤ 40) ∧ (o_v19_2.toInt ≤ (v 20).toInt) ∧ ((o_fv14_9 2).toInt = -2 ∨ (0 ≤ (o_fv14_9 2).toInt ∧ (o_fv14_9 2).toInt < (v 1).toInt)) := wr_1
  refine lv_pop hx hb dL_law_975 rfl ?_
  refine lv_aload_n hx hb dL_law_976 rfl (lv_at hl 2 rfl) ?_
  refine cR_i (As := []) (rest := []) ⟨hx, hb, hml, hown, hg⟩ (k_X12_undo l D cs _ bd u b_ bw  iu8_0 iu8_1 iu9_0 iu9_1 iu9_2 ib10_0 ib11_0) ca_X12_undo q5_227 ⟨rfl, rfl⟩ ⟨Nat.le_of_ble_eq_true rfl, Nat.le_of_ble_eq_true rfl⟩ (rc_model hK (pw_r hP)) hK hP hD hS hZ rfl hl.1 rfl (Nat.le_of_ble_eq_true rfl) ⟨Nat.le_of_ble_eq_true rfl, Nat.le_of_ble_eq_true rfl⟩ dL_law_977 (fun r_12 z_20 H locs wr_12 hP hD hS => ?_)
  obtain ⟨o_u8_13, o_u9_14, o_b2_15, o_b3_16, o_b4_17, o_b5_18, o_b6_19⟩ := z_20
  have hP : va_P D vwCl (CW cs ad fa fq rv (va_up (va_up (va_up v 19 o_v19_2) 2 o_v2_3) 3 o_v3_4) (va_up (va_up (va_up (va_up a 11 o_a11_5) 14 o_a14_6) 12 o_a12_7) 13 o_a13_8) w (va_up fv 14 o_fv14_9) (va_up fp 14 o_fp14_10) ++ RW cs bd (va_up (va_up u 8 o_u8_13) 9 o_u9_14) (va_up (va_up (va_up (va_up (va_up b_ 2 o_b2_15) 3 o_b3_16) 4 o_b4_17) 5 o_b5_18) 6 o_b6_19) bw) H := hP
  have hD : va_D (fun q : Nat => s.heap.size ≤ q) (CW cs ad fa fq rv (va_up (va_up (va_up v 19 o_v19_2) 2 o_v2_3) 3 o_v3_4) (va_up (va_up (va_up (va_up a 11 o_a11_5) 14 o_a14_6) 12 o_a12_7) 13 o_a13_8) w (va_up fv 14 o_fv14_9) (va_up fp 14 o_fp14_10) ++ RW cs bd (va_up (va_up u 8 o_u8_13) 9 o_u9_14) (va_up (va_up (va_up (va_up (va_up b_ 2 o_b2_15) 3 o_b3_16) 4 o_b4_17) 5 o_b5_18) 6 o_b6_19) bw) := hD
  obtain ⟨wr_12_0, wr_12_1, wr_12_2, wr_12_3, wr_12_4⟩ : (0 ≤ o_u8_13.toInt) ∧ (o_u8_13.toInt ≤ 40) ∧ (0 ≤ o_u9_14.toInt) ∧ (o_u9_14.toInt ≤ 40) ∧ (o_u8_13.toInt + o_u9_14.toInt ≤ 40) := wr_12
  refine lv_pop hx hb dL_law_980 rfl ?_
  refine lv_goto (tgt := 1387) hx hb dL_law_981 (by decide) ?_
  have hI1 : CI (va_up (va_up (va_up v 19 o_v19_2) 2 o_v2_3) 3 o_v3_4) (va_up (va_up (va_up (va_up a 11 o_a11_5) 14 o_a14_6) 12 o_a12_7) 13 o_a13_8) (va_up fv 14 o_fv14_9) := ⟨iv1_0, iv1_1, ia28_0, ia29_0, iv20_0, iv20_1, (show 0 ≤ o_v19_2.toInt by first | assumption | omega), (show o_v19_2.toInt ≤ 40 by first | assumption | omega), (show o_v19_2.toInt ≤ (v 20).toInt by first | assumption | omega), ia24_0, ia25_0, (show (o_fv14_9 2).toInt = -2 ∨ (0 ≤ (o_fv14_9 2).toInt ∧ (o_fv14_9 2).toInt < (v 1).toInt) by first | assumption | omega), iv4_0, iv4_1, ia18_0, iv24_0, iv24_1, iv25_0, iv25_1, iv25_2, iv26_0, iv26_1, ia19_0, iv5_0, iv5_1, iv6_0, iv6_1, iv6_2, iv11_0, iv11_1, iv14_0, iv14_1, iv0_0, iv0_1, iv0_2, ifv17_0, iv21_0, iv21_1, ia37_0, iv23_0, iv23_1, iv22_0, iv22_1⟩
  have hR1 : RI (va_up (va_up u 8 o_u8_13) 9 o_u9_14) (va_up (va_up (va_up (va_up (va_up b_ 2 o_b2_15) 3 o_b3_16) 4 o_b4_17) 5 o_b5_18) 6 o_b6_19) bw := ⟨iu1_0, iu1_1, ib67_0, ib66_0, (show 0 ≤ o_u8_13.toInt by first | assumption | omega), (show o_u8_13.toInt ≤ 40 by first | assumption | omega), ib10_0, ib11_0, (show 0 ≤ o_u9_14.toInt by first | assumption | omega), (show o_u9_14.toInt ≤ 40 by first | assumption | omega), (show o_u8_13.toInt + o_u9_14.toInt ≤ 40 by first | assumption | omega), iu15_0, iu15_1, hlaw, ib23_0, ib20_0, ib24_0, iu7_0, iu7_1, iu41_0, iu41_1, iu48_0, iu48_1, iu46_0, iu46_1, iu47_0, iu47_1, iu55_0, iu55_1, iu55_2, iu58_0, iu62_0, iu62_1, ib63_0, iu64_0, iu64_1⟩
  have hE1 : REL (va_up (va_up (va_up v 19 o_v19_2) 2 o_v2_3) 3 o_v3_4) (va_up (va_up (va_up (va_up a 11 o_a11_5) 14 o_a14_6) 12 o_a12_7) 13 o_a13_8) w (va_up fv 14 o_fv14_9) (va_up (va_up u 8 o_u8_13) 9 o_u9_14) (va_up (va_up (va_up (va_up (va_up b_ 2 o_b2_15) 3 o_b3_16) 4 o_b4_17) 5 o_b5_18) 6 o_b6_19) bw := ⟨(show (v 1).toInt = (u 1).toInt by first | omega | assumption | exact e1), (show (v 4).toInt = (u 15).toInt by first | omega | assumption | exact e4), (show (v 21).toInt = (u 62).toInt by first | omega | assumption | exact e21), (show (v 22).toInt = (u 64).toInt by first | omega | assumption | exact e22), (show (o_fv14_9 3) = (b_ 53) 0 by exact wr_1_0.trans es14), (show (fv 17 3) = (b_ 61) 0 by first | omega | assumption | exact es17), (show ((v 0).toInt < 0 ∧ (u 54).toInt = 0) ∨ (0 ≤ (v 0).toInt ∧ (u 54).toInt ≠ 0) by first | omega | assumption | exact eim), (show ∀ j, (a 37) j = (b_ 63) j by first | omega | assumption | exact ek), (show ∀ j, (a 38) j = (b_ 65) j by first | omega | assumption | exact et), (show SH (a 28) (a 29) w (b_ 66) (b_ 67) (bw 68) (v 21) by first | omega | assumption | exact esh)⟩
  exact kk ad rv (va_up (va_up (va_up v 19 o_v19_2) 2 o_v2_3) 3 o_v3_4) (va_up (va_up (va_up (va_up a 11 o_a11_5) 14 o_a14_6) 12 o_a12_7) 13 o_a13_8) w (va_up fv 14 o_fv14_9) (va_up fp 14 o_fp14_10) bd (va_up (va_up u 8 o_u8_13) 9 o_u9_14) (va_up (va_up (va_up (va_up (va_up b_ 2 o_b2_15) 3 o_b3_16) 4 o_b4_17) 5 o_b5_18) 6 o_b6_19) bw _ _ ls rfl rfl hI1 hR1 hE1 hP hD hS hl
set_option maxHeartbeats 8000000 in
set_option maxRecDepth 100000 in
theorem lc_redo {p : Program} {e : Env} {s : State} {m : MethodId} {below : List Frame} {meth : Method} {c : Code} (l : Launch) {b L : Nat} {xs : Nat → Int32} (C0 : lw_At p s m meth c b L xs) (hL : L ≤ 3072) {D : va_G} {cs : Nat → ClassId} {fa fq : Nat → Nat} (hK : va_K D vwCl (TY cs) s) (hZ : ZS (fun q : Nat => s.heap.size ≤ q) s) {x0 y0 : Nat} {i : Int32} (hi0 : 0 ≤ i.toInt) (hiL : i.toInt + 6 ≤ (L : Int)) (ad rv : Nat → Nat) (v : Nat → Int32) (a : Nat → Nat → Int32) (w : Nat → Nat → Int64) (fv fp : Nat → Nat → Int32) (bd : Nat → Nat) (u : Nat → Int32) (b_ : Nat → Nat → Int32) (bw : Nat → Nat → Int64) (H : Heap) (locs : List Loc) (ls : Array Slot) (hl : lv_has ls 4 [(0, .ref b), (1, .ref x0), (2, .ref y0), (3, .int i)]) (hx0 : ad 0 = x0) (hy0 : bd 0 = y0) (hI : CI v a fv) (hR : RI u b_ bw) (hE : REL v a w fv u b_ bw) (hP : va_P D vwCl (CW cs ad fa fq rv v a w fv fp ++ RW cs bd u b_ bw) H) (hD : va_D (fun q : Nat => s.heap.size ≤ q) (CW cs ad fa fq rv v a w fv fp ++ RW cs bd u b_ bw)) (hS : va_S (fun q : Nat => s.heap.size ≤ q) s.heap H locs)
    (kk : ∀ (ad rv : Nat → Nat) (v : Nat → Int32) (a : Nat → Nat → Int32) (w : Nat → Nat → Int64) (fv fp : Nat → Nat → Int32) (bd : Nat → Nat) (u : Nat → Int32) (b_ : Nat → Nat → Int32) (bw : Nat → Nat → Int64) (H : Heap) (locs : List Loc) (ls : Array Slot) (hx0 : ad 0 = x0) (hy0 : bd 0 = y0) (hI : CI v a fv) (hR : RI u b_ bw) (hE : REL v a w fv u b_ bw) (hP : va_P D vwCl (CW cs ad fa fq rv v a w fv fp ++ RW cs bd u b_ bw) H) (hD : va_D (fun q : Nat => s.heap.size ≤ q) (CW cs ad fa fq rv v a w fv fp ++ RW cs bd u b_ bw)) (hS : va_S (fun q : Nat => s.heap.size ≤ q) s.heap H locs) (hl : lv_has ls 4 [(0, .ref b), (1, .ref x0), (2, .ref y0), (3, .int i)]), W p l e room_1 s m #[Value.ref b] below meth c H locs 200 9000 (lw_Z below #[Value.ref b] s) (F0 m 1387 ls [])) : W p l e room_1 s m #[Value.ref b] below meth c H locs 200 9000 (lw_Z below #[Value.ref b] s) (F0 m 984 ls []) := by
  obtain ⟨hx, hb, hr, hml, hown, hts, hX, hbl, hlocks, hgv⟩ := id C0
  have hg : ∀ w ∈ gw, w.before #[Value.ref b] s = true := fun w h => hts w (gw_in w h)
  have hbA : ¬ (fun q : Nat => s.heap.size ≤ q) b := Nat.not_le.mpr hbl
  subst hx0
  subst hy0
  obtain ⟨iv1_0, iv1_1, ia28_0, ia29_0, iv20_0, iv20_1, iv19_0, iv19_1, iv19_2, ia24_0, ia25_0, ifv14_0, iv4_0, iv4_1, ia18_0, iv24_0, iv24_1, iv25_0, iv25_1, iv25_2, iv26_0, iv26_1, ia19_0, iv5_0, iv5_1, iv6_0, iv6_1, iv6_2, iv11_0, iv11_1, iv14_0, iv14_1, iv0_0, iv0_1, iv0_2, ifv17_0, iv21_0, iv21_1, ia37_0, iv23_0, iv23_1, iv22_0, iv22_1⟩ := id hI
  obtain ⟨iu1_0, iu1_1, ib67_0, ib66_0, iu8_0, iu8_1, ib10_0, ib11_0, iu9_0, iu9_1, iu9_2, iu15_0, iu15_1, hlaw, ib23_0, ib20_0, ib24_0, iu7_0, iu7_1, iu41_0, iu41_1, iu48_0, iu48_1, iu46_0, iu46_1, iu47_0, iu47_1, iu55_0, iu55_1, iu55_2, iu58_0, iu62_0, iu62_1, ib63_0, iu64_0, iu64_1⟩ := id hR
  obtain ⟨e1, e4, e21, e22, es14, es17, eim, ek, et, esh⟩ := id hE
  obtain ⟨s1, hs1⟩ : ∃ y, xs (i + 1).toNatClampNeg = y := ⟨_, rfl⟩
  obtain ⟨s2, hs2⟩ : ∃ y, xs (i + 2).toNatClampNeg = y := ⟨_, rfl⟩
  obtain ⟨s3, hs3⟩ : ∃ y, xs (i + 3).toNatClampNeg = y := ⟨_, rfl⟩
  obtain ⟨s4, hs4⟩ : ∃ y, xs (i + 4).toNatClampNeg = y := ⟨_, rfl⟩
  obtain ⟨s5, hs5⟩ : ∃ y, xs (i + 5).toNatClampNeg = y := ⟨_, rfl⟩
  have hq1 : (i + 1).toInt = i.toInt + 1 := i_add (by show _ ≤ i.toInt + (1 : Int32).toInt; have q : (1 : Int32).toInt = 1 := rfl; omega) (by show i.toInt + (1 : Int32).toInt ≤ _; have q : (1 : Int32).toInt = 1 := rfl; omega)
  have hq2 : (i + 2).toInt = i.toInt + 2 := i_add (by show _ ≤ i.toInt + (2 : Int32).toInt; have q : (2 : Int32).toInt = 2 := rfl; omega) (by show i.toInt + (2 : Int32).toInt ≤ _; have q : (2 : Int32).toInt = 2 := rfl; omega)
  have hq3 : (i + 3).toInt = i.toInt + 3 := i_add (by show _ ≤ i.toInt + (3 : Int32).toInt; have q : (3 : Int32).toInt = 3 := rfl; omega) (by show i.toInt + (3 : Int32).toInt ≤ _; have q : (3 : Int32).toInt = 3 := rfl; omega)
  have hq4 : (i + 4).toInt = i.toInt + 4 := i_add (by show _ ≤ i.toInt + (4 : Int32).toInt; have q : (4 : Int32).toInt = 4 := rfl; omega) (by show i.toInt + (4 : Int32).toInt ≤ _; have q : (4 : Int32).toInt = 4 := rfl; omega)
  have hq5 : (i + 5).toInt = i.toInt + 5 := i_add (by show _ ≤ i.toInt + (5 : Int32).toInt; have q : (5 : Int32).toInt = 5 := rfl; omega) (by show i.toInt + (5 : Int32).toInt ≤ _; have q : (5 : Int32).toInt = 5 := rfl; omega)
  refine lv_aload_n hx hb dL_law_984 rfl (lv_at hl 1 rfl) ?_
  refine cL_i (As := []) (rest := []) ⟨hx, hb, hml, hown, hg⟩ (k_X11_redo l D cs _ ad fa fq rv v a w fv fp  iv20_0 iv20_1 iv19_0 iv19_1 iv19_2 ia24_0 ia25_0 iv1_0 iv1_1 ifv14_0) ca_X11_redo q4_108 ⟨rfl, rfl⟩ ⟨Nat.le_of_ble_eq_true rfl, Nat.le_of_ble_eq_true rfl⟩ (rc_main hK (pw_l hP)) hK hP hD hS hZ rfl hl.1 rfl (Nat.le_of_ble_eq_true rfl) ⟨Nat.le_of_ble_eq_true rfl, Nat.le_of_ble_eq_true rfl⟩ dL_law_985 (fun r_1 z_11 H locs wr_1 hP hD hS => ?_)
  obtain ⟨o_v19_2, o_v2_3, o_v3_4, o_a11_5, o_a14_6, o_a12_7, o_a13_8, o_fv14_9, o_fp14_10⟩ := z_11
  have hP : va_P D vwCl (CW cs ad fa fq rv (va_up (va_up (va_up v 19 o_v19_2) 2 o_v2_3) 3 o_v3_4) (va_up (va_up (va_up (va_up a 11 o_a11_5) 14 o_a14_6) 12 o_a12_7) 13 o_a13_8) w (va_up fv 14 o_fv14_9) (va_up fp 14 o_fp14_10) ++ RW cs bd u b_ bw) H := hP
  have hD : va_D (fun q : Nat => s.heap.size ≤ q) (CW cs ad fa fq rv (va_up (va_up (va_up v 19 o_v19_2) 2 o_v2_3) 3 o_v3_4) (va_up (va_up (va_up (va_up a 11 o_a11_5) 14 o_a14_6) 12 o_a12_7) 13 o_a13_8) w (va_up fv 14 o_fv14_9) (va_up fp 14 o_fp14_10) ++ RW cs bd u b_ bw) := hD
  obtain ⟨wr_1_0, wr_1_1, wr_1_2, wr_1_3, wr_1_4⟩ : (o_fv14_9 3 = (fv 14 3)) ∧ (0 ≤ o_v19_2.toInt) ∧ (o_v19_2.toInt ≤ 40) ∧ (o_v19_2.toInt ≤ (v 20).toInt) ∧ ((o_fv14_9 2).toInt = -2 ∨ (0 ≤ (o_fv14_9 2).toInt ∧ (o_fv14_9 2).toInt < (v 1).toInt)) := wr_1
  refine lv_pop hx hb dL_law_988 rfl ?_
  refine lv_aload_n hx hb dL_law_989 rfl (lv_at hl 2 rfl) ?_
  refine cR_i (As := []) (rest := []) ⟨hx, hb, hml, hown, hg⟩ (k_X12_redo l D cs _ bd u b_ bw  iu8_0 iu8_1 iu9_0 iu9_1 iu9_2 ib10_0 ib11_0) ca_X12_redo q5_235 ⟨rfl, rfl⟩ ⟨Nat.le_of_ble_eq_true rfl, Nat.le_of_ble_eq_true rfl⟩ (rc_model hK (pw_r hP)) hK hP hD hS hZ rfl hl.1 rfl (Nat.le_of_ble_eq_true rfl) ⟨Nat.le_of_ble_eq_true rfl, Nat.le_of_ble_eq_true rfl⟩ dL_law_990 (fun r_12 z_20 H locs wr_12 hP hD hS => ?_)
  obtain ⟨o_u8_13, o_u9_14, o_b2_15, o_b3_16, o_b4_17, o_b5_18, o_b6_19⟩ := z_20
  have hP : va_P D vwCl (CW cs ad fa fq rv (va_up (va_up (va_up v 19 o_v19_2) 2 o_v2_3) 3 o_v3_4) (va_up (va_up (va_up (va_up a 11 o_a11_5) 14 o_a14_6) 12 o_a12_7) 13 o_a13_8) w (va_up fv 14 o_fv14_9) (va_up fp 14 o_fp14_10) ++ RW cs bd (va_up (va_up u 8 o_u8_13) 9 o_u9_14) (va_up (va_up (va_up (va_up (va_up b_ 2 o_b2_15) 3 o_b3_16) 4 o_b4_17) 5 o_b5_18) 6 o_b6_19) bw) H := hP
  have hD : va_D (fun q : Nat => s.heap.size ≤ q) (CW cs ad fa fq rv (va_up (va_up (va_up v 19 o_v19_2) 2 o_v2_3) 3 o_v3_4) (va_up (va_up (va_up (va_up a 11 o_a11_5) 14 o_a14_6) 12 o_a12_7) 13 o_a13_8) w (va_up fv 14 o_fv14_9) (va_up fp 14 o_fp14_10) ++ RW cs bd (va_up (va_up u 8 o_u8_13) 9 o_u9_14) (va_up (va_up (va_up (va_up (va_up b_ 2 o_b2_15) 3 o_b3_16) 4 o_b4_17) 5 o_b5_18) 6 o_b6_19) bw) := hD
  obtain ⟨wr_12_0, wr_12_1, wr_12_2, wr_12_3, wr_12_4⟩ : (0 ≤ o_u8_13.toInt) ∧ (o_u8_13.toInt ≤ 40) ∧ (0 ≤ o_u9_14.toInt) ∧ (o_u9_14.toInt ≤ 40) ∧ (o_u8_13.toInt + o_u9_14.toInt ≤ 40) := wr_12
  refine lv_pop hx hb dL_law_993 rfl ?_
  refine lv_goto (tgt := 1387) hx hb dL_law_994 (by decide) ?_
  have hI1 : CI (va_up (va_up (va_up v 19 o_v19_2) 2 o_v2_3) 3 o_v3_4) (va_up (va_up (va_up (va_up a 11 o_a11_5) 14 o_a14_6) 12 o_a12_7) 13 o_a13_8) (va_up fv 14 o_fv14_9) := ⟨iv1_0, iv1_1, ia28_0, ia29_0, iv20_0, iv20_1, (show 0 ≤ o_v19_2.toInt by first | assumption | omega), (show o_v19_2.toInt ≤ 40 by first | assumption | omega), (show o_v19_2.toInt ≤ (v 20).toInt by first | assumption | omega), ia24_0, ia25_0, (show (o_fv14_9 2).toInt = -2 ∨ (0 ≤ (o_fv14_9 2).toInt ∧ (o_fv14_9 2).toInt < (v 1).toInt) by first | assumption | omega), iv4_0, iv4_1, ia18_0, iv24_0, iv24_1, iv25_0, iv25_1, iv25_2, iv26_0, iv26_1, ia19_0, iv5_0, iv5_1, iv6_0, iv6_1, iv6_2, iv11_0, iv11_1, iv14_0, iv14_1, iv0_0, iv0_1, iv0_2, ifv17_0, iv21_0, iv21_1, ia37_0, iv23_0, iv23_1, iv22_0, iv22_1⟩
  have hR1 : RI (va_up (va_up u 8 o_u8_13) 9 o_u9_14) (va_up (va_up (va_up (va_up (va_up b_ 2 o_b2_15) 3 o_b3_16) 4 o_b4_17) 5 o_b5_18) 6 o_b6_19) bw := ⟨iu1_0, iu1_1, ib67_0, ib66_0, (show 0 ≤ o_u8_13.toInt by first | assumption | omega), (show o_u8_13.toInt ≤ 40 by first | assumption | omega), ib10_0, ib11_0, (show 0 ≤ o_u9_14.toInt by first | assumption | omega), (show o_u9_14.toInt ≤ 40 by first | assumption | omega), (show o_u8_13.toInt + o_u9_14.toInt ≤ 40 by first | assumption | omega), iu15_0, iu15_1, hlaw, ib23_0, ib20_0, ib24_0, iu7_0, iu7_1, iu41_0, iu41_1, iu48_0, iu48_1, iu46_0, iu46_1, iu47_0, iu47_1, iu55_0, iu55_1, iu55_2, iu58_0, iu62_0, iu62_1, ib63_0, iu64_0, iu64_1⟩
  have hE1 : REL (va_up (va_up (va_up v 19 o_v19_2) 2 o_v2_3) 3 o_v3_4) (va_up (va_up (va_up (va_up a 11 o_a11_5) 14 o_a14_6) 12 o_a12_7) 13 o_a13_8) w (va_up fv 14 o_fv14_9) (va_up (va_up u 8 o_u8_13) 9 o_u9_14) (va_up (va_up (va_up (va_up (va_up b_ 2 o_b2_15) 3 o_b3_16) 4 o_b4_17) 5 o_b5_18) 6 o_b6_19) bw := ⟨(show (v 1).toInt = (u 1).toInt by first | omega | assumption | exact e1), (show (v 4).toInt = (u 15).toInt by first | omega | assumption | exact e4), (show (v 21).toInt = (u 62).toInt by first | omega | assumption | exact e21), (show (v 22).toInt = (u 64).toInt by first | omega | assumption | exact e22), (show (o_fv14_9 3) = (b_ 53) 0 by exact wr_1_0.trans es14), (show (fv 17 3) = (b_ 61) 0 by first | omega | assumption | exact es17), (show ((v 0).toInt < 0 ∧ (u 54).toInt = 0) ∨ (0 ≤ (v 0).toInt ∧ (u 54).toInt ≠ 0) by first | omega | assumption | exact eim), (show ∀ j, (a 37) j = (b_ 63) j by first | omega | assumption | exact ek), (show ∀ j, (a 38) j = (b_ 65) j by first | omega | assumption | exact et), (show SH (a 28) (a 29) w (b_ 66) (b_ 67) (bw 68) (v 21) by first | omega | assumption | exact esh)⟩
  exact kk ad rv (va_up (va_up (va_up v 19 o_v19_2) 2 o_v2_3) 3 o_v3_4) (va_up (va_up (va_up (va_up a 11 o_a11_5) 14 o_a14_6) 12 o_a12_7) 13 o_a13_8) w (va_up fv 14 o_fv14_9) (va_up fp 14 o_fp14_10) bd (va_up (va_up u 8 o_u8_13) 9 o_u9_14) (va_up (va_up (va_up (va_up (va_up b_ 2 o_b2_15) 3 o_b3_16) 4 o_b4_17) 5 o_b5_18) 6 o_b6_19) bw _ _ ls rfl rfl hI1 hR1 hE1 hP hD hS hl
set_option maxHeartbeats 8000000 in
set_option maxRecDepth 100000 in
theorem lc_body {p : Program} {e : Env} {s : State} {m : MethodId} {below : List Frame} {meth : Method} {c : Code} (l : Launch) {b L : Nat} {xs : Nat → Int32} (C0 : lw_At p s m meth c b L xs) (hL : L ≤ 3072) {D : va_G} {cs : Nat → ClassId} {fa fq : Nat → Nat} (hK : va_K D vwCl (TY cs) s) (hZ : ZS (fun q : Nat => s.heap.size ≤ q) s) {x0 y0 : Nat} {i : Int32} (hi0 : 0 ≤ i.toInt) (hiL : i.toInt + 6 ≤ (L : Int)) (ad rv : Nat → Nat) (v : Nat → Int32) (a : Nat → Nat → Int32) (w : Nat → Nat → Int64) (fv fp : Nat → Nat → Int32) (bd : Nat → Nat) (u : Nat → Int32) (b_ : Nat → Nat → Int32) (bw : Nat → Nat → Int64) (H : Heap) (locs : List Loc) (ls : Array Slot) (hl : lv_has ls 4 [(0, .ref b), (1, .ref x0), (2, .ref y0), (3, .int i)]) (hx0 : ad 0 = x0) (hy0 : bd 0 = y0) (hI : CI v a fv) (hR : RI u b_ bw) (hE : REL v a w fv u b_ bw) (hP : va_P D vwCl (CW cs ad fa fq rv v a w fv fp ++ RW cs bd u b_ bw) H) (hD : va_D (fun q : Nat => s.heap.size ≤ q) (CW cs ad fa fq rv v a w fv fp ++ RW cs bd u b_ bw)) (hS : va_S (fun q : Nat => s.heap.size ≤ q) s.heap H locs)
    (kk : ∀ (ad rv : Nat → Nat) (v : Nat → Int32) (a : Nat → Nat → Int32) (w : Nat → Nat → Int64) (fv fp : Nat → Nat → Int32) (bd : Nat → Nat) (u : Nat → Int32) (b_ : Nat → Nat → Int32) (bw : Nat → Nat → Int64) (H : Heap) (locs : List Loc) (ls : Array Slot) (hx0 : ad 0 = x0) (hy0 : bd 0 = y0) (hI : CI v a fv) (hR : RI u b_ bw) (hE : REL v a w fv u b_ bw) (hP : va_P D vwCl (CW cs ad fa fq rv v a w fv fp ++ RW cs bd u b_ bw) H) (hD : va_D (fun q : Nat => s.heap.size ≤ q) (CW cs ad fa fq rv v a w fv fp ++ RW cs bd u b_ bw)) (hS : va_S (fun q : Nat => s.heap.size ≤ q) s.heap H locs) (hl : lv_has ls 4 [(0, .ref b), (1, .ref x0), (2, .ref y0), (3, .int i)]), W p l e room_1 s m #[Value.ref b] below meth c H locs 200 9000 (lw_Z below #[Value.ref b] s) (F0 m 1387 ls [])) : W p l e room_1 s m #[Value.ref b] below meth c H locs 200 9000 (lw_Z below #[Value.ref b] s) (F0 m 997 ls []) := by
  obtain ⟨hx, hb, hr, hml, hown, hts, hX, hbl, hlocks, hgv⟩ := id C0
  have hg : ∀ w ∈ gw, w.before #[Value.ref b] s = true := fun w h => hts w (gw_in w h)
  have hbA : ¬ (fun q : Nat => s.heap.size ≤ q) b := Nat.not_le.mpr hbl
  subst hx0
  subst hy0
  obtain ⟨iv1_0, iv1_1, ia28_0, ia29_0, iv20_0, iv20_1, iv19_0, iv19_1, iv19_2, ia24_0, ia25_0, ifv14_0, iv4_0, iv4_1, ia18_0, iv24_0, iv24_1, iv25_0, iv25_1, iv25_2, iv26_0, iv26_1, ia19_0, iv5_0, iv5_1, iv6_0, iv6_1, iv6_2, iv11_0, iv11_1, iv14_0, iv14_1, iv0_0, iv0_1, iv0_2, ifv17_0, iv21_0, iv21_1, ia37_0, iv23_0, iv23_1, iv22_0, iv22_1⟩ := id hI
  obtain ⟨iu1_0, iu1_1, ib67_0, ib66_0, iu8_0, iu8_1, ib10_0, ib11_0, iu9_0, iu9_1, iu9_2, iu15_0, iu15_1, hlaw, ib23_0, ib20_0, ib24_0, iu7_0, iu7_1, iu41_0, iu41_1, iu48_0, iu48_1, iu46_0, iu46_1, iu47_0, iu47_1, iu55_0, iu55_1, iu55_2, iu58_0, iu62_0, iu62_1, ib63_0, iu64_0, iu64_1⟩ := id hR
  obtain ⟨e1, e4, e21, e22, es14, es17, eim, ek, et, esh⟩ := id hE
  obtain ⟨s1, hs1⟩ : ∃ y, xs (i + 1).toNatClampNeg = y := ⟨_, rfl⟩
  obtain ⟨s2, hs2⟩ : ∃ y, xs (i + 2).toNatClampNeg = y := ⟨_, rfl⟩
  obtain ⟨s3, hs3⟩ : ∃ y, xs (i + 3).toNatClampNeg = y := ⟨_, rfl⟩
  obtain ⟨s4, hs4⟩ : ∃ y, xs (i + 4).toNatClampNeg = y := ⟨_, rfl⟩
  obtain ⟨s5, hs5⟩ : ∃ y, xs (i + 5).toNatClampNeg = y := ⟨_, rfl⟩
  have hq1 : (i + 1).toInt = i.toInt + 1 := i_add (by show _ ≤ i.toInt + (1 : Int32).toInt; have q : (1 : Int32).toInt = 1 := rfl; omega) (by show i.toInt + (1 : Int32).toInt ≤ _; have q : (1 : Int32).toInt = 1 := rfl; omega)
  have hq2 : (i + 2).toInt = i.toInt + 2 := i_add (by show _ ≤ i.toInt + (2 : Int32).toInt; have q : (2 : Int32).toInt = 2 := rfl; omega) (by show i.toInt + (2 : Int32).toInt ≤ _; have q : (2 : Int32).toInt = 2 := rfl; omega)
  have hq3 : (i + 3).toInt = i.toInt + 3 := i_add (by show _ ≤ i.toInt + (3 : Int32).toInt; have q : (3 : Int32).toInt = 3 := rfl; omega) (by show i.toInt + (3 : Int32).toInt ≤ _; have q : (3 : Int32).toInt = 3 := rfl; omega)
  have hq4 : (i + 4).toInt = i.toInt + 4 := i_add (by show _ ≤ i.toInt + (4 : Int32).toInt; have q : (4 : Int32).toInt = 4 := rfl; omega) (by show i.toInt + (4 : Int32).toInt ≤ _; have q : (4 : Int32).toInt = 4 := rfl; omega)
  have hq5 : (i + 5).toInt = i.toInt + 5 := i_add (by show _ ≤ i.toInt + (5 : Int32).toInt; have q : (5 : Int32).toInt = 5 := rfl; omega) (by show i.toInt + (5 : Int32).toInt ≤ _; have q : (5 : Int32).toInt = 5 := rfl; omega)
  refine lv_aload_n hx hb dL_law_997 rfl (lv_at hl 1 rfl) ?_
  refine lv_aload_n hx hb dL_law_998 rfl (lv_at hl 0 rfl) ?_
  refine lv_iload_n hx hb dL_law_999 rfl (lv_at hl 3 rfl) ?_
  refine lv_iconst (v := 1) hx hb dL_law_1000 (by decide) ?_
  refine lv_iadd hx hb dL_law_1001 ?_
  refine va_sld hx hb hX hbl hbA hS (i_in (by omega) (by omega)) dL_law_1002 ?_
  rw [hs1]
  refine cL_i (As := [.int s1]) (rest := []) ⟨hx, hb, hml, hown, hg⟩ (k_X11_body l D cs _ ad fa fq rv v a w fv fp s1 iv21_0 iv21_1 ia37_0) ca_X11_body q4_112 ⟨rfl, rfl⟩ ⟨Nat.le_of_ble_eq_true rfl, Nat.le_of_ble_eq_true rfl⟩ (rc_main hK (pw_l hP)) hK hP hD hS hZ rfl hl.1 rfl (Nat.le_of_ble_eq_true rfl) ⟨Nat.le_of_ble_eq_true rfl, Nat.le_of_ble_eq_true rfl⟩ dL_law_1003 (fun r_1 z_4 H locs wr_1 hP hD hS => ?_)
  obtain ⟨o_v21_2, o_a37_3⟩ := z_4
  have hP : va_P D vwCl (CW cs ad fa fq rv (va_up v 21 o_v21_2) (va_up a 37 o_a37_3) w fv fp ++ RW cs bd u b_ bw) H := hP
  have hD : va_D (fun q : Nat => s.heap.size ≤ q) (CW cs ad fa fq rv (va_up v 21 o_v21_2) (va_up a 37 o_a37_3) w fv fp ++ RW cs bd u b_ bw) := hD
  obtain ⟨wr_1_0, wr_1_1, wr_1_2, wr_1_3, wr_1_4⟩ : (((0 ≤ s1.toInt ∧ s1.toInt ≤ 7) ∧ (v 21).toInt < 50 ∧ r_1.toInt = (v 21).toInt ∧ o_v21_2.toInt = (v 21).toInt + 1) ∨ ((0 ≤ s1.toInt ∧ s1.toInt ≤ 7) ∧ (v 21).toInt = 50 ∧ r_1.toInt = -3 ∧ o_v21_2.toInt = (v 21).toInt) ∨ (¬ (0 ≤ s1.toInt ∧ s1.toInt ≤ 7) ∧ r_1.toInt = -1 ∧ o_v21_2.toInt = (v 21).toInt)) ∧ ((((0 ≤ s1.toInt ∧ s1.toInt ≤ 7) ∧ (v 21).toInt < 50) ∧ o_a37_3 = upd (a 37) (v 21).toNatClampNeg s1) ∨ (¬ ((0 ≤ s1.toInt ∧ s1.toInt ≤ 7) ∧ (v 21).toInt < 50) ∧ o_a37_3 = (a 37))) ∧ (0 ≤ o_v21_2.toInt) ∧ (o_v21_2.toInt ≤ 50) ∧ (AB 0 7 o_a37_3) := wr_1
  refine lv_pop hx hb dL_law_1006 rfl ?_
  refine lv_aload_n hx hb dL_law_1007 rfl (lv_at hl 2 rfl) ?_
  refine lv_aload_n hx hb dL_law_1008 rfl (lv_at hl 0 rfl) ?_
  refine lv_iload_n hx hb dL_law_1009 rfl (lv_at hl 3 rfl) ?_
  refine lv_iconst (v := 1) hx hb dL_law_1010 (by decide) ?_
  refine lv_iadd hx hb dL_law_1011 ?_
  refine va_sld hx hb hX hbl hbA hS (i_in (by omega) (by omega)) dL_law_1012 ?_
  rw [hs1]
  refine cR_i (As := [.int s1]) (rest := []) ⟨hx, hb, hml, hown, hg⟩ (k_X12_body l D cs _ bd u b_ bw s1 iu62_0 iu62_1 ib63_0) ca_X12_body q7_36 ⟨rfl, rfl⟩ ⟨Nat.le_of_ble_eq_true rfl, Nat.le_of_ble_eq_true rfl⟩ (rc_model hK (pw_r hP)) hK hP hD hS hZ rfl hl.1 rfl (Nat.le_of_ble_eq_true rfl) ⟨Nat.le_of_ble_eq_true rfl, Nat.le_of_ble_eq_true rfl⟩ dL_law_1013 (fun r_5 z_8 H locs wr_5 hP hD hS => ?_)
  obtain ⟨o_u62_6, o_b63_7⟩ := z_8
  have hP : va_P D vwCl (CW cs ad fa fq rv (va_up v 21 o_v21_2) (va_up a 37 o_a37_3) w fv fp ++ RW cs bd (va_up u 62 o_u62_6) (va_up b_ 63 o_b63_7) bw) H := hP
  have hD : va_D (fun q : Nat => s.heap.size ≤ q) (CW cs ad fa fq rv (va_up v 21 o_v21_2) (va_up a 37 o_a37_3) w fv fp ++ RW cs bd (va_up u 62 o_u62_6) (va_up b_ 63 o_b63_7) bw) := hD
  obtain ⟨wr_5_0, wr_5_1, wr_5_2, wr_5_3, wr_5_4⟩ : (((0 ≤ s1.toInt ∧ s1.toInt ≤ 7) ∧ (u 62).toInt < 50 ∧ r_5.toInt = (u 62).toInt ∧ o_u62_6.toInt = (u 62).toInt + 1) ∨ ((0 ≤ s1.toInt ∧ s1.toInt ≤ 7) ∧ (u 62).toInt = 50 ∧ r_5.toInt = -3 ∧ o_u62_6.toInt = (u 62).toInt) ∨ (¬ (0 ≤ s1.toInt ∧ s1.toInt ≤ 7) ∧ r_5.toInt = -1 ∧ o_u62_6.toInt = (u 62).toInt)) ∧ ((((0 ≤ s1.toInt ∧ s1.toInt ≤ 7) ∧ (u 62).toInt < 50) ∧ o_b63_7 = upd (b_ 63) (u 62).toNatClampNeg s1) ∨ (¬ ((0 ≤ s1.toInt ∧ s1.toInt ≤ 7) ∧ (u 62).toInt < 50) ∧ o_b63_7 = (b_ 63))) ∧ (0 ≤ o_u62_6.toInt) ∧ (o_u62_6.toInt ≤ 50) ∧ (AB 0 7 o_b63_7) := wr_5
  have hkb : ∀ j, o_a37_3 j = o_b63_7 j := by
    rcases wr_1_1 with ⟨a0, a1⟩ | ⟨a0, a1⟩ <;> rcases wr_5_1 with ⟨b0, b1⟩ | ⟨b0, b1⟩
    · rw [a1, b1, show (u 62).toNatClampNeg = (v 21).toNatClampNeg from by (show (u 62).toInt.toNat = (v 21).toInt.toNat; omega)]; intro j; unfold upd; rw [ek j]
    · exfalso; omega
    · exfalso; omega
    · rw [a1, b1]; exact ek
  refine lv_pop hx hb dL_law_1016 rfl ?_
  refine lv_goto (tgt := 1387) hx hb dL_law_1017 (by decide) ?_
  have hI1 : CI (va_up v 21 o_v21_2) (va_up a 37 o_a37_3) fv := ⟨iv1_0, iv1_1, ia28_0, ia29_0, iv20_0, iv20_1, iv19_0, iv19_1, iv19_2, ia24_0, ia25_0, ifv14_0, iv4_0, iv4_1, ia18_0, iv24_0, iv24_1, iv25_0, iv25_1, iv25_2, iv26_0, iv26_1, ia19_0, iv5_0, iv5_1, iv6_0, iv6_1, iv6_2, iv11_0, iv11_1, iv14_0, iv14_1, iv0_0, iv0_1, iv0_2, ifv17_0, (show 0 ≤ o_v21_2.toInt by first | assumption | omega), (show o_v21_2.toInt ≤ 50 by first | assumption | omega), wr_1_4, iv23_0, iv23_1, iv22_0, iv22_1⟩
  have hR1 : RI (va_up u 62 o_u62_6) (va_up b_ 63 o_b63_7) bw := ⟨iu1_0, iu1_1, ib67_0, ib66_0, iu8_0, iu8_1, ib10_0, ib11_0, iu9_0, iu9_1, iu9_2, iu15_0, iu15_1, hlaw, ib23_0, ib20_0, ib24_0, iu7_0, iu7_1, iu41_0, iu41_1, iu48_0, iu48_1, iu46_0, iu46_1, iu47_0, iu47_1, iu55_0, iu55_1, iu55_2, iu58_0, (show 0 ≤ o_u62_6.toInt by first | assumption | omega), (show o_u62_6.toInt ≤ 50 by first | assumption | omega), wr_5_4, iu64_0, iu64_1⟩
  have hE1 : REL (va_up v 21 o_v21_2) (va_up a 37 o_a37_3) w fv (va_up u 62 o_u62_6) (va_up b_ 63 o_b63_7) bw := ⟨(show (v 1).toInt = (u 1).toInt by first | omega | assumption | exact e1), (show (v 4).toInt = (u 15).toInt by first | omega | assumption | exact e4), (show (o_v21_2).toInt = (o_u62_6).toInt by first | omega | assumption | exact e21), (show (v 22).toInt = (u 64).toInt by first | omega | assumption | exact e22), (show (fv 14 3) = (b_ 53) 0 by first | omega | assumption | exact es14), (show (fv 17 3) = (b_ 61) 0 by first | omega | assumption | exact es17), (show ((v 0).toInt < 0 ∧ (u 54).toInt = 0) ∨ (0 ≤ (v 0).toInt ∧ (u 54).toInt ≠ 0) by first | omega | assumption | exact eim), (show ∀ j, o_a37_3 j = o_b63_7 j by first | (exact hkb) | first | omega | assumption | exact ek), (show ∀ j, (a 38) j = (b_ 65) j by first | omega | assumption | exact et), (show SH (a 28) (a 29) w (b_ 66) (b_ 67) (bw 68) o_v21_2 by first | (exact SH_mono esh (by omega)) | first | omega | assumption | exact esh)⟩
  exact kk ad rv (va_up v 21 o_v21_2) (va_up a 37 o_a37_3) w fv fp bd (va_up u 62 o_u62_6) (va_up b_ 63 o_b63_7) bw _ _ ls rfl rfl hI1 hR1 hE1 hP hD hS hl
set_option maxHeartbeats 8000000 in
set_option maxRecDepth 100000 in
theorem lc_act {p : Program} {e : Env} {s : State} {m : MethodId} {below : List Frame} {meth : Method} {c : Code} (l : Launch) {b L : Nat} {xs : Nat → Int32} (C0 : lw_At p s m meth c b L xs) (hL : L ≤ 3072) {D : va_G} {cs : Nat → ClassId} {fa fq : Nat → Nat} (hK : va_K D vwCl (TY cs) s) (hZ : ZS (fun q : Nat => s.heap.size ≤ q) s) {x0 y0 : Nat} {i : Int32} (hi0 : 0 ≤ i.toInt) (hiL : i.toInt + 6 ≤ (L : Int)) (ad rv : Nat → Nat) (v : Nat → Int32) (a : Nat → Nat → Int32) (w : Nat → Nat → Int64) (fv fp : Nat → Nat → Int32) (bd : Nat → Nat) (u : Nat → Int32) (b_ : Nat → Nat → Int32) (bw : Nat → Nat → Int64) (H : Heap) (locs : List Loc) (ls : Array Slot) (hl : lv_has ls 4 [(0, .ref b), (1, .ref x0), (2, .ref y0), (3, .int i)]) (hx0 : ad 0 = x0) (hy0 : bd 0 = y0) (hI : CI v a fv) (hR : RI u b_ bw) (hE : REL v a w fv u b_ bw) (hP : va_P D vwCl (CW cs ad fa fq rv v a w fv fp ++ RW cs bd u b_ bw) H) (hD : va_D (fun q : Nat => s.heap.size ≤ q) (CW cs ad fa fq rv v a w fv fp ++ RW cs bd u b_ bw)) (hS : va_S (fun q : Nat => s.heap.size ≤ q) s.heap H locs)
    (kk : ∀ (ad rv : Nat → Nat) (v : Nat → Int32) (a : Nat → Nat → Int32) (w : Nat → Nat → Int64) (fv fp : Nat → Nat → Int32) (bd : Nat → Nat) (u : Nat → Int32) (b_ : Nat → Nat → Int32) (bw : Nat → Nat → Int64) (H : Heap) (locs : List Loc) (ls : Array Slot) (hx0 : ad 0 = x0) (hy0 : bd 0 = y0) (hI : CI v a fv) (hR : RI u b_ bw) (hE : REL v a w fv u b_ bw) (hP : va_P D vwCl (CW cs ad fa fq rv v a w fv fp ++ RW cs bd u b_ bw) H) (hD : va_D (fun q : Nat => s.heap.size ≤ q) (CW cs ad fa fq rv v a w fv fp ++ RW cs bd u b_ bw)) (hS : va_S (fun q : Nat => s.heap.size ≤ q) s.heap H locs) (hl : lv_has ls 4 [(0, .ref b), (1, .ref x0), (2, .ref y0), (3, .int i)]), W p l e room_1 s m #[Value.ref b] below meth c H locs 200 9000 (lw_Z below #[Value.ref b] s) (F0 m 1387 ls [])) : W p l e room_1 s m #[Value.ref b] below meth c H locs 200 9000 (lw_Z below #[Value.ref b] s) (F0 m 1020 ls []) := by
  obtain ⟨hx, hb, hr, hml, hown, hts, hX, hbl, hlocks, hgv⟩ := id C0
  have hg : ∀ w ∈ gw, w.before #[Value.ref b] s = true := fun w h => hts w (gw_in w h)
  have hbA : ¬ (fun q : Nat => s.heap.size ≤ q) b := Nat.not_le.mpr hbl
  subst hx0
  subst hy0
  obtain ⟨iv1_0, iv1_1, ia28_0, ia29_0, iv20_0, iv20_1, iv19_0, iv19_1, iv19_2, ia24_0, ia25_0, ifv14_0, iv4_0, iv4_1, ia18_0, iv24_0, iv24_1, iv25_0, iv25_1, iv25_2, iv26_0, iv26_1, ia19_0, iv5_0, iv5_1, iv6_0, iv6_1, iv6_2, iv11_0, iv11_1, iv14_0, iv14_1, iv0_0, iv0_1, iv0_2, ifv17_0, iv21_0, iv21_1, ia37_0, iv23_0, iv23_1, iv22_0, iv22_1⟩ := id hI
  obtain ⟨iu1_0, iu1_1, ib67_0, ib66_0, iu8_0, iu8_1, ib10_0, ib11_0, iu9_0, iu9_1, iu9_2, iu15_0, iu15_1, hlaw, ib23_0, ib20_0, ib24_0, iu7_0, iu7_1, iu41_0, iu41_1, iu48_0, iu48_1, iu46_0, iu46_1, iu47_0, iu47_1, iu55_0, iu55_1, iu55_2, iu58_0, iu62_0, iu62_1, ib63_0, iu64_0, iu64_1⟩ := id hR
  obtain ⟨e1, e4, e21, e22, es14, es17, eim, ek, et, esh⟩ := id hE
  obtain ⟨s1, hs1⟩ : ∃ y, xs (i + 1).toNatClampNeg = y := ⟨_, rfl⟩
  obtain ⟨s2, hs2⟩ : ∃ y, xs (i + 2).toNatClampNeg = y := ⟨_, rfl⟩
  obtain ⟨s3, hs3⟩ : ∃ y, xs (i + 3).toNatClampNeg = y := ⟨_, rfl⟩
  obtain ⟨s4, hs4⟩ : ∃ y, xs (i + 4).toNatClampNeg = y := ⟨_, rfl⟩
  obtain ⟨s5, hs5⟩ : ∃ y, xs (i + 5).toNatClampNeg = y := ⟨_, rfl⟩
  have hq1 : (i + 1).toInt = i.toInt + 1 := i_add (by show _ ≤ i.toInt + (1 : Int32).toInt; have q : (1 : Int32).toInt = 1 := rfl; omega) (by show i.toInt + (1 : Int32).toInt ≤ _; have q : (1 : Int32).toInt = 1 := rfl; omega)
  have hq2 : (i + 2).toInt = i.toInt + 2 := i_add (by show _ ≤ i.toInt + (2 : Int32).toInt; have q : (2 : Int32).toInt = 2 := rfl; omega) (by show i.toInt + (2 : Int32).toInt ≤ _; have q : (2 : Int32).toInt = 2 := rfl; omega)
  have hq3 : (i + 3).toInt = i.toInt + 3 := i_add (by show _ ≤ i.toInt + (3 : Int32).toInt; have q : (3 : Int32).toInt = 3 := rfl; omega) (by show i.toInt + (3 : Int32).toInt ≤ _; have q : (3 : Int32).toInt = 3 := rfl; omega)
  have hq4 : (i + 4).toInt = i.toInt + 4 := i_add (by show _ ≤ i.toInt + (4 : Int32).toInt; have q : (4 : Int32).toInt = 4 := rfl; omega) (by show i.toInt + (4 : Int32).toInt ≤ _; have q : (4 : Int32).toInt = 4 := rfl; omega)
  have hq5 : (i + 5).toInt = i.toInt + 5 := i_add (by show _ ≤ i.toInt + (5 : Int32).toInt; have q : (5 : Int32).toInt = 5 := rfl; omega) (by show i.toInt + (5 : Int32).toInt ≤ _; have q : (5 : Int32).toInt = 5 := rfl; omega)
  refine lv_aload_n hx hb dL_law_1020 rfl (lv_at hl 1 rfl) ?_
  refine lv_aload_n hx hb dL_law_1021 rfl (lv_at hl 0 rfl) ?_
  refine lv_iload_n hx hb dL_law_1022 rfl (lv_at hl 3 rfl) ?_
  refine lv_iconst (v := 1) hx hb dL_law_1023 (by decide) ?_
  refine lv_iadd hx hb dL_law_1024 ?_
  refine va_sld hx hb hX hbl hbA hS (i_in (by omega) (by omega)) dL_law_1025 ?_
  rw [hs1]
  refine lv_aload_n hx hb dL_law_1026 rfl (lv_at hl 0 rfl) ?_
  refine lv_iload_n hx hb dL_law_1027 rfl (lv_at hl 3 rfl) ?_
  refine lv_iconst (v := 2) hx hb dL_law_1028 (by decide) ?_
  refine lv_iadd hx hb dL_law_1029 ?_
  refine va_sld hx hb hX hbl hbA hS (i_in (by omega) (by omega)) dL_law_1030 ?_
  rw [hs2]
  refine lv_aload_n hx hb dL_law_1031 rfl (lv_at hl 0 rfl) ?_
  refine lv_iload_n hx hb dL_law_1032 rfl (lv_at hl 3 rfl) ?_
  refine lv_iconst (v := 3) hx hb dL_law_1033 (by decide) ?_
  refine lv_iadd hx hb dL_law_1034 ?_
  refine va_sld hx hb hX hbl hbA hS (i_in (by omega) (by omega)) dL_law_1035 ?_
  rw [hs3]
  refine cL_i (As := [.int s1, .int s2, .int s3]) (rest := []) ⟨hx, hb, hml, hown, hg⟩ (k_X11_act l D cs _ ad fa fq rv v a w fv fp s1 s2 s3 iv21_0 iv21_1 iv23_0 iv23_1 ia37_0 iv22_0 iv22_1) ca_X11_act q4_123 ⟨rfl, rfl⟩ ⟨Nat.le_of_ble_eq_true rfl, Nat.le_of_ble_eq_true rfl⟩ (rc_main hK (pw_l hP)) hK hP hD hS hZ rfl hl.1 rfl (Nat.le_of_ble_eq_true rfl) ⟨Nat.le_of_ble_eq_true rfl, Nat.le_of_ble_eq_true rfl⟩ dL_law_1036 (fun r_1 z_5 H locs wr_1 hP hD hS => ?_)
  obtain ⟨o_v22_2, o_v23_3, o_a38_4⟩ := z_5
  have hP : va_P D vwCl (CW cs ad fa fq rv (va_up (va_up v 22 o_v22_2) 23 o_v23_3) (va_up a 38 o_a38_4) w fv fp ++ RW cs bd u b_ bw) H := hP
  have hD : va_D (fun q : Nat => s.heap.size ≤ q) (CW cs ad fa fq rv (va_up (va_up v 22 o_v22_2) 23 o_v23_3) (va_up a 38 o_a38_4) w fv fp ++ RW cs bd u b_ bw) := hD
  obtain ⟨wr_1_0, wr_1_1, wr_1_2, wr_1_3, wr_1_4⟩ : ((¬ ((0 ≤ s1.toInt ∧ s1.toInt < (v 21).toInt) ∧ 0 ≤ s2.toInt ∧ s2.toInt ≤ 3) ∧ r_1.toInt = 0 ∧ o_v22_2.toInt = 0 ∧ o_a38_4 = (a 38)) ∨ (((0 ≤ s1.toInt ∧ s1.toInt < (v 21).toInt) ∧ 0 ≤ s2.toInt ∧ s2.toInt ≤ 3) ∧ r_1 = AV ((a 37) s1.toNatClampNeg).toInt.toNat s2.toInt.toNat s3 s1 ∧ o_v22_2.toInt = ((AL ((a 37) s1.toNatClampNeg).toInt.toNat s2.toInt.toNat).length : Int) ∧ o_a38_4 = TRW (a 38) 0 (AL ((a 37) s1.toNatClampNeg).toInt.toNat s2.toInt.toNat))) ∧ (0 ≤ o_v22_2.toInt) ∧ (o_v22_2.toInt ≤ 1000) ∧ (0 ≤ o_v23_3.toInt) ∧ (o_v23_3.toInt ≤ 49) := wr_1
  refine lv_pop hx hb dL_law_1039 rfl ?_
  refine lv_aload_n hx hb dL_law_1040 rfl (lv_at hl 2 rfl) ?_
  refine lv_aload_n hx hb dL_law_1041 rfl (lv_at hl 0 rfl) ?_
  refine lv_iload_n hx hb dL_law_1042 rfl (lv_at hl 3 rfl) ?_
  refine lv_iconst (v := 1) hx hb dL_law_1043 (by decide) ?_
  refine lv_iadd hx hb dL_law_1044 ?_
  refine va_sld hx hb hX hbl hbA hS (i_in (by omega) (by omega)) dL_law_1045 ?_
  rw [hs1]
  refine lv_aload_n hx hb dL_law_1046 rfl (lv_at hl 0 rfl) ?_
  refine lv_iload_n hx hb dL_law_1047 rfl (lv_at hl 3 rfl) ?_
  refine lv_iconst (v := 2) hx hb dL_law_1048 (by decide) ?_
  refine lv_iadd hx hb dL_law_1049 ?_
  refine va_sld hx hb hX hbl hbA hS (i_in (by omega) (by omega)) dL_law_1050 ?_
  rw [hs2]
  refine lv_aload_n hx hb dL_law_1051 rfl (lv_at hl 0 rfl) ?_
  refine lv_iload_n hx hb dL_law_1052 rfl (lv_at hl 3 rfl) ?_
  refine lv_iconst (v := 3) hx hb dL_law_1053 (by decide) ?_
  refine lv_iadd hx hb dL_law_1054 ?_
  refine va_sld hx hb hX hbl hbA hS (i_in (by omega) (by omega)) dL_law_1055 ?_
  rw [hs3]
  refine cR_i (As := [.int s1, .int s2, .int s3]) (rest := []) ⟨hx, hb, hml, hown, hg⟩ (k_X12_act l D cs _ bd u b_ bw s1 s2 s3 iu62_0 iu62_1 ib63_0) ca_X12_act q7_40 ⟨rfl, rfl⟩ ⟨Nat.le_of_ble_eq_true rfl, Nat.le_of_ble_eq_true rfl⟩ (rc_model hK (pw_r hP)) hK hP hD hS hZ rfl hl.1 rfl (Nat.le_of_ble_eq_true rfl) ⟨Nat.le_of_ble_eq_true rfl, Nat.le_of_ble_eq_true rfl⟩ dL_law_1056 (fun r_6 z_9 H locs wr_6 hP hD hS => ?_)
  obtain ⟨o_u64_7, o_b65_8⟩ := z_9
  have hP : va_P D vwCl (CW cs ad fa fq rv (va_up (va_up v 22 o_v22_2) 23 o_v23_3) (va_up a 38 o_a38_4) w fv fp ++ RW cs bd (va_up u 64 o_u64_7) (va_up b_ 65 o_b65_8) bw) H := hP
  have hD : va_D (fun q : Nat => s.heap.size ≤ q) (CW cs ad fa fq rv (va_up (va_up v 22 o_v22_2) 23 o_v23_3) (va_up a 38 o_a38_4) w fv fp ++ RW cs bd (va_up u 64 o_u64_7) (va_up b_ 65 o_b65_8) bw) := hD
  obtain ⟨wr_6_0, wr_6_1, wr_6_2⟩ : ((¬ ((0 ≤ s1.toInt ∧ s1.toInt < (u 62).toInt) ∧ 0 ≤ s2.toInt ∧ s2.toInt ≤ 3) ∧ r_6.toInt = 0 ∧ o_u64_7.toInt = 0 ∧ o_b65_8 = (b_ 65)) ∨ (((0 ≤ s1.toInt ∧ s1.toInt < (u 62).toInt) ∧ 0 ≤ s2.toInt ∧ s2.toInt ≤ 3) ∧ r_6 = AV ((b_ 63) s1.toNatClampNeg).toInt.toNat s2.toInt.toNat s3 s1 ∧ o_u64_7.toInt = ((AL ((b_ 63) s1.toNatClampNeg).toInt.toNat s2.toInt.toNat).length : Int) ∧ o_b65_8 = TRW (b_ 65) 0 (AL ((b_ 63) s1.toNatClampNeg).toInt.toNat s2.toInt.toNat))) ∧ (0 ≤ o_u64_7.toInt) ∧ (o_u64_7.toInt ≤ 1000) := wr_6
  have hac : r_1.toInt = r_6.toInt ∧ o_v22_2.toInt = o_u64_7.toInt ∧ (∀ j, o_a38_4 j = o_b65_8 j) := by
    rcases wr_1_0 with ⟨a0, a1, a2, a3⟩ | ⟨a0, a1, a2, a3⟩ <;> rcases wr_6_0 with ⟨b0, b1, b2, b3⟩ | ⟨b0, b1, b2, b3⟩
    · exact ⟨by omega, by omega, by rw [a3, b3]; exact et⟩
    · exfalso; omega
    · exfalso; omega
    · rw [← ek] at b1 b2 b3; exact ⟨by rw [a1, b1], by rw [a2, b2], by rw [a3, b3]; exact TRW_c _ _ _ _ et⟩
  refine lv_pop hx hb dL_law_1059 rfl ?_
  refine lv_goto (tgt := 1387) hx hb dL_law_1060 (by decide) ?_
  have hI1 : CI (va_up (va_up v 22 o_v22_2) 23 o_v23_3) (va_up a 38 o_a38_4) fv := ⟨iv1_0, iv1_1, ia28_0, ia29_0, iv20_0, iv20_1, iv19_0, iv19_1, iv19_2, ia24_0, ia25_0, ifv14_0, iv4_0, iv4_1, ia18_0, iv24_0, iv24_1, iv25_0, iv25_1, iv25_2, iv26_0, iv26_1, ia19_0, iv5_0, iv5_1, iv6_0, iv6_1, iv6_2, iv11_0, iv11_1, iv14_0, iv14_1, iv0_0, iv0_1, iv0_2, ifv17_0, iv21_0, iv21_1, ia37_0, (show 0 ≤ o_v23_3.toInt by first | assumption | omega), (show o_v23_3.toInt ≤ 49 by first | assumption | omega), (show 0 ≤ o_v22_2.toInt by first | assumption | omega), (show o_v22_2.toInt ≤ 1000 by first | assumption | omega)⟩
  have hR1 : RI (va_up u 64 o_u64_7) (va_up b_ 65 o_b65_8) bw := ⟨iu1_0, iu1_1, ib67_0, ib66_0, iu8_0, iu8_1, ib10_0, ib11_0, iu9_0, iu9_1, iu9_2, iu15_0, iu15_1, hlaw, ib23_0, ib20_0, ib24_0, iu7_0, iu7_1, iu41_0, iu41_1, iu48_0, iu48_1, iu46_0, iu46_1, iu47_0, iu47_1, iu55_0, iu55_1, iu55_2, iu58_0, iu62_0, iu62_1, ib63_0, (show 0 ≤ o_u64_7.toInt by first | assumption | omega), (show o_u64_7.toInt ≤ 1000 by first | assumption | omega)⟩
  have hE1 : REL (va_up (va_up v 22 o_v22_2) 23 o_v23_3) (va_up a 38 o_a38_4) w fv (va_up u 64 o_u64_7) (va_up b_ 65 o_b65_8) bw := ⟨(show (v 1).toInt = (u 1).toInt by first | omega | assumption | exact e1), (show (v 4).toInt = (u 15).toInt by first | omega | assumption | exact e4), (show (v 21).toInt = (u 62).toInt by first | omega | assumption | exact e21), (show (o_v22_2).toInt = (o_u64_7).toInt by first | (exact hac.2.1) | first | omega | assumption | exact e22), (show (fv 14 3) = (b_ 53) 0 by first | omega | assumption | exact es14), (show (fv 17 3) = (b_ 61) 0 by first | omega | assumption | exact es17), (show ((v 0).toInt < 0 ∧ (u 54).toInt = 0) ∨ (0 ≤ (v 0).toInt ∧ (u 54).toInt ≠ 0) by first | omega | assumption | exact eim), (show ∀ j, (a 37) j = (b_ 63) j by first | omega | assumption | exact ek), (show ∀ j, o_a38_4 j = o_b65_8 j by first | (exact hac.2.2) | first | omega | assumption | exact et), (show SH (a 28) (a 29) w (b_ 66) (b_ 67) (bw 68) (v 21) by first | omega | assumption | exact esh)⟩
  exact kk ad rv (va_up (va_up v 22 o_v22_2) 23 o_v23_3) (va_up a 38 o_a38_4) w fv fp bd (va_up u 64 o_u64_7) (va_up b_ 65 o_b65_8) bw _ _ ls rfl rfl hI1 hR1 hE1 hP hD hS hl
set_option maxHeartbeats 8000000 in
set_option maxRecDepth 100000 in
theorem lc_trace {p : Program} {e : Env} {s : State} {m : MethodId} {below : List Frame} {meth : Method} {c : Code} (l : Launch) {b L : Nat} {xs : Nat → Int32} (C0 : lw_At p s m meth c b L xs) (hL : L ≤ 3072) {D : va_G} {cs : Nat → ClassId} {fa fq : Nat → Nat} (hK : va_K D vwCl (TY cs) s) (hZ : ZS (fun q : Nat => s.heap.size ≤ q) s) {x0 y0 : Nat} {i : Int32} (hi0 : 0 ≤ i.toInt) (hiL : i.toInt + 6 ≤ (L : Int)) (ad rv : Nat → Nat) (v : Nat → Int32) (a : Nat → Nat → Int32) (w : Nat → Nat → Int64) (fv fp : Nat → Nat → Int32) (bd : Nat → Nat) (u : Nat → Int32) (b_ : Nat → Nat → Int32) (bw : Nat → Nat → Int64) (H : Heap) (locs : List Loc) (ls : Array Slot) (hl : lv_has ls 4 [(0, .ref b), (1, .ref x0), (2, .ref y0), (3, .int i)]) (hx0 : ad 0 = x0) (hy0 : bd 0 = y0) (hI : CI v a fv) (hR : RI u b_ bw) (hE : REL v a w fv u b_ bw) (hP : va_P D vwCl (CW cs ad fa fq rv v a w fv fp ++ RW cs bd u b_ bw) H) (hD : va_D (fun q : Nat => s.heap.size ≤ q) (CW cs ad fa fq rv v a w fv fp ++ RW cs bd u b_ bw)) (hS : va_S (fun q : Nat => s.heap.size ≤ q) s.heap H locs)
    (kk : ∀ (ad rv : Nat → Nat) (v : Nat → Int32) (a : Nat → Nat → Int32) (w : Nat → Nat → Int64) (fv fp : Nat → Nat → Int32) (bd : Nat → Nat) (u : Nat → Int32) (b_ : Nat → Nat → Int32) (bw : Nat → Nat → Int64) (H : Heap) (locs : List Loc) (ls : Array Slot) (hx0 : ad 0 = x0) (hy0 : bd 0 = y0) (hI : CI v a fv) (hR : RI u b_ bw) (hE : REL v a w fv u b_ bw) (hP : va_P D vwCl (CW cs ad fa fq rv v a w fv fp ++ RW cs bd u b_ bw) H) (hD : va_D (fun q : Nat => s.heap.size ≤ q) (CW cs ad fa fq rv v a w fv fp ++ RW cs bd u b_ bw)) (hS : va_S (fun q : Nat => s.heap.size ≤ q) s.heap H locs) (hl : lv_has ls 4 [(0, .ref b), (1, .ref x0), (2, .ref y0), (3, .int i)]), W p l e room_1 s m #[Value.ref b] below meth c H locs 200 9000 (lw_Z below #[Value.ref b] s) (F0 m 1387 ls [])) : W p l e room_1 s m #[Value.ref b] below meth c H locs 200 9000 (lw_Z below #[Value.ref b] s) (F0 m 1063 ls []) := by
  obtain ⟨hx, hb, hr, hml, hown, hts, hX, hbl, hlocks, hgv⟩ := id C0
  have hg : ∀ w ∈ gw, w.before #[Value.ref b] s = true := fun w h => hts w (gw_in w h)
  have hbA : ¬ (fun q : Nat => s.heap.size ≤ q) b := Nat.not_le.mpr hbl
  subst hx0
  subst hy0
  obtain ⟨iv1_0, iv1_1, ia28_0, ia29_0, iv20_0, iv20_1, iv19_0, iv19_1, iv19_2, ia24_0, ia25_0, ifv14_0, iv4_0, iv4_1, ia18_0, iv24_0, iv24_1, iv25_0, iv25_1, iv25_2, iv26_0, iv26_1, ia19_0, iv5_0, iv5_1, iv6_0, iv6_1, iv6_2, iv11_0, iv11_1, iv14_0, iv14_1, iv0_0, iv0_1, iv0_2, ifv17_0, iv21_0, iv21_1, ia37_0, iv23_0, iv23_1, iv22_0, iv22_1⟩ := id hI
  obtain ⟨iu1_0, iu1_1, ib67_0, ib66_0, iu8_0, iu8_1, ib10_0, ib11_0, iu9_0, iu9_1, iu9_2, iu15_0, iu15_1, hlaw, ib23_0, ib20_0, ib24_0, iu7_0, iu7_1, iu41_0, iu41_1, iu48_0, iu48_1, iu46_0, iu46_1, iu47_0, iu47_1, iu55_0, iu55_1, iu55_2, iu58_0, iu62_0, iu62_1, ib63_0, iu64_0, iu64_1⟩ := id hR
  obtain ⟨e1, e4, e21, e22, es14, es17, eim, ek, et, esh⟩ := id hE
  obtain ⟨s1, hs1⟩ : ∃ y, xs (i + 1).toNatClampNeg = y := ⟨_, rfl⟩
  obtain ⟨s2, hs2⟩ : ∃ y, xs (i + 2).toNatClampNeg = y := ⟨_, rfl⟩
  obtain ⟨s3, hs3⟩ : ∃ y, xs (i + 3).toNatClampNeg = y := ⟨_, rfl⟩
  obtain ⟨s4, hs4⟩ : ∃ y, xs (i + 4).toNatClampNeg = y := ⟨_, rfl⟩
  obtain ⟨s5, hs5⟩ : ∃ y, xs (i + 5).toNatClampNeg = y := ⟨_, rfl⟩
  have hq1 : (i + 1).toInt = i.toInt + 1 := i_add (by show _ ≤ i.toInt + (1 : Int32).toInt; have q : (1 : Int32).toInt = 1 := rfl; omega) (by show i.toInt + (1 : Int32).toInt ≤ _; have q : (1 : Int32).toInt = 1 := rfl; omega)
  have hq2 : (i + 2).toInt = i.toInt + 2 := i_add (by show _ ≤ i.toInt + (2 : Int32).toInt; have q : (2 : Int32).toInt = 2 := rfl; omega) (by show i.toInt + (2 : Int32).toInt ≤ _; have q : (2 : Int32).toInt = 2 := rfl; omega)
  have hq3 : (i + 3).toInt = i.toInt + 3 := i_add (by show _ ≤ i.toInt + (3 : Int32).toInt; have q : (3 : Int32).toInt = 3 := rfl; omega) (by show i.toInt + (3 : Int32).toInt ≤ _; have q : (3 : Int32).toInt = 3 := rfl; omega)
  have hq4 : (i + 4).toInt = i.toInt + 4 := i_add (by show _ ≤ i.toInt + (4 : Int32).toInt; have q : (4 : Int32).toInt = 4 := rfl; omega) (by show i.toInt + (4 : Int32).toInt ≤ _; have q : (4 : Int32).toInt = 4 := rfl; omega)
  have hq5 : (i + 5).toInt = i.toInt + 5 := i_add (by show _ ≤ i.toInt + (5 : Int32).toInt; have q : (5 : Int32).toInt = 5 := rfl; omega) (by show i.toInt + (5 : Int32).toInt ≤ _; have q : (5 : Int32).toInt = 5 := rfl; omega)
  refine lv_aload_n hx hb dL_law_1063 rfl (lv_at hl 1 rfl) ?_
  refine lv_aload_n hx hb dL_law_1064 rfl (lv_at hl 0 rfl) ?_
  refine lv_iload_n hx hb dL_law_1065 rfl (lv_at hl 3 rfl) ?_
  refine lv_iconst (v := 1) hx hb dL_law_1066 (by decide) ?_
  refine lv_iadd hx hb dL_law_1067 ?_
  refine va_sld hx hb hX hbl hbA hS (i_in (by omega) (by omega)) dL_law_1068 ?_
  rw [hs1]
  refine cL_ro (As := [.int s1]) (rest := []) ⟨hx, hb, hml, hown, hg⟩ (k_X11_trace l D cs _ ad fa fq rv v a w fv fp s1 iv22_0 iv22_1) ca_X11_trace q4_153 ⟨rfl, rfl⟩ ⟨Nat.le_of_ble_eq_true rfl, Nat.le_of_ble_eq_true rfl⟩ (rc_main hK (pw_l hP)) hK hP hD hS hZ rfl hl.1 rfl (Nat.le_of_ble_eq_true rfl) ⟨Nat.le_of_ble_eq_true rfl, Nat.le_of_ble_eq_true rfl⟩ dL_law_1069 (fun r_1 wr_1 => ?_)
  have wr_1_0 : ((0 ≤ s1.toInt ∧ s1.toInt < (v 22).toInt ∧ s1.toInt < 24) ∧ r_1 = (a 38) s1.toNatClampNeg) ∨ (¬ (0 ≤ s1.toInt ∧ s1.toInt < (v 22).toInt ∧ s1.toInt < 24) ∧ r_1.toInt = -1) := wr_1
  refine lv_pop hx hb dL_law_1072 rfl ?_
  refine lv_aload_n hx hb dL_law_1073 rfl (lv_at hl 2 rfl) ?_
  refine lv_aload_n hx hb dL_law_1074 rfl (lv_at hl 0 rfl) ?_
  refine lv_iload_n hx hb dL_law_1075 rfl (lv_at hl 3 rfl) ?_
  refine lv_iconst (v := 1) hx hb dL_law_1076 (by decide) ?_
  refine lv_iadd hx hb dL_law_1077 ?_
  refine va_sld hx hb hX hbl hbA hS (i_in (by omega) (by omega)) dL_law_1078 ?_
  rw [hs1]
  refine cR_ro (As := [.int s1]) (rest := []) ⟨hx, hb, hml, hown, hg⟩ (k_X12_trace l D cs _ bd u b_ bw s1 iu64_0 iu64_1) ca_X12_trace q7_32 ⟨rfl, rfl⟩ ⟨Nat.le_of_ble_eq_true rfl, Nat.le_of_ble_eq_true rfl⟩ (rc_model hK (pw_r hP)) hK hP hD hS hZ rfl hl.1 rfl (Nat.le_of_ble_eq_true rfl) ⟨Nat.le_of_ble_eq_true rfl, Nat.le_of_ble_eq_true rfl⟩ dL_law_1079 (fun r_3 wr_3 => ?_)
  have wr_3_0 : ((0 ≤ s1.toInt ∧ s1.toInt < (u 64).toInt ∧ s1.toInt < 24) ∧ r_3 = (b_ 65) s1.toNatClampNeg) ∨ (¬ (0 ≤ s1.toInt ∧ s1.toInt < (u 64).toInt ∧ s1.toInt < 24) ∧ r_3.toInt = -1) := wr_3
  have hre : r_1.toInt = r_3.toInt := by
    rcases wr_1_0 with ⟨a0, a1⟩ | ⟨a0, a1⟩ <;> rcases wr_3_0 with ⟨b0, b1⟩ | ⟨b0, b1⟩ <;> first | (exfalso; omega) | omega | rw [a1, b1, et]
  refine lv_pop hx hb dL_law_1082 rfl ?_
  refine lv_goto (tgt := 1387) hx hb dL_law_1083 (by decide) ?_
  have hI1 : CI v a fv := ⟨iv1_0, iv1_1, ia28_0, ia29_0, iv20_0, iv20_1, iv19_0, iv19_1, iv19_2, ia24_0, ia25_0, ifv14_0, iv4_0, iv4_1, ia18_0, iv24_0, iv24_1, iv25_0, iv25_1, iv25_2, iv26_0, iv26_1, ia19_0, iv5_0, iv5_1, iv6_0, iv6_1, iv6_2, iv11_0, iv11_1, iv14_0, iv14_1, iv0_0, iv0_1, iv0_2, ifv17_0, iv21_0, iv21_1, ia37_0, iv23_0, iv23_1, iv22_0, iv22_1⟩
  have hR1 : RI u b_ bw := ⟨iu1_0, iu1_1, ib67_0, ib66_0, iu8_0, iu8_1, ib10_0, ib11_0, iu9_0, iu9_1, iu9_2, iu15_0, iu15_1, hlaw, ib23_0, ib20_0, ib24_0, iu7_0, iu7_1, iu41_0, iu41_1, iu48_0, iu48_1, iu46_0, iu46_1, iu47_0, iu47_1, iu55_0, iu55_1, iu55_2, iu58_0, iu62_0, iu62_1, ib63_0, iu64_0, iu64_1⟩
  have hE1 : REL v a w fv u b_ bw := ⟨(show (v 1).toInt = (u 1).toInt by first | omega | assumption | exact e1), (show (v 4).toInt = (u 15).toInt by first | omega | assumption | exact e4), (show (v 21).toInt = (u 62).toInt by first | omega | assumption | exact e21), (show (v 22).toInt = (u 64).toInt by first | omega | assumption | exact e22), (show (fv 14 3) = (b_ 53) 0 by first | omega | assumption | exact es14), (show (fv 17 3) = (b_ 61) 0 by first | omega | assumption | exact es17), (show ((v 0).toInt < 0 ∧ (u 54).toInt = 0) ∨ (0 ≤ (v 0).toInt ∧ (u 54).toInt ≠ 0) by first | omega | assumption | exact eim), (show ∀ j, (a 37) j = (b_ 63) j by first | omega | assumption | exact ek), (show ∀ j, (a 38) j = (b_ 65) j by first | omega | assumption | exact et), (show SH (a 28) (a 29) w (b_ 66) (b_ 67) (bw 68) (v 21) by first | omega | assumption | exact esh)⟩
  exact kk ad rv v a w fv fp bd u b_ bw _ _ ls rfl rfl hI1 hR1 hE1 hP hD hS hl
set_option maxHeartbeats 8000000 in
set_option maxRecDepth 100000 in
theorem lc_keep {p : Program} {e : Env} {s : State} {m : MethodId} {below : List Frame} {meth : Method} {c : Code} (l : Launch) {b L : Nat} {xs : Nat → Int32} (C0 : lw_At p s m meth c b L xs) (hL : L ≤ 3072) {D : va_G} {cs : Nat → ClassId} {fa fq : Nat → Nat} (hK : va_K D vwCl (TY cs) s) (hZ : ZS (fun q : Nat => s.heap.size ≤ q) s) {x0 y0 : Nat} {i : Int32} (hi0 : 0 ≤ i.toInt) (hiL : i.toInt + 6 ≤ (L : Int)) (ad rv : Nat → Nat) (v : Nat → Int32) (a : Nat → Nat → Int32) (w : Nat → Nat → Int64) (fv fp : Nat → Nat → Int32) (bd : Nat → Nat) (u : Nat → Int32) (b_ : Nat → Nat → Int32) (bw : Nat → Nat → Int64) (H : Heap) (locs : List Loc) (ls : Array Slot) (hl : lv_has ls 4 [(0, .ref b), (1, .ref x0), (2, .ref y0), (3, .int i)]) (hx0 : ad 0 = x0) (hy0 : bd 0 = y0) (hI : CI v a fv) (hR : RI u b_ bw) (hE : REL v a w fv u b_ bw) (hP : va_P D vwCl (CW cs ad fa fq rv v a w fv fp ++ RW cs bd u b_ bw) H) (hD : va_D (fun q : Nat => s.heap.size ≤ q) (CW cs ad fa fq rv v a w fv fp ++ RW cs bd u b_ bw)) (hS : va_S (fun q : Nat => s.heap.size ≤ q) s.heap H locs)
    (kk : ∀ (ad rv : Nat → Nat) (v : Nat → Int32) (a : Nat → Nat → Int32) (w : Nat → Nat → Int64) (fv fp : Nat → Nat → Int32) (bd : Nat → Nat) (u : Nat → Int32) (b_ : Nat → Nat → Int32) (bw : Nat → Nat → Int64) (H : Heap) (locs : List Loc) (ls : Array Slot) (hx0 : ad 0 = x0) (hy0 : bd 0 = y0) (hI : CI v a fv) (hR : RI u b_ bw) (hE : REL v a w fv u b_ bw) (hP : va_P D vwCl (CW cs ad fa fq rv v a w fv fp ++ RW cs bd u b_ bw) H) (hD : va_D (fun q : Nat => s.heap.size ≤ q) (CW cs ad fa fq rv v a w fv fp ++ RW cs bd u b_ bw)) (hS : va_S (fun q : Nat => s.heap.size ≤ q) s.heap H locs) (hl : lv_has ls 4 [(0, .ref b), (1, .ref x0), (2, .ref y0), (3, .int i)]), W p l e room_1 s m #[Value.ref b] below meth c H locs 200 9000 (lw_Z below #[Value.ref b] s) (F0 m 1387 ls [])) : W p l e room_1 s m #[Value.ref b] below meth c H locs 200 9000 (lw_Z below #[Value.ref b] s) (F0 m 1086 ls []) := by
  obtain ⟨hx, hb, hr, hml, hown, hts, hX, hbl, hlocks, hgv⟩ := id C0
  have hg : ∀ w ∈ gw, w.before #[Value.ref b] s = true := fun w h => hts w (gw_in w h)
  have hbA : ¬ (fun q : Nat => s.heap.size ≤ q) b := Nat.not_le.mpr hbl
  subst hx0
  subst hy0
  obtain ⟨iv1_0, iv1_1, ia28_0, ia29_0, iv20_0, iv20_1, iv19_0, iv19_1, iv19_2, ia24_0, ia25_0, ifv14_0, iv4_0, iv4_1, ia18_0, iv24_0, iv24_1, iv25_0, iv25_1, iv25_2, iv26_0, iv26_1, ia19_0, iv5_0, iv5_1, iv6_0, iv6_1, iv6_2, iv11_0, iv11_1, iv14_0, iv14_1, iv0_0, iv0_1, iv0_2, ifv17_0, iv21_0, iv21_1, ia37_0, iv23_0, iv23_1, iv22_0, iv22_1⟩ := id hI
  obtain ⟨iu1_0, iu1_1, ib67_0, ib66_0, iu8_0, iu8_1, ib10_0, ib11_0, iu9_0, iu9_1, iu9_2, iu15_0, iu15_1, hlaw, ib23_0, ib20_0, ib24_0, iu7_0, iu7_1, iu41_0, iu41_1, iu48_0, iu48_1, iu46_0, iu46_1, iu47_0, iu47_1, iu55_0, iu55_1, iu55_2, iu58_0, iu62_0, iu62_1, ib63_0, iu64_0, iu64_1⟩ := id hR
  obtain ⟨e1, e4, e21, e22, es14, es17, eim, ek, et, esh⟩ := id hE
  obtain ⟨s1, hs1⟩ : ∃ y, xs (i + 1).toNatClampNeg = y := ⟨_, rfl⟩
  obtain ⟨s2, hs2⟩ : ∃ y, xs (i + 2).toNatClampNeg = y := ⟨_, rfl⟩
  obtain ⟨s3, hs3⟩ : ∃ y, xs (i + 3).toNatClampNeg = y := ⟨_, rfl⟩
  obtain ⟨s4, hs4⟩ : ∃ y, xs (i + 4).toNatClampNeg = y := ⟨_, rfl⟩
  obtain ⟨s5, hs5⟩ : ∃ y, xs (i + 5).toNatClampNeg = y := ⟨_, rfl⟩
  have hq1 : (i + 1).toInt = i.toInt + 1 := i_add (by show _ ≤ i.toInt + (1 : Int32).toInt; have q : (1 : Int32).toInt = 1 := rfl; omega) (by show i.toInt + (1 : Int32).toInt ≤ _; have q : (1 : Int32).toInt = 1 := rfl; omega)
  have hq2 : (i + 2).toInt = i.toInt + 2 := i_add (by show _ ≤ i.toInt + (2 : Int32).toInt; have q : (2 : Int32).toInt = 2 := rfl; omega) (by show i.toInt + (2 : Int32).toInt ≤ _; have q : (2 : Int32).toInt = 2 := rfl; omega)
  have hq3 : (i + 3).toInt = i.toInt + 3 := i_add (by show _ ≤ i.toInt + (3 : Int32).toInt; have q : (3 : Int32).toInt = 3 := rfl; omega) (by show i.toInt + (3 : Int32).toInt ≤ _; have q : (3 : Int32).toInt = 3 := rfl; omega)
  have hq4 : (i + 4).toInt = i.toInt + 4 := i_add (by show _ ≤ i.toInt + (4 : Int32).toInt; have q : (4 : Int32).toInt = 4 := rfl; omega) (by show i.toInt + (4 : Int32).toInt ≤ _; have q : (4 : Int32).toInt = 4 := rfl; omega)
  have hq5 : (i + 5).toInt = i.toInt + 5 := i_add (by show _ ≤ i.toInt + (5 : Int32).toInt; have q : (5 : Int32).toInt = 5 := rfl; omega) (by show i.toInt + (5 : Int32).toInt ≤ _; have q : (5 : Int32).toInt = 5 := rfl; omega)
  refine lv_aload_n hx hb dL_law_1086 rfl (lv_at hl 1 rfl) ?_
  refine lv_aload_n hx hb dL_law_1087 rfl (lv_at hl 0 rfl) ?_
  refine lv_iload_n hx hb dL_law_1088 rfl (lv_at hl 3 rfl) ?_
  refine lv_iconst (v := 1) hx hb dL_law_1089 (by decide) ?_
  refine lv_iadd hx hb dL_law_1090 ?_
  refine va_sld hx hb hX hbl hbA hS (i_in (by omega) (by omega)) dL_law_1091 ?_
  rw [hs1]
  refine lv_aload_n hx hb dL_law_1092 rfl (lv_at hl 0 rfl) ?_
  refine lv_iload_n hx hb dL_law_1093 rfl (lv_at hl 3 rfl) ?_
  refine lv_iconst (v := 2) hx hb dL_law_1094 (by decide) ?_
  refine lv_iadd hx hb dL_law_1095 ?_
  refine va_sld hx hb hX hbl hbA hS (i_in (by omega) (by omega)) dL_law_1096 ?_
  rw [hs2]
  refine cL_i (As := [.int s1, .int s2]) (rest := []) ⟨hx, hb, hml, hown, hg⟩ (k_X11_keep l D cs _ ad fa fq rv v a w fv fp s1 s2 ia28_0 ia29_0 iv21_0 iv21_1) ca_X11_keep q4_162 ⟨rfl, rfl⟩ ⟨Nat.le_of_ble_eq_true rfl, Nat.le_of_ble_eq_true rfl⟩ (rc_main hK (pw_l hP)) hK hP hD hS hZ rfl hl.1 rfl (Nat.le_of_ble_eq_true rfl) ⟨Nat.le_of_ble_eq_true rfl, Nat.le_of_ble_eq_true rfl⟩ dL_law_1097 (fun r_1 z_5 H locs wr_1 hP hD hS => ?_)
  obtain ⟨gsort_2, gsize_3, grow_4⟩ := z_5
  have hP : va_P D vwCl (CW cs ad fa fq rv v (va_up (va_up a 28 gsort_2) 29 gsize_3) (va_up w s1.toNatClampNeg grow_4) fv fp ++ RW cs bd u b_ bw) H := hP
  have hD : va_D (fun q : Nat => s.heap.size ≤ q) (CW cs ad fa fq rv v (va_up (va_up a 28 gsort_2) 29 gsize_3) (va_up w s1.toNatClampNeg grow_4) fv fp ++ RW cs bd u b_ bw) := hD
  obtain ⟨wr_1_0, wr_1_1, wr_1_2, wr_1_3, wr_1_4⟩ : ((((0 ≤ s1.toInt ∧ s1.toInt < 6) ∧ (s2.toInt = -1 ∨ (0 ≤ s2.toInt ∧ s2.toInt < (v 21).toInt))) ∧ r_1.toInt = 1) ∨ (¬ ((0 ≤ s1.toInt ∧ s1.toInt < 6) ∧ (s2.toInt = -1 ∨ (0 ≤ s2.toInt ∧ s2.toInt < (v 21).toInt))) ∧ r_1.toInt = -1)) ∧ (r_1.toInt = 1 → gsort_2 = upd (a 28) s1.toNatClampNeg (if s2.toInt = -1 then (-1 : Int32) else 5) ∧ gsize_3 = upd (a 29) s1.toNatClampNeg s2) ∧ (r_1.toInt ≠ 1 → gsort_2 = (a 28) ∧ gsize_3 = (a 29) ∧ grow_4 = (w s1.toNatClampNeg)) ∧ (AB (-1) 5 gsort_2) ∧ (AB (-1) 60 gsize_3) := wr_1
  refine lv_pop hx hb dL_law_1100 rfl ?_
  refine lv_aload_n hx hb dL_law_1101 rfl (lv_at hl 2 rfl) ?_
  refine lv_aload_n hx hb dL_law_1102 rfl (lv_at hl 0 rfl) ?_
  refine lv_iload_n hx hb dL_law_1103 rfl (lv_at hl 3 rfl) ?_
  refine lv_iconst (v := 1) hx hb dL_law_1104 (by decide) ?_
  refine lv_iadd hx hb dL_law_1105 ?_
  refine va_sld hx hb hX hbl hbA hS (i_in (by omega) (by omega)) dL_law_1106 ?_
  rw [hs1]
  refine lv_aload_n hx hb dL_law_1107 rfl (lv_at hl 0 rfl) ?_
  refine lv_iload_n hx hb dL_law_1108 rfl (lv_at hl 3 rfl) ?_
  refine lv_iconst (v := 2) hx hb dL_law_1109 (by decide) ?_
  refine lv_iadd hx hb dL_law_1110 ?_
  refine va_sld hx hb hX hbl hbA hS (i_in (by omega) (by omega)) dL_law_1111 ?_
  rw [hs2]
  refine cR_i (As := [.int s1, .int s2]) (rest := []) ⟨hx, hb, hml, hown, hg⟩ (k_X12_keep l D cs _ bd u b_ bw s1 s2 ib66_0 iu62_0 iu62_1) ca_X12_keep q7_103 ⟨rfl, rfl⟩ ⟨Nat.le_of_ble_eq_true rfl, Nat.le_of_ble_eq_true rfl⟩ (rc_model hK (pw_r hP)) hK hP hD hS hZ rfl hl.1 rfl (Nat.le_of_ble_eq_true rfl) ⟨Nat.le_of_ble_eq_true rfl, Nat.le_of_ble_eq_true rfl⟩ dL_law_1112 (fun r_6 o_b66_7 H locs wr_6 hP hD hS => ?_)
  have hP : va_P D vwCl (CW cs ad fa fq rv v (va_up (va_up a 28 gsort_2) 29 gsize_3) (va_up w s1.toNatClampNeg grow_4) fv fp ++ RW cs bd u (va_up b_ 66 o_b66_7) bw) H := hP
  have hD : va_D (fun q : Nat => s.heap.size ≤ q) (CW cs ad fa fq rv v (va_up (va_up a 28 gsort_2) 29 gsize_3) (va_up w s1.toNatClampNeg grow_4) fv fp ++ RW cs bd u (va_up b_ 66 o_b66_7) bw) := hD
  obtain ⟨wr_6_0, wr_6_1, wr_6_2, wr_6_3⟩ : ((((0 ≤ s1.toInt ∧ s1.toInt < 6) ∧ (s2.toInt = -1 ∨ (0 ≤ s2.toInt ∧ s2.toInt < (u 62).toInt))) ∧ r_6.toInt = 1) ∨ (¬ ((0 ≤ s1.toInt ∧ s1.toInt < 6) ∧ (s2.toInt = -1 ∨ (0 ≤ s2.toInt ∧ s2.toInt < (u 62).toInt))) ∧ r_6.toInt = -1)) ∧ (r_6.toInt = 1 → o_b66_7 = upd (b_ 66) s1.toNatClampNeg s2) ∧ (r_6.toInt ≠ 1 → o_b66_7 = (b_ 66)) ∧ (AB (-6) 49 o_b66_7) := wr_6
  have hre : r_1.toInt = r_6.toInt := by omega
  have hsh : SH gsort_2 gsize_3 (va_up w s1.toNatClampNeg grow_4) o_b66_7 (b_ 67) (bw 68) (v 21) := by
    by_cases q : r_1.toInt = 1
    · rw [(wr_1_1 q).1, (wr_1_1 q).2, wr_6_1 (by omega)]; exact SH_keep esh (by omega)
    · obtain ⟨q1, q2, q3⟩ := wr_1_2 q
      rw [q1, q2, q3, wr_6_2 (by omega), va_up_id]; exact esh
  refine lv_pop hx hb dL_law_1115 rfl ?_
  refine lv_goto (tgt := 1387) hx hb dL_law_1116 (by decide) ?_
  have hI1 : CI v (va_up (va_up a 28 gsort_2) 29 gsize_3) fv := ⟨iv1_0, iv1_1, wr_1_3, wr_1_4, iv20_0, iv20_1, iv19_0, iv19_1, iv19_2, ia24_0, ia25_0, ifv14_0, iv4_0, iv4_1, ia18_0, iv24_0, iv24_1, iv25_0, iv25_1, iv25_2, iv26_0, iv26_1, ia19_0, iv5_0, iv5_1, iv6_0, iv6_1, iv6_2, iv11_0, iv11_1, iv14_0, iv14_1, iv0_0, iv0_1, iv0_2, ifv17_0, iv21_0, iv21_1, ia37_0, iv23_0, iv23_1, iv22_0, iv22_1⟩
  have hR1 : RI u (va_up b_ 66 o_b66_7) bw := ⟨iu1_0, iu1_1, ib67_0, wr_6_3, iu8_0, iu8_1, ib10_0, ib11_0, iu9_0, iu9_1, iu9_2, iu15_0, iu15_1, hlaw, ib23_0, ib20_0, ib24_0, iu7_0, iu7_1, iu41_0, iu41_1, iu48_0, iu48_1, iu46_0, iu46_1, iu47_0, iu47_1, iu55_0, iu55_1, iu55_2, iu58_0, iu62_0, iu62_1, ib63_0, iu64_0, iu64_1⟩
  have hE1 : REL v (va_up (va_up a 28 gsort_2) 29 gsize_3) (va_up w s1.toNatClampNeg grow_4) fv u (va_up b_ 66 o_b66_7) bw := ⟨(show (v 1).toInt = (u 1).toInt by first | omega | assumption | exact e1), (show (v 4).toInt = (u 15).toInt by first | omega | assumption | exact e4), (show (v 21).toInt = (u 62).toInt by first | omega | assumption | exact e21), (show (v 22).toInt = (u 64).toInt by first | omega | assumption | exact e22), (show (fv 14 3) = (b_ 53) 0 by first | omega | assumption | exact es14), (show (fv 17 3) = (b_ 61) 0 by first | omega | assumption | exact es17), (show ((v 0).toInt < 0 ∧ (u 54).toInt = 0) ∨ (0 ≤ (v 0).toInt ∧ (u 54).toInt ≠ 0) by first | omega | assumption | exact eim), (show ∀ j, (a 37) j = (b_ 63) j by first | omega | assumption | exact ek), (show ∀ j, (a 38) j = (b_ 65) j by first | omega | assumption | exact et), (show SH gsort_2 gsize_3 (va_up w s1.toNatClampNeg grow_4) o_b66_7 (b_ 67) (bw 68) (v 21) by first | (exact hsh) | first | omega | assumption | exact esh)⟩
  exact kk ad rv v (va_up (va_up a 28 gsort_2) 29 gsize_3) (va_up w s1.toNatClampNeg grow_4) fv fp bd u (va_up b_ 66 o_b66_7) bw _ _ ls rfl rfl hI1 hR1 hE1 hP hD hS hl
set_option maxHeartbeats 8000000 in
set_option maxRecDepth 100000 in
theorem lc_row {p : Program} {e : Env} {s : State} {m : MethodId} {below : List Frame} {meth : Method} {c : Code} (l : Launch) {b L : Nat} {xs : Nat → Int32} (C0 : lw_At p s m meth c b L xs) (hL : L ≤ 3072) {D : va_G} {cs : Nat → ClassId} {fa fq : Nat → Nat} (hK : va_K D vwCl (TY cs) s) (hZ : ZS (fun q : Nat => s.heap.size ≤ q) s) {x0 y0 : Nat} {i : Int32} (hi0 : 0 ≤ i.toInt) (hiL : i.toInt + 6 ≤ (L : Int)) (ad rv : Nat → Nat) (v : Nat → Int32) (a : Nat → Nat → Int32) (w : Nat → Nat → Int64) (fv fp : Nat → Nat → Int32) (bd : Nat → Nat) (u : Nat → Int32) (b_ : Nat → Nat → Int32) (bw : Nat → Nat → Int64) (H : Heap) (locs : List Loc) (ls : Array Slot) (hl : lv_has ls 4 [(0, .ref b), (1, .ref x0), (2, .ref y0), (3, .int i)]) (hx0 : ad 0 = x0) (hy0 : bd 0 = y0) (hI : CI v a fv) (hR : RI u b_ bw) (hE : REL v a w fv u b_ bw) (hP : va_P D vwCl (CW cs ad fa fq rv v a w fv fp ++ RW cs bd u b_ bw) H) (hD : va_D (fun q : Nat => s.heap.size ≤ q) (CW cs ad fa fq rv v a w fv fp ++ RW cs bd u b_ bw)) (hS : va_S (fun q : Nat => s.heap.size ≤ q) s.heap H locs)
    (kk : ∀ (ad rv : Nat → Nat) (v : Nat → Int32) (a : Nat → Nat → Int32) (w : Nat → Nat → Int64) (fv fp : Nat → Nat → Int32) (bd : Nat → Nat) (u : Nat → Int32) (b_ : Nat → Nat → Int32) (bw : Nat → Nat → Int64) (H : Heap) (locs : List Loc) (ls : Array Slot) (hx0 : ad 0 = x0) (hy0 : bd 0 = y0) (hI : CI v a fv) (hR : RI u b_ bw) (hE : REL v a w fv u b_ bw) (hP : va_P D vwCl (CW cs ad fa fq rv v a w fv fp ++ RW cs bd u b_ bw) H) (hD : va_D (fun q : Nat => s.heap.size ≤ q) (CW cs ad fa fq rv v a w fv fp ++ RW cs bd u b_ bw)) (hS : va_S (fun q : Nat => s.heap.size ≤ q) s.heap H locs) (hl : lv_has ls 4 [(0, .ref b), (1, .ref x0), (2, .ref y0), (3, .int i)]), W p l e room_1 s m #[Value.ref b] below meth c H locs 200 9000 (lw_Z below #[Value.ref b] s) (F0 m 1387 ls [])) : W p l e room_1 s m #[Value.ref b] below meth c H locs 200 9000 (lw_Z below #[Value.ref b] s) (F0 m 1119 ls []) := by
  obtain ⟨hx, hb, hr, hml, hown, hts, hX, hbl, hlocks, hgv⟩ := id C0
  have hg : ∀ w ∈ gw, w.before #[Value.ref b] s = true := fun w h => hts w (gw_in w h)
  have hbA : ¬ (fun q : Nat => s.heap.size ≤ q) b := Nat.not_le.mpr hbl
  subst hx0
  subst hy0
  obtain ⟨iv1_0, iv1_1, ia28_0, ia29_0, iv20_0, iv20_1, iv19_0, iv19_1, iv19_2, ia24_0, ia25_0, ifv14_0, iv4_0, iv4_1, ia18_0, iv24_0, iv24_1, iv25_0, iv25_1, iv25_2, iv26_0, iv26_1, ia19_0, iv5_0, iv5_1, iv6_0, iv6_1, iv6_2, iv11_0, iv11_1, iv14_0, iv14_1, iv0_0, iv0_1, iv0_2, ifv17_0, iv21_0, iv21_1, ia37_0, iv23_0, iv23_1, iv22_0, iv22_1⟩ := id hI
  obtain ⟨iu1_0, iu1_1, ib67_0, ib66_0, iu8_0, iu8_1, ib10_0, ib11_0, iu9_0, iu9_1, iu9_2, iu15_0, iu15_1, hlaw, ib23_0, ib20_0, ib24_0, iu7_0, iu7_1, iu41_0, iu41_1, iu48_0, iu48_1, iu46_0, iu46_1, iu47_0, iu47_1, iu55_0, iu55_1, iu55_2, iu58_0, iu62_0, iu62_1, ib63_0, iu64_0, iu64_1⟩ := id hR
  obtain ⟨e1, e4, e21, e22, es14, es17, eim, ek, et, esh⟩ := id hE
  obtain ⟨s1, hs1⟩ : ∃ y, xs (i + 1).toNatClampNeg = y := ⟨_, rfl⟩
  obtain ⟨s2, hs2⟩ : ∃ y, xs (i + 2).toNatClampNeg = y := ⟨_, rfl⟩
  obtain ⟨s3, hs3⟩ : ∃ y, xs (i + 3).toNatClampNeg = y := ⟨_, rfl⟩
  obtain ⟨s4, hs4⟩ : ∃ y, xs (i + 4).toNatClampNeg = y := ⟨_, rfl⟩
  obtain ⟨s5, hs5⟩ : ∃ y, xs (i + 5).toNatClampNeg = y := ⟨_, rfl⟩
  have hq1 : (i + 1).toInt = i.toInt + 1 := i_add (by show _ ≤ i.toInt + (1 : Int32).toInt; have q : (1 : Int32).toInt = 1 := rfl; omega) (by show i.toInt + (1 : Int32).toInt ≤ _; have q : (1 : Int32).toInt = 1 := rfl; omega)
  have hq2 : (i + 2).toInt = i.toInt + 2 := i_add (by show _ ≤ i.toInt + (2 : Int32).toInt; have q : (2 : Int32).toInt = 2 := rfl; omega) (by show i.toInt + (2 : Int32).toInt ≤ _; have q : (2 : Int32).toInt = 2 := rfl; omega)
  have hq3 : (i + 3).toInt = i.toInt + 3 := i_add (by show _ ≤ i.toInt + (3 : Int32).toInt; have q : (3 : Int32).toInt = 3 := rfl; omega) (by show i.toInt + (3 : Int32).toInt ≤ _; have q : (3 : Int32).toInt = 3 := rfl; omega)
  have hq4 : (i + 4).toInt = i.toInt + 4 := i_add (by show _ ≤ i.toInt + (4 : Int32).toInt; have q : (4 : Int32).toInt = 4 := rfl; omega) (by show i.toInt + (4 : Int32).toInt ≤ _; have q : (4 : Int32).toInt = 4 := rfl; omega)
  have hq5 : (i + 5).toInt = i.toInt + 5 := i_add (by show _ ≤ i.toInt + (5 : Int32).toInt; have q : (5 : Int32).toInt = 5 := rfl; omega) (by show i.toInt + (5 : Int32).toInt ≤ _; have q : (5 : Int32).toInt = 5 := rfl; omega)
  refine lv_aload_n hx hb dL_law_1119 rfl (lv_at hl 1 rfl) ?_
  refine lv_aload_n hx hb dL_law_1120 rfl (lv_at hl 0 rfl) ?_
  refine lv_iload_n hx hb dL_law_1121 rfl (lv_at hl 3 rfl) ?_
  refine lv_iconst (v := 1) hx hb dL_law_1122 (by decide) ?_
  refine lv_iadd hx hb dL_law_1123 ?_
  refine va_sld hx hb hX hbl hbA hS (i_in (by omega) (by omega)) dL_law_1124 ?_
  rw [hs1]
  refine lv_aload_n hx hb dL_law_1125 rfl (lv_at hl 0 rfl) ?_
  refine lv_iload_n hx hb dL_law_1126 rfl (lv_at hl 3 rfl) ?_
  refine lv_iconst (v := 2) hx hb dL_law_1127 (by decide) ?_
  refine lv_iadd hx hb dL_law_1128 ?_
  refine va_sld hx hb hX hbl hbA hS (i_in (by omega) (by omega)) dL_law_1129 ?_
  rw [hs2]
  refine lv_aload_n hx hb dL_law_1130 rfl (lv_at hl 0 rfl) ?_
  refine lv_iload_n hx hb dL_law_1131 rfl (lv_at hl 3 rfl) ?_
  refine lv_iconst (v := 3) hx hb dL_law_1132 (by decide) ?_
  refine lv_iadd hx hb dL_law_1133 ?_
  refine va_sld hx hb hX hbl hbA hS (i_in (by omega) (by omega)) dL_law_1134 ?_
  rw [hs3]
  refine cL_i (As := [.int s1, .int s2, .int s3]) (rest := []) ⟨hx, hb, hml, hown, hg⟩ (k_X11_row l D cs _ ad fa fq rv v a w fv fp s1 s2 s3 ia28_0 ia29_0) ca_X11_row q4_174 ⟨rfl, rfl⟩ ⟨Nat.le_of_ble_eq_true rfl, Nat.le_of_ble_eq_true rfl⟩ (rc_main hK (pw_l hP)) hK hP hD hS hZ rfl hl.1 rfl (Nat.le_of_ble_eq_true rfl) ⟨Nat.le_of_ble_eq_true rfl, Nat.le_of_ble_eq_true rfl⟩ dL_law_1135 (fun r_1 z_5 H locs wr_1 hP hD hS => ?_)
  obtain ⟨gsort_2, gsize_3, grow_4⟩ := z_5
  have hP : va_P D vwCl (CW cs ad fa fq rv v (va_up (va_up a 28 gsort_2) 29 gsize_3) (va_up w s1.toNatClampNeg grow_4) fv fp ++ RW cs bd u b_ bw) H := hP
  have hD : va_D (fun q : Nat => s.heap.size ≤ q) (CW cs ad fa fq rv v (va_up (va_up a 28 gsort_2) 29 gsize_3) (va_up w s1.toNatClampNeg grow_4) fv fp ++ RW cs bd u b_ bw) := hD
  obtain ⟨wr_1_0, wr_1_1, wr_1_2, wr_1_3, wr_1_4⟩ : ((((0 ≤ s1.toInt ∧ s1.toInt < 6) ∧ 0 ≤ s2.toInt ∧ s2.toInt ≤ 4 ∧ s3.toInt ≤ 60) ∧ ((s3.toInt < 0 ∧ r_1.toInt = -14) ∨ (0 ≤ s3.toInt ∧ r_1.toInt = 1))) ∨ (¬ ((0 ≤ s1.toInt ∧ s1.toInt < 6) ∧ 0 ≤ s2.toInt ∧ s2.toInt ≤ 4 ∧ s3.toInt ≤ 60) ∧ r_1.toInt = -1)) ∧ (r_1.toInt = 1 → gsort_2 = upd (a 28) s1.toNatClampNeg s2 ∧ gsize_3 = upd (a 29) s1.toNatClampNeg s3 ∧ (∀ j, j < 60 → grow_4 j = 0)) ∧ (r_1.toInt ≠ 1 → gsort_2 = (a 28) ∧ gsize_3 = (a 29) ∧ grow_4 = (w s1.toNatClampNeg)) ∧ (AB (-1) 5 gsort_2) ∧ (AB (-1) 60 gsize_3) := wr_1
  refine lv_pop hx hb dL_law_1138 rfl ?_
  refine lv_aload_n hx hb dL_law_1139 rfl (lv_at hl 2 rfl) ?_
  refine lv_aload_n hx hb dL_law_1140 rfl (lv_at hl 0 rfl) ?_
  refine lv_iload_n hx hb dL_law_1141 rfl (lv_at hl 3 rfl) ?_
  refine lv_iconst (v := 1) hx hb dL_law_1142 (by decide) ?_
  refine lv_iadd hx hb dL_law_1143 ?_
  refine va_sld hx hb hX hbl hbA hS (i_in (by omega) (by omega)) dL_law_1144 ?_
  rw [hs1]
  refine lv_aload_n hx hb dL_law_1145 rfl (lv_at hl 0 rfl) ?_
  refine lv_iload_n hx hb dL_law_1146 rfl (lv_at hl 3 rfl) ?_
  refine lv_iconst (v := 2) hx hb dL_law_1147 (by decide) ?_
  refine lv_iadd hx hb dL_law_1148 ?_
  refine va_sld hx hb hX hbl hbA hS (i_in (by omega) (by omega)) dL_law_1149 ?_
  rw [hs2]
  refine lv_aload_n hx hb dL_law_1150 rfl (lv_at hl 0 rfl) ?_
  refine lv_iload_n hx hb dL_law_1151 rfl (lv_at hl 3 rfl) ?_
  refine lv_iconst (v := 3) hx hb dL_law_1152 (by decide) ?_
  refine lv_iadd hx hb dL_law_1153 ?_
  refine va_sld hx hb hX hbl hbA hS (i_in (by omega) (by omega)) dL_law_1154 ?_
  rw [hs3]
  refine cR_i (As := [.int s1, .int s2, .int s3]) (rest := []) ⟨hx, hb, hml, hown, hg⟩ (k_X12_row l D cs _ bd u b_ bw s1 s2 s3 ib66_0 ib67_0) ca_X12_row q7_107 ⟨rfl, rfl⟩ ⟨Nat.le_of_ble_eq_true rfl, Nat.le_of_ble_eq_true rfl⟩ (rc_model hK (pw_r hP)) hK hP hD hS hZ rfl hl.1 rfl (Nat.le_of_ble_eq_true rfl) ⟨Nat.le_of_ble_eq_true rfl, Nat.le_of_ble_eq_true rfl⟩ dL_law_1155 (fun r_6 z_10 H locs wr_6 hP hD hS => ?_)
  obtain ⟨o_b66_7, o_b67_8, o_bw68_9⟩ := z_10
  have hP : va_P D vwCl (CW cs ad fa fq rv v (va_up (va_up a 28 gsort_2) 29 gsize_3) (va_up w s1.toNatClampNeg grow_4) fv fp ++ RW cs bd u (va_up (va_up b_ 66 o_b66_7) 67 o_b67_8) (va_up bw 68 o_bw68_9)) H := hP
  have hD : va_D (fun q : Nat => s.heap.size ≤ q) (CW cs ad fa fq rv v (va_up (va_up a 28 gsort_2) 29 gsize_3) (va_up w s1.toNatClampNeg grow_4) fv fp ++ RW cs bd u (va_up (va_up b_ 66 o_b66_7) 67 o_b67_8) (va_up bw 68 o_bw68_9)) := hD
  obtain ⟨wr_6_0, wr_6_1, wr_6_2, wr_6_3, wr_6_4⟩ : ((((0 ≤ s1.toInt ∧ s1.toInt < 6) ∧ 0 ≤ s2.toInt ∧ s2.toInt ≤ 4 ∧ s3.toInt ≤ 60) ∧ ((s3.toInt < 0 ∧ r_6.toInt = -14) ∨ (0 ≤ s3.toInt ∧ r_6.toInt = 1))) ∨ (¬ ((0 ≤ s1.toInt ∧ s1.toInt < 6) ∧ 0 ≤ s2.toInt ∧ s2.toInt ≤ 4 ∧ s3.toInt ≤ 60) ∧ r_6.toInt = -1)) ∧ (r_6.toInt = 1 → o_b67_8 = upd (b_ 67) s1.toNatClampNeg s3 ∧ (∀ j, j ≠ s1.toNatClampNeg → o_b66_7 j = (b_ 66) j) ∧ (o_b66_7 s1.toNatClampNeg).toInt = -2 - s2.toInt ∧ (∀ j, 60 * s1.toNatClampNeg ≤ j → j < 60 * s1.toNatClampNeg + 60 → o_bw68_9 j = 0) ∧ (∀ j, (j < 60 * s1.toNatClampNeg ∨ 60 * s1.toNatClampNeg + 60 ≤ j) → o_bw68_9 j = (bw 68) j)) ∧ (r_6.toInt ≠ 1 → o_b66_7 = (b_ 66) ∧ o_b67_8 = (b_ 67) ∧ o_bw68_9 = (bw 68)) ∧ (AB (-6) 49 o_b66_7) ∧ (AB 0 60 o_b67_8) := wr_6
  have hre : r_1.toInt = r_6.toInt := by omega
  have hsh : SH gsort_2 gsize_3 (va_up w s1.toNatClampNeg grow_4) o_b66_7 o_b67_8 o_bw68_9 (v 21) := by
    by_cases q : r_1.toInt = 1
    · obtain ⟨q1, q2, q3⟩ := wr_1_1 q
      obtain ⟨p1, p2, p3, p4, p5⟩ := wr_6_1 (by omega)
      rw [q1, q2, p1]; exact SH_row esh (by omega) (by omega) (by omega) (by omega) q3 p2 p3 p4 p5
    · obtain ⟨q1, q2, q3⟩ := wr_1_2 q
      obtain ⟨p1, p2, p3⟩ := wr_6_2 (by omega)
      rw [q1, q2, q3, p1, p2, p3, va_up_id]; exact esh
  refine lv_pop hx hb dL_law_1158 rfl ?_
  refine lv_goto (tgt := 1387) hx hb dL_law_1159 (by decide) ?_
  have hI1 : CI v (va_up (va_up a 28 gsort_2) 29 gsize_3) fv := ⟨iv1_0, iv1_1, wr_1_3, wr_1_4, iv20_0, iv20_1, iv19_0, iv19_1, iv19_2, ia24_0, ia25_0, ifv14_0, iv4_0, iv4_1, ia18_0, iv24_0, iv24_1, iv25_0, iv25_1, iv25_2, iv26_0, iv26_1, ia19_0, iv5_0, iv5_1, iv6_0, iv6_1, iv6_2, iv11_0, iv11_1, iv14_0, iv14_1, iv0_0, iv0_1, iv0_2, ifv17_0, iv21_0, iv21_1, ia37_0, iv23_0, iv23_1, iv22_0, iv22_1⟩
  have hR1 : RI u (va_up (va_up b_ 66 o_b66_7) 67 o_b67_8) (va_up bw 68 o_bw68_9) := ⟨iu1_0, iu1_1, wr_6_4, wr_6_3, iu8_0, iu8_1, ib10_0, ib11_0, iu9_0, iu9_1, iu9_2, iu15_0, iu15_1, hlaw, ib23_0, ib20_0, ib24_0, iu7_0, iu7_1, iu41_0, iu41_1, iu48_0, iu48_1, iu46_0, iu46_1, iu47_0, iu47_1, iu55_0, iu55_1, iu55_2, iu58_0, iu62_0, iu62_1, ib63_0, iu64_0, iu64_1⟩
  have hE1 : REL v (va_up (va_up a 28 gsort_2) 29 gsize_3) (va_up w s1.toNatClampNeg grow_4) fv u (va_up (va_up b_ 66 o_b66_7) 67 o_b67_8) (va_up bw 68 o_bw68_9) := ⟨(show (v 1).toInt = (u 1).toInt by first | omega | assumption | exact e1), (show (v 4).toInt = (u 15).toInt by first | omega | assumption | exact e4), (show (v 21).toInt = (u 62).toInt by first | omega | assumption | exact e21), (show (v 22).toInt = (u 64).toInt by first | omega | assumption | exact e22), (show (fv 14 3) = (b_ 53) 0 by first | omega | assumption | exact es14), (show (fv 17 3) = (b_ 61) 0 by first | omega | assumption | exact es17), (show ((v 0).toInt < 0 ∧ (u 54).toInt = 0) ∨ (0 ≤ (v 0).toInt ∧ (u 54).toInt ≠ 0) by first | omega | assumption | exact eim), (show ∀ j, (a 37) j = (b_ 63) j by first | omega | assumption | exact ek), (show ∀ j, (a 38) j = (b_ 65) j by first | omega | assumption | exact et), (show SH gsort_2 gsize_3 (va_up w s1.toNatClampNeg grow_4) o_b66_7 o_b67_8 o_bw68_9 (v 21) by first | (exact hsh) | first | omega | assumption | exact esh)⟩
  exact kk ad rv v (va_up (va_up a 28 gsort_2) 29 gsize_3) (va_up w s1.toNatClampNeg grow_4) fv fp bd u (va_up (va_up b_ 66 o_b66_7) 67 o_b67_8) (va_up bw 68 o_bw68_9) _ _ ls rfl rfl hI1 hR1 hE1 hP hD hS hl
set_option maxHeartbeats 8000000 in
set_option maxRecDepth 100000 in
theorem lc_put {p : Program} {e : Env} {s : State} {m : MethodId} {below : List Frame} {meth : Method} {c : Code} (l : Launch) {b L : Nat} {xs : Nat → Int32} (C0 : lw_At p s m meth c b L xs) (hL : L ≤ 3072) {D : va_G} {cs : Nat → ClassId} {fa fq : Nat → Nat} (hK : va_K D vwCl (TY cs) s) (hZ : ZS (fun q : Nat => s.heap.size ≤ q) s) {x0 y0 : Nat} {i : Int32} (hi0 : 0 ≤ i.toInt) (hiL : i.toInt + 6 ≤ (L : Int)) (ad rv : Nat → Nat) (v : Nat → Int32) (a : Nat → Nat → Int32) (w : Nat → Nat → Int64) (fv fp : Nat → Nat → Int32) (bd : Nat → Nat) (u : Nat → Int32) (b_ : Nat → Nat → Int32) (bw : Nat → Nat → Int64) (H : Heap) (locs : List Loc) (ls : Array Slot) (hl : lv_has ls 4 [(0, .ref b), (1, .ref x0), (2, .ref y0), (3, .int i)]) (hx0 : ad 0 = x0) (hy0 : bd 0 = y0) (hI : CI v a fv) (hR : RI u b_ bw) (hE : REL v a w fv u b_ bw) (hP : va_P D vwCl (CW cs ad fa fq rv v a w fv fp ++ RW cs bd u b_ bw) H) (hD : va_D (fun q : Nat => s.heap.size ≤ q) (CW cs ad fa fq rv v a w fv fp ++ RW cs bd u b_ bw)) (hS : va_S (fun q : Nat => s.heap.size ≤ q) s.heap H locs)
    (kk : ∀ (ad rv : Nat → Nat) (v : Nat → Int32) (a : Nat → Nat → Int32) (w : Nat → Nat → Int64) (fv fp : Nat → Nat → Int32) (bd : Nat → Nat) (u : Nat → Int32) (b_ : Nat → Nat → Int32) (bw : Nat → Nat → Int64) (H : Heap) (locs : List Loc) (ls : Array Slot) (hx0 : ad 0 = x0) (hy0 : bd 0 = y0) (hI : CI v a fv) (hR : RI u b_ bw) (hE : REL v a w fv u b_ bw) (hP : va_P D vwCl (CW cs ad fa fq rv v a w fv fp ++ RW cs bd u b_ bw) H) (hD : va_D (fun q : Nat => s.heap.size ≤ q) (CW cs ad fa fq rv v a w fv fp ++ RW cs bd u b_ bw)) (hS : va_S (fun q : Nat => s.heap.size ≤ q) s.heap H locs) (hl : lv_has ls 4 [(0, .ref b), (1, .ref x0), (2, .ref y0), (3, .int i)]), W p l e room_1 s m #[Value.ref b] below meth c H locs 200 9000 (lw_Z below #[Value.ref b] s) (F0 m 1387 ls [])) : W p l e room_1 s m #[Value.ref b] below meth c H locs 200 9000 (lw_Z below #[Value.ref b] s) (F0 m 1162 ls []) := by
  obtain ⟨hx, hb, hr, hml, hown, hts, hX, hbl, hlocks, hgv⟩ := id C0
  have hg : ∀ w ∈ gw, w.before #[Value.ref b] s = true := fun w h => hts w (gw_in w h)
  have hbA : ¬ (fun q : Nat => s.heap.size ≤ q) b := Nat.not_le.mpr hbl
  subst hx0
  subst hy0
  obtain ⟨iv1_0, iv1_1, ia28_0, ia29_0, iv20_0, iv20_1, iv19_0, iv19_1, iv19_2, ia24_0, ia25_0, ifv14_0, iv4_0, iv4_1, ia18_0, iv24_0, iv24_1, iv25_0, iv25_1, iv25_2, iv26_0, iv26_1, ia19_0, iv5_0, iv5_1, iv6_0, iv6_1, iv6_2, iv11_0, iv11_1, iv14_0, iv14_1, iv0_0, iv0_1, iv0_2, ifv17_0, iv21_0, iv21_1, ia37_0, iv23_0, iv23_1, iv22_0, iv22_1⟩ := id hI
  obtain ⟨iu1_0, iu1_1, ib67_0, ib66_0, iu8_0, iu8_1, ib10_0, ib11_0, iu9_0, iu9_1, iu9_2, iu15_0, iu15_1, hlaw, ib23_0, ib20_0, ib24_0, iu7_0, iu7_1, iu41_0, iu41_1, iu48_0, iu48_1, iu46_0, iu46_1, iu47_0, iu47_1, iu55_0, iu55_1, iu55_2, iu58_0, iu62_0, iu62_1, ib63_0, iu64_0, iu64_1⟩ := id hR
  obtain ⟨e1, e4, e21, e22, es14, es17, eim, ek, et, esh⟩ := id hE
  obtain ⟨s1, hs1⟩ : ∃ y, xs (i + 1).toNatClampNeg = y := ⟨_, rfl⟩
  obtain ⟨s2, hs2⟩ : ∃ y, xs (i + 2).toNatClampNeg = y := ⟨_, rfl⟩
  obtain ⟨s3, hs3⟩ : ∃ y, xs (i + 3).toNatClampNeg = y := ⟨_, rfl⟩
  obtain ⟨s4, hs4⟩ : ∃ y, xs (i + 4).toNatClampNeg = y := ⟨_, rfl⟩
  obtain ⟨s5, hs5⟩ : ∃ y, xs (i + 5).toNatClampNeg = y := ⟨_, rfl⟩
  have hq1 : (i + 1).toInt = i.toInt + 1 := i_add (by show _ ≤ i.toInt + (1 : Int32).toInt; have q : (1 : Int32).toInt = 1 := rfl; omega) (by show i.toInt + (1 : Int32).toInt ≤ _; have q : (1 : Int32).toInt = 1 := rfl; omega)
  have hq2 : (i + 2).toInt = i.toInt + 2 := i_add (by show _ ≤ i.toInt + (2 : Int32).toInt; have q : (2 : Int32).toInt = 2 := rfl; omega) (by show i.toInt + (2 : Int32).toInt ≤ _; have q : (2 : Int32).toInt = 2 := rfl; omega)
  have hq3 : (i + 3).toInt = i.toInt + 3 := i_add (by show _ ≤ i.toInt + (3 : Int32).toInt; have q : (3 : Int32).toInt = 3 := rfl; omega) (by show i.toInt + (3 : Int32).toInt ≤ _; have q : (3 : Int32).toInt = 3 := rfl; omega)
  have hq4 : (i + 4).toInt = i.toInt + 4 := i_add (by show _ ≤ i.toInt + (4 : Int32).toInt; have q : (4 : Int32).toInt = 4 := rfl; omega) (by show i.toInt + (4 : Int32).toInt ≤ _; have q : (4 : Int32).toInt = 4 := rfl; omega)
  have hq5 : (i + 5).toInt = i.toInt + 5 := i_add (by show _ ≤ i.toInt + (5 : Int32).toInt; have q : (5 : Int32).toInt = 5 := rfl; omega) (by show i.toInt + (5 : Int32).toInt ≤ _; have q : (5 : Int32).toInt = 5 := rfl; omega)
  refine lv_aload_n hx hb dL_law_1162 rfl (lv_at hl 1 rfl) ?_
  refine lv_aload_n hx hb dL_law_1163 rfl (lv_at hl 0 rfl) ?_
  refine lv_iload_n hx hb dL_law_1164 rfl (lv_at hl 3 rfl) ?_
  refine lv_iconst (v := 1) hx hb dL_law_1165 (by decide) ?_
  refine lv_iadd hx hb dL_law_1166 ?_
  refine va_sld hx hb hX hbl hbA hS (i_in (by omega) (by omega)) dL_law_1167 ?_
  rw [hs1]
  refine lv_aload_n hx hb dL_law_1168 rfl (lv_at hl 0 rfl) ?_
  refine lv_iload_n hx hb dL_law_1169 rfl (lv_at hl 3 rfl) ?_
  refine lv_iconst (v := 2) hx hb dL_law_1170 (by decide) ?_
  refine lv_iadd hx hb dL_law_1171 ?_
  refine va_sld hx hb hX hbl hbA hS (i_in (by omega) (by omega)) dL_law_1172 ?_
  rw [hs2]
  refine lv_aload_n hx hb dL_law_1173 rfl (lv_at hl 0 rfl) ?_
  refine lv_iload_n hx hb dL_law_1174 rfl (lv_at hl 3 rfl) ?_
  refine lv_iconst (v := 3) hx hb dL_law_1175 (by decide) ?_
  refine lv_iadd hx hb dL_law_1176 ?_
  refine va_sld hx hb hX hbl hbA hS (i_in (by omega) (by omega)) dL_law_1177 ?_
  rw [hs3]
  refine lv_i2l hx hb dL_law_1178 rfl ?_
  refine lv_topl (fun l_1 el_1 => ?_)
  refine lv_bipush (v := 32) hx hb dL_law_1179 (by decide) ?_
  refine lv_lshl hx hb dL_law_1181 rfl ?_
  refine lv_topl (fun l_2 el_2 => ?_)
  refine lv_aload_n hx hb dL_law_1182 rfl (lv_at hl 0 rfl) ?_
  refine lv_iload_n hx hb dL_law_1183 rfl (lv_at hl 3 rfl) ?_
  refine lv_iconst (v := 4) hx hb dL_law_1184 (by decide) ?_
  refine lv_iadd hx hb dL_law_1185 ?_
  refine va_sld hx hb hX hbl hbA hS (i_in (by omega) (by omega)) dL_law_1186 ?_
  rw [hs4]
  refine lv_i2l hx hb dL_law_1187 rfl ?_
  refine lv_topl (fun l_3 el_3 => ?_)
  refine lv_ldc2 hx hb hown (v := 4294967295) (hg _ q7_132) dL_law_1188 ?_
  refine lv_land hx hb dL_law_1191 ?_
  refine lv_topl (fun l_4 el_4 => ?_)
  refine lv_lor hx hb dL_law_1192 ?_
  refine lv_topl (fun l_5 el_5 => ?_)
  refine cL_i (As := [.int s1, .int s2, .long l_5]) (rest := []) ⟨hx, hb, hml, hown, hg⟩ (k_X11_put l D cs _ ad fa fq rv v a w fv fp s1 s2 l_5 ia28_0 ia29_0) ca_X11_put q4_178 ⟨rfl, rfl⟩ ⟨Nat.le_of_ble_eq_true rfl, Nat.le_of_ble_eq_true rfl⟩ (rc_main hK (pw_l hP)) hK hP hD hS hZ rfl hl.1 rfl (Nat.le_of_ble_eq_true rfl) ⟨Nat.le_of_ble_eq_true rfl, Nat.le_of_ble_eq_true rfl⟩ dL_law_1193 (fun r_6 grow_7 H locs wr_6 hP hD hS => ?_)
  have hP : va_P D vwCl (CW cs ad fa fq rv v a (va_up w s1.toNatClampNeg grow_7) fv fp ++ RW cs bd u b_ bw) H := hP
  have hD : va_D (fun q : Nat => s.heap.size ≤ q) (CW cs ad fa fq rv v a (va_up w s1.toNatClampNeg grow_7) fv fp ++ RW cs bd u b_ bw) := hD
  obtain ⟨wr_6_0, wr_6_1, wr_6_2⟩ : ((¬ (0 ≤ s1.toInt ∧ s1.toInt < 6) ∧ r_6.toInt = -1) ∨ ((0 ≤ s1.toInt ∧ s1.toInt < 6) ∧ ((((a 28) s1.toNatClampNeg).toInt = -1 ∧ r_6.toInt = -11) ∨ (((a 28) s1.toNatClampNeg).toInt = 5 ∧ r_6.toInt = -12) ∨ ((((a 28) s1.toNatClampNeg).toInt ≠ -1 ∧ ((a 28) s1.toNatClampNeg).toInt ≠ 5) ∧ (0 ≤ s2.toInt ∧ s2.toInt < ((a 29) s1.toNatClampNeg).toInt) ∧ r_6.toInt = 1) ∨ ((((a 28) s1.toNatClampNeg).toInt ≠ -1 ∧ ((a 28) s1.toNatClampNeg).toInt ≠ 5) ∧ ¬ (0 ≤ s2.toInt ∧ s2.toInt < ((a 29) s1.toNatClampNeg).toInt) ∧ r_6.toInt = -13)))) ∧ (r_6.toInt = 1 → grow_7 = vp_updL (w s1.toNatClampNeg) s2.toNatClampNeg (LOWV ((a 28) s1.toNatClampNeg).toInt l_5)) ∧ (r_6.toInt ≠ 1 → grow_7 = (w s1.toNatClampNeg)) := wr_6
  refine lv_pop hx hb dL_law_1196 rfl ?_
  refine lv_aload_n hx hb dL_law_1197 rfl (lv_at hl 2 rfl) ?_
  refine lv_aload_n hx hb dL_law_1198 rfl (lv_at hl 0 rfl) ?_
  refine lv_iload_n hx hb dL_law_1199 rfl (lv_at hl 3 rfl) ?_
  refine lv_iconst (v := 1) hx hb dL_law_1200 (by decide) ?_
  refine lv_iadd hx hb dL_law_1201 ?_
  refine va_sld hx hb hX hbl hbA hS (i_in (by omega) (by omega)) dL_law_1202 ?_
  rw [hs1]
  refine lv_aload_n hx hb dL_law_1203 rfl (lv_at hl 0 rfl) ?_
  refine lv_iload_n hx hb dL_law_1204 rfl (lv_at hl 3 rfl) ?_
  refine lv_iconst (v := 2) hx hb dL_law_1205 (by decide) ?_
  refine lv_iadd hx hb dL_law_1206 ?_
  refine va_sld hx hb hX hbl hbA hS (i_in (by omega) (by omega)) dL_law_1207 ?_
  rw [hs2]
  refine lv_aload_n hx hb dL_law_1208 rfl (lv_at hl 0 rfl) ?_
  refine lv_iload_n hx hb dL_law_1209 rfl (lv_at hl 3 rfl) ?_
  refine lv_iconst (v := 3) hx hb dL_law_1210 (by decide) ?_
  refine lv_iadd hx hb dL_law_1211 ?_
  refine va_sld hx hb hX hbl hbA hS (i_in (by omega) (by omega)) dL_law_1212 ?_
  rw [hs3]
  refine lv_i2l hx hb dL_law_1213 rfl ?_
  refine lv_topl (fun l_8 el_8 => ?_)
  refine lv_bipush (v := 32) hx hb dL_law_1214 (by decide) ?_
  refine lv_lshl hx hb dL_law_1216 rfl ?_
  refine lv_topl (fun l_9 el_9 => ?_)
  refine lv_aload_n hx hb dL_law_1217 rfl (lv_at hl 0 rfl) ?_
  refine lv_iload_n hx hb dL_law_1218 rfl (lv_at hl 3 rfl) ?_
  refine lv_iconst (v := 4) hx hb dL_law_1219 (by decide) ?_
  refine lv_iadd hx hb dL_law_1220 ?_
  refine va_sld hx hb hX hbl hbA hS (i_in (by omega) (by omega)) dL_law_1221 ?_
  rw [hs4]
  refine lv_i2l hx hb dL_law_1222 rfl ?_
  refine lv_topl (fun l_10 el_10 => ?_)
  refine lv_ldc2 hx hb hown (v := 4294967295) (hg _ q7_132) dL_law_1223 ?_
  refine lv_land hx hb dL_law_1226 ?_
  refine lv_topl (fun l_11 el_11 => ?_)
  refine lv_lor hx hb dL_law_1227 ?_
  refine lv_topl (fun l_12 el_12 => ?_)
  refine cR_i (As := [.int s1, .int s2, .long l_12]) (rest := []) ⟨hx, hb, hml, hown, hg⟩ (k_X12_put l D cs _ bd u b_ bw s1 s2 l_12 ib66_0 ib67_0) ca_X12_put q7_111 ⟨rfl, rfl⟩ ⟨Nat.le_of_ble_eq_true rfl, Nat.le_of_ble_eq_true rfl⟩ (rc_model hK (pw_r hP)) hK hP hD hS hZ rfl hl.1 rfl (Nat.le_of_ble_eq_true rfl) ⟨Nat.le_of_ble_eq_true rfl, Nat.le_of_ble_eq_true rfl⟩ dL_law_1228 (fun r_13 o_bw68_14 H locs wr_13 hP hD hS => ?_)
  have hP : va_P D vwCl (CW cs ad fa fq rv v a (va_up w s1.toNatClampNeg grow_7) fv fp ++ RW cs bd u b_ (va_up bw 68 o_bw68_14)) H := hP
  have hD : va_D (fun q : Nat => s.heap.size ≤ q) (CW cs ad fa fq rv v a (va_up w s1.toNatClampNeg grow_7) fv fp ++ RW cs bd u b_ (va_up bw 68 o_bw68_14)) := hD
  obtain ⟨wr_13_0, wr_13_1, wr_13_2⟩ : ((¬ (0 ≤ s1.toInt ∧ s1.toInt < 6) ∧ r_13.toInt = -1) ∨ ((0 ≤ s1.toInt ∧ s1.toInt < 6) ∧ ((((b_ 66) s1.toNatClampNeg).toInt = -1 ∧ r_13.toInt = -11) ∨ (0 ≤ ((b_ 66) s1.toNatClampNeg).toInt ∧ r_13.toInt = -12) ∨ (((b_ 66) s1.toNatClampNeg).toInt < -1 ∧ (0 ≤ s2.toInt ∧ s2.toInt < ((b_ 67) s1.toNatClampNeg).toInt) ∧ r_13.toInt = 1) ∨ (((b_ 66) s1.toNatClampNeg).toInt < -1 ∧ ¬ (0 ≤ s2.toInt ∧ s2.toInt < ((b_ 67) s1.toNatClampNeg).toInt) ∧ r_13.toInt = -13)))) ∧ (r_13.toInt = 1 → o_bw68_14 = vp_updL (bw 68) (60 * s1.toNatClampNeg + s2.toNatClampNeg) (LOWV (-2 - ((b_ 66) s1.toNatClampNeg).toInt) l_12)) ∧ (r_13.toInt ≠ 1 → o_bw68_14 = (bw 68)) := wr_13
  have hsq : (0 ≤ s1.toInt ∧ s1.toInt < 6) → ((a 28 s1.toNatClampNeg).toInt = -1 ∧ (b_ 66 s1.toNatClampNeg).toInt = -1) ∨ ((a 28 s1.toNatClampNeg).toInt = 5 ∧ (b_ 66 s1.toNatClampNeg).toInt = (a 29 s1.toNatClampNeg).toInt ∧ 0 ≤ (a 29 s1.toNatClampNeg).toInt ∧ (a 29 s1.toNatClampNeg).toInt < (v 21).toInt) ∨ (0 ≤ (a 28 s1.toNatClampNeg).toInt ∧ (a 28 s1.toNatClampNeg).toInt ≤ 4 ∧ (b_ 66 s1.toNatClampNeg).toInt = -2 - (a 28 s1.toNatClampNeg).toInt ∧ (b_ 67 s1.toNatClampNeg).toInt = (a 29 s1.toNatClampNeg).toInt ∧ 0 ≤ (a 29 s1.toNatClampNeg).toInt ∧ (a 29 s1.toNatClampNeg).toInt ≤ 60) := fun q => SHS_num (esh s1.toNatClampNeg (by show s1.toInt.toNat < 6; omega))
  have hll : l_12 = l_5 := by simp only [el_12, el_11, el_10, el_9, el_8, el_5, el_4, el_3, el_2, el_1]
  have hre : r_6.toInt = r_13.toInt := by
    rcases wr_6_0 with ⟨a0, a1⟩ | ⟨a0, a1⟩ <;> rcases wr_13_0 with ⟨b0, b1⟩ | ⟨b0, b1⟩ <;> first | omega | (have q := hsq a0; omega)
  have hsh : SH (a 28) (a 29) (va_up w s1.toNatClampNeg grow_7) (b_ 66) (b_ 67) o_bw68_14 (v 21) := by
    by_cases q : r_6.toInt = 1
    · rcases wr_6_0 with ⟨a0, a1⟩ | ⟨a0, a1⟩
      · exfalso; omega
      · have qq := hsq a0
        rw [wr_6_1 q, wr_13_1 (by omega), hll, LOWV_c (show -2 - (b_ 66 s1.toNatClampNeg).toInt = (a 28 s1.toNatClampNeg).toInt by omega)]; exact SH_put esh (by show s2.toInt.toNat < 60; omega)
    · rw [wr_6_2 q, wr_13_2 (by omega), va_up_id]; exact esh
  refine lv_pop hx hb dL_law_1231 rfl ?_
  refine lv_goto (tgt := 1387) hx hb dL_law_1232 (by decide) ?_
  have hI1 : CI v a fv := ⟨iv1_0, iv1_1, ia28_0, ia29_0, iv20_0, iv20_1, iv19_0, iv19_1, iv19_2, ia24_0, ia25_0, ifv14_0, iv4_0, iv4_1, ia18_0, iv24_0, iv24_1, iv25_0, iv25_1, iv25_2, iv26_0, iv26_1, ia19_0, iv5_0, iv5_1, iv6_0, iv6_1, iv6_2, iv11_0, iv11_1, iv14_0, iv14_1, iv0_0, iv0_1, iv0_2, ifv17_0, iv21_0, iv21_1, ia37_0, iv23_0, iv23_1, iv22_0, iv22_1⟩
  have hR1 : RI u b_ (va_up bw 68 o_bw68_14) := ⟨iu1_0, iu1_1, ib67_0, ib66_0, iu8_0, iu8_1, ib10_0, ib11_0, iu9_0, iu9_1, iu9_2, iu15_0, iu15_1, hlaw, ib23_0, ib20_0, ib24_0, iu7_0, iu7_1, iu41_0, iu41_1, iu48_0, iu48_1, iu46_0, iu46_1, iu47_0, iu47_1, iu55_0, iu55_1, iu55_2, iu58_0, iu62_0, iu62_1, ib63_0, iu64_0, iu64_1⟩
  have hE1 : REL v a (va_up w s1.toNatClampNeg grow_7) fv u b_ (va_up bw 68 o_bw68_14) := ⟨(show (v 1).toInt = (u 1).toInt by first | omega | assumption | exact e1), (show (v 4).toInt = (u 15).toInt by first | omega | assumption | exact e4), (show (v 21).toInt = (u 62).toInt by first | omega | assumption | exact e21), (show (v 22).toInt = (u 64).toInt by first | omega | assumption | exact e22), (show (fv 14 3) = (b_ 53) 0 by first | omega | assumption | exact es14), (show (fv 17 3) = (b_ 61) 0 by first | omega | assumption | exact es17), (show ((v 0).toInt < 0 ∧ (u 54).toInt = 0) ∨ (0 ≤ (v 0).toInt ∧ (u 54).toInt ≠ 0) by first | omega | assumption | exact eim), (show ∀ j, (a 37) j = (b_ 63) j by first | omega | assumption | exact ek), (show ∀ j, (a 38) j = (b_ 65) j by first | omega | assumption | exact et), (show SH (a 28) (a 29) (va_up w s1.toNatClampNeg grow_7) (b_ 66) (b_ 67) o_bw68_14 (v 21) by first | (exact hsh) | first | omega | assumption | exact esh)⟩
  exact kk ad rv v a (va_up w s1.toNatClampNeg grow_7) fv fp bd u b_ (va_up bw 68 o_bw68_14) _ _ ls rfl rfl hI1 hR1 hE1 hP hD hS hl
set_option maxHeartbeats 8000000 in
set_option maxRecDepth 100000 in
theorem lc_element {p : Program} {e : Env} {s : State} {m : MethodId} {below : List Frame} {meth : Method} {c : Code} (l : Launch) {b L : Nat} {xs : Nat → Int32} (C0 : lw_At p s m meth c b L xs) (hL : L ≤ 3072) {D : va_G} {cs : Nat → ClassId} {fa fq : Nat → Nat} (hK : va_K D vwCl (TY cs) s) (hZ : ZS (fun q : Nat => s.heap.size ≤ q) s) {x0 y0 : Nat} {i : Int32} (hi0 : 0 ≤ i.toInt) (hiL : i.toInt + 6 ≤ (L : Int)) (ad rv : Nat → Nat) (v : Nat → Int32) (a : Nat → Nat → Int32) (w : Nat → Nat → Int64) (fv fp : Nat → Nat → Int32) (bd : Nat → Nat) (u : Nat → Int32) (b_ : Nat → Nat → Int32) (bw : Nat → Nat → Int64) (H : Heap) (locs : List Loc) (ls : Array Slot) (hl : lv_has ls 4 [(0, .ref b), (1, .ref x0), (2, .ref y0), (3, .int i)]) (hx0 : ad 0 = x0) (hy0 : bd 0 = y0) (hI : CI v a fv) (hR : RI u b_ bw) (hE : REL v a w fv u b_ bw) (hP : va_P D vwCl (CW cs ad fa fq rv v a w fv fp ++ RW cs bd u b_ bw) H) (hD : va_D (fun q : Nat => s.heap.size ≤ q) (CW cs ad fa fq rv v a w fv fp ++ RW cs bd u b_ bw)) (hS : va_S (fun q : Nat => s.heap.size ≤ q) s.heap H locs)
    (kk : ∀ (ad rv : Nat → Nat) (v : Nat → Int32) (a : Nat → Nat → Int32) (w : Nat → Nat → Int64) (fv fp : Nat → Nat → Int32) (bd : Nat → Nat) (u : Nat → Int32) (b_ : Nat → Nat → Int32) (bw : Nat → Nat → Int64) (H : Heap) (locs : List Loc) (ls : Array Slot) (hx0 : ad 0 = x0) (hy0 : bd 0 = y0) (hI : CI v a fv) (hR : RI u b_ bw) (hE : REL v a w fv u b_ bw) (hP : va_P D vwCl (CW cs ad fa fq rv v a w fv fp ++ RW cs bd u b_ bw) H) (hD : va_D (fun q : Nat => s.heap.size ≤ q) (CW cs ad fa fq rv v a w fv fp ++ RW cs bd u b_ bw)) (hS : va_S (fun q : Nat => s.heap.size ≤ q) s.heap H locs) (hl : lv_has ls 4 [(0, .ref b), (1, .ref x0), (2, .ref y0), (3, .int i)]), W p l e room_1 s m #[Value.ref b] below meth c H locs 200 9000 (lw_Z below #[Value.ref b] s) (F0 m 1387 ls [])) : W p l e room_1 s m #[Value.ref b] below meth c H locs 200 9000 (lw_Z below #[Value.ref b] s) (F0 m 1235 ls []) := by
  obtain ⟨hx, hb, hr, hml, hown, hts, hX, hbl, hlocks, hgv⟩ := id C0
  have hg : ∀ w ∈ gw, w.before #[Value.ref b] s = true := fun w h => hts w (gw_in w h)
  have hbA : ¬ (fun q : Nat => s.heap.size ≤ q) b := Nat.not_le.mpr hbl
  subst hx0
  subst hy0
  obtain ⟨iv1_0, iv1_1, ia28_0, ia29_0, iv20_0, iv20_1, iv19_0, iv19_1, iv19_2, ia24_0, ia25_0, ifv14_0, iv4_0, iv4_1, ia18_0, iv24_0, iv24_1, iv25_0, iv25_1, iv25_2, iv26_0, iv26_1, ia19_0, iv5_0, iv5_1, iv6_0, iv6_1, iv6_2, iv11_0, iv11_1, iv14_0, iv14_1, iv0_0, iv0_1, iv0_2, ifv17_0, iv21_0, iv21_1, ia37_0, iv23_0, iv23_1, iv22_0, iv22_1⟩ := id hI
  obtain ⟨iu1_0, iu1_1, ib67_0, ib66_0, iu8_0, iu8_1, ib10_0, ib11_0, iu9_0, iu9_1, iu9_2, iu15_0, iu15_1, hlaw, ib23_0, ib20_0, ib24_0, iu7_0, iu7_1, iu41_0, iu41_1, iu48_0, iu48_1, iu46_0, iu46_1, iu47_0, iu47_1, iu55_0, iu55_1, iu55_2, iu58_0, iu62_0, iu62_1, ib63_0, iu64_0, iu64_1⟩ := id hR
  obtain ⟨e1, e4, e21, e22, es14, es17, eim, ek, et, esh⟩ := id hE
  obtain ⟨s1, hs1⟩ : ∃ y, xs (i + 1).toNatClampNeg = y := ⟨_, rfl⟩
  obtain ⟨s2, hs2⟩ : ∃ y, xs (i + 2).toNatClampNeg = y := ⟨_, rfl⟩
  obtain ⟨s3, hs3⟩ : ∃ y, xs (i + 3).toNatClampNeg = y := ⟨_, rfl⟩
  obtain ⟨s4, hs4⟩ : ∃ y, xs (i + 4).toNatClampNeg = y := ⟨_, rfl⟩
  obtain ⟨s5, hs5⟩ : ∃ y, xs (i + 5).toNatClampNeg = y := ⟨_, rfl⟩
  have hq1 : (i + 1).toInt = i.toInt + 1 := i_add (by show _ ≤ i.toInt + (1 : Int32).toInt; have q : (1 : Int32).toInt = 1 := rfl; omega) (by show i.toInt + (1 : Int32).toInt ≤ _; have q : (1 : Int32).toInt = 1 := rfl; omega)
  have hq2 : (i + 2).toInt = i.toInt + 2 := i_add (by show _ ≤ i.toInt + (2 : Int32).toInt; have q : (2 : Int32).toInt = 2 := rfl; omega) (by show i.toInt + (2 : Int32).toInt ≤ _; have q : (2 : Int32).toInt = 2 := rfl; omega)
  have hq3 : (i + 3).toInt = i.toInt + 3 := i_add (by show _ ≤ i.toInt + (3 : Int32).toInt; have q : (3 : Int32).toInt = 3 := rfl; omega) (by show i.toInt + (3 : Int32).toInt ≤ _; have q : (3 : Int32).toInt = 3 := rfl; omega)
  have hq4 : (i + 4).toInt = i.toInt + 4 := i_add (by show _ ≤ i.toInt + (4 : Int32).toInt; have q : (4 : Int32).toInt = 4 := rfl; omega) (by show i.toInt + (4 : Int32).toInt ≤ _; have q : (4 : Int32).toInt = 4 := rfl; omega)
  have hq5 : (i + 5).toInt = i.toInt + 5 := i_add (by show _ ≤ i.toInt + (5 : Int32).toInt; have q : (5 : Int32).toInt = 5 := rfl; omega) (by show i.toInt + (5 : Int32).toInt ≤ _; have q : (5 : Int32).toInt = 5 := rfl; omega)
  refine lv_aload_n hx hb dL_law_1235 rfl (lv_at hl 1 rfl) ?_
  refine lv_aload_n hx hb dL_law_1236 rfl (lv_at hl 0 rfl) ?_
  refine lv_iload_n hx hb dL_law_1237 rfl (lv_at hl 3 rfl) ?_
  refine lv_iconst (v := 1) hx hb dL_law_1238 (by decide) ?_
  refine lv_iadd hx hb dL_law_1239 ?_
  refine va_sld hx hb hX hbl hbA hS (i_in (by omega) (by omega)) dL_law_1240 ?_
  rw [hs1]
  refine lv_aload_n hx hb dL_law_1241 rfl (lv_at hl 0 rfl) ?_
  refine lv_iload_n hx hb dL_law_1242 rfl (lv_at hl 3 rfl) ?_
  refine lv_iconst (v := 2) hx hb dL_law_1243 (by decide) ?_
  refine lv_iadd hx hb dL_law_1244 ?_
  refine va_sld hx hb hX hbl hbA hS (i_in (by omega) (by omega)) dL_law_1245 ?_
  rw [hs2]
  refine cL_rol (As := [.int s1, .int s2]) (rest := []) ⟨hx, hb, hml, hown, hg⟩ (k_X11_element l D cs _ ad fa fq rv v a w fv fp s1 s2 ia28_0 ia29_0) ca_X11_element q4_194 ⟨rfl, rfl⟩ ⟨Nat.le_of_ble_eq_true rfl, Nat.le_of_ble_eq_true rfl⟩ (rc_main hK (pw_l hP)) hK hP hD hS hZ rfl hl.1 rfl (Nat.le_of_ble_eq_true rfl) ⟨Nat.le_of_ble_eq_true rfl, Nat.le_of_ble_eq_true rfl⟩ dL_law_1246 (fun r_1 wr_1 => ?_)
  have wr_1_0 : (((0 ≤ s1.toInt ∧ s1.toInt < 6) ∧ (((a 28) s1.toNatClampNeg).toInt ≠ -1 ∧ ((a 28) s1.toNatClampNeg).toInt ≠ 5) ∧ 0 ≤ s2.toInt ∧ s2.toInt < ((a 29) s1.toNatClampNeg).toInt) ∧ r_1 = (w s1.toNatClampNeg) s2.toNatClampNeg) ∨ (¬ ((0 ≤ s1.toInt ∧ s1.toInt < 6) ∧ (((a 28) s1.toNatClampNeg).toInt ≠ -1 ∧ ((a 28) s1.toNatClampNeg).toInt ≠ 5) ∧ 0 ≤ s2.toInt ∧ s2.toInt < ((a 29) s1.toNatClampNeg).toInt) ∧ r_1 = -9223372036854775808) := wr_1
  refine lv_pop2_2 hx hb dL_law_1249 rfl ?_
  refine lv_aload_n hx hb dL_law_1250 rfl (lv_at hl 2 rfl) ?_
  refine lv_aload_n hx hb dL_law_1251 rfl (lv_at hl 0 rfl) ?_
  refine lv_iload_n hx hb dL_law_1252 rfl (lv_at hl 3 rfl) ?_
  refine lv_iconst (v := 1) hx hb dL_law_1253 (by decide) ?_
  refine lv_iadd hx hb dL_law_1254 ?_
  refine va_sld hx hb hX hbl hbA hS (i_in (by omega) (by omega)) dL_law_1255 ?_
  rw [hs1]
  refine lv_aload_n hx hb dL_law_1256 rfl (lv_at hl 0 rfl) ?_
  refine lv_iload_n hx hb dL_law_1257 rfl (lv_at hl 3 rfl) ?_
  refine lv_iconst (v := 2) hx hb dL_law_1258 (by decide) ?_
  refine lv_iadd hx hb dL_law_1259 ?_
  refine va_sld hx hb hX hbl hbA hS (i_in (by omega) (by omega)) dL_law_1260 ?_
  rw [hs2]
  refine cR_rol (As := [.int s1, .int s2]) (rest := []) ⟨hx, hb, hml, hown, hg⟩ (k_X12_element l D cs _ bd u b_ bw s1 s2 ib66_0 ib67_0) ca_X12_element q7_119 ⟨rfl, rfl⟩ ⟨Nat.le_of_ble_eq_true rfl, Nat.le_of_ble_eq_true rfl⟩ (rc_model hK (pw_r hP)) hK hP hD hS hZ rfl hl.1 rfl (Nat.le_of_ble_eq_true rfl) ⟨Nat.le_of_ble_eq_true rfl, Nat.le_of_ble_eq_true rfl⟩ dL_law_1261 (fun r_3 wr_3 => ?_)
  have wr_3_0 : (((0 ≤ s1.toInt ∧ s1.toInt < 6) ∧ ((b_ 66) s1.toNatClampNeg).toInt < -1 ∧ 0 ≤ s2.toInt ∧ s2.toInt < ((b_ 67) s1.toNatClampNeg).toInt) ∧ r_3 = (bw 68) (60 * s1.toNatClampNeg + s2.toNatClampNeg)) ∨ (¬ ((0 ≤ s1.toInt ∧ s1.toInt < 6) ∧ ((b_ 66) s1.toNatClampNeg).toInt < -1 ∧ 0 ≤ s2.toInt ∧ s2.toInt < ((b_ 67) s1.toNatClampNeg).toInt) ∧ r_3 = -9223372036854775808) := wr_3
  have hsq : (0 ≤ s1.toInt ∧ s1.toInt < 6) → ((a 28 s1.toNatClampNeg).toInt = -1 ∧ (b_ 66 s1.toNatClampNeg).toInt = -1) ∨ ((a 28 s1.toNatClampNeg).toInt = 5 ∧ (b_ 66 s1.toNatClampNeg).toInt = (a 29 s1.toNatClampNeg).toInt ∧ 0 ≤ (a 29 s1.toNatClampNeg).toInt ∧ (a 29 s1.toNatClampNeg).toInt < (v 21).toInt) ∨ (0 ≤ (a 28 s1.toNatClampNeg).toInt ∧ (a 28 s1.toNatClampNeg).toInt ≤ 4 ∧ (b_ 66 s1.toNatClampNeg).toInt = -2 - (a 28 s1.toNatClampNeg).toInt ∧ (b_ 67 s1.toNatClampNeg).toInt = (a 29 s1.toNatClampNeg).toInt ∧ 0 ≤ (a 29 s1.toNatClampNeg).toInt ∧ (a 29 s1.toNatClampNeg).toInt ≤ 60) := fun q => SHS_num (esh s1.toNatClampNeg (by show s1.toInt.toNat < 6; omega))
  have hre : r_1 = r_3 := by
    rcases wr_1_0 with ⟨a0, a1⟩ | ⟨a0, a1⟩ <;> rcases wr_3_0 with ⟨b0, b1⟩ | ⟨b0, b1⟩
    · rw [a1, b1]; exact SHS_row (esh s1.toNatClampNeg (by show s1.toInt.toNat < 6; omega)) (by have q := hsq a0.1; omega) (by have q := hsq a0.1; omega) _ (by have q := hsq a0.1; show s2.toInt.toNat < 60; omega)
    · exfalso; have q := hsq a0.1; omega
    · exfalso; have q := hsq b0.1; omega
    · rw [a1, b1]
  refine lv_pop2_2 hx hb dL_law_1264 rfl ?_
  refine lv_goto (tgt := 1387) hx hb dL_law_1265 (by decide) ?_
  have hI1 : CI v a fv := ⟨iv1_0, iv1_1, ia28_0, ia29_0, iv20_0, iv20_1, iv19_0, iv19_1, iv19_2, ia24_0, ia25_0, ifv14_0, iv4_0, iv4_1, ia18_0, iv24_0, iv24_1, iv25_0, iv25_1, iv25_2, iv26_0, iv26_1, ia19_0, iv5_0, iv5_1, iv6_0, iv6_1, iv6_2, iv11_0, iv11_1, iv14_0, iv14_1, iv0_0, iv0_1, iv0_2, ifv17_0, iv21_0, iv21_1, ia37_0, iv23_0, iv23_1, iv22_0, iv22_1⟩
  have hR1 : RI u b_ bw := ⟨iu1_0, iu1_1, ib67_0, ib66_0, iu8_0, iu8_1, ib10_0, ib11_0, iu9_0, iu9_1, iu9_2, iu15_0, iu15_1, hlaw, ib23_0, ib20_0, ib24_0, iu7_0, iu7_1, iu41_0, iu41_1, iu48_0, iu48_1, iu46_0, iu46_1, iu47_0, iu47_1, iu55_0, iu55_1, iu55_2, iu58_0, iu62_0, iu62_1, ib63_0, iu64_0, iu64_1⟩
  have hE1 : REL v a w fv u b_ bw := ⟨(show (v 1).toInt = (u 1).toInt by first | omega | assumption | exact e1), (show (v 4).toInt = (u 15).toInt by first | omega | assumption | exact e4), (show (v 21).toInt = (u 62).toInt by first | omega | assumption | exact e21), (show (v 22).toInt = (u 64).toInt by first | omega | assumption | exact e22), (show (fv 14 3) = (b_ 53) 0 by first | omega | assumption | exact es14), (show (fv 17 3) = (b_ 61) 0 by first | omega | assumption | exact es17), (show ((v 0).toInt < 0 ∧ (u 54).toInt = 0) ∨ (0 ≤ (v 0).toInt ∧ (u 54).toInt ≠ 0) by first | omega | assumption | exact eim), (show ∀ j, (a 37) j = (b_ 63) j by first | omega | assumption | exact ek), (show ∀ j, (a 38) j = (b_ 65) j by first | omega | assumption | exact et), (show SH (a 28) (a 29) w (b_ 66) (b_ 67) (bw 68) (v 21) by first | omega | assumption | exact esh)⟩
  exact kk ad rv v a w fv fp bd u b_ bw _ _ ls rfl rfl hI1 hR1 hE1 hP hD hS hl
set_option maxHeartbeats 8000000 in
set_option maxRecDepth 100000 in
theorem lc_shift {p : Program} {e : Env} {s : State} {m : MethodId} {below : List Frame} {meth : Method} {c : Code} (l : Launch) {b L : Nat} {xs : Nat → Int32} (C0 : lw_At p s m meth c b L xs) (hL : L ≤ 3072) {D : va_G} {cs : Nat → ClassId} {fa fq : Nat → Nat} (hK : va_K D vwCl (TY cs) s) (hZ : ZS (fun q : Nat => s.heap.size ≤ q) s) {x0 y0 : Nat} {i : Int32} (hi0 : 0 ≤ i.toInt) (hiL : i.toInt + 6 ≤ (L : Int)) (ad rv : Nat → Nat) (v : Nat → Int32) (a : Nat → Nat → Int32) (w : Nat → Nat → Int64) (fv fp : Nat → Nat → Int32) (bd : Nat → Nat) (u : Nat → Int32) (b_ : Nat → Nat → Int32) (bw : Nat → Nat → Int64) (H : Heap) (locs : List Loc) (ls : Array Slot) (hl : lv_has ls 4 [(0, .ref b), (1, .ref x0), (2, .ref y0), (3, .int i)]) (hx0 : ad 0 = x0) (hy0 : bd 0 = y0) (hI : CI v a fv) (hR : RI u b_ bw) (hE : REL v a w fv u b_ bw) (hP : va_P D vwCl (CW cs ad fa fq rv v a w fv fp ++ RW cs bd u b_ bw) H) (hD : va_D (fun q : Nat => s.heap.size ≤ q) (CW cs ad fa fq rv v a w fv fp ++ RW cs bd u b_ bw)) (hS : va_S (fun q : Nat => s.heap.size ≤ q) s.heap H locs)
    (kk : ∀ (ad rv : Nat → Nat) (v : Nat → Int32) (a : Nat → Nat → Int32) (w : Nat → Nat → Int64) (fv fp : Nat → Nat → Int32) (bd : Nat → Nat) (u : Nat → Int32) (b_ : Nat → Nat → Int32) (bw : Nat → Nat → Int64) (H : Heap) (locs : List Loc) (ls : Array Slot) (hx0 : ad 0 = x0) (hy0 : bd 0 = y0) (hI : CI v a fv) (hR : RI u b_ bw) (hE : REL v a w fv u b_ bw) (hP : va_P D vwCl (CW cs ad fa fq rv v a w fv fp ++ RW cs bd u b_ bw) H) (hD : va_D (fun q : Nat => s.heap.size ≤ q) (CW cs ad fa fq rv v a w fv fp ++ RW cs bd u b_ bw)) (hS : va_S (fun q : Nat => s.heap.size ≤ q) s.heap H locs) (hl : lv_has ls 4 [(0, .ref b), (1, .ref x0), (2, .ref y0), (3, .int i)]), W p l e room_1 s m #[Value.ref b] below meth c H locs 200 9000 (lw_Z below #[Value.ref b] s) (F0 m 1387 ls [])) : W p l e room_1 s m #[Value.ref b] below meth c H locs 200 9000 (lw_Z below #[Value.ref b] s) (F0 m 1268 ls []) := by
  obtain ⟨hx, hb, hr, hml, hown, hts, hX, hbl, hlocks, hgv⟩ := id C0
  have hg : ∀ w ∈ gw, w.before #[Value.ref b] s = true := fun w h => hts w (gw_in w h)
  have hbA : ¬ (fun q : Nat => s.heap.size ≤ q) b := Nat.not_le.mpr hbl
  subst hx0
  subst hy0
  obtain ⟨iv1_0, iv1_1, ia28_0, ia29_0, iv20_0, iv20_1, iv19_0, iv19_1, iv19_2, ia24_0, ia25_0, ifv14_0, iv4_0, iv4_1, ia18_0, iv24_0, iv24_1, iv25_0, iv25_1, iv25_2, iv26_0, iv26_1, ia19_0, iv5_0, iv5_1, iv6_0, iv6_1, iv6_2, iv11_0, iv11_1, iv14_0, iv14_1, iv0_0, iv0_1, iv0_2, ifv17_0, iv21_0, iv21_1, ia37_0, iv23_0, iv23_1, iv22_0, iv22_1⟩ := id hI
  obtain ⟨iu1_0, iu1_1, ib67_0, ib66_0, iu8_0, iu8_1, ib10_0, ib11_0, iu9_0, iu9_1, iu9_2, iu15_0, iu15_1, hlaw, ib23_0, ib20_0, ib24_0, iu7_0, iu7_1, iu41_0, iu41_1, iu48_0, iu48_1, iu46_0, iu46_1, iu47_0, iu47_1, iu55_0, iu55_1, iu55_2, iu58_0, iu62_0, iu62_1, ib63_0, iu64_0, iu64_1⟩ := id hR
  obtain ⟨e1, e4, e21, e22, es14, es17, eim, ek, et, esh⟩ := id hE
  obtain ⟨s1, hs1⟩ : ∃ y, xs (i + 1).toNatClampNeg = y := ⟨_, rfl⟩
  obtain ⟨s2, hs2⟩ : ∃ y, xs (i + 2).toNatClampNeg = y := ⟨_, rfl⟩
  obtain ⟨s3, hs3⟩ : ∃ y, xs (i + 3).toNatClampNeg = y := ⟨_, rfl⟩
  obtain ⟨s4, hs4⟩ : ∃ y, xs (i + 4).toNatClampNeg = y := ⟨_, rfl⟩
  obtain ⟨s5, hs5⟩ : ∃ y, xs (i + 5).toNatClampNeg = y := ⟨_, rfl⟩
  have hq1 : (i + 1).toInt = i.toInt + 1 := i_add (by show _ ≤ i.toInt + (1 : Int32).toInt; have q : (1 : Int32).toInt = 1 := rfl; omega) (by show i.toInt + (1 : Int32).toInt ≤ _; have q : (1 : Int32).toInt = 1 := rfl; omega)
  have hq2 : (i + 2).toInt = i.toInt + 2 := i_add (by show _ ≤ i.toInt + (2 : Int32).toInt; have q : (2 : Int32).toInt = 2 := rfl; omega) (by show i.toInt + (2 : Int32).toInt ≤ _; have q : (2 : Int32).toInt = 2 := rfl; omega)
  have hq3 : (i + 3).toInt = i.toInt + 3 := i_add (by show _ ≤ i.toInt + (3 : Int32).toInt; have q : (3 : Int32).toInt = 3 := rfl; omega) (by show i.toInt + (3 : Int32).toInt ≤ _; have q : (3 : Int32).toInt = 3 := rfl; omega)
  have hq4 : (i + 4).toInt = i.toInt + 4 := i_add (by show _ ≤ i.toInt + (4 : Int32).toInt; have q : (4 : Int32).toInt = 4 := rfl; omega) (by show i.toInt + (4 : Int32).toInt ≤ _; have q : (4 : Int32).toInt = 4 := rfl; omega)
  have hq5 : (i + 5).toInt = i.toInt + 5 := i_add (by show _ ≤ i.toInt + (5 : Int32).toInt; have q : (5 : Int32).toInt = 5 := rfl; omega) (by show i.toInt + (5 : Int32).toInt ≤ _; have q : (5 : Int32).toInt = 5 := rfl; omega)
  refine lv_aload_n hx hb dL_law_1268 rfl (lv_at hl 1 rfl) ?_
  refine lv_aload_n hx hb dL_law_1269 rfl (lv_at hl 0 rfl) ?_
  refine lv_iload_n hx hb dL_law_1270 rfl (lv_at hl 3 rfl) ?_
  refine lv_iconst (v := 1) hx hb dL_law_1271 (by decide) ?_
  refine lv_iadd hx hb dL_law_1272 ?_
  refine va_sld hx hb hX hbl hbA hS (i_in (by omega) (by omega)) dL_law_1273 ?_
  rw [hs1]
  refine lv_aload_n hx hb dL_law_1274 rfl (lv_at hl 0 rfl) ?_
  refine lv_iload_n hx hb dL_law_1275 rfl (lv_at hl 3 rfl) ?_
  refine lv_iconst (v := 2) hx hb dL_law_1276 (by decide) ?_
  refine lv_iadd hx hb dL_law_1277 ?_
  refine va_sld hx hb hX hbl hbA hS (i_in (by omega) (by omega)) dL_law_1278 ?_
  rw [hs2]
  refine lv_aload_n hx hb dL_law_1279 rfl (lv_at hl 0 rfl) ?_
  refine lv_iload_n hx hb dL_law_1280 rfl (lv_at hl 3 rfl) ?_
  refine lv_iconst (v := 3) hx hb dL_law_1281 (by decide) ?_
  refine lv_iadd hx hb dL_law_1282 ?_
  refine va_sld hx hb hX hbl hbA hS (i_in (by omega) (by omega)) dL_law_1283 ?_
  rw [hs3]
  refine lv_aload_n hx hb dL_law_1284 rfl (lv_at hl 0 rfl) ?_
  refine lv_iload_n hx hb dL_law_1285 rfl (lv_at hl 3 rfl) ?_
  refine lv_iconst (v := 4) hx hb dL_law_1286 (by decide) ?_
  refine lv_iadd hx hb dL_law_1287 ?_
  refine va_sld hx hb hX hbl hbA hS (i_in (by omega) (by omega)) dL_law_1288 ?_
  rw [hs4]
  refine lv_aload_n hx hb dL_law_1289 rfl (lv_at hl 0 rfl) ?_
  refine lv_iload_n hx hb dL_law_1290 rfl (lv_at hl 3 rfl) ?_
  refine lv_iconst (v := 5) hx hb dL_law_1291 (by decide) ?_
  refine lv_iadd hx hb dL_law_1292 ?_
  refine va_sld hx hb hX hbl hbA hS (i_in (by omega) (by omega)) dL_law_1293 ?_
  rw [hs5]
  refine cL_i (As := [.int s1, .int s2, .int s3, .int s4, .int s5]) (rest := []) ⟨hx, hb, hml, hown, hg⟩ (k_X11_shift l D cs _ ad fa fq rv v a w fv fp s1 s2 s3 s4 s5 ia28_0 ia29_0) ca_X11_shift q4_199 ⟨rfl, rfl⟩ ⟨Nat.le_of_ble_eq_true rfl, Nat.le_of_ble_eq_true rfl⟩ (rc_main hK (pw_l hP)) hK hP hD hS hZ rfl hl.1 rfl (Nat.le_of_ble_eq_true rfl) ⟨Nat.le_of_ble_eq_true rfl, Nat.le_of_ble_eq_true rfl⟩ dL_law_1294 (fun r_1 grow_2 H locs wr_1 hP hD hS => ?_)
  have hP : va_P D vwCl (CW cs ad fa fq rv v a (va_up w s3.toNatClampNeg grow_2) fv fp ++ RW cs bd u b_ bw) H := hP
  have hD : va_D (fun q : Nat => s.heap.size ≤ q) (CW cs ad fa fq rv v a (va_up w s3.toNatClampNeg grow_2) fv fp ++ RW cs bd u b_ bw) := hD
  obtain ⟨wr_1_0, wr_1_1, wr_1_2⟩ : ((¬ ((0 ≤ s1.toInt ∧ s1.toInt < 6) ∧ 0 ≤ s3.toInt ∧ s3.toInt < 6) ∧ r_1.toInt = -1) ∨ (((0 ≤ s1.toInt ∧ s1.toInt < 6) ∧ 0 ≤ s3.toInt ∧ s3.toInt < 6) ∧ (((((a 28) s1.toNatClampNeg).toInt = -1 ∨ ((a 28) s3.toNatClampNeg).toInt = -1) ∧ r_1.toInt = -11) ∨ (¬ (((a 28) s1.toNatClampNeg).toInt = -1 ∨ ((a 28) s3.toNatClampNeg).toInt = -1) ∧ ¬ ((((a 28) s1.toNatClampNeg).toInt ≠ -1 ∧ ((a 28) s1.toNatClampNeg).toInt ≠ 5) ∧ ((a 28) s1.toNatClampNeg).toInt = ((a 28) s3.toNatClampNeg).toInt) ∧ r_1.toInt = -12) ∨ (¬ (((a 28) s1.toNatClampNeg).toInt = -1 ∨ ((a 28) s3.toNatClampNeg).toInt = -1) ∧ ((((a 28) s1.toNatClampNeg).toInt ≠ -1 ∧ ((a 28) s1.toNatClampNeg).toInt ≠ 5) ∧ ((a 28) s1.toNatClampNeg).toInt = ((a 28) s3.toNatClampNeg).toInt) ∧ ¬ (0 ≤ s2.toInt ∧ 0 ≤ s4.toInt ∧ 0 ≤ s5.toInt ∧ s2.toInt + s5.toInt ≤ ((a 29) s1.toNatClampNeg).toInt ∧ s4.toInt + s5.toInt ≤ ((a 29) s3.toNatClampNeg).toInt) ∧ r_1.toInt = -13) ∨ (¬ (((a 28) s1.toNatClampNeg).toInt = -1 ∨ ((a 28) s3.toNatClampNeg).toInt = -1) ∧ ((((a 28) s1.toNatClampNeg).toInt ≠ -1 ∧ ((a 28) s1.toNatClampNeg).toInt ≠ 5) ∧ ((a 28) s1.toNatClampNeg).toInt = ((a 28) s3.toNatClampNeg).toInt) ∧ (0 ≤ s2.toInt ∧ 0 ≤ s4.toInt ∧ 0 ≤ s5.toInt ∧ s2.toInt + s5.toInt ≤ ((a 29) s1.toNatClampNeg).toInt ∧ s4.toInt + s5.toInt ≤ ((a 29) s3.toNatClampNeg).toInt) ∧ r_1.toInt = s5.toInt)))) ∧ (0 ≤ r_1.toInt → grow_2 = va_cpy (w s1.toNatClampNeg) (w s3.toNatClampNeg) s2.toNatClampNeg s4.toNatClampNeg s5.toNatClampNeg) ∧ (r_1.toInt < 0 → grow_2 = (w s3.toNatClampNeg)) := wr_1
  refine lv_pop hx hb dL_law_1297 rfl ?_
  refine lv_aload_n hx hb dL_law_1298 rfl (lv_at hl 2 rfl) ?_
  refine lv_aload_n hx hb dL_law_1299 rfl (lv_at hl 0 rfl) ?_
  refine lv_iload_n hx hb dL_law_1300 rfl (lv_at hl 3 rfl) ?_
  refine lv_iconst (v := 1) hx hb dL_law_1301 (by decide) ?_
  refine lv_iadd hx hb dL_law_1302 ?_
  refine va_sld hx hb hX hbl hbA hS (i_in (by omega) (by omega)) dL_law_1303 ?_
  rw [hs1]
  refine lv_aload_n hx hb dL_law_1304 rfl (lv_at hl 0 rfl) ?_
  refine lv_iload_n hx hb dL_law_1305 rfl (lv_at hl 3 rfl) ?_
  refine lv_iconst (v := 2) hx hb dL_law_1306 (by decide) ?_
  refine lv_iadd hx hb dL_law_1307 ?_
  refine va_sld hx hb hX hbl hbA hS (i_in (by omega) (by omega)) dL_law_1308 ?_
  rw [hs2]
  refine lv_aload_n hx hb dL_law_1309 rfl (lv_at hl 0 rfl) ?_
  refine lv_iload_n hx hb dL_law_1310 rfl (lv_at hl 3 rfl) ?_
  refine lv_iconst (v := 3) hx hb dL_law_1311 (by decide) ?_
  refine lv_iadd hx hb dL_law_1312 ?_
  refine va_sld hx hb hX hbl hbA hS (i_in (by omega) (by omega)) dL_law_1313 ?_
  rw [hs3]
  refine lv_aload_n hx hb dL_law_1314 rfl (lv_at hl 0 rfl) ?_
  refine lv_iload_n hx hb dL_law_1315 rfl (lv_at hl 3 rfl) ?_
  refine lv_iconst (v := 4) hx hb dL_law_1316 (by decide) ?_
  refine lv_iadd hx hb dL_law_1317 ?_
  refine va_sld hx hb hX hbl hbA hS (i_in (by omega) (by omega)) dL_law_1318 ?_
  rw [hs4]
  refine lv_aload_n hx hb dL_law_1319 rfl (lv_at hl 0 rfl) ?_
  refine lv_iload_n hx hb dL_law_1320 rfl (lv_at hl 3 rfl) ?_
  refine lv_iconst (v := 5) hx hb dL_law_1321 (by decide) ?_
  refine lv_iadd hx hb dL_law_1322 ?_
  refine va_sld hx hb hX hbl hbA hS (i_in (by omega) (by omega)) dL_law_1323 ?_
  rw [hs5]
  refine cR_i (As := [.int s1, .int s2, .int s3, .int s4, .int s5]) (rest := []) ⟨hx, hb, hml, hown, hg⟩ (k_X12_shift l D cs _ bd u b_ bw s1 s2 s3 s4 s5 ib66_0 ib67_0) ca_X12_shift q7_124 ⟨rfl, rfl⟩ ⟨Nat.le_of_ble_eq_true rfl, Nat.le_of_ble_eq_true rfl⟩ (rc_model hK (pw_r hP)) hK hP hD hS hZ rfl hl.1 rfl (Nat.le_of_ble_eq_true rfl) ⟨Nat.le_of_ble_eq_true rfl, Nat.le_of_ble_eq_true rfl⟩ dL_law_1324 (fun r_3 z_6 H locs wr_3 hP hD hS => ?_)
  obtain ⟨o_bw68_4, o_bw69_5⟩ := z_6
  have hP : va_P D vwCl (CW cs ad fa fq rv v a (va_up w s3.toNatClampNeg grow_2) fv fp ++ RW cs bd u b_ (va_up (va_up bw 68 o_bw68_4) 69 o_bw69_5)) H := hP
  have hD : va_D (fun q : Nat => s.heap.size ≤ q) (CW cs ad fa fq rv v a (va_up w s3.toNatClampNeg grow_2) fv fp ++ RW cs bd u b_ (va_up (va_up bw 68 o_bw68_4) 69 o_bw69_5)) := hD
  obtain ⟨wr_3_0, wr_3_1, wr_3_2⟩ : ((¬ ((0 ≤ s1.toInt ∧ s1.toInt < 6) ∧ 0 ≤ s3.toInt ∧ s3.toInt < 6) ∧ r_3.toInt = -1) ∨ (((0 ≤ s1.toInt ∧ s1.toInt < 6) ∧ 0 ≤ s3.toInt ∧ s3.toInt < 6) ∧ (((((b_ 66) s1.toNatClampNeg).toInt = -1 ∨ ((b_ 66) s3.toNatClampNeg).toInt = -1) ∧ r_3.toInt = -11) ∨ (¬ (((b_ 66) s1.toNatClampNeg).toInt = -1 ∨ ((b_ 66) s3.toNatClampNeg).toInt = -1) ∧ ¬ (((b_ 66) s1.toNatClampNeg).toInt < 0 ∧ ((b_ 66) s1.toNatClampNeg).toInt = ((b_ 66) s3.toNatClampNeg).toInt) ∧ r_3.toInt = -12) ∨ (¬ (((b_ 66) s1.toNatClampNeg).toInt = -1 ∨ ((b_ 66) s3.toNatClampNeg).toInt = -1) ∧ (((b_ 66) s1.toNatClampNeg).toInt < 0 ∧ ((b_ 66) s1.toNatClampNeg).toInt = ((b_ 66) s3.toNatClampNeg).toInt) ∧ ¬ (0 ≤ s2.toInt ∧ 0 ≤ s4.toInt ∧ 0 ≤ s5.toInt ∧ s2.toInt + s5.toInt ≤ ((b_ 67) s1.toNatClampNeg).toInt ∧ s4.toInt + s5.toInt ≤ ((b_ 67) s3.toNatClampNeg).toInt) ∧ r_3.toInt = -13) ∨ (¬ (((b_ 66) s1.toNatClampNeg).toInt = -1 ∨ ((b_ 66) s3.toNatClampNeg).toInt = -1) ∧ (((b_ 66) s1.toNatClampNeg).toInt < 0 ∧ ((b_ 66) s1.toNatClampNeg).toInt = ((b_ 66) s3.toNatClampNeg).toInt) ∧ (0 ≤ s2.toInt ∧ 0 ≤ s4.toInt ∧ 0 ≤ s5.toInt ∧ s2.toInt + s5.toInt ≤ ((b_ 67) s1.toNatClampNeg).toInt ∧ s4.toInt + s5.toInt ≤ ((b_ 67) s3.toNatClampNeg).toInt) ∧ r_3.toInt = s5.toInt)))) ∧ (0 ≤ r_3.toInt → (∀ t, t < s5.toNatClampNeg → o_bw68_4 (60 * s3.toNatClampNeg + s4.toNatClampNeg + t) = (bw 68) (60 * s1.toNatClampNeg + s2.toNatClampNeg + t)) ∧ (∀ t, (t < 60 * s3.toNatClampNeg + s4.toNatClampNeg ∨ 60 * s3.toNatClampNeg + s4.toNatClampNeg + s5.toNatClampNeg ≤ t) → o_bw68_4 t = (bw 68) t)) ∧ (r_3.toInt < 0 → o_bw68_4 = (bw 68)) := wr_3
  have hsq : (0 ≤ s1.toInt ∧ s1.toInt < 6) → ((a 28 s1.toNatClampNeg).toInt = -1 ∧ (b_ 66 s1.toNatClampNeg).toInt = -1) ∨ ((a 28 s1.toNatClampNeg).toInt = 5 ∧ (b_ 66 s1.toNatClampNeg).toInt = (a 29 s1.toNatClampNeg).toInt ∧ 0 ≤ (a 29 s1.toNatClampNeg).toInt ∧ (a 29 s1.toNatClampNeg).toInt < (v 21).toInt) ∨ (0 ≤ (a 28 s1.toNatClampNeg).toInt ∧ (a 28 s1.toNatClampNeg).toInt ≤ 4 ∧ (b_ 66 s1.toNatClampNeg).toInt = -2 - (a 28 s1.toNatClampNeg).toInt ∧ (b_ 67 s1.toNatClampNeg).toInt = (a 29 s1.toNatClampNeg).toInt ∧ 0 ≤ (a 29 s1.toNatClampNeg).toInt ∧ (a 29 s1.toNatClampNeg).toInt ≤ 60) := fun q => SHS_num (esh s1.toNatClampNeg (by show s1.toInt.toNat < 6; omega))
  have hsq3 : (0 ≤ s3.toInt ∧ s3.toInt < 6) → ((a 28 s3.toNatClampNeg).toInt = -1 ∧ (b_ 66 s3.toNatClampNeg).toInt = -1) ∨ ((a 28 s3.toNatClampNeg).toInt = 5 ∧ (b_ 66 s3.toNatClampNeg).toInt = (a 29 s3.toNatClampNeg).toInt ∧ 0 ≤ (a 29 s3.toNatClampNeg).toInt ∧ (a 29 s3.toNatClampNeg).toInt < (v 21).toInt) ∨ (0 ≤ (a 28 s3.toNatClampNeg).toInt ∧ (a 28 s3.toNatClampNeg).toInt ≤ 4 ∧ (b_ 66 s3.toNatClampNeg).toInt = -2 - (a 28 s3.toNatClampNeg).toInt ∧ (b_ 67 s3.toNatClampNeg).toInt = (a 29 s3.toNatClampNeg).toInt ∧ 0 ≤ (a 29 s3.toNatClampNeg).toInt ∧ (a 29 s3.toNatClampNeg).toInt ≤ 60) := fun q => SHS_num (esh s3.toNatClampNeg (by show s3.toInt.toNat < 6; omega))
  have hre : r_1.toInt = r_3.toInt := by
    rcases wr_1_0 with ⟨a0, a1⟩ | ⟨a0, a1⟩ <;> rcases wr_3_0 with ⟨b0, b1⟩ | ⟨b0, b1⟩ <;> first | omega | (have q := hsq a0.1; have q3 := hsq3 a0.2; omega)
  have hsh : SH (a 28) (a 29) (va_up w s3.toNatClampNeg grow_2) (b_ 66) (b_ 67) o_bw68_4 (v 21) := by
    by_cases q : 0 ≤ r_1.toInt
    · rcases wr_1_0 with ⟨a0, a1⟩ | ⟨a0, a1⟩
      · exfalso; omega
      · have q1 := hsq a0.1; have q3 := hsq3 a0.2
        obtain ⟨p1, p2⟩ := wr_3_1 (by omega)
        have z2 : s2.toNatClampNeg = s2.toInt.toNat := rfl
        have z4 : s4.toNatClampNeg = s4.toInt.toNat := rfl
        have z5 : s5.toNatClampNeg = s5.toInt.toNat := rfl
        rw [wr_1_1 q]; exact SH_copy esh (by show s1.toInt.toNat < 6; omega) (by omega) (by omega) (by omega) (by omega) p1 p2
    · rw [wr_1_2 (by omega), wr_3_2 (by omega), va_up_id]; exact esh
  refine lv_pop hx hb dL_law_1327 rfl ?_
  refine lv_goto (tgt := 1387) hx hb dL_law_1328 (by decide) ?_
  have hI1 : CI v a fv := ⟨iv1_0, iv1_1, ia28_0, ia29_0, iv20_0, iv20_1, iv19_0, iv19_1, iv19_2, ia24_0, ia25_0, ifv14_0, iv4_0, iv4_1, ia18_0, iv24_0, iv24_1, iv25_0, iv25_1, iv25_2, iv26_0, iv26_1, ia19_0, iv5_0, iv5_1, iv6_0, iv6_1, iv6_2, iv11_0, iv11_1, iv14_0, iv14_1, iv0_0, iv0_1, iv0_2, ifv17_0, iv21_0, iv21_1, ia37_0, iv23_0, iv23_1, iv22_0, iv22_1⟩
  have hR1 : RI u b_ (va_up (va_up bw 68 o_bw68_4) 69 o_bw69_5) := ⟨iu1_0, iu1_1, ib67_0, ib66_0, iu8_0, iu8_1, ib10_0, ib11_0, iu9_0, iu9_1, iu9_2, iu15_0, iu15_1, hlaw, ib23_0, ib20_0, ib24_0, iu7_0, iu7_1, iu41_0, iu41_1, iu48_0, iu48_1, iu46_0, iu46_1, iu47_0, iu47_1, iu55_0, iu55_1, iu55_2, iu58_0, iu62_0, iu62_1, ib63_0, iu64_0, iu64_1⟩
  have hE1 : REL v a (va_up w s3.toNatClampNeg grow_2) fv u b_ (va_up (va_up bw 68 o_bw68_4) 69 o_bw69_5) := ⟨(show (v 1).toInt = (u 1).toInt by first | omega | assumption | exact e1), (show (v 4).toInt = (u 15).toInt by first | omega | assumption | exact e4), (show (v 21).toInt = (u 62).toInt by first | omega | assumption | exact e21), (show (v 22).toInt = (u 64).toInt by first | omega | assumption | exact e22), (show (fv 14 3) = (b_ 53) 0 by first | omega | assumption | exact es14), (show (fv 17 3) = (b_ 61) 0 by first | omega | assumption | exact es17), (show ((v 0).toInt < 0 ∧ (u 54).toInt = 0) ∨ (0 ≤ (v 0).toInt ∧ (u 54).toInt ≠ 0) by first | omega | assumption | exact eim), (show ∀ j, (a 37) j = (b_ 63) j by first | omega | assumption | exact ek), (show ∀ j, (a 38) j = (b_ 65) j by first | omega | assumption | exact et), (show SH (a 28) (a 29) (va_up w s3.toNatClampNeg grow_2) (b_ 66) (b_ 67) o_bw68_4 (v 21) by first | (exact hsh) | first | omega | assumption | exact esh)⟩
  exact kk ad rv v a (va_up w s3.toNatClampNeg grow_2) fv fp bd u b_ (va_up (va_up bw 68 o_bw68_4) 69 o_bw69_5) _ _ ls rfl rfl hI1 hR1 hE1 hP hD hS hl
set_option maxHeartbeats 8000000 in
set_option maxRecDepth 100000 in
theorem lc_taken {p : Program} {e : Env} {s : State} {m : MethodId} {below : List Frame} {meth : Method} {c : Code} (l : Launch) {b L : Nat} {xs : Nat → Int32} (C0 : lw_At p s m meth c b L xs) (hL : L ≤ 3072) {D : va_G} {cs : Nat → ClassId} {fa fq : Nat → Nat} (hK : va_K D vwCl (TY cs) s) (hZ : ZS (fun q : Nat => s.heap.size ≤ q) s) {x0 y0 : Nat} {i : Int32} (hi0 : 0 ≤ i.toInt) (hiL : i.toInt + 6 ≤ (L : Int)) (ad rv : Nat → Nat) (v : Nat → Int32) (a : Nat → Nat → Int32) (w : Nat → Nat → Int64) (fv fp : Nat → Nat → Int32) (bd : Nat → Nat) (u : Nat → Int32) (b_ : Nat → Nat → Int32) (bw : Nat → Nat → Int64) (H : Heap) (locs : List Loc) (ls : Array Slot) (hl : lv_has ls 4 [(0, .ref b), (1, .ref x0), (2, .ref y0), (3, .int i)]) (hx0 : ad 0 = x0) (hy0 : bd 0 = y0) (hI : CI v a fv) (hR : RI u b_ bw) (hE : REL v a w fv u b_ bw) (hP : va_P D vwCl (CW cs ad fa fq rv v a w fv fp ++ RW cs bd u b_ bw) H) (hD : va_D (fun q : Nat => s.heap.size ≤ q) (CW cs ad fa fq rv v a w fv fp ++ RW cs bd u b_ bw)) (hS : va_S (fun q : Nat => s.heap.size ≤ q) s.heap H locs)
    (kk : ∀ (ad rv : Nat → Nat) (v : Nat → Int32) (a : Nat → Nat → Int32) (w : Nat → Nat → Int64) (fv fp : Nat → Nat → Int32) (bd : Nat → Nat) (u : Nat → Int32) (b_ : Nat → Nat → Int32) (bw : Nat → Nat → Int64) (H : Heap) (locs : List Loc) (ls : Array Slot) (hx0 : ad 0 = x0) (hy0 : bd 0 = y0) (hI : CI v a fv) (hR : RI u b_ bw) (hE : REL v a w fv u b_ bw) (hP : va_P D vwCl (CW cs ad fa fq rv v a w fv fp ++ RW cs bd u b_ bw) H) (hD : va_D (fun q : Nat => s.heap.size ≤ q) (CW cs ad fa fq rv v a w fv fp ++ RW cs bd u b_ bw)) (hS : va_S (fun q : Nat => s.heap.size ≤ q) s.heap H locs) (hl : lv_has ls 4 [(0, .ref b), (1, .ref x0), (2, .ref y0), (3, .int i)]), W p l e room_1 s m #[Value.ref b] below meth c H locs 200 9000 (lw_Z below #[Value.ref b] s) (F0 m 1387 ls [])) : W p l e room_1 s m #[Value.ref b] below meth c H locs 200 9000 (lw_Z below #[Value.ref b] s) (F0 m 1331 ls []) := by
  obtain ⟨hx, hb, hr, hml, hown, hts, hX, hbl, hlocks, hgv⟩ := id C0
  have hg : ∀ w ∈ gw, w.before #[Value.ref b] s = true := fun w h => hts w (gw_in w h)
  have hbA : ¬ (fun q : Nat => s.heap.size ≤ q) b := Nat.not_le.mpr hbl
  subst hx0
  subst hy0
  obtain ⟨iv1_0, iv1_1, ia28_0, ia29_0, iv20_0, iv20_1, iv19_0, iv19_1, iv19_2, ia24_0, ia25_0, ifv14_0, iv4_0, iv4_1, ia18_0, iv24_0, iv24_1, iv25_0, iv25_1, iv25_2, iv26_0, iv26_1, ia19_0, iv5_0, iv5_1, iv6_0, iv6_1, iv6_2, iv11_0, iv11_1, iv14_0, iv14_1, iv0_0, iv0_1, iv0_2, ifv17_0, iv21_0, iv21_1, ia37_0, iv23_0, iv23_1, iv22_0, iv22_1⟩ := id hI
  obtain ⟨iu1_0, iu1_1, ib67_0, ib66_0, iu8_0, iu8_1, ib10_0, ib11_0, iu9_0, iu9_1, iu9_2, iu15_0, iu15_1, hlaw, ib23_0, ib20_0, ib24_0, iu7_0, iu7_1, iu41_0, iu41_1, iu48_0, iu48_1, iu46_0, iu46_1, iu47_0, iu47_1, iu55_0, iu55_1, iu55_2, iu58_0, iu62_0, iu62_1, ib63_0, iu64_0, iu64_1⟩ := id hR
  obtain ⟨e1, e4, e21, e22, es14, es17, eim, ek, et, esh⟩ := id hE
  obtain ⟨s1, hs1⟩ : ∃ y, xs (i + 1).toNatClampNeg = y := ⟨_, rfl⟩
  obtain ⟨s2, hs2⟩ : ∃ y, xs (i + 2).toNatClampNeg = y := ⟨_, rfl⟩
  obtain ⟨s3, hs3⟩ : ∃ y, xs (i + 3).toNatClampNeg = y := ⟨_, rfl⟩
  obtain ⟨s4, hs4⟩ : ∃ y, xs (i + 4).toNatClampNeg = y := ⟨_, rfl⟩
  obtain ⟨s5, hs5⟩ : ∃ y, xs (i + 5).toNatClampNeg = y := ⟨_, rfl⟩
  have hq1 : (i + 1).toInt = i.toInt + 1 := i_add (by show _ ≤ i.toInt + (1 : Int32).toInt; have q : (1 : Int32).toInt = 1 := rfl; omega) (by show i.toInt + (1 : Int32).toInt ≤ _; have q : (1 : Int32).toInt = 1 := rfl; omega)
  have hq2 : (i + 2).toInt = i.toInt + 2 := i_add (by show _ ≤ i.toInt + (2 : Int32).toInt; have q : (2 : Int32).toInt = 2 := rfl; omega) (by show i.toInt + (2 : Int32).toInt ≤ _; have q : (2 : Int32).toInt = 2 := rfl; omega)
  have hq3 : (i + 3).toInt = i.toInt + 3 := i_add (by show _ ≤ i.toInt + (3 : Int32).toInt; have q : (3 : Int32).toInt = 3 := rfl; omega) (by show i.toInt + (3 : Int32).toInt ≤ _; have q : (3 : Int32).toInt = 3 := rfl; omega)
  have hq4 : (i + 4).toInt = i.toInt + 4 := i_add (by show _ ≤ i.toInt + (4 : Int32).toInt; have q : (4 : Int32).toInt = 4 := rfl; omega) (by show i.toInt + (4 : Int32).toInt ≤ _; have q : (4 : Int32).toInt = 4 := rfl; omega)
  have hq5 : (i + 5).toInt = i.toInt + 5 := i_add (by show _ ≤ i.toInt + (5 : Int32).toInt; have q : (5 : Int32).toInt = 5 := rfl; omega) (by show i.toInt + (5 : Int32).toInt ≤ _; have q : (5 : Int32).toInt = 5 := rfl; omega)
  refine lv_aload_n hx hb dL_law_1331 rfl (lv_at hl 1 rfl) ?_
  refine lv_aload_n hx hb dL_law_1332 rfl (lv_at hl 0 rfl) ?_
  refine lv_iload_n hx hb dL_law_1333 rfl (lv_at hl 3 rfl) ?_
  refine lv_iconst (v := 1) hx hb dL_law_1334 (by decide) ?_
  refine lv_iadd hx hb dL_law_1335 ?_
  refine va_sld hx hb hX hbl hbA hS (i_in (by omega) (by omega)) dL_law_1336 ?_
  rw [hs1]
  refine lv_aload_n hx hb dL_law_1337 rfl (lv_at hl 0 rfl) ?_
  refine lv_iload_n hx hb dL_law_1338 rfl (lv_at hl 3 rfl) ?_
  refine lv_iconst (v := 2) hx hb dL_law_1339 (by decide) ?_
  refine lv_iadd hx hb dL_law_1340 ?_
  refine va_sld hx hb hX hbl hbA hS (i_in (by omega) (by omega)) dL_law_1341 ?_
  rw [hs2]
  refine cL_i (As := [.int s1, .int s2]) (rest := []) ⟨hx, hb, hml, hown, hg⟩ (k_X11_taken l D cs _ ad fa fq rv v a w fv fp s1 s2 ia28_0 ia29_0 iv21_0 iv21_1 ia37_0) ca_X11_taken q4_208 ⟨rfl, rfl⟩ ⟨Nat.le_of_ble_eq_true rfl, Nat.le_of_ble_eq_true rfl⟩ (rc_main hK (pw_l hP)) hK hP hD hS hZ rfl hl.1 rfl (Nat.le_of_ble_eq_true rfl) ⟨Nat.le_of_ble_eq_true rfl, Nat.le_of_ble_eq_true rfl⟩ dL_law_1342 (fun r_1 z_2 H locs wr_1 hP hD hS => ?_)
  have hP : va_P D vwCl (CW cs ad fa fq rv v a w fv fp ++ RW cs bd u b_ bw) H := hP
  have hD : va_D (fun q : Nat => s.heap.size ≤ q) (CW cs ad fa fq rv v a w fv fp ++ RW cs bd u b_ bw) := hD
  have wr_1_0 : (¬ ((0 ≤ s1.toInt ∧ s1.toInt < 6) ∧ 0 ≤ s2.toInt ∧ s2.toInt ≤ 7) ∧ r_1.toInt = -1) ∨ (((0 ≤ s1.toInt ∧ s1.toInt < 6) ∧ 0 ≤ s2.toInt ∧ s2.toInt ≤ 7) ∧ ((((a 28) s1.toNatClampNeg).toInt = -1 ∧ r_1.toInt = -11) ∨ (((a 28) s1.toNatClampNeg).toInt = 5 ∧ (0 ≤ ((a 29) s1.toNatClampNeg).toInt ∧ ((a 29) s1.toNatClampNeg).toInt < (v 21).toInt) ∧ (UNDR ((a 37) ((a 29) s1.toNatClampNeg).toNatClampNeg).toInt s2.toInt) ∧ r_1.toInt = ((a 37) ((a 29) s1.toNatClampNeg).toNatClampNeg).toInt) ∨ (((a 28) s1.toNatClampNeg).toInt = 5 ∧ (0 ≤ ((a 29) s1.toNatClampNeg).toInt ∧ ((a 29) s1.toNatClampNeg).toInt < (v 21).toInt) ∧ ¬ (UNDR ((a 37) ((a 29) s1.toNatClampNeg).toNatClampNeg).toInt s2.toInt) ∧ r_1.toInt = -12) ∨ (((a 28) s1.toNatClampNeg).toInt ≠ -1 ∧ ¬ (((a 28) s1.toNatClampNeg).toInt = 5 ∧ (0 ≤ ((a 29) s1.toNatClampNeg).toInt ∧ ((a 29) s1.toNatClampNeg).toInt < (v 21).toInt)) ∧ r_1.toInt = -12))) := wr_1
  refine lv_aload_n hx hb dL_law_1345 rfl (lv_at hl 2 rfl) ?_
  refine lv_aload_n hx hb dL_law_1346 rfl (lv_at hl 0 rfl) ?_
  refine lv_iload_n hx hb dL_law_1347 rfl (lv_at hl 3 rfl) ?_
  refine lv_iconst (v := 1) hx hb dL_law_1348 (by decide) ?_
  refine lv_iadd hx hb dL_law_1349 ?_
  refine va_sld hx hb hX hbl hbA hS (i_in (by omega) (by omega)) dL_law_1350 ?_
  rw [hs1]
  refine lv_aload_n hx hb dL_law_1351 rfl (lv_at hl 0 rfl) ?_
  refine lv_iload_n hx hb dL_law_1352 rfl (lv_at hl 3 rfl) ?_
  refine lv_iconst (v := 2) hx hb dL_law_1353 (by decide) ?_
  refine lv_iadd hx hb dL_law_1354 ?_
  refine va_sld hx hb hX hbl hbA hS (i_in (by omega) (by omega)) dL_law_1355 ?_
  rw [hs2]
  refine cR_ro (As := [.int s1, .int s2]) (rest := [.int r_1]) ⟨hx, hb, hml, hown, hg⟩ (k_X12_taken l D cs _ bd u b_ bw s1 s2 ib66_0 ib63_0) ca_X12_taken q7_128 ⟨rfl, rfl⟩ ⟨Nat.le_of_ble_eq_true rfl, Nat.le_of_ble_eq_true rfl⟩ (rc_model hK (pw_r hP)) hK hP hD hS hZ rfl hl.1 rfl (Nat.le_of_ble_eq_true rfl) ⟨Nat.le_of_ble_eq_true rfl, Nat.le_of_ble_eq_true rfl⟩ dL_law_1356 (fun r_3 wr_3 => ?_)
  have wr_3_0 : (¬ ((0 ≤ s1.toInt ∧ s1.toInt < 6) ∧ 0 ≤ s2.toInt ∧ s2.toInt ≤ 7) ∧ r_3.toInt = -1) ∨ (((0 ≤ s1.toInt ∧ s1.toInt < 6) ∧ 0 ≤ s2.toInt ∧ s2.toInt ≤ 7) ∧ ((((b_ 66) s1.toNatClampNeg).toInt = -1 ∧ r_3.toInt = -11) ∨ (0 ≤ ((b_ 66) s1.toNatClampNeg).toInt ∧ (UNDR ((b_ 63) ((b_ 66) s1.toNatClampNeg).toNatClampNeg).toInt s2.toInt) ∧ r_3.toInt = ((b_ 63) ((b_ 66) s1.toNatClampNeg).toNatClampNeg).toInt) ∨ (0 ≤ ((b_ 66) s1.toNatClampNeg).toInt ∧ ¬ (UNDR ((b_ 63) ((b_ 66) s1.toNatClampNeg).toNatClampNeg).toInt s2.toInt) ∧ r_3.toInt = -12) ∨ (((b_ 66) s1.toNatClampNeg).toInt < -1 ∧ r_3.toInt = -12))) := wr_3
  have hsq : (0 ≤ s1.toInt ∧ s1.toInt < 6) → ((a 28 s1.toNatClampNeg).toInt = -1 ∧ (b_ 66 s1.toNatClampNeg).toInt = -1) ∨ ((a 28 s1.toNatClampNeg).toInt = 5 ∧ (b_ 66 s1.toNatClampNeg).toInt = (a 29 s1.toNatClampNeg).toInt ∧ 0 ≤ (a 29 s1.toNatClampNeg).toInt ∧ (a 29 s1.toNatClampNeg).toInt < (v 21).toInt) ∨ (0 ≤ (a 28 s1.toNatClampNeg).toInt ∧ (a 28 s1.toNatClampNeg).toInt ≤ 4 ∧ (b_ 66 s1.toNatClampNeg).toInt = -2 - (a 28 s1.toNatClampNeg).toInt ∧ (b_ 67 s1.toNatClampNeg).toInt = (a 29 s1.toNatClampNeg).toInt ∧ 0 ≤ (a 29 s1.toNatClampNeg).toInt ∧ (a 29 s1.toNatClampNeg).toInt ≤ 60) := fun q => SHS_num (esh s1.toNatClampNeg (by show s1.toInt.toNat < 6; omega))
  have hre : r_1.toInt = r_3.toInt := by
    rcases wr_1_0 with ⟨a0, a1⟩ | ⟨a0, a1⟩ <;> rcases wr_3_0 with ⟨b0, b1⟩ | ⟨b0, b1⟩
    · omega
    · exact absurd b0 a0
    · exact absurd a0 b0
    · have q := hsq a0.1
      by_cases q5 : (a 28 s1.toNatClampNeg).toInt = 5
      · have e : (b_ 66 s1.toNatClampNeg) = (a 29 s1.toNatClampNeg) := i_inj (by omega)
        rw [e, ← ek] at b1
        rcases a1 with ⟨a2, a3⟩ | ⟨a2, a3, a4, a5⟩ | ⟨a2, a3, a4, a5⟩ | ⟨a2, a3, a4⟩ <;> rcases b1 with ⟨b2, b3⟩ | ⟨b2, b3, b4⟩ | ⟨b2, b3, b4⟩ | ⟨b2, b3⟩ <;> first | omega | (exfalso; omega) | (exfalso; contradiction)
      · omega
  refine lv_icmp_eq (tgt := 1387) hx hb dL_law_1359 (by decide) (fun c_5 => ?_) (fun c_5 => absurd (i_inj (hre)) c_5)
  have hI1 : CI v a fv := ⟨iv1_0, iv1_1, ia28_0, ia29_0, iv20_0, iv20_1, iv19_0, iv19_1, iv19_2, ia24_0, ia25_0, ifv14_0, iv4_0, iv4_1, ia18_0, iv24_0, iv24_1, iv25_0, iv25_1, iv25_2, iv26_0, iv26_1, ia19_0, iv5_0, iv5_1, iv6_0, iv6_1, iv6_2, iv11_0, iv11_1, iv14_0, iv14_1, iv0_0, iv0_1, iv0_2, ifv17_0, iv21_0, iv21_1, ia37_0, iv23_0, iv23_1, iv22_0, iv22_1⟩
  have hR1 : RI u b_ bw := ⟨iu1_0, iu1_1, ib67_0, ib66_0, iu8_0, iu8_1, ib10_0, ib11_0, iu9_0, iu9_1, iu9_2, iu15_0, iu15_1, hlaw, ib23_0, ib20_0, ib24_0, iu7_0, iu7_1, iu41_0, iu41_1, iu48_0, iu48_1, iu46_0, iu46_1, iu47_0, iu47_1, iu55_0, iu55_1, iu55_2, iu58_0, iu62_0, iu62_1, ib63_0, iu64_0, iu64_1⟩
  have hE1 : REL v a w fv u b_ bw := ⟨(show (v 1).toInt = (u 1).toInt by first | omega | assumption | exact e1), (show (v 4).toInt = (u 15).toInt by first | omega | assumption | exact e4), (show (v 21).toInt = (u 62).toInt by first | omega | assumption | exact e21), (show (v 22).toInt = (u 64).toInt by first | omega | assumption | exact e22), (show (fv 14 3) = (b_ 53) 0 by first | omega | assumption | exact es14), (show (fv 17 3) = (b_ 61) 0 by first | omega | assumption | exact es17), (show ((v 0).toInt < 0 ∧ (u 54).toInt = 0) ∨ (0 ≤ (v 0).toInt ∧ (u 54).toInt ≠ 0) by first | omega | assumption | exact eim), (show ∀ j, (a 37) j = (b_ 63) j by first | omega | assumption | exact ek), (show ∀ j, (a 38) j = (b_ 65) j by first | omega | assumption | exact et), (show SH (a 28) (a 29) w (b_ 66) (b_ 67) (bw 68) (v 21) by first | omega | assumption | exact esh)⟩
  exact kk ad rv v a w fv fp bd u b_ bw _ _ ls rfl rfl hI1 hR1 hE1 hP hD hS hl
set_option maxHeartbeats 8000000 in
set_option maxRecDepth 100000 in
theorem lc_count {p : Program} {e : Env} {s : State} {m : MethodId} {below : List Frame} {meth : Method} {c : Code} (l : Launch) {b L : Nat} {xs : Nat → Int32} (C0 : lw_At p s m meth c b L xs) (hL : L ≤ 3072) {D : va_G} {cs : Nat → ClassId} {fa fq : Nat → Nat} (hK : va_K D vwCl (TY cs) s) (hZ : ZS (fun q : Nat => s.heap.size ≤ q) s) {x0 y0 : Nat} {i : Int32} (hi0 : 0 ≤ i.toInt) (hiL : i.toInt + 6 ≤ (L : Int)) (ad rv : Nat → Nat) (v : Nat → Int32) (a : Nat → Nat → Int32) (w : Nat → Nat → Int64) (fv fp : Nat → Nat → Int32) (bd : Nat → Nat) (u : Nat → Int32) (b_ : Nat → Nat → Int32) (bw : Nat → Nat → Int64) (H : Heap) (locs : List Loc) (ls : Array Slot) (hl : lv_has ls 4 [(0, .ref b), (1, .ref x0), (2, .ref y0), (3, .int i)]) (hx0 : ad 0 = x0) (hy0 : bd 0 = y0) (hI : CI v a fv) (hR : RI u b_ bw) (hE : REL v a w fv u b_ bw) (hP : va_P D vwCl (CW cs ad fa fq rv v a w fv fp ++ RW cs bd u b_ bw) H) (hD : va_D (fun q : Nat => s.heap.size ≤ q) (CW cs ad fa fq rv v a w fv fp ++ RW cs bd u b_ bw)) (hS : va_S (fun q : Nat => s.heap.size ≤ q) s.heap H locs)
    (kk : ∀ (ad rv : Nat → Nat) (v : Nat → Int32) (a : Nat → Nat → Int32) (w : Nat → Nat → Int64) (fv fp : Nat → Nat → Int32) (bd : Nat → Nat) (u : Nat → Int32) (b_ : Nat → Nat → Int32) (bw : Nat → Nat → Int64) (H : Heap) (locs : List Loc) (ls : Array Slot) (hx0 : ad 0 = x0) (hy0 : bd 0 = y0) (hI : CI v a fv) (hR : RI u b_ bw) (hE : REL v a w fv u b_ bw) (hP : va_P D vwCl (CW cs ad fa fq rv v a w fv fp ++ RW cs bd u b_ bw) H) (hD : va_D (fun q : Nat => s.heap.size ≤ q) (CW cs ad fa fq rv v a w fv fp ++ RW cs bd u b_ bw)) (hS : va_S (fun q : Nat => s.heap.size ≤ q) s.heap H locs) (hl : lv_has ls 4 [(0, .ref b), (1, .ref x0), (2, .ref y0), (3, .int i)]), W p l e room_1 s m #[Value.ref b] below meth c H locs 200 9000 (lw_Z below #[Value.ref b] s) (F0 m 1387 ls [])) : W p l e room_1 s m #[Value.ref b] below meth c H locs 200 9000 (lw_Z below #[Value.ref b] s) (F0 m 1364 ls []) := by
  obtain ⟨hx, hb, hr, hml, hown, hts, hX, hbl, hlocks, hgv⟩ := id C0
  have hg : ∀ w ∈ gw, w.before #[Value.ref b] s = true := fun w h => hts w (gw_in w h)
  have hbA : ¬ (fun q : Nat => s.heap.size ≤ q) b := Nat.not_le.mpr hbl
  subst hx0
  subst hy0
  obtain ⟨iv1_0, iv1_1, ia28_0, ia29_0, iv20_0, iv20_1, iv19_0, iv19_1, iv19_2, ia24_0, ia25_0, ifv14_0, iv4_0, iv4_1, ia18_0, iv24_0, iv24_1, iv25_0, iv25_1, iv25_2, iv26_0, iv26_1, ia19_0, iv5_0, iv5_1, iv6_0, iv6_1, iv6_2, iv11_0, iv11_1, iv14_0, iv14_1, iv0_0, iv0_1, iv0_2, ifv17_0, iv21_0, iv21_1, ia37_0, iv23_0, iv23_1, iv22_0, iv22_1⟩ := id hI
  obtain ⟨iu1_0, iu1_1, ib67_0, ib66_0, iu8_0, iu8_1, ib10_0, ib11_0, iu9_0, iu9_1, iu9_2, iu15_0, iu15_1, hlaw, ib23_0, ib20_0, ib24_0, iu7_0, iu7_1, iu41_0, iu41_1, iu48_0, iu48_1, iu46_0, iu46_1, iu47_0, iu47_1, iu55_0, iu55_1, iu55_2, iu58_0, iu62_0, iu62_1, ib63_0, iu64_0, iu64_1⟩ := id hR
  obtain ⟨e1, e4, e21, e22, es14, es17, eim, ek, et, esh⟩ := id hE
  obtain ⟨s1, hs1⟩ : ∃ y, xs (i + 1).toNatClampNeg = y := ⟨_, rfl⟩
  obtain ⟨s2, hs2⟩ : ∃ y, xs (i + 2).toNatClampNeg = y := ⟨_, rfl⟩
  obtain ⟨s3, hs3⟩ : ∃ y, xs (i + 3).toNatClampNeg = y := ⟨_, rfl⟩
  obtain ⟨s4, hs4⟩ : ∃ y, xs (i + 4).toNatClampNeg = y := ⟨_, rfl⟩
  obtain ⟨s5, hs5⟩ : ∃ y, xs (i + 5).toNatClampNeg = y := ⟨_, rfl⟩
  have hq1 : (i + 1).toInt = i.toInt + 1 := i_add (by show _ ≤ i.toInt + (1 : Int32).toInt; have q : (1 : Int32).toInt = 1 := rfl; omega) (by show i.toInt + (1 : Int32).toInt ≤ _; have q : (1 : Int32).toInt = 1 := rfl; omega)
  have hq2 : (i + 2).toInt = i.toInt + 2 := i_add (by show _ ≤ i.toInt + (2 : Int32).toInt; have q : (2 : Int32).toInt = 2 := rfl; omega) (by show i.toInt + (2 : Int32).toInt ≤ _; have q : (2 : Int32).toInt = 2 := rfl; omega)
  have hq3 : (i + 3).toInt = i.toInt + 3 := i_add (by show _ ≤ i.toInt + (3 : Int32).toInt; have q : (3 : Int32).toInt = 3 := rfl; omega) (by show i.toInt + (3 : Int32).toInt ≤ _; have q : (3 : Int32).toInt = 3 := rfl; omega)
  have hq4 : (i + 4).toInt = i.toInt + 4 := i_add (by show _ ≤ i.toInt + (4 : Int32).toInt; have q : (4 : Int32).toInt = 4 := rfl; omega) (by show i.toInt + (4 : Int32).toInt ≤ _; have q : (4 : Int32).toInt = 4 := rfl; omega)
  have hq5 : (i + 5).toInt = i.toInt + 5 := i_add (by show _ ≤ i.toInt + (5 : Int32).toInt; have q : (5 : Int32).toInt = 5 := rfl; omega) (by show i.toInt + (5 : Int32).toInt ≤ _; have q : (5 : Int32).toInt = 5 := rfl; omega)
  refine lv_aload_n hx hb dL_law_1364 rfl (lv_at hl 1 rfl) ?_
  refine lv_aload_n hx hb dL_law_1365 rfl (lv_at hl 0 rfl) ?_
  refine lv_iload_n hx hb dL_law_1366 rfl (lv_at hl 3 rfl) ?_
  refine lv_iconst (v := 1) hx hb dL_law_1367 (by decide) ?_
  refine lv_iadd hx hb dL_law_1368 ?_
  refine va_sld hx hb hX hbl hbA hS (i_in (by omega) (by omega)) dL_law_1369 ?_
  rw [hs1]
  refine cL_ro (As := [.int s1]) (rest := []) ⟨hx, hb, hml, hown, hg⟩ (k_X11_count l D cs _ ad fa fq rv v a w fv fp s1 iv1_0 iv1_1 iv4_0 iv4_1 iv20_0 iv20_1 iv19_0 iv19_1 iv19_2 iv21_0 iv21_1 iv22_0 iv22_1) ca_X11_count q4_223 ⟨rfl, rfl⟩ ⟨Nat.le_of_ble_eq_true rfl, Nat.le_of_ble_eq_true rfl⟩ (rc_main hK (pw_l hP)) hK hP hD hS hZ rfl hl.1 rfl (Nat.le_of_ble_eq_true rfl) ⟨Nat.le_of_ble_eq_true rfl, Nat.le_of_ble_eq_true rfl⟩ dL_law_1370 (fun r_1 wr_1 => ?_)
  have wr_1_0 : True := wr_1
  refine lv_pop hx hb dL_law_1373 rfl ?_
  refine lv_aload_n hx hb dL_law_1374 rfl (lv_at hl 2 rfl) ?_
  refine lv_aload_n hx hb dL_law_1375 rfl (lv_at hl 0 rfl) ?_
  refine lv_iload_n hx hb dL_law_1376 rfl (lv_at hl 3 rfl) ?_
  refine lv_iconst (v := 1) hx hb dL_law_1377 (by decide) ?_
  refine lv_iadd hx hb dL_law_1378 ?_
  refine va_sld hx hb hX hbl hbA hS (i_in (by omega) (by omega)) dL_law_1379 ?_
  rw [hs1]
  refine cR_ro (As := [.int s1]) (rest := []) ⟨hx, hb, hml, hown, hg⟩ (k_X12_count l D cs _ bd u b_ bw s1 iu1_0 iu1_1 iu15_0 iu15_1 iu8_0 iu8_1 iu62_0 iu62_1 iu64_0 iu64_1) ca_X12_count q7_99 ⟨rfl, rfl⟩ ⟨Nat.le_of_ble_eq_true rfl, Nat.le_of_ble_eq_true rfl⟩ (rc_model hK (pw_r hP)) hK hP hD hS hZ rfl hl.1 rfl (Nat.le_of_ble_eq_true rfl) ⟨Nat.le_of_ble_eq_true rfl, Nat.le_of_ble_eq_true rfl⟩ dL_law_1380 (fun r_3 wr_3 => ?_)
  have wr_3_0 : True := wr_3
  refine lv_pop hx hb dL_law_1383 rfl ?_
  refine lv_goto (tgt := 1387) hx hb dL_law_1384 (by decide) ?_
  have hI1 : CI v a fv := ⟨iv1_0, iv1_1, ia28_0, ia29_0, iv20_0, iv20_1, iv19_0, iv19_1, iv19_2, ia24_0, ia25_0, ifv14_0, iv4_0, iv4_1, ia18_0, iv24_0, iv24_1, iv25_0, iv25_1, iv25_2, iv26_0, iv26_1, ia19_0, iv5_0, iv5_1, iv6_0, iv6_1, iv6_2, iv11_0, iv11_1, iv14_0, iv14_1, iv0_0, iv0_1, iv0_2, ifv17_0, iv21_0, iv21_1, ia37_0, iv23_0, iv23_1, iv22_0, iv22_1⟩
  have hR1 : RI u b_ bw := ⟨iu1_0, iu1_1, ib67_0, ib66_0, iu8_0, iu8_1, ib10_0, ib11_0, iu9_0, iu9_1, iu9_2, iu15_0, iu15_1, hlaw, ib23_0, ib20_0, ib24_0, iu7_0, iu7_1, iu41_0, iu41_1, iu48_0, iu48_1, iu46_0, iu46_1, iu47_0, iu47_1, iu55_0, iu55_1, iu55_2, iu58_0, iu62_0, iu62_1, ib63_0, iu64_0, iu64_1⟩
  have hE1 : REL v a w fv u b_ bw := ⟨(show (v 1).toInt = (u 1).toInt by first | omega | assumption | exact e1), (show (v 4).toInt = (u 15).toInt by first | omega | assumption | exact e4), (show (v 21).toInt = (u 62).toInt by first | omega | assumption | exact e21), (show (v 22).toInt = (u 64).toInt by first | omega | assumption | exact e22), (show (fv 14 3) = (b_ 53) 0 by first | omega | assumption | exact es14), (show (fv 17 3) = (b_ 61) 0 by first | omega | assumption | exact es17), (show ((v 0).toInt < 0 ∧ (u 54).toInt = 0) ∨ (0 ≤ (v 0).toInt ∧ (u 54).toInt ≠ 0) by first | omega | assumption | exact eim), (show ∀ j, (a 37) j = (b_ 63) j by first | omega | assumption | exact ek), (show ∀ j, (a 38) j = (b_ 65) j by first | omega | assumption | exact et), (show SH (a 28) (a 29) w (b_ 66) (b_ 67) (bw 68) (v 21) by first | omega | assumption | exact esh)⟩
  exact kk ad rv v a w fv fp bd u b_ bw _ _ ls rfl rfl hI1 hR1 hE1 hP hD hS hl
