set_option maxHeartbeats 16000000 in
set_option maxRecDepth 100000 in
theorem whole_start {p : Program} {e : Env} {s : State} {m : MethodId} {below : List Frame} {meth : Method} {c : Code} (l : Launch) (hflags : l.flags = flags0) {b L : Nat} {xs : Nat → Int32} (hL : L ≤ 6) (C0 : lw_At p s m meth c b L xs) : W p l e room_1 s m #[Value.ref b] below meth c s.heap [] 0 0 (lw_Z below #[Value.ref b] s) (entryFrame m ([Value.ref b] : List Value).toArray 4) := by
  obtain ⟨hx, hb, hr, hml, hown, hts, hX, hbl, hlocks, hgv⟩ := id C0
  have hg : ∀ w ∈ gw, w.before #[Value.ref b] s = true := fun w h => hts w (gw_in w h)
  have hbA : ¬ (fun q : Nat => s.heap.size ≤ q) b := Nat.not_le.mpr hbl
  refine law_new l C0 (fun D cs ad fa fq rv v a w fv fp bd u b_ bw H locs ls hK hZ hF hR hP hD hS hl => ?_)
  have tail : ∀ (H : Heap) (locs : List Loc) (ls : Array Slot), va_S (fun q : Nat => s.heap.size ≤ q) s.heap H locs → lv_has ls 4 [(0, .ref b), (1, .ref (ad 0)), (2, .ref (bd 0)), (3, .int 0)] → W p l e room_1 s m #[Value.ref b] below meth c H locs 200 9000 (lw_Z below #[Value.ref b] s) (F0 m 1388 ls []) := by
    intro H locs ls hS hl
    refine lv_iinc (v := 6) (lv' := [(3, .int 6), (0, .ref b), (1, .ref (ad 0)), (2, .ref (bd 0))]) hx hb dL_law_1388 hl (k := 3) rfl (by decide) (by decide) rfl (fun ls hl => ?_)
    refine lv_goto (tgt := 18) hx hb dL_law_1391 (by decide) ?_
    have hl := lv_sub hl (l' := [(0, .ref b), (1, .ref (ad 0)), (2, .ref (bd 0)), (3, .int 6)]) [1, 2, 3, 0] rfl
    refine lv_iload_n hx hb dL_law_18 rfl (lv_at hl 3 rfl) ?_
    refine lv_aload_n hx hb dL_law_19 rfl (lv_at hl 0 rfl) ?_
    refine va_slen hx hb hX hbl hbA hS dL_law_20 ?_
    refine lv_bipush (v := 6) hx hb dL_law_21 (by decide) ?_
    refine lv_isub hx hb dL_law_23 ?_
    refine lv_topi (fun x_114 ex_114 => ?_)
    have fx_114 : x_114.toInt = (L : Int) - 6 := by
      have q : (Int32.ofNat L).toInt = (L : Int) := nI_toInt (by omega)
      have q6 : (6 : Int32).toInt = 6 := rfl
      rw [ex_114, i_sub] <;> omega
    refine lv_icmp_gt (tgt := 1394) hx hb dL_law_24 (by decide) (fun c_115 => ?_) (fun c_115 => ?_)
    ·
      have kc_115 := i_lt c_115
      refine lv_iconst (v := 1) hx hb dL_law_1394 (by decide) ?_
      refine va_forget (fun q hq => hS.2.2 q hq) ?_
      refine W.widen (k := 600000) (n := 7302250) (Nat.le_of_ble_eq_true rfl) (Nat.le_of_ble_eq_true rfl) ?_
      exact lw_ret hx hb hr hlocks dL_law_1395
    ·
      have kc_115 := i_nlt c_115
      have q3 : (6 : Int32).toInt = 6 := rfl
      exfalso; omega
  refine lv_iload_n hx hb dL_law_18 rfl (lv_at hl 3 rfl) ?_
  refine lv_aload_n hx hb dL_law_19 rfl (lv_at hl 0 rfl) ?_
  refine va_slen hx hb hX hbl hbA hS dL_law_20 ?_
  refine lv_bipush (v := 6) hx hb dL_law_21 (by decide) ?_
  refine lv_isub hx hb dL_law_23 ?_
  refine lv_topi (fun x_116 ex_116 => ?_)
  have fx_116 : x_116.toInt = (L : Int) - 6 := by
    have q : (Int32.ofNat L).toInt = (L : Int) := nI_toInt (by omega)
    have q6 : (6 : Int32).toInt = 6 := rfl
    rw [ex_116, i_sub] <;> omega
  refine lv_icmp_gt (tgt := 1394) hx hb dL_law_24 (by decide) (fun c_117 => ?_) (fun c_117 => ?_)
  ·
    have kc_117 := i_lt c_117
    refine lv_iconst (v := 1) hx hb dL_law_1394 (by decide) ?_
    refine va_forget (fun q hq => hS.2.2 q hq) ?_
    refine W.widen (k := 600000) (n := 7302250) (Nat.le_of_ble_eq_true rfl) (Nat.le_of_ble_eq_true rfl) ?_
    exact lw_ret hx hb hr hlocks dL_law_1395
  ·
    have kc_117 := i_nlt c_117
    have q3 : (0 : Int32).toInt = 0 := rfl
    have hL6 : L = 6 := by omega
    have q0_0 : (0 : Int32).toInt = 0 := rfl
    obtain ⟨s0, hs0⟩ : ∃ y, xs (0 : Int32).toNatClampNeg = y := ⟨_, rfl⟩
    have q0_1 : (1 : Int32).toInt = 1 := rfl
    obtain ⟨s1, hs1⟩ : ∃ y, xs (1 : Int32).toNatClampNeg = y := ⟨_, rfl⟩
    have q0_2 : (2 : Int32).toInt = 2 := rfl
    obtain ⟨s2, hs2⟩ : ∃ y, xs (2 : Int32).toNatClampNeg = y := ⟨_, rfl⟩
    have q0_3 : (3 : Int32).toInt = 3 := rfl
    obtain ⟨s3, hs3⟩ : ∃ y, xs (3 : Int32).toNatClampNeg = y := ⟨_, rfl⟩
    have q0_4 : (4 : Int32).toInt = 4 := rfl
    obtain ⟨s4, hs4⟩ : ∃ y, xs (4 : Int32).toNatClampNeg = y := ⟨_, rfl⟩
    have q0_5 : (5 : Int32).toInt = 5 := rfl
    obtain ⟨s5, hs5⟩ : ∃ y, xs (5 : Int32).toNatClampNeg = y := ⟨_, rfl⟩
    refine lv_aload_n hx hb dL_law_27 rfl (lv_at hl 0 rfl) ?_
    refine lv_iload_n hx hb dL_law_28 rfl (lv_at hl 3 rfl) ?_
    refine va_sld hx hb hX hbl hbA hS (i_in (by decide) (by omega)) dL_law_29 ?_
    rw [hs0]
    refine lv_bipush (v := 63) hx hb dL_law_30 (by decide) ?_
    refine lv_iand hx hb dL_law_32 ?_
    refine lv_topi (fun t_0 et_0 => ?_)
    rcases (show t_0.toInt = 0 ∨ t_0.toInt = 1 ∨ t_0.toInt = 2 ∨ t_0.toInt = 3 ∨ t_0.toInt = 4 ∨ t_0.toInt = 5 ∨ t_0.toInt = 6 ∨ t_0.toInt = 7 ∨ t_0.toInt = 8 ∨ t_0.toInt = 9 ∨ t_0.toInt = 10 ∨ t_0.toInt = 11 ∨ t_0.toInt = 12 ∨ t_0.toInt = 13 ∨ t_0.toInt = 14 ∨ t_0.toInt = 15 ∨ t_0.toInt = 16 ∨ t_0.toInt = 17 ∨ t_0.toInt = 18 ∨ t_0.toInt = 19 ∨ t_0.toInt = 20 ∨ t_0.toInt = 21 ∨ t_0.toInt = 22 ∨ t_0.toInt = 23 ∨ t_0.toInt = 24 ∨ t_0.toInt = 25 ∨ t_0.toInt = 26 ∨ t_0.toInt = 27 ∨ t_0.toInt = 28 ∨ t_0.toInt = 29 ∨ t_0.toInt = 30 ∨ t_0.toInt = 31 ∨ t_0.toInt = 32 ∨ t_0.toInt = 33 ∨ t_0.toInt = 34 ∨ t_0.toInt = 35 ∨ t_0.toInt = 36 ∨ (t_0.toInt < 0 ∨ 36 < t_0.toInt) by omega) with kt | kt | kt | kt | kt | kt | kt | kt | kt | kt | kt | kt | kt | kt | kt | kt | kt | kt | kt | kt | kt | kt | kt | kt | kt | kt | kt | kt | kt | kt | kt | kt | kt | kt | kt | kt | kt | kt
    ·
      refine lv_tableIn (tgt := 196) hx hb dL_law_33 (by omega) (by omega) (off := 163) (by rw [kt]; rfl) (by decide) ?_
      refine lv_aload_n hx hb dL_law_196 rfl (lv_at hl 1 rfl) ?_
      refine lv_aload_n hx hb dL_law_197 rfl (lv_at hl 0 rfl) ?_
      refine lv_iload_n hx hb dL_law_198 rfl (lv_at hl 3 rfl) ?_
      refine lv_iconst (v := 1) hx hb dL_law_199 (by decide) ?_
      refine lv_iadd hx hb dL_law_200 ?_
      refine lv_topi (fun x_118 ex_118 => ?_)
      have fx_118 : x_118 = 1 := by rw [ex_118]; rfl
      subst fx_118
      refine va_sld hx hb hX hbl hbA hS (i_in (by decide) (by omega)) dL_law_201 ?_
      rw [hs1]
      refine cL_i (As := [.int s1]) (rest := []) ⟨hx, hb, hml, hown, hg⟩ (k_F_X11_person l D cs _ ad fa fq rv v a w fv fp s1 hF) ca_X11_person q2_169 ⟨rfl, rfl⟩ ⟨Nat.le_of_ble_eq_true rfl, Nat.le_of_ble_eq_true rfl⟩ (rc_main hK (pw_l hP)) hK hP hD hS hZ rfl hl.1 rfl (Nat.le_of_ble_eq_true rfl) ⟨Nat.le_of_ble_eq_true rfl, Nat.le_of_ble_eq_true rfl⟩ dL_law_202 (fun r_119 ur_119 H locs wr_119 hP hD hS => ?_)
      have wr_119 : ((0 ≤ s1.toInt ∧ s1.toInt < 256) ∧ r_119.toInt = 0) ∨ (¬ (0 ≤ s1.toInt ∧ s1.toInt < 256) ∧ r_119.toInt = -1) := wr_119
      refine lv_aload_n hx hb dL_law_205 rfl (lv_at hl 2 rfl) ?_
      refine lv_aload_n hx hb dL_law_206 rfl (lv_at hl 0 rfl) ?_
      refine lv_iload_n hx hb dL_law_207 rfl (lv_at hl 3 rfl) ?_
      refine lv_iconst (v := 1) hx hb dL_law_208 (by decide) ?_
      refine lv_iadd hx hb dL_law_209 ?_
      refine lv_topi (fun x_120 ex_120 => ?_)
      have fx_120 : x_120 = 1 := by rw [ex_120]; rfl
      subst fx_120
      refine va_sld hx hb hX hbl hbA hS (i_in (by decide) (by omega)) dL_law_210 ?_
      rw [hs1]
      refine cR_i (As := [.int s1]) (rest := [.int r_119]) ⟨hx, hb, hml, hown, hg⟩ (k_F_X12_person l D cs _ bd u b_ bw s1 hR) ca_X12_person q5_205 ⟨rfl, rfl⟩ ⟨Nat.le_of_ble_eq_true rfl, Nat.le_of_ble_eq_true rfl⟩ (rc_model hK (pw_r hP)) hK hP hD hS hZ rfl hl.1 rfl (Nat.le_of_ble_eq_true rfl) ⟨Nat.le_of_ble_eq_true rfl, Nat.le_of_ble_eq_true rfl⟩ dL_law_211 (fun r_121 ur_121 H locs wr_121 hP hD hS => ?_)
      have wr_121 : ((0 ≤ s1.toInt ∧ s1.toInt < 256) ∧ r_121.toInt = 0) ∨ (¬ (0 ≤ s1.toInt ∧ s1.toInt < 256) ∧ r_121.toInt = -1) := wr_121
      refine lv_icmp_eq (tgt := 1388) hx hb dL_law_214 (by decide) (fun c_122 => ?_) (fun c_122 => ?_)
      ·
        exact tail _ _ ls hS hl
      ·
        exact absurd (i_inj (by omega)) c_122
    ·
      refine lv_tableIn (tgt := 219) hx hb dL_law_33 (by omega) (by omega) (off := 186) (by rw [kt]; rfl) (by decide) ?_
      refine lv_aload_n hx hb dL_law_219 rfl (lv_at hl 1 rfl) ?_
      refine lv_aload_n hx hb dL_law_220 rfl (lv_at hl 0 rfl) ?_
      refine lv_iload_n hx hb dL_law_221 rfl (lv_at hl 3 rfl) ?_
      refine lv_iconst (v := 1) hx hb dL_law_222 (by decide) ?_
      refine lv_iadd hx hb dL_law_223 ?_
      refine lv_topi (fun x_123 ex_123 => ?_)
      have fx_123 : x_123 = 1 := by rw [ex_123]; rfl
      subst fx_123
      refine va_sld hx hb hX hbl hbA hS (i_in (by decide) (by omega)) dL_law_224 ?_
      rw [hs1]
      refine lv_aload_n hx hb dL_law_225 rfl (lv_at hl 0 rfl) ?_
      refine lv_iload_n hx hb dL_law_226 rfl (lv_at hl 3 rfl) ?_
      refine lv_iconst (v := 2) hx hb dL_law_227 (by decide) ?_
      refine lv_iadd hx hb dL_law_228 ?_
      refine lv_topi (fun x_124 ex_124 => ?_)
      have fx_124 : x_124 = 2 := by rw [ex_124]; rfl
      subst fx_124
      refine va_sld hx hb hX hbl hbA hS (i_in (by decide) (by omega)) dL_law_229 ?_
      rw [hs2]
      refine lv_aload_n hx hb dL_law_230 rfl (lv_at hl 0 rfl) ?_
      refine lv_iload_n hx hb dL_law_231 rfl (lv_at hl 3 rfl) ?_
      refine lv_iconst (v := 3) hx hb dL_law_232 (by decide) ?_
      refine lv_iadd hx hb dL_law_233 ?_
      refine lv_topi (fun x_125 ex_125 => ?_)
      have fx_125 : x_125 = 3 := by rw [ex_125]; rfl
      subst fx_125
      refine va_sld hx hb hX hbl hbA hS (i_in (by decide) (by omega)) dL_law_234 ?_
      rw [hs3]
      refine cL_ro (As := [.int s1, .int s2, .int s3]) (rest := []) ⟨hx, hb, hml, hown, hg⟩ (k_F_X11_people l D cs _ ad fa fq rv v a w fv fp s1 s2 s3 hF) ca_X11_people q2_201 ⟨rfl, rfl⟩ ⟨Nat.le_of_ble_eq_true rfl, Nat.le_of_ble_eq_true rfl⟩ (rc_main hK (pw_l hP)) hK hP hD hS hZ rfl hl.1 rfl (Nat.le_of_ble_eq_true rfl) ⟨Nat.le_of_ble_eq_true rfl, Nat.le_of_ble_eq_true rfl⟩ dL_law_235 (fun r_126 wr_126 => ?_)
      have wr_126 : ((0 ≤ s1.toInt ∧ s1.toInt < 6 ∧ 1 ≤ s3.toInt ∧ s3.toInt ≤ 8) ∧ r_126.toInt = 0) ∨ (¬ (0 ≤ s1.toInt ∧ s1.toInt < 6 ∧ 1 ≤ s3.toInt ∧ s3.toInt ≤ 8) ∧ r_126.toInt = -1) := wr_126
      refine lv_aload_n hx hb dL_law_238 rfl (lv_at hl 2 rfl) ?_
      refine lv_aload_n hx hb dL_law_239 rfl (lv_at hl 0 rfl) ?_
      refine lv_iload_n hx hb dL_law_240 rfl (lv_at hl 3 rfl) ?_
      refine lv_iconst (v := 1) hx hb dL_law_241 (by decide) ?_
      refine lv_iadd hx hb dL_law_242 ?_
      refine lv_topi (fun x_127 ex_127 => ?_)
      have fx_127 : x_127 = 1 := by rw [ex_127]; rfl
      subst fx_127
      refine va_sld hx hb hX hbl hbA hS (i_in (by decide) (by omega)) dL_law_243 ?_
      rw [hs1]
      refine lv_aload_n hx hb dL_law_244 rfl (lv_at hl 0 rfl) ?_
      refine lv_iload_n hx hb dL_law_245 rfl (lv_at hl 3 rfl) ?_
      refine lv_iconst (v := 2) hx hb dL_law_246 (by decide) ?_
      refine lv_iadd hx hb dL_law_247 ?_
      refine lv_topi (fun x_128 ex_128 => ?_)
      have fx_128 : x_128 = 2 := by rw [ex_128]; rfl
      subst fx_128
      refine va_sld hx hb hX hbl hbA hS (i_in (by decide) (by omega)) dL_law_248 ?_
      rw [hs2]
      refine lv_aload_n hx hb dL_law_249 rfl (lv_at hl 0 rfl) ?_
      refine lv_iload_n hx hb dL_law_250 rfl (lv_at hl 3 rfl) ?_
      refine lv_iconst (v := 3) hx hb dL_law_251 (by decide) ?_
      refine lv_iadd hx hb dL_law_252 ?_
      refine lv_topi (fun x_129 ex_129 => ?_)
      have fx_129 : x_129 = 3 := by rw [ex_129]; rfl
      subst fx_129
      refine va_sld hx hb hX hbl hbA hS (i_in (by decide) (by omega)) dL_law_253 ?_
      rw [hs3]
      refine cR_ro (As := [.int s1, .int s2, .int s3]) (rest := [.int r_126]) ⟨hx, hb, hml, hown, hg⟩ (k_F_X12_people l D cs _ bd u b_ bw s1 s2 s3 hR) ca_X12_people q5_219 ⟨rfl, rfl⟩ ⟨Nat.le_of_ble_eq_true rfl, Nat.le_of_ble_eq_true rfl⟩ (rc_model hK (pw_r hP)) hK hP hD hS hZ rfl hl.1 rfl (Nat.le_of_ble_eq_true rfl) ⟨Nat.le_of_ble_eq_true rfl, Nat.le_of_ble_eq_true rfl⟩ dL_law_254 (fun r_130 wr_130 => ?_)
      have wr_130 : ((0 ≤ s1.toInt ∧ s1.toInt < 6 ∧ 1 ≤ s3.toInt ∧ s3.toInt ≤ 8) ∧ r_130.toInt = 0) ∨ (¬ (0 ≤ s1.toInt ∧ s1.toInt < 6 ∧ 1 ≤ s3.toInt ∧ s3.toInt ≤ 8) ∧ r_130.toInt = -1) := wr_130
      refine lv_icmp_eq (tgt := 1388) hx hb dL_law_257 (by decide) (fun c_131 => ?_) (fun c_131 => ?_)
      ·
        exact tail _ _ ls hS hl
      ·
        exact absurd (i_inj (by omega)) c_131
    ·
      refine lv_tableIn (tgt := 262) hx hb dL_law_33 (by omega) (by omega) (off := 229) (by rw [kt]; rfl) (by decide) ?_
      refine lv_aload_n hx hb dL_law_262 rfl (lv_at hl 1 rfl) ?_
      refine lv_aload_n hx hb dL_law_263 rfl (lv_at hl 0 rfl) ?_
      refine lv_iload_n hx hb dL_law_264 rfl (lv_at hl 3 rfl) ?_
      refine lv_iconst (v := 1) hx hb dL_law_265 (by decide) ?_
      refine lv_iadd hx hb dL_law_266 ?_
      refine lv_topi (fun x_132 ex_132 => ?_)
      have fx_132 : x_132 = 1 := by rw [ex_132]; rfl
      subst fx_132
      refine va_sld hx hb hX hbl hbA hS (i_in (by decide) (by omega)) dL_law_267 ?_
      rw [hs1]
      refine lv_aload_n hx hb dL_law_268 rfl (lv_at hl 0 rfl) ?_
      refine lv_iload_n hx hb dL_law_269 rfl (lv_at hl 3 rfl) ?_
      refine lv_iconst (v := 2) hx hb dL_law_270 (by decide) ?_
      refine lv_iadd hx hb dL_law_271 ?_
      refine lv_topi (fun x_133 ex_133 => ?_)
      have fx_133 : x_133 = 2 := by rw [ex_133]; rfl
      subst fx_133
      refine va_sld hx hb hX hbl hbA hS (i_in (by decide) (by omega)) dL_law_272 ?_
      rw [hs2]
      refine lv_aload_n hx hb dL_law_273 rfl (lv_at hl 0 rfl) ?_
      refine lv_iload_n hx hb dL_law_274 rfl (lv_at hl 3 rfl) ?_
      refine lv_iconst (v := 3) hx hb dL_law_275 (by decide) ?_
      refine lv_iadd hx hb dL_law_276 ?_
      refine lv_topi (fun x_134 ex_134 => ?_)
      have fx_134 : x_134 = 3 := by rw [ex_134]; rfl
      subst fx_134
      refine va_sld hx hb hX hbl hbA hS (i_in (by decide) (by omega)) dL_law_277 ?_
      rw [hs3]
      refine cL_i (As := [.int s1, .int s2, .int s3]) (rest := []) ⟨hx, hb, hml, hown, hg⟩ (k_F_X11_mend l D cs _ ad fa fq rv v a w fv fp s1 s2 s3 hF) ca_X11_mend q2_236 ⟨rfl, rfl⟩ ⟨Nat.le_of_ble_eq_true rfl, Nat.le_of_ble_eq_true rfl⟩ (rc_main hK (pw_l hP)) hK hP hD hS hZ rfl hl.1 rfl (Nat.le_of_ble_eq_true rfl) ⟨Nat.le_of_ble_eq_true rfl, Nat.le_of_ble_eq_true rfl⟩ dL_law_278 (fun r_135 ur_135 H locs wr_135 hP hD hS => ?_)
      have wr_135 : ((s1.toInt = 0 ∧ ((s2.toInt = 4 ∧ 0 ≤ s3.toInt ∧ s3.toInt ≤ 255) ∨ (s2.toInt = 5 ∧ 1 ≤ s3.toInt ∧ s3.toInt ≤ 20) ∨ (s2.toInt = 6 ∧ 0 ≤ s3.toInt ∧ s3.toInt ≤ 23) ∨ (s2.toInt = 7 ∧ 1 ≤ s3.toInt ∧ s3.toInt ≤ 9))) ∧ ((s2.toInt = 4 ∧ r_135.toInt = 0) ∨ (s2.toInt = 5 ∧ r_135.toInt = 8) ∨ (s2.toInt = 6 ∧ r_135.toInt = 8) ∨ (s2.toInt = 7 ∧ r_135.toInt = 4))) ∨ (¬ (s1.toInt = 0 ∧ ((s2.toInt = 4 ∧ 0 ≤ s3.toInt ∧ s3.toInt ≤ 255) ∨ (s2.toInt = 5 ∧ 1 ≤ s3.toInt ∧ s3.toInt ≤ 20) ∨ (s2.toInt = 6 ∧ 0 ≤ s3.toInt ∧ s3.toInt ≤ 23) ∨ (s2.toInt = 7 ∧ 1 ≤ s3.toInt ∧ s3.toInt ≤ 9))) ∧ r_135.toInt = -1) := wr_135
      refine lv_aload_n hx hb dL_law_281 rfl (lv_at hl 2 rfl) ?_
      refine lv_aload_n hx hb dL_law_282 rfl (lv_at hl 0 rfl) ?_
      refine lv_iload_n hx hb dL_law_283 rfl (lv_at hl 3 rfl) ?_
      refine lv_iconst (v := 1) hx hb dL_law_284 (by decide) ?_
      refine lv_iadd hx hb dL_law_285 ?_
      refine lv_topi (fun x_136 ex_136 => ?_)
      have fx_136 : x_136 = 1 := by rw [ex_136]; rfl
      subst fx_136
      refine va_sld hx hb hX hbl hbA hS (i_in (by decide) (by omega)) dL_law_286 ?_
      rw [hs1]
      refine lv_aload_n hx hb dL_law_287 rfl (lv_at hl 0 rfl) ?_
      refine lv_iload_n hx hb dL_law_288 rfl (lv_at hl 3 rfl) ?_
      refine lv_iconst (v := 2) hx hb dL_law_289 (by decide) ?_
      refine lv_iadd hx hb dL_law_290 ?_
      refine lv_topi (fun x_137 ex_137 => ?_)
      have fx_137 : x_137 = 2 := by rw [ex_137]; rfl
      subst fx_137
      refine va_sld hx hb hX hbl hbA hS (i_in (by decide) (by omega)) dL_law_291 ?_
      rw [hs2]
      refine lv_aload_n hx hb dL_law_292 rfl (lv_at hl 0 rfl) ?_
      refine lv_iload_n hx hb dL_law_293 rfl (lv_at hl 3 rfl) ?_
      refine lv_iconst (v := 3) hx hb dL_law_294 (by decide) ?_
      refine lv_iadd hx hb dL_law_295 ?_
      refine lv_topi (fun x_138 ex_138 => ?_)
      have fx_138 : x_138 = 3 := by rw [ex_138]; rfl
      subst fx_138
      refine va_sld hx hb hX hbl hbA hS (i_in (by decide) (by omega)) dL_law_296 ?_
      rw [hs3]
      refine cR_i (As := [.int s1, .int s2, .int s3]) (rest := [.int r_135]) ⟨hx, hb, hml, hown, hg⟩ (k_F_X12_mend l D cs _ bd u b_ bw s1 s2 s3 hR) ca_X12_mend q5_239 ⟨rfl, rfl⟩ ⟨Nat.le_of_ble_eq_true rfl, Nat.le_of_ble_eq_true rfl⟩ (rc_model hK (pw_r hP)) hK hP hD hS hZ rfl hl.1 rfl (Nat.le_of_ble_eq_true rfl) ⟨Nat.le_of_ble_eq_true rfl, Nat.le_of_ble_eq_true rfl⟩ dL_law_297 (fun r_139 ur_139 H locs wr_139 hP hD hS => ?_)
      have wr_139 : ((s1.toInt = 0 ∧ ((s2.toInt = 4 ∧ 0 ≤ s3.toInt ∧ s3.toInt ≤ 255) ∨ (s2.toInt = 5 ∧ 1 ≤ s3.toInt ∧ s3.toInt ≤ 20) ∨ (s2.toInt = 6 ∧ 0 ≤ s3.toInt ∧ s3.toInt ≤ 23) ∨ (s2.toInt = 7 ∧ 1 ≤ s3.toInt ∧ s3.toInt ≤ 9))) ∧ ((s2.toInt = 4 ∧ r_139.toInt = 0) ∨ (s2.toInt = 5 ∧ r_139.toInt = 8) ∨ (s2.toInt = 6 ∧ r_139.toInt = 8) ∨ (s2.toInt = 7 ∧ r_139.toInt = 4))) ∨ (¬ (s1.toInt = 0 ∧ ((s2.toInt = 4 ∧ 0 ≤ s3.toInt ∧ s3.toInt ≤ 255) ∨ (s2.toInt = 5 ∧ 1 ≤ s3.toInt ∧ s3.toInt ≤ 20) ∨ (s2.toInt = 6 ∧ 0 ≤ s3.toInt ∧ s3.toInt ≤ 23) ∨ (s2.toInt = 7 ∧ 1 ≤ s3.toInt ∧ s3.toInt ≤ 9))) ∧ r_139.toInt = -1) := wr_139
      refine lv_icmp_eq (tgt := 1388) hx hb dL_law_300 (by decide) (fun c_140 => ?_) (fun c_140 => ?_)
      ·
        exact tail _ _ ls hS hl
      ·
        exact absurd (i_inj (by omega)) c_140
    ·
      refine lv_tableIn (tgt := 305) hx hb dL_law_33 (by omega) (by omega) (off := 272) (by rw [kt]; rfl) (by decide) ?_
      refine lv_aload_n hx hb dL_law_305 rfl (lv_at hl 1 rfl) ?_
      refine lv_aload_n hx hb dL_law_306 rfl (lv_at hl 0 rfl) ?_
      refine lv_iload_n hx hb dL_law_307 rfl (lv_at hl 3 rfl) ?_
      refine lv_iconst (v := 1) hx hb dL_law_308 (by decide) ?_
      refine lv_iadd hx hb dL_law_309 ?_
      refine lv_topi (fun x_141 ex_141 => ?_)
      have fx_141 : x_141 = 1 := by rw [ex_141]; rfl
      subst fx_141
      refine va_sld hx hb hX hbl hbA hS (i_in (by decide) (by omega)) dL_law_310 ?_
      rw [hs1]
      refine lv_aload_n hx hb dL_law_311 rfl (lv_at hl 0 rfl) ?_
      refine lv_iload_n hx hb dL_law_312 rfl (lv_at hl 3 rfl) ?_
      refine lv_iconst (v := 2) hx hb dL_law_313 (by decide) ?_
      refine lv_iadd hx hb dL_law_314 ?_
      refine lv_topi (fun x_142 ex_142 => ?_)
      have fx_142 : x_142 = 2 := by rw [ex_142]; rfl
      subst fx_142
      refine va_sld hx hb hX hbl hbA hS (i_in (by decide) (by omega)) dL_law_315 ?_
      rw [hs2]
      refine cL_ro (As := [.int s1, .int s2]) (rest := []) ⟨hx, hb, hml, hown, hg⟩ (k_F_X11_of l D cs _ ad fa fq rv v a w fv fp s1 s2 hF) ca_X11_of q3_36 ⟨rfl, rfl⟩ ⟨Nat.le_of_ble_eq_true rfl, Nat.le_of_ble_eq_true rfl⟩ (rc_main hK (pw_l hP)) hK hP hD hS hZ rfl hl.1 rfl (Nat.le_of_ble_eq_true rfl) ⟨Nat.le_of_ble_eq_true rfl, Nat.le_of_ble_eq_true rfl⟩ dL_law_316 (fun r_143 wr_143 => ?_)
      have wr_143 : ((s1.toInt = 0 ∧ 4 ≤ s2.toInt ∧ s2.toInt ≤ 7) ∧ ((s2.toInt = 4 ∧ r_143.toInt = 0) ∨ (s2.toInt = 5 ∧ r_143.toInt = 8) ∨ (s2.toInt = 6 ∧ r_143.toInt = 8) ∨ (s2.toInt = 7 ∧ r_143.toInt = 4))) ∨ (¬ (s1.toInt = 0 ∧ 4 ≤ s2.toInt ∧ s2.toInt ≤ 7) ∧ r_143.toInt = -1) := wr_143
      refine lv_aload_n hx hb dL_law_319 rfl (lv_at hl 2 rfl) ?_
      refine lv_aload_n hx hb dL_law_320 rfl (lv_at hl 0 rfl) ?_
      refine lv_iload_n hx hb dL_law_321 rfl (lv_at hl 3 rfl) ?_
      refine lv_iconst (v := 1) hx hb dL_law_322 (by decide) ?_
      refine lv_iadd hx hb dL_law_323 ?_
      refine lv_topi (fun x_144 ex_144 => ?_)
      have fx_144 : x_144 = 1 := by rw [ex_144]; rfl
      subst fx_144
      refine va_sld hx hb hX hbl hbA hS (i_in (by decide) (by omega)) dL_law_324 ?_
      rw [hs1]
      refine lv_aload_n hx hb dL_law_325 rfl (lv_at hl 0 rfl) ?_
      refine lv_iload_n hx hb dL_law_326 rfl (lv_at hl 3 rfl) ?_
      refine lv_iconst (v := 2) hx hb dL_law_327 (by decide) ?_
      refine lv_iadd hx hb dL_law_328 ?_
      refine lv_topi (fun x_145 ex_145 => ?_)
      have fx_145 : x_145 = 2 := by rw [ex_145]; rfl
      subst fx_145
      refine va_sld hx hb hX hbl hbA hS (i_in (by decide) (by omega)) dL_law_329 ?_
      rw [hs2]
      refine cR_ro (As := [.int s1, .int s2]) (rest := [.int r_143]) ⟨hx, hb, hml, hown, hg⟩ (k_F_X12_of l D cs _ bd u b_ bw s1 s2 hR) ca_X12_of q6_22 ⟨rfl, rfl⟩ ⟨Nat.le_of_ble_eq_true rfl, Nat.le_of_ble_eq_true rfl⟩ (rc_model hK (pw_r hP)) hK hP hD hS hZ rfl hl.1 rfl (Nat.le_of_ble_eq_true rfl) ⟨Nat.le_of_ble_eq_true rfl, Nat.le_of_ble_eq_true rfl⟩ dL_law_330 (fun r_146 wr_146 => ?_)
      have wr_146 : ((s1.toInt = 0 ∧ 4 ≤ s2.toInt ∧ s2.toInt ≤ 7) ∧ ((s2.toInt = 4 ∧ r_146.toInt = 0) ∨ (s2.toInt = 5 ∧ r_146.toInt = 8) ∨ (s2.toInt = 6 ∧ r_146.toInt = 8) ∨ (s2.toInt = 7 ∧ r_146.toInt = 4))) ∨ (¬ (s1.toInt = 0 ∧ 4 ≤ s2.toInt ∧ s2.toInt ≤ 7) ∧ r_146.toInt = -1) := wr_146
      refine lv_icmp_eq (tgt := 1388) hx hb dL_law_333 (by decide) (fun c_147 => ?_) (fun c_147 => ?_)
      ·
        exact tail _ _ ls hS hl
      ·
        exact absurd (i_inj (by omega)) c_147
    ·
      refine lv_tableIn (tgt := 338) hx hb dL_law_33 (by omega) (by omega) (off := 305) (by rw [kt]; rfl) (by decide) ?_
      refine lv_aload_n hx hb dL_law_338 rfl (lv_at hl 1 rfl) ?_
      refine lv_aload_n hx hb dL_law_339 rfl (lv_at hl 0 rfl) ?_
      refine lv_iload_n hx hb dL_law_340 rfl (lv_at hl 3 rfl) ?_
      refine lv_iconst (v := 1) hx hb dL_law_341 (by decide) ?_
      refine lv_iadd hx hb dL_law_342 ?_
      refine lv_topi (fun x_148 ex_148 => ?_)
      have fx_148 : x_148 = 1 := by rw [ex_148]; rfl
      subst fx_148
      refine va_sld hx hb hX hbl hbA hS (i_in (by decide) (by omega)) dL_law_343 ?_
      rw [hs1]
      refine cL_i (As := [.int s1]) (rest := []) ⟨hx, hb, hml, hown, hg⟩ (k_F_X11_feed l D cs _ ad fa fq rv v a w fv fp s1 hF) ca_X11_feed q3_40 ⟨rfl, rfl⟩ ⟨Nat.le_of_ble_eq_true rfl, Nat.le_of_ble_eq_true rfl⟩ (rc_main hK (pw_l hP)) hK hP hD hS hZ rfl hl.1 rfl (Nat.le_of_ble_eq_true rfl) ⟨Nat.le_of_ble_eq_true rfl, Nat.le_of_ble_eq_true rfl⟩ dL_law_344 (fun r_149 ur_149 H locs wr_149 hP hD hS => ?_)
      have wr_149 : ((0 ≤ s1.toInt ∧ s1.toInt ≤ 255) ∧ r_149.toInt = 1) ∨ (¬ (0 ≤ s1.toInt ∧ s1.toInt ≤ 255) ∧ r_149.toInt = -1) := wr_149
      refine lv_aload_n hx hb dL_law_347 rfl (lv_at hl 2 rfl) ?_
      refine lv_aload_n hx hb dL_law_348 rfl (lv_at hl 0 rfl) ?_
      refine lv_iload_n hx hb dL_law_349 rfl (lv_at hl 3 rfl) ?_
      refine lv_iconst (v := 1) hx hb dL_law_350 (by decide) ?_
      refine lv_iadd hx hb dL_law_351 ?_
      refine lv_topi (fun x_150 ex_150 => ?_)
      have fx_150 : x_150 = 1 := by rw [ex_150]; rfl
      subst fx_150
      refine va_sld hx hb hX hbl hbA hS (i_in (by decide) (by omega)) dL_law_352 ?_
      rw [hs1]
      refine cR_i (As := [.int s1]) (rest := [.int r_149]) ⟨hx, hb, hml, hown, hg⟩ (k_F_X12_feed l D cs _ bd u b_ bw s1 hR) ca_X12_feed q6_26 ⟨rfl, rfl⟩ ⟨Nat.le_of_ble_eq_true rfl, Nat.le_of_ble_eq_true rfl⟩ (rc_model hK (pw_r hP)) hK hP hD hS hZ rfl hl.1 rfl (Nat.le_of_ble_eq_true rfl) ⟨Nat.le_of_ble_eq_true rfl, Nat.le_of_ble_eq_true rfl⟩ dL_law_353 (fun r_151 ur_151 H locs wr_151 hP hD hS => ?_)
      have wr_151 : ((0 ≤ s1.toInt ∧ s1.toInt ≤ 255) ∧ r_151.toInt = 1) ∨ (¬ (0 ≤ s1.toInt ∧ s1.toInt ≤ 255) ∧ r_151.toInt = -1) := wr_151
      refine lv_icmp_eq (tgt := 1388) hx hb dL_law_356 (by decide) (fun c_152 => ?_) (fun c_152 => ?_)
      ·
        exact tail _ _ ls hS hl
      ·
        exact absurd (i_inj (by omega)) c_152
    ·
      refine lv_tableIn (tgt := 361) hx hb dL_law_33 (by omega) (by omega) (off := 328) (by rw [kt]; rfl) (by decide) ?_
      refine lv_aload_n hx hb dL_law_361 rfl (lv_at hl 1 rfl) ?_
      refine cL_i (As := []) (rest := []) ⟨hx, hb, hml, hown, hg⟩ (k_F_X11_law l D cs _ ad fa fq rv v a w fv fp  hF) ca_X11_law q3_48 ⟨rfl, rfl⟩ ⟨Nat.le_of_ble_eq_true rfl, Nat.le_of_ble_eq_true rfl⟩ (rc_main hK (pw_l hP)) hK hP hD hS hZ rfl hl.1 rfl (Nat.le_of_ble_eq_true rfl) ⟨Nat.le_of_ble_eq_true rfl, Nat.le_of_ble_eq_true rfl⟩ dL_law_362 (fun r_153 ur_153 H locs wr_153 hP hD hS => ?_)
      have wr_153 : r_153.toInt = -100 := wr_153
      refine lv_aload_n hx hb dL_law_365 rfl (lv_at hl 2 rfl) ?_
      refine cR_i (As := []) (rest := [.int r_153]) ⟨hx, hb, hml, hown, hg⟩ (k_F_X12_law l D cs _ bd u b_ bw  hR) ca_X12_law q6_30 ⟨rfl, rfl⟩ ⟨Nat.le_of_ble_eq_true rfl, Nat.le_of_ble_eq_true rfl⟩ (rc_model hK (pw_r hP)) hK hP hD hS hZ rfl hl.1 rfl (Nat.le_of_ble_eq_true rfl) ⟨Nat.le_of_ble_eq_true rfl, Nat.le_of_ble_eq_true rfl⟩ dL_law_366 (fun r_154 ur_154 H locs wr_154 hP hD hS => ?_)
      have wr_154 : r_154.toInt = -100 := wr_154
      refine lv_icmp_eq (tgt := 1388) hx hb dL_law_369 (by decide) (fun c_155 => ?_) (fun c_155 => ?_)
      ·
        exact tail _ _ ls hS hl
      ·
        exact absurd (i_inj (by omega)) c_155
    ·
      refine lv_tableIn (tgt := 374) hx hb dL_law_33 (by omega) (by omega) (off := 341) (by rw [kt]; rfl) (by decide) ?_
      refine lv_aload_n hx hb dL_law_374 rfl (lv_at hl 1 rfl) ?_
      refine lv_aload_n hx hb dL_law_375 rfl (lv_at hl 0 rfl) ?_
      refine lv_iload_n hx hb dL_law_376 rfl (lv_at hl 3 rfl) ?_
      refine lv_iconst (v := 1) hx hb dL_law_377 (by decide) ?_
      refine lv_iadd hx hb dL_law_378 ?_
      refine lv_topi (fun x_156 ex_156 => ?_)
      have fx_156 : x_156 = 1 := by rw [ex_156]; rfl
      subst fx_156
      refine va_sld hx hb hX hbl hbA hS (i_in (by decide) (by omega)) dL_law_379 ?_
      rw [hs1]
      refine cL_ro (As := [.int s1]) (rest := []) ⟨hx, hb, hml, hown, hg⟩ (k_F_X11_loud l D cs _ ad fa fq rv v a w fv fp s1 hF) ca_X11_loud q3_113 ⟨rfl, rfl⟩ ⟨Nat.le_of_ble_eq_true rfl, Nat.le_of_ble_eq_true rfl⟩ (rc_main hK (pw_l hP)) hK hP hD hS hZ rfl hl.1 rfl (Nat.le_of_ble_eq_true rfl) ⟨Nat.le_of_ble_eq_true rfl, Nat.le_of_ble_eq_true rfl⟩ dL_law_380 (fun r_157 wr_157 => ?_)
      have wr_157 : r_157.toInt = -1 := wr_157
      refine lv_aload_n hx hb dL_law_383 rfl (lv_at hl 2 rfl) ?_
      refine lv_aload_n hx hb dL_law_384 rfl (lv_at hl 0 rfl) ?_
      refine lv_iload_n hx hb dL_law_385 rfl (lv_at hl 3 rfl) ?_
      refine lv_iconst (v := 1) hx hb dL_law_386 (by decide) ?_
      refine lv_iadd hx hb dL_law_387 ?_
      refine lv_topi (fun x_158 ex_158 => ?_)
      have fx_158 : x_158 = 1 := by rw [ex_158]; rfl
      subst fx_158
      refine va_sld hx hb hX hbl hbA hS (i_in (by decide) (by omega)) dL_law_388 ?_
      rw [hs1]
      refine cR_ro (As := [.int s1]) (rest := [.int r_157]) ⟨hx, hb, hml, hown, hg⟩ (k_F_X12_loud l D cs _ bd u b_ bw s1 hR) ca_X12_loud q6_89 ⟨rfl, rfl⟩ ⟨Nat.le_of_ble_eq_true rfl, Nat.le_of_ble_eq_true rfl⟩ (rc_model hK (pw_r hP)) hK hP hD hS hZ rfl hl.1 rfl (Nat.le_of_ble_eq_true rfl) ⟨Nat.le_of_ble_eq_true rfl, Nat.le_of_ble_eq_true rfl⟩ dL_law_389 (fun r_159 wr_159 => ?_)
      have wr_159 : r_159.toInt = -1 := wr_159
      refine lv_icmp_eq (tgt := 1388) hx hb dL_law_392 (by decide) (fun c_160 => ?_) (fun c_160 => ?_)
      ·
        exact tail _ _ ls hS hl
      ·
        exact absurd (i_inj (by omega)) c_160
    ·
      refine lv_tableIn (tgt := 397) hx hb dL_law_33 (by omega) (by omega) (off := 364) (by rw [kt]; rfl) (by decide) ?_
      refine lv_aload_n hx hb dL_law_397 rfl (lv_at hl 1 rfl) ?_
      refine lv_aload_n hx hb dL_law_398 rfl (lv_at hl 0 rfl) ?_
      refine lv_iload_n hx hb dL_law_399 rfl (lv_at hl 3 rfl) ?_
      refine lv_iconst (v := 1) hx hb dL_law_400 (by decide) ?_
      refine lv_iadd hx hb dL_law_401 ?_
      refine lv_topi (fun x_161 ex_161 => ?_)
      have fx_161 : x_161 = 1 := by rw [ex_161]; rfl
      subst fx_161
      refine va_sld hx hb hX hbl hbA hS (i_in (by decide) (by omega)) dL_law_402 ?_
      rw [hs1]
      refine lv_aload_n hx hb dL_law_403 rfl (lv_at hl 0 rfl) ?_
      refine lv_iload_n hx hb dL_law_404 rfl (lv_at hl 3 rfl) ?_
      refine lv_iconst (v := 2) hx hb dL_law_405 (by decide) ?_
      refine lv_iadd hx hb dL_law_406 ?_
      refine lv_topi (fun x_162 ex_162 => ?_)
      have fx_162 : x_162 = 2 := by rw [ex_162]; rfl
      subst fx_162
      refine va_sld hx hb hX hbl hbA hS (i_in (by decide) (by omega)) dL_law_407 ?_
      rw [hs2]
      refine lv_aload_n hx hb dL_law_408 rfl (lv_at hl 0 rfl) ?_
      refine lv_iload_n hx hb dL_law_409 rfl (lv_at hl 3 rfl) ?_
      refine lv_iconst (v := 3) hx hb dL_law_410 (by decide) ?_
      refine lv_iadd hx hb dL_law_411 ?_
      refine lv_topi (fun x_163 ex_163 => ?_)
      have fx_163 : x_163 = 3 := by rw [ex_163]; rfl
      subst fx_163
      refine va_sld hx hb hX hbl hbA hS (i_in (by decide) (by omega)) dL_law_412 ?_
      rw [hs3]
      refine cL_ro (As := [.int s1, .int s2, .int s3]) (rest := []) ⟨hx, hb, hml, hown, hg⟩ (k_F_X11_day l D cs _ ad fa fq rv v a w fv fp s1 s2 s3 hF) ca_X11_day q3_143 ⟨rfl, rfl⟩ ⟨Nat.le_of_ble_eq_true rfl, Nat.le_of_ble_eq_true rfl⟩ (rc_main hK (pw_l hP)) hK hP hD hS hZ rfl hl.1 rfl (Nat.le_of_ble_eq_true rfl) ⟨Nat.le_of_ble_eq_true rfl, Nat.le_of_ble_eq_true rfl⟩ dL_law_413 (fun r_164 wr_164 => ?_)
      have wr_164 : ((0 ≤ s1.toInt ∧ s1.toInt < 6 ∧ 0 ≤ s2.toInt ∧ s2.toInt ≤ 24 ∧ 0 ≤ s3.toInt ∧ s3.toInt ≤ 2) ∧ r_164.toInt = -11) ∨ (¬ (0 ≤ s1.toInt ∧ s1.toInt < 6 ∧ 0 ≤ s2.toInt ∧ s2.toInt ≤ 24 ∧ 0 ≤ s3.toInt ∧ s3.toInt ≤ 2) ∧ r_164.toInt = -1) := wr_164
      refine lv_aload_n hx hb dL_law_416 rfl (lv_at hl 2 rfl) ?_
      refine lv_aload_n hx hb dL_law_417 rfl (lv_at hl 0 rfl) ?_
      refine lv_iload_n hx hb dL_law_418 rfl (lv_at hl 3 rfl) ?_
      refine lv_iconst (v := 1) hx hb dL_law_419 (by decide) ?_
      refine lv_iadd hx hb dL_law_420 ?_
      refine lv_topi (fun x_165 ex_165 => ?_)
      have fx_165 : x_165 = 1 := by rw [ex_165]; rfl
      subst fx_165
      refine va_sld hx hb hX hbl hbA hS (i_in (by decide) (by omega)) dL_law_421 ?_
      rw [hs1]
      refine lv_aload_n hx hb dL_law_422 rfl (lv_at hl 0 rfl) ?_
      refine lv_iload_n hx hb dL_law_423 rfl (lv_at hl 3 rfl) ?_
      refine lv_iconst (v := 2) hx hb dL_law_424 (by decide) ?_
      refine lv_iadd hx hb dL_law_425 ?_
      refine lv_topi (fun x_166 ex_166 => ?_)
      have fx_166 : x_166 = 2 := by rw [ex_166]; rfl
      subst fx_166
      refine va_sld hx hb hX hbl hbA hS (i_in (by decide) (by omega)) dL_law_426 ?_
      rw [hs2]
      refine lv_aload_n hx hb dL_law_427 rfl (lv_at hl 0 rfl) ?_
      refine lv_iload_n hx hb dL_law_428 rfl (lv_at hl 3 rfl) ?_
      refine lv_iconst (v := 3) hx hb dL_law_429 (by decide) ?_
      refine lv_iadd hx hb dL_law_430 ?_
      refine lv_topi (fun x_167 ex_167 => ?_)
      have fx_167 : x_167 = 3 := by rw [ex_167]; rfl
      subst fx_167
      refine va_sld hx hb hX hbl hbA hS (i_in (by decide) (by omega)) dL_law_431 ?_
      rw [hs3]
      refine cR_ro (As := [.int s1, .int s2, .int s3]) (rest := [.int r_164]) ⟨hx, hb, hml, hown, hg⟩ (k_F_X12_day l D cs _ bd u b_ bw s1 s2 s3 hR) ca_X12_day q6_125 ⟨rfl, rfl⟩ ⟨Nat.le_of_ble_eq_true rfl, Nat.le_of_ble_eq_true rfl⟩ (rc_model hK (pw_r hP)) hK hP hD hS hZ rfl hl.1 rfl (Nat.le_of_ble_eq_true rfl) ⟨Nat.le_of_ble_eq_true rfl, Nat.le_of_ble_eq_true rfl⟩ dL_law_432 (fun r_168 wr_168 => ?_)
      have wr_168 : ((0 ≤ s1.toInt ∧ s1.toInt < 6 ∧ 0 ≤ s2.toInt ∧ s2.toInt ≤ 24 ∧ 0 ≤ s3.toInt ∧ s3.toInt ≤ 2) ∧ r_168.toInt = -11) ∨ (¬ (0 ≤ s1.toInt ∧ s1.toInt < 6 ∧ 0 ≤ s2.toInt ∧ s2.toInt ≤ 24 ∧ 0 ≤ s3.toInt ∧ s3.toInt ≤ 2) ∧ r_168.toInt = -1) := wr_168
      refine lv_icmp_eq (tgt := 1388) hx hb dL_law_435 (by decide) (fun c_169 => ?_) (fun c_169 => ?_)
      ·
        exact tail _ _ ls hS hl
      ·
        exact absurd (i_inj (by omega)) c_169
    ·
      refine lv_tableIn (tgt := 440) hx hb dL_law_33 (by omega) (by omega) (off := 407) (by rw [kt]; rfl) (by decide) ?_
      refine lv_aload_n hx hb dL_law_440 rfl (lv_at hl 1 rfl) ?_
      refine lv_aload_n hx hb dL_law_441 rfl (lv_at hl 0 rfl) ?_
      refine lv_iload_n hx hb dL_law_442 rfl (lv_at hl 3 rfl) ?_
      refine lv_iconst (v := 1) hx hb dL_law_443 (by decide) ?_
      refine lv_iadd hx hb dL_law_444 ?_
      refine lv_topi (fun x_170 ex_170 => ?_)
      have fx_170 : x_170 = 1 := by rw [ex_170]; rfl
      subst fx_170
      refine va_sld hx hb hX hbl hbA hS (i_in (by decide) (by omega)) dL_law_445 ?_
      rw [hs1]
      refine lv_aload_n hx hb dL_law_446 rfl (lv_at hl 0 rfl) ?_
      refine lv_iload_n hx hb dL_law_447 rfl (lv_at hl 3 rfl) ?_
      refine lv_iconst (v := 2) hx hb dL_law_448 (by decide) ?_
      refine lv_iadd hx hb dL_law_449 ?_
      refine lv_topi (fun x_171 ex_171 => ?_)
      have fx_171 : x_171 = 2 := by rw [ex_171]; rfl
      subst fx_171
      refine va_sld hx hb hX hbl hbA hS (i_in (by decide) (by omega)) dL_law_450 ?_
      rw [hs2]
      refine lv_aload_n hx hb dL_law_451 rfl (lv_at hl 0 rfl) ?_
      refine lv_iload_n hx hb dL_law_452 rfl (lv_at hl 3 rfl) ?_
      refine lv_iconst (v := 3) hx hb dL_law_453 (by decide) ?_
      refine lv_iadd hx hb dL_law_454 ?_
      refine lv_topi (fun x_172 ex_172 => ?_)
      have fx_172 : x_172 = 3 := by rw [ex_172]; rfl
      subst fx_172
      refine va_sld hx hb hX hbl hbA hS (i_in (by decide) (by omega)) dL_law_455 ?_
      rw [hs3]
      refine lv_aload_n hx hb dL_law_456 rfl (lv_at hl 0 rfl) ?_
      refine lv_iload_n hx hb dL_law_457 rfl (lv_at hl 3 rfl) ?_
      refine lv_iconst (v := 4) hx hb dL_law_458 (by decide) ?_
      refine lv_iadd hx hb dL_law_459 ?_
      refine lv_topi (fun x_173 ex_173 => ?_)
      have fx_173 : x_173 = 4 := by rw [ex_173]; rfl
      subst fx_173
      refine va_sld hx hb hX hbl hbA hS (i_in (by decide) (by omega)) dL_law_460 ?_
      rw [hs4]
      refine cL_ro (As := [.int s1, .int s2, .int s3, .int s4]) (rest := []) ⟨hx, hb, hml, hown, hg⟩ (k_F_X11_stung l D cs _ ad fa fq rv v a w fv fp s1 s2 s3 s4 hF) ca_X11_stung q3_192 ⟨rfl, rfl⟩ ⟨Nat.le_of_ble_eq_true rfl, Nat.le_of_ble_eq_true rfl⟩ (rc_main hK (pw_l hP)) hK hP hD hS hZ rfl hl.1 rfl (Nat.le_of_ble_eq_true rfl) ⟨Nat.le_of_ble_eq_true rfl, Nat.le_of_ble_eq_true rfl⟩ dL_law_461 (fun r_174 wr_174 => ?_)
      have wr_174 : r_174.toInt = -1 := wr_174
      refine lv_aload_n hx hb dL_law_464 rfl (lv_at hl 2 rfl) ?_
      refine lv_aload_n hx hb dL_law_465 rfl (lv_at hl 0 rfl) ?_
      refine lv_iload_n hx hb dL_law_466 rfl (lv_at hl 3 rfl) ?_
      refine lv_iconst (v := 1) hx hb dL_law_467 (by decide) ?_
      refine lv_iadd hx hb dL_law_468 ?_
      refine lv_topi (fun x_175 ex_175 => ?_)
      have fx_175 : x_175 = 1 := by rw [ex_175]; rfl
      subst fx_175
      refine va_sld hx hb hX hbl hbA hS (i_in (by decide) (by omega)) dL_law_469 ?_
      rw [hs1]
      refine lv_aload_n hx hb dL_law_470 rfl (lv_at hl 0 rfl) ?_
      refine lv_iload_n hx hb dL_law_471 rfl (lv_at hl 3 rfl) ?_
      refine lv_iconst (v := 2) hx hb dL_law_472 (by decide) ?_
      refine lv_iadd hx hb dL_law_473 ?_
      refine lv_topi (fun x_176 ex_176 => ?_)
      have fx_176 : x_176 = 2 := by rw [ex_176]; rfl
      subst fx_176
      refine va_sld hx hb hX hbl hbA hS (i_in (by decide) (by omega)) dL_law_474 ?_
      rw [hs2]
      refine lv_aload_n hx hb dL_law_475 rfl (lv_at hl 0 rfl) ?_
      refine lv_iload_n hx hb dL_law_476 rfl (lv_at hl 3 rfl) ?_
      refine lv_iconst (v := 3) hx hb dL_law_477 (by decide) ?_
      refine lv_iadd hx hb dL_law_478 ?_
      refine lv_topi (fun x_177 ex_177 => ?_)
      have fx_177 : x_177 = 3 := by rw [ex_177]; rfl
      subst fx_177
      refine va_sld hx hb hX hbl hbA hS (i_in (by decide) (by omega)) dL_law_479 ?_
      rw [hs3]
      refine lv_aload_n hx hb dL_law_480 rfl (lv_at hl 0 rfl) ?_
      refine lv_iload_n hx hb dL_law_481 rfl (lv_at hl 3 rfl) ?_
      refine lv_iconst (v := 4) hx hb dL_law_482 (by decide) ?_
      refine lv_iadd hx hb dL_law_483 ?_
      refine lv_topi (fun x_178 ex_178 => ?_)
      have fx_178 : x_178 = 4 := by rw [ex_178]; rfl
      subst fx_178
      refine va_sld hx hb hX hbl hbA hS (i_in (by decide) (by omega)) dL_law_484 ?_
      rw [hs4]
      refine cR_ro (As := [.int s1, .int s2, .int s3, .int s4]) (rest := [.int r_174]) ⟨hx, hb, hml, hown, hg⟩ (k_F_X12_stung l D cs _ bd u b_ bw s1 s2 s3 s4 hR) ca_X12_stung q6_159 ⟨rfl, rfl⟩ ⟨Nat.le_of_ble_eq_true rfl, Nat.le_of_ble_eq_true rfl⟩ (rc_model hK (pw_r hP)) hK hP hD hS hZ rfl hl.1 rfl (Nat.le_of_ble_eq_true rfl) ⟨Nat.le_of_ble_eq_true rfl, Nat.le_of_ble_eq_true rfl⟩ dL_law_485 (fun r_179 wr_179 => ?_)
      have wr_179 : r_179.toInt = -1 := wr_179
      refine lv_icmp_eq (tgt := 1388) hx hb dL_law_488 (by decide) (fun c_180 => ?_) (fun c_180 => ?_)
      ·
        exact tail _ _ ls hS hl
      ·
        exact absurd (i_inj (by omega)) c_180
    ·
      refine lv_tableIn (tgt := 493) hx hb dL_law_33 (by omega) (by omega) (off := 460) (by rw [kt]; rfl) (by decide) ?_
      refine lv_aload_n hx hb dL_law_493 rfl (lv_at hl 1 rfl) ?_
      refine cL_ro (As := []) (rest := []) ⟨hx, hb, hml, hown, hg⟩ (k_F_X11_reach l D cs _ ad fa fq rv v a w fv fp  hF) ca_X11_reach q3_196 ⟨rfl, rfl⟩ ⟨Nat.le_of_ble_eq_true rfl, Nat.le_of_ble_eq_true rfl⟩ (rc_main hK (pw_l hP)) hK hP hD hS hZ rfl hl.1 rfl (Nat.le_of_ble_eq_true rfl) ⟨Nat.le_of_ble_eq_true rfl, Nat.le_of_ble_eq_true rfl⟩ dL_law_494 (fun r_181 wr_181 => ?_)
      have wr_181 : r_181.toInt = 0 := wr_181
      refine lv_aload_n hx hb dL_law_497 rfl (lv_at hl 2 rfl) ?_
      refine cR_ro (As := []) (rest := [.int r_181]) ⟨hx, hb, hml, hown, hg⟩ (k_F_X12_reach l D cs _ bd u b_ bw  hR) ca_X12_reach q6_163 ⟨rfl, rfl⟩ ⟨Nat.le_of_ble_eq_true rfl, Nat.le_of_ble_eq_true rfl⟩ (rc_model hK (pw_r hP)) hK hP hD hS hZ rfl hl.1 rfl (Nat.le_of_ble_eq_true rfl) ⟨Nat.le_of_ble_eq_true rfl, Nat.le_of_ble_eq_true rfl⟩ dL_law_498 (fun r_182 wr_182 => ?_)
      have wr_182 : r_182.toInt = 0 := wr_182
      refine lv_icmp_eq (tgt := 1388) hx hb dL_law_501 (by decide) (fun c_183 => ?_) (fun c_183 => ?_)
      ·
        exact tail _ _ ls hS hl
      ·
        exact absurd (i_inj (by omega)) c_183
    ·
      refine lv_tableIn (tgt := 506) hx hb dL_law_33 (by omega) (by omega) (off := 473) (by rw [kt]; rfl) (by decide) ?_
      refine lv_aload_n hx hb dL_law_506 rfl (lv_at hl 1 rfl) ?_
      refine lv_aload_n hx hb dL_law_507 rfl (lv_at hl 0 rfl) ?_
      refine lv_iload_n hx hb dL_law_508 rfl (lv_at hl 3 rfl) ?_
      refine lv_iconst (v := 1) hx hb dL_law_509 (by decide) ?_
      refine lv_iadd hx hb dL_law_510 ?_
      refine lv_topi (fun x_184 ex_184 => ?_)
      have fx_184 : x_184 = 1 := by rw [ex_184]; rfl
      subst fx_184
      refine va_sld hx hb hX hbl hbA hS (i_in (by decide) (by omega)) dL_law_511 ?_
      rw [hs1]
      refine cL_ro (As := [.int s1]) (rest := []) ⟨hx, hb, hml, hown, hg⟩ (k_F_X11_soon l D cs _ ad fa fq rv v a w fv fp s1 hF) ca_X11_soon q3_201 ⟨rfl, rfl⟩ ⟨Nat.le_of_ble_eq_true rfl, Nat.le_of_ble_eq_true rfl⟩ (rc_main hK (pw_l hP)) hK hP hD hS hZ rfl hl.1 rfl (Nat.le_of_ble_eq_true rfl) ⟨Nat.le_of_ble_eq_true rfl, Nat.le_of_ble_eq_true rfl⟩ dL_law_512 (fun r_185 wr_185 => ?_)
      have wr_185 : r_185.toInt = -1 := wr_185
      refine lv_aload_n hx hb dL_law_515 rfl (lv_at hl 2 rfl) ?_
      refine lv_aload_n hx hb dL_law_516 rfl (lv_at hl 0 rfl) ?_
      refine lv_iload_n hx hb dL_law_517 rfl (lv_at hl 3 rfl) ?_
      refine lv_iconst (v := 1) hx hb dL_law_518 (by decide) ?_
      refine lv_iadd hx hb dL_law_519 ?_
      refine lv_topi (fun x_186 ex_186 => ?_)
      have fx_186 : x_186 = 1 := by rw [ex_186]; rfl
      subst fx_186
      refine va_sld hx hb hX hbl hbA hS (i_in (by decide) (by omega)) dL_law_520 ?_
      rw [hs1]
      refine cR_ro (As := [.int s1]) (rest := [.int r_185]) ⟨hx, hb, hml, hown, hg⟩ (k_F_X12_soon l D cs _ bd u b_ bw s1 hR) ca_X12_soon q6_167 ⟨rfl, rfl⟩ ⟨Nat.le_of_ble_eq_true rfl, Nat.le_of_ble_eq_true rfl⟩ (rc_model hK (pw_r hP)) hK hP hD hS hZ rfl hl.1 rfl (Nat.le_of_ble_eq_true rfl) ⟨Nat.le_of_ble_eq_true rfl, Nat.le_of_ble_eq_true rfl⟩ dL_law_521 (fun r_187 wr_187 => ?_)
      have wr_187 : r_187.toInt = -1 := wr_187
      refine lv_icmp_eq (tgt := 1388) hx hb dL_law_524 (by decide) (fun c_188 => ?_) (fun c_188 => ?_)
      ·
        exact tail _ _ ls hS hl
      ·
        exact absurd (i_inj (by omega)) c_188
    ·
      refine lv_tableIn (tgt := 529) hx hb dL_law_33 (by omega) (by omega) (off := 496) (by rw [kt]; rfl) (by decide) ?_
      refine lv_aload_n hx hb dL_law_529 rfl (lv_at hl 1 rfl) ?_
      refine lv_aload_n hx hb dL_law_530 rfl (lv_at hl 0 rfl) ?_
      refine lv_iload_n hx hb dL_law_531 rfl (lv_at hl 3 rfl) ?_
      refine lv_iconst (v := 1) hx hb dL_law_532 (by decide) ?_
      refine lv_iadd hx hb dL_law_533 ?_
      refine lv_topi (fun x_189 ex_189 => ?_)
      have fx_189 : x_189 = 1 := by rw [ex_189]; rfl
      subst fx_189
      refine va_sld hx hb hX hbl hbA hS (i_in (by decide) (by omega)) dL_law_534 ?_
      rw [hs1]
      refine lv_aload_n hx hb dL_law_535 rfl (lv_at hl 0 rfl) ?_
      refine lv_iload_n hx hb dL_law_536 rfl (lv_at hl 3 rfl) ?_
      refine lv_iconst (v := 2) hx hb dL_law_537 (by decide) ?_
      refine lv_iadd hx hb dL_law_538 ?_
      refine lv_topi (fun x_190 ex_190 => ?_)
      have fx_190 : x_190 = 2 := by rw [ex_190]; rfl
      subst fx_190
      refine va_sld hx hb hX hbl hbA hS (i_in (by decide) (by omega)) dL_law_539 ?_
      rw [hs2]
      refine lv_aload_n hx hb dL_law_540 rfl (lv_at hl 0 rfl) ?_
      refine lv_iload_n hx hb dL_law_541 rfl (lv_at hl 3 rfl) ?_
      refine lv_iconst (v := 3) hx hb dL_law_542 (by decide) ?_
      refine lv_iadd hx hb dL_law_543 ?_
      refine lv_topi (fun x_191 ex_191 => ?_)
      have fx_191 : x_191 = 3 := by rw [ex_191]; rfl
      subst fx_191
      refine va_sld hx hb hX hbl hbA hS (i_in (by decide) (by omega)) dL_law_544 ?_
      rw [hs3]
      refine cL_ro (As := [.int s1, .int s2, .int s3]) (rest := []) ⟨hx, hb, hml, hown, hg⟩ (k_F_X11_passOn l D cs _ ad fa fq rv v a w fv fp s1 s2 s3 hF) ca_X11_passOn q3_209 ⟨rfl, rfl⟩ ⟨Nat.le_of_ble_eq_true rfl, Nat.le_of_ble_eq_true rfl⟩ (rc_main hK (pw_l hP)) hK hP hD hS hZ rfl hl.1 rfl (Nat.le_of_ble_eq_true rfl) ⟨Nat.le_of_ble_eq_true rfl, Nat.le_of_ble_eq_true rfl⟩ dL_law_545 (fun r_192 wr_192 => ?_)
      have wr_192 : r_192.toInt = -1 := wr_192
      refine lv_aload_n hx hb dL_law_548 rfl (lv_at hl 2 rfl) ?_
      refine lv_aload_n hx hb dL_law_549 rfl (lv_at hl 0 rfl) ?_
      refine lv_iload_n hx hb dL_law_550 rfl (lv_at hl 3 rfl) ?_
      refine lv_iconst (v := 1) hx hb dL_law_551 (by decide) ?_
      refine lv_iadd hx hb dL_law_552 ?_
      refine lv_topi (fun x_193 ex_193 => ?_)
      have fx_193 : x_193 = 1 := by rw [ex_193]; rfl
      subst fx_193
      refine va_sld hx hb hX hbl hbA hS (i_in (by decide) (by omega)) dL_law_553 ?_
      rw [hs1]
      refine lv_aload_n hx hb dL_law_554 rfl (lv_at hl 0 rfl) ?_
      refine lv_iload_n hx hb dL_law_555 rfl (lv_at hl 3 rfl) ?_
      refine lv_iconst (v := 2) hx hb dL_law_556 (by decide) ?_
      refine lv_iadd hx hb dL_law_557 ?_
      refine lv_topi (fun x_194 ex_194 => ?_)
      have fx_194 : x_194 = 2 := by rw [ex_194]; rfl
      subst fx_194
      refine va_sld hx hb hX hbl hbA hS (i_in (by decide) (by omega)) dL_law_558 ?_
      rw [hs2]
      refine lv_aload_n hx hb dL_law_559 rfl (lv_at hl 0 rfl) ?_
      refine lv_iload_n hx hb dL_law_560 rfl (lv_at hl 3 rfl) ?_
      refine lv_iconst (v := 3) hx hb dL_law_561 (by decide) ?_
      refine lv_iadd hx hb dL_law_562 ?_
      refine lv_topi (fun x_195 ex_195 => ?_)
      have fx_195 : x_195 = 3 := by rw [ex_195]; rfl
      subst fx_195
      refine va_sld hx hb hX hbl hbA hS (i_in (by decide) (by omega)) dL_law_563 ?_
      rw [hs3]
      refine cR_ro (As := [.int s1, .int s2, .int s3]) (rest := [.int r_192]) ⟨hx, hb, hml, hown, hg⟩ (k_F_X12_passOn l D cs _ bd u b_ bw s1 s2 s3 hR) ca_X12_passOn q6_175 ⟨rfl, rfl⟩ ⟨Nat.le_of_ble_eq_true rfl, Nat.le_of_ble_eq_true rfl⟩ (rc_model hK (pw_r hP)) hK hP hD hS hZ rfl hl.1 rfl (Nat.le_of_ble_eq_true rfl) ⟨Nat.le_of_ble_eq_true rfl, Nat.le_of_ble_eq_true rfl⟩ dL_law_564 (fun r_196 wr_196 => ?_)
      have wr_196 : r_196.toInt = -1 := wr_196
      refine lv_icmp_eq (tgt := 1388) hx hb dL_law_567 (by decide) (fun c_197 => ?_) (fun c_197 => ?_)
      ·
        exact tail _ _ ls hS hl
      ·
        exact absurd (i_inj (by omega)) c_197
    ·
      refine lv_tableIn (tgt := 572) hx hb dL_law_33 (by omega) (by omega) (off := 539) (by rw [kt]; rfl) (by decide) ?_
      refine lv_aload_n hx hb dL_law_572 rfl (lv_at hl 1 rfl) ?_
      refine lv_aload_n hx hb dL_law_573 rfl (lv_at hl 0 rfl) ?_
      refine lv_iload_n hx hb dL_law_574 rfl (lv_at hl 3 rfl) ?_
      refine lv_iconst (v := 1) hx hb dL_law_575 (by decide) ?_
      refine lv_iadd hx hb dL_law_576 ?_
      refine lv_topi (fun x_198 ex_198 => ?_)
      have fx_198 : x_198 = 1 := by rw [ex_198]; rfl
      subst fx_198
      refine va_sld hx hb hX hbl hbA hS (i_in (by decide) (by omega)) dL_law_577 ?_
      rw [hs1]
      refine lv_aload_n hx hb dL_law_578 rfl (lv_at hl 0 rfl) ?_
      refine lv_iload_n hx hb dL_law_579 rfl (lv_at hl 3 rfl) ?_
      refine lv_iconst (v := 2) hx hb dL_law_580 (by decide) ?_
      refine lv_iadd hx hb dL_law_581 ?_
      refine lv_topi (fun x_199 ex_199 => ?_)
      have fx_199 : x_199 = 2 := by rw [ex_199]; rfl
      subst fx_199
      refine va_sld hx hb hX hbl hbA hS (i_in (by decide) (by omega)) dL_law_582 ?_
      rw [hs2]
      refine cL_ro (As := [.int s1, .int s2]) (rest := []) ⟨hx, hb, hml, hown, hg⟩ (k_F_X11_orders l D cs _ ad fa fq rv v a w fv fp s1 s2 hF) ca_X11_orders q3_214 ⟨rfl, rfl⟩ ⟨Nat.le_of_ble_eq_true rfl, Nat.le_of_ble_eq_true rfl⟩ (rc_main hK (pw_l hP)) hK hP hD hS hZ rfl hl.1 rfl (Nat.le_of_ble_eq_true rfl) ⟨Nat.le_of_ble_eq_true rfl, Nat.le_of_ble_eq_true rfl⟩ dL_law_583 (fun r_200 wr_200 => ?_)
      have wr_200 : ((0 ≤ s1.toInt ∧ s1.toInt < 6 ∧ -2 ≤ s2.toInt) ∧ r_200.toInt = -11) ∨ (¬ (0 ≤ s1.toInt ∧ s1.toInt < 6 ∧ -2 ≤ s2.toInt) ∧ r_200.toInt = -1) := wr_200
      refine lv_aload_n hx hb dL_law_586 rfl (lv_at hl 2 rfl) ?_
      refine lv_aload_n hx hb dL_law_587 rfl (lv_at hl 0 rfl) ?_
      refine lv_iload_n hx hb dL_law_588 rfl (lv_at hl 3 rfl) ?_
      refine lv_iconst (v := 1) hx hb dL_law_589 (by decide) ?_
      refine lv_iadd hx hb dL_law_590 ?_
      refine lv_topi (fun x_201 ex_201 => ?_)
      have fx_201 : x_201 = 1 := by rw [ex_201]; rfl
      subst fx_201
      refine va_sld hx hb hX hbl hbA hS (i_in (by decide) (by omega)) dL_law_591 ?_
      rw [hs1]
      refine lv_aload_n hx hb dL_law_592 rfl (lv_at hl 0 rfl) ?_
      refine lv_iload_n hx hb dL_law_593 rfl (lv_at hl 3 rfl) ?_
      refine lv_iconst (v := 2) hx hb dL_law_594 (by decide) ?_
      refine lv_iadd hx hb dL_law_595 ?_
      refine lv_topi (fun x_202 ex_202 => ?_)
      have fx_202 : x_202 = 2 := by rw [ex_202]; rfl
      subst fx_202
      refine va_sld hx hb hX hbl hbA hS (i_in (by decide) (by omega)) dL_law_596 ?_
      rw [hs2]
      refine cR_ro (As := [.int s1, .int s2]) (rest := [.int r_200]) ⟨hx, hb, hml, hown, hg⟩ (k_F_X12_orders l D cs _ bd u b_ bw s1 s2 hR) ca_X12_orders q6_179 ⟨rfl, rfl⟩ ⟨Nat.le_of_ble_eq_true rfl, Nat.le_of_ble_eq_true rfl⟩ (rc_model hK (pw_r hP)) hK hP hD hS hZ rfl hl.1 rfl (Nat.le_of_ble_eq_true rfl) ⟨Nat.le_of_ble_eq_true rfl, Nat.le_of_ble_eq_true rfl⟩ dL_law_597 (fun r_203 wr_203 => ?_)
      have wr_203 : ((0 ≤ s1.toInt ∧ s1.toInt < 6 ∧ -2 ≤ s2.toInt) ∧ r_203.toInt = -11) ∨ (¬ (0 ≤ s1.toInt ∧ s1.toInt < 6 ∧ -2 ≤ s2.toInt) ∧ r_203.toInt = -1) := wr_203
      refine lv_icmp_eq (tgt := 1388) hx hb dL_law_600 (by decide) (fun c_204 => ?_) (fun c_204 => ?_)
      ·
        exact tail _ _ ls hS hl
      ·
        exact absurd (i_inj (by omega)) c_204
    ·
      refine lv_tableIn (tgt := 605) hx hb dL_law_33 (by omega) (by omega) (off := 572) (by rw [kt]; rfl) (by decide) ?_
      refine lv_aload_n hx hb dL_law_605 rfl (lv_at hl 1 rfl) ?_
      refine lv_aload_n hx hb dL_law_606 rfl (lv_at hl 0 rfl) ?_
      refine lv_iload_n hx hb dL_law_607 rfl (lv_at hl 3 rfl) ?_
      refine lv_iconst (v := 1) hx hb dL_law_608 (by decide) ?_
      refine lv_iadd hx hb dL_law_609 ?_
      refine lv_topi (fun x_205 ex_205 => ?_)
      have fx_205 : x_205 = 1 := by rw [ex_205]; rfl
      subst fx_205
      refine va_sld hx hb hX hbl hbA hS (i_in (by decide) (by omega)) dL_law_610 ?_
      rw [hs1]
      refine lv_aload_n hx hb dL_law_611 rfl (lv_at hl 0 rfl) ?_
      refine lv_iload_n hx hb dL_law_612 rfl (lv_at hl 3 rfl) ?_
      refine lv_iconst (v := 2) hx hb dL_law_613 (by decide) ?_
      refine lv_iadd hx hb dL_law_614 ?_
      refine lv_topi (fun x_206 ex_206 => ?_)
      have fx_206 : x_206 = 2 := by rw [ex_206]; rfl
      subst fx_206
      refine va_sld hx hb hX hbl hbA hS (i_in (by decide) (by omega)) dL_law_615 ?_
      rw [hs2]
      refine lv_aload_n hx hb dL_law_616 rfl (lv_at hl 0 rfl) ?_
      refine lv_iload_n hx hb dL_law_617 rfl (lv_at hl 3 rfl) ?_
      refine lv_iconst (v := 3) hx hb dL_law_618 (by decide) ?_
      refine lv_iadd hx hb dL_law_619 ?_
      refine lv_topi (fun x_207 ex_207 => ?_)
      have fx_207 : x_207 = 3 := by rw [ex_207]; rfl
      subst fx_207
      refine va_sld hx hb hX hbl hbA hS (i_in (by decide) (by omega)) dL_law_620 ?_
      rw [hs3]
      refine cL_ro (As := [.int s1, .int s2, .int s3]) (rest := []) ⟨hx, hb, hml, hown, hg⟩ (k_F_X11_stand l D cs _ ad fa fq rv v a w fv fp s1 s2 s3 hF) ca_X11_stand q3_239 ⟨rfl, rfl⟩ ⟨Nat.le_of_ble_eq_true rfl, Nat.le_of_ble_eq_true rfl⟩ (rc_main hK (pw_l hP)) hK hP hD hS hZ rfl hl.1 rfl (Nat.le_of_ble_eq_true rfl) ⟨Nat.le_of_ble_eq_true rfl, Nat.le_of_ble_eq_true rfl⟩ dL_law_621 (fun r_208 wr_208 => ?_)
      have wr_208 : r_208.toInt = -1 := wr_208
      refine lv_aload_n hx hb dL_law_624 rfl (lv_at hl 2 rfl) ?_
      refine lv_aload_n hx hb dL_law_625 rfl (lv_at hl 0 rfl) ?_
      refine lv_iload_n hx hb dL_law_626 rfl (lv_at hl 3 rfl) ?_
      refine lv_iconst (v := 1) hx hb dL_law_627 (by decide) ?_
      refine lv_iadd hx hb dL_law_628 ?_
      refine lv_topi (fun x_209 ex_209 => ?_)
      have fx_209 : x_209 = 1 := by rw [ex_209]; rfl
      subst fx_209
      refine va_sld hx hb hX hbl hbA hS (i_in (by decide) (by omega)) dL_law_629 ?_
      rw [hs1]
      refine lv_aload_n hx hb dL_law_630 rfl (lv_at hl 0 rfl) ?_
      refine lv_iload_n hx hb dL_law_631 rfl (lv_at hl 3 rfl) ?_
      refine lv_iconst (v := 2) hx hb dL_law_632 (by decide) ?_
      refine lv_iadd hx hb dL_law_633 ?_
      refine lv_topi (fun x_210 ex_210 => ?_)
      have fx_210 : x_210 = 2 := by rw [ex_210]; rfl
      subst fx_210
      refine va_sld hx hb hX hbl hbA hS (i_in (by decide) (by omega)) dL_law_634 ?_
      rw [hs2]
      refine lv_aload_n hx hb dL_law_635 rfl (lv_at hl 0 rfl) ?_
      refine lv_iload_n hx hb dL_law_636 rfl (lv_at hl 3 rfl) ?_
      refine lv_iconst (v := 3) hx hb dL_law_637 (by decide) ?_
      refine lv_iadd hx hb dL_law_638 ?_
      refine lv_topi (fun x_211 ex_211 => ?_)
      have fx_211 : x_211 = 3 := by rw [ex_211]; rfl
      subst fx_211
      refine va_sld hx hb hX hbl hbA hS (i_in (by decide) (by omega)) dL_law_639 ?_
      rw [hs3]
      refine cR_ro (As := [.int s1, .int s2, .int s3]) (rest := [.int r_208]) ⟨hx, hb, hml, hown, hg⟩ (k_F_X12_stand l D cs _ bd u b_ bw s1 s2 s3 hR) ca_X12_stand q6_187 ⟨rfl, rfl⟩ ⟨Nat.le_of_ble_eq_true rfl, Nat.le_of_ble_eq_true rfl⟩ (rc_model hK (pw_r hP)) hK hP hD hS hZ rfl hl.1 rfl (Nat.le_of_ble_eq_true rfl) ⟨Nat.le_of_ble_eq_true rfl, Nat.le_of_ble_eq_true rfl⟩ dL_law_640 (fun r_212 wr_212 => ?_)
      have wr_212 : r_212.toInt = -1 := wr_212
      refine lv_icmp_eq (tgt := 1388) hx hb dL_law_643 (by decide) (fun c_213 => ?_) (fun c_213 => ?_)
      ·
        exact tail _ _ ls hS hl
      ·
        exact absurd (i_inj (by omega)) c_213
    ·
      refine lv_tableIn (tgt := 648) hx hb dL_law_33 (by omega) (by omega) (off := 615) (by rw [kt]; rfl) (by decide) ?_
      refine lv_aload_n hx hb dL_law_648 rfl (lv_at hl 1 rfl) ?_
      refine lv_aload_n hx hb dL_law_649 rfl (lv_at hl 0 rfl) ?_
      refine lv_iload_n hx hb dL_law_650 rfl (lv_at hl 3 rfl) ?_
      refine lv_iconst (v := 1) hx hb dL_law_651 (by decide) ?_
      refine lv_iadd hx hb dL_law_652 ?_
      refine lv_topi (fun x_214 ex_214 => ?_)
      have fx_214 : x_214 = 1 := by rw [ex_214]; rfl
      subst fx_214
      refine va_sld hx hb hX hbl hbA hS (i_in (by decide) (by omega)) dL_law_653 ?_
      rw [hs1]
      refine lv_aload_n hx hb dL_law_654 rfl (lv_at hl 0 rfl) ?_
      refine lv_iload_n hx hb dL_law_655 rfl (lv_at hl 3 rfl) ?_
      refine lv_iconst (v := 2) hx hb dL_law_656 (by decide) ?_
      refine lv_iadd hx hb dL_law_657 ?_
      refine lv_topi (fun x_215 ex_215 => ?_)
      have fx_215 : x_215 = 2 := by rw [ex_215]; rfl
      subst fx_215
      refine va_sld hx hb hX hbl hbA hS (i_in (by decide) (by omega)) dL_law_658 ?_
      rw [hs2]
      refine lv_aload_n hx hb dL_law_659 rfl (lv_at hl 0 rfl) ?_
      refine lv_iload_n hx hb dL_law_660 rfl (lv_at hl 3 rfl) ?_
      refine lv_iconst (v := 3) hx hb dL_law_661 (by decide) ?_
      refine lv_iadd hx hb dL_law_662 ?_
      refine lv_topi (fun x_216 ex_216 => ?_)
      have fx_216 : x_216 = 3 := by rw [ex_216]; rfl
      subst fx_216
      refine va_sld hx hb hX hbl hbA hS (i_in (by decide) (by omega)) dL_law_663 ?_
      rw [hs3]
      refine cL_ro (As := [.int s1, .int s2, .int s3]) (rest := []) ⟨hx, hb, hml, hown, hg⟩ (k_F_X11_lastWord l D cs _ ad fa fq rv v a w fv fp s1 s2 s3 hF) ca_X11_lastWord q4_7 ⟨rfl, rfl⟩ ⟨Nat.le_of_ble_eq_true rfl, Nat.le_of_ble_eq_true rfl⟩ (rc_main hK (pw_l hP)) hK hP hD hS hZ rfl hl.1 rfl (Nat.le_of_ble_eq_true rfl) ⟨Nat.le_of_ble_eq_true rfl, Nat.le_of_ble_eq_true rfl⟩ dL_law_664 (fun r_217 wr_217 => ?_)
      have wr_217 : r_217.toInt = -1 := wr_217
      refine lv_aload_n hx hb dL_law_667 rfl (lv_at hl 2 rfl) ?_
      refine lv_aload_n hx hb dL_law_668 rfl (lv_at hl 0 rfl) ?_
      refine lv_iload_n hx hb dL_law_669 rfl (lv_at hl 3 rfl) ?_
      refine lv_iconst (v := 1) hx hb dL_law_670 (by decide) ?_
      refine lv_iadd hx hb dL_law_671 ?_
      refine lv_topi (fun x_218 ex_218 => ?_)
      have fx_218 : x_218 = 1 := by rw [ex_218]; rfl
      subst fx_218
      refine va_sld hx hb hX hbl hbA hS (i_in (by decide) (by omega)) dL_law_672 ?_
      rw [hs1]
      refine lv_aload_n hx hb dL_law_673 rfl (lv_at hl 0 rfl) ?_
      refine lv_iload_n hx hb dL_law_674 rfl (lv_at hl 3 rfl) ?_
      refine lv_iconst (v := 2) hx hb dL_law_675 (by decide) ?_
      refine lv_iadd hx hb dL_law_676 ?_
      refine lv_topi (fun x_219 ex_219 => ?_)
      have fx_219 : x_219 = 2 := by rw [ex_219]; rfl
      subst fx_219
      refine va_sld hx hb hX hbl hbA hS (i_in (by decide) (by omega)) dL_law_677 ?_
      rw [hs2]
      refine lv_aload_n hx hb dL_law_678 rfl (lv_at hl 0 rfl) ?_
      refine lv_iload_n hx hb dL_law_679 rfl (lv_at hl 3 rfl) ?_
      refine lv_iconst (v := 3) hx hb dL_law_680 (by decide) ?_
      refine lv_iadd hx hb dL_law_681 ?_
      refine lv_topi (fun x_220 ex_220 => ?_)
      have fx_220 : x_220 = 3 := by rw [ex_220]; rfl
      subst fx_220
      refine va_sld hx hb hX hbl hbA hS (i_in (by decide) (by omega)) dL_law_682 ?_
      rw [hs3]
      refine cR_ro (As := [.int s1, .int s2, .int s3]) (rest := [.int r_217]) ⟨hx, hb, hml, hown, hg⟩ (k_F_X12_lastWord l D cs _ bd u b_ bw s1 s2 s3 hR) ca_X12_lastWord q6_191 ⟨rfl, rfl⟩ ⟨Nat.le_of_ble_eq_true rfl, Nat.le_of_ble_eq_true rfl⟩ (rc_model hK (pw_r hP)) hK hP hD hS hZ rfl hl.1 rfl (Nat.le_of_ble_eq_true rfl) ⟨Nat.le_of_ble_eq_true rfl, Nat.le_of_ble_eq_true rfl⟩ dL_law_683 (fun r_221 wr_221 => ?_)
      have wr_221 : r_221.toInt = -1 := wr_221
      refine lv_icmp_eq (tgt := 1388) hx hb dL_law_686 (by decide) (fun c_222 => ?_) (fun c_222 => ?_)
      ·
        exact tail _ _ ls hS hl
      ·
        exact absurd (i_inj (by omega)) c_222
    ·
      refine lv_tableIn (tgt := 691) hx hb dL_law_33 (by omega) (by omega) (off := 658) (by rw [kt]; rfl) (by decide) ?_
      refine lv_aload_n hx hb dL_law_691 rfl (lv_at hl 1 rfl) ?_
      refine lv_aload_n hx hb dL_law_692 rfl (lv_at hl 0 rfl) ?_
      refine lv_iload_n hx hb dL_law_693 rfl (lv_at hl 3 rfl) ?_
      refine lv_iconst (v := 1) hx hb dL_law_694 (by decide) ?_
      refine lv_iadd hx hb dL_law_695 ?_
      refine lv_topi (fun x_223 ex_223 => ?_)
      have fx_223 : x_223 = 1 := by rw [ex_223]; rfl
      subst fx_223
      refine va_sld hx hb hX hbl hbA hS (i_in (by decide) (by omega)) dL_law_696 ?_
      rw [hs1]
      refine lv_aload_n hx hb dL_law_697 rfl (lv_at hl 0 rfl) ?_
      refine lv_iload_n hx hb dL_law_698 rfl (lv_at hl 3 rfl) ?_
      refine lv_iconst (v := 2) hx hb dL_law_699 (by decide) ?_
      refine lv_iadd hx hb dL_law_700 ?_
      refine lv_topi (fun x_224 ex_224 => ?_)
      have fx_224 : x_224 = 2 := by rw [ex_224]; rfl
      subst fx_224
      refine va_sld hx hb hX hbl hbA hS (i_in (by decide) (by omega)) dL_law_701 ?_
      rw [hs2]
      refine cL_ro (As := [.int s1, .int s2]) (rest := []) ⟨hx, hb, hml, hown, hg⟩ (k_F_X11_crier l D cs _ ad fa fq rv v a w fv fp s1 s2 hF) ca_X11_crier q4_34 ⟨rfl, rfl⟩ ⟨Nat.le_of_ble_eq_true rfl, Nat.le_of_ble_eq_true rfl⟩ (rc_main hK (pw_l hP)) hK hP hD hS hZ rfl hl.1 rfl (Nat.le_of_ble_eq_true rfl) ⟨Nat.le_of_ble_eq_true rfl, Nat.le_of_ble_eq_true rfl⟩ dL_law_702 (fun r_225 wr_225 => ?_)
      have wr_225 : r_225.toInt = -1 := wr_225
      refine lv_aload_n hx hb dL_law_705 rfl (lv_at hl 2 rfl) ?_
      refine lv_aload_n hx hb dL_law_706 rfl (lv_at hl 0 rfl) ?_
      refine lv_iload_n hx hb dL_law_707 rfl (lv_at hl 3 rfl) ?_
      refine lv_iconst (v := 1) hx hb dL_law_708 (by decide) ?_
      refine lv_iadd hx hb dL_law_709 ?_
      refine lv_topi (fun x_226 ex_226 => ?_)
      have fx_226 : x_226 = 1 := by rw [ex_226]; rfl
      subst fx_226
      refine va_sld hx hb hX hbl hbA hS (i_in (by decide) (by omega)) dL_law_710 ?_
      rw [hs1]
      refine lv_aload_n hx hb dL_law_711 rfl (lv_at hl 0 rfl) ?_
      refine lv_iload_n hx hb dL_law_712 rfl (lv_at hl 3 rfl) ?_
      refine lv_iconst (v := 2) hx hb dL_law_713 (by decide) ?_
      refine lv_iadd hx hb dL_law_714 ?_
      refine lv_topi (fun x_227 ex_227 => ?_)
      have fx_227 : x_227 = 2 := by rw [ex_227]; rfl
      subst fx_227
      refine va_sld hx hb hX hbl hbA hS (i_in (by decide) (by omega)) dL_law_715 ?_
      rw [hs2]
      refine cR_ro (As := [.int s1, .int s2]) (rest := [.int r_225]) ⟨hx, hb, hml, hown, hg⟩ (k_F_X12_crier l D cs _ bd u b_ bw s1 s2 hR) ca_X12_crier q6_218 ⟨rfl, rfl⟩ ⟨Nat.le_of_ble_eq_true rfl, Nat.le_of_ble_eq_true rfl⟩ (rc_model hK (pw_r hP)) hK hP hD hS hZ rfl hl.1 rfl (Nat.le_of_ble_eq_true rfl) ⟨Nat.le_of_ble_eq_true rfl, Nat.le_of_ble_eq_true rfl⟩ dL_law_716 (fun r_228 wr_228 => ?_)
      have wr_228 : r_228.toInt = -1 := wr_228
      refine lv_icmp_eq (tgt := 1388) hx hb dL_law_719 (by decide) (fun c_229 => ?_) (fun c_229 => ?_)
      ·
        exact tail _ _ ls hS hl
      ·
        exact absurd (i_inj (by omega)) c_229
    ·
      refine lv_tableIn (tgt := 724) hx hb dL_law_33 (by omega) (by omega) (off := 691) (by rw [kt]; rfl) (by decide) ?_
      refine lv_aload_n hx hb dL_law_724 rfl (lv_at hl 1 rfl) ?_
      refine lv_aload_n hx hb dL_law_725 rfl (lv_at hl 0 rfl) ?_
      refine lv_iload_n hx hb dL_law_726 rfl (lv_at hl 3 rfl) ?_
      refine lv_iconst (v := 1) hx hb dL_law_727 (by decide) ?_
      refine lv_iadd hx hb dL_law_728 ?_
      refine lv_topi (fun x_230 ex_230 => ?_)
      have fx_230 : x_230 = 1 := by rw [ex_230]; rfl
      subst fx_230
      refine va_sld hx hb hX hbl hbA hS (i_in (by decide) (by omega)) dL_law_729 ?_
      rw [hs1]
      refine cL_ro (As := [.int s1]) (rest := []) ⟨hx, hb, hml, hown, hg⟩ (k_F_X11_keepNear l D cs _ ad fa fq rv v a w fv fp s1 hF) ca_X11_keepNear q4_38 ⟨rfl, rfl⟩ ⟨Nat.le_of_ble_eq_true rfl, Nat.le_of_ble_eq_true rfl⟩ (rc_main hK (pw_l hP)) hK hP hD hS hZ rfl hl.1 rfl (Nat.le_of_ble_eq_true rfl) ⟨Nat.le_of_ble_eq_true rfl, Nat.le_of_ble_eq_true rfl⟩ dL_law_730 (fun r_231 wr_231 => ?_)
      have wr_231 : r_231.toInt = -1 := wr_231
      refine lv_aload_n hx hb dL_law_733 rfl (lv_at hl 2 rfl) ?_
      refine lv_aload_n hx hb dL_law_734 rfl (lv_at hl 0 rfl) ?_
      refine lv_iload_n hx hb dL_law_735 rfl (lv_at hl 3 rfl) ?_
      refine lv_iconst (v := 1) hx hb dL_law_736 (by decide) ?_
      refine lv_iadd hx hb dL_law_737 ?_
      refine lv_topi (fun x_232 ex_232 => ?_)
      have fx_232 : x_232 = 1 := by rw [ex_232]; rfl
      subst fx_232
      refine va_sld hx hb hX hbl hbA hS (i_in (by decide) (by omega)) dL_law_738 ?_
      rw [hs1]
      refine cR_ro (As := [.int s1]) (rest := [.int r_231]) ⟨hx, hb, hml, hown, hg⟩ (k_F_X12_keepNear l D cs _ bd u b_ bw s1 hR) ca_X12_keepNear q6_227 ⟨rfl, rfl⟩ ⟨Nat.le_of_ble_eq_true rfl, Nat.le_of_ble_eq_true rfl⟩ (rc_model hK (pw_r hP)) hK hP hD hS hZ rfl hl.1 rfl (Nat.le_of_ble_eq_true rfl) ⟨Nat.le_of_ble_eq_true rfl, Nat.le_of_ble_eq_true rfl⟩ dL_law_739 (fun r_233 wr_233 => ?_)
      have wr_233 : r_233.toInt = -1 := wr_233
      refine lv_icmp_eq (tgt := 1388) hx hb dL_law_742 (by decide) (fun c_234 => ?_) (fun c_234 => ?_)
      ·
        exact tail _ _ ls hS hl
      ·
        exact absurd (i_inj (by omega)) c_234
    ·
      refine lv_tableIn (tgt := 747) hx hb dL_law_33 (by omega) (by omega) (off := 714) (by rw [kt]; rfl) (by decide) ?_
      refine lv_aload_n hx hb dL_law_747 rfl (lv_at hl 1 rfl) ?_
      refine lv_aload_n hx hb dL_law_748 rfl (lv_at hl 0 rfl) ?_
      refine lv_iload_n hx hb dL_law_749 rfl (lv_at hl 3 rfl) ?_
      refine lv_iconst (v := 1) hx hb dL_law_750 (by decide) ?_
      refine lv_iadd hx hb dL_law_751 ?_
      refine lv_topi (fun x_235 ex_235 => ?_)
      have fx_235 : x_235 = 1 := by rw [ex_235]; rfl
      subst fx_235
      refine va_sld hx hb hX hbl hbA hS (i_in (by decide) (by omega)) dL_law_752 ?_
      rw [hs1]
      refine lv_aload_n hx hb dL_law_753 rfl (lv_at hl 0 rfl) ?_
      refine lv_iload_n hx hb dL_law_754 rfl (lv_at hl 3 rfl) ?_
      refine lv_iconst (v := 2) hx hb dL_law_755 (by decide) ?_
      refine lv_iadd hx hb dL_law_756 ?_
      refine lv_topi (fun x_236 ex_236 => ?_)
      have fx_236 : x_236 = 2 := by rw [ex_236]; rfl
      subst fx_236
      refine va_sld hx hb hX hbl hbA hS (i_in (by decide) (by omega)) dL_law_757 ?_
      rw [hs2]
      refine lv_aload_n hx hb dL_law_758 rfl (lv_at hl 0 rfl) ?_
      refine lv_iload_n hx hb dL_law_759 rfl (lv_at hl 3 rfl) ?_
      refine lv_iconst (v := 3) hx hb dL_law_760 (by decide) ?_
      refine lv_iadd hx hb dL_law_761 ?_
      refine lv_topi (fun x_237 ex_237 => ?_)
      have fx_237 : x_237 = 3 := by rw [ex_237]; rfl
      subst fx_237
      refine va_sld hx hb hX hbl hbA hS (i_in (by decide) (by omega)) dL_law_762 ?_
      rw [hs3]
      refine cL_ro (As := [.int s1, .int s2, .int s3]) (rest := []) ⟨hx, hb, hml, hown, hg⟩ (k_F_X11_heard l D cs _ ad fa fq rv v a w fv fp s1 s2 s3 hF) ca_X11_heard q4_46 ⟨rfl, rfl⟩ ⟨Nat.le_of_ble_eq_true rfl, Nat.le_of_ble_eq_true rfl⟩ (rc_main hK (pw_l hP)) hK hP hD hS hZ rfl hl.1 rfl (Nat.le_of_ble_eq_true rfl) ⟨Nat.le_of_ble_eq_true rfl, Nat.le_of_ble_eq_true rfl⟩ dL_law_763 (fun r_238 wr_238 => ?_)
      have wr_238 : ((0 ≤ s1.toInt ∧ s1.toInt < 6 ∧ 0 ≤ s2.toInt ∧ s2.toInt < 6 ∧ 0 ≤ s3.toInt ∧ s3.toInt ≤ 3) ∧ r_238.toInt = -11) ∨ (¬ (0 ≤ s1.toInt ∧ s1.toInt < 6 ∧ 0 ≤ s2.toInt ∧ s2.toInt < 6 ∧ 0 ≤ s3.toInt ∧ s3.toInt ≤ 3) ∧ r_238.toInt = -1) := wr_238
      refine lv_aload_n hx hb dL_law_766 rfl (lv_at hl 2 rfl) ?_
      refine lv_aload_n hx hb dL_law_767 rfl (lv_at hl 0 rfl) ?_
      refine lv_iload_n hx hb dL_law_768 rfl (lv_at hl 3 rfl) ?_
      refine lv_iconst (v := 1) hx hb dL_law_769 (by decide) ?_
      refine lv_iadd hx hb dL_law_770 ?_
      refine lv_topi (fun x_239 ex_239 => ?_)
      have fx_239 : x_239 = 1 := by rw [ex_239]; rfl
      subst fx_239
      refine va_sld hx hb hX hbl hbA hS (i_in (by decide) (by omega)) dL_law_771 ?_
      rw [hs1]
      refine lv_aload_n hx hb dL_law_772 rfl (lv_at hl 0 rfl) ?_
      refine lv_iload_n hx hb dL_law_773 rfl (lv_at hl 3 rfl) ?_
      refine lv_iconst (v := 2) hx hb dL_law_774 (by decide) ?_
      refine lv_iadd hx hb dL_law_775 ?_
      refine lv_topi (fun x_240 ex_240 => ?_)
      have fx_240 : x_240 = 2 := by rw [ex_240]; rfl
      subst fx_240
      refine va_sld hx hb hX hbl hbA hS (i_in (by decide) (by omega)) dL_law_776 ?_
      rw [hs2]
      refine lv_aload_n hx hb dL_law_777 rfl (lv_at hl 0 rfl) ?_
      refine lv_iload_n hx hb dL_law_778 rfl (lv_at hl 3 rfl) ?_
      refine lv_iconst (v := 3) hx hb dL_law_779 (by decide) ?_
      refine lv_iadd hx hb dL_law_780 ?_
      refine lv_topi (fun x_241 ex_241 => ?_)
      have fx_241 : x_241 = 3 := by rw [ex_241]; rfl
      subst fx_241
      refine va_sld hx hb hX hbl hbA hS (i_in (by decide) (by omega)) dL_law_781 ?_
      rw [hs3]
      refine cR_ro (As := [.int s1, .int s2, .int s3]) (rest := [.int r_238]) ⟨hx, hb, hml, hown, hg⟩ (k_F_X12_heard l D cs _ bd u b_ bw s1 s2 s3 hR) ca_X12_heard q6_231 ⟨rfl, rfl⟩ ⟨Nat.le_of_ble_eq_true rfl, Nat.le_of_ble_eq_true rfl⟩ (rc_model hK (pw_r hP)) hK hP hD hS hZ rfl hl.1 rfl (Nat.le_of_ble_eq_true rfl) ⟨Nat.le_of_ble_eq_true rfl, Nat.le_of_ble_eq_true rfl⟩ dL_law_782 (fun r_242 wr_242 => ?_)
      have wr_242 : ((0 ≤ s1.toInt ∧ s1.toInt < 6 ∧ 0 ≤ s2.toInt ∧ s2.toInt < 6 ∧ 0 ≤ s3.toInt ∧ s3.toInt ≤ 3) ∧ r_242.toInt = -11) ∨ (¬ (0 ≤ s1.toInt ∧ s1.toInt < 6 ∧ 0 ≤ s2.toInt ∧ s2.toInt < 6 ∧ 0 ≤ s3.toInt ∧ s3.toInt ≤ 3) ∧ r_242.toInt = -1) := wr_242
      refine lv_icmp_eq (tgt := 1388) hx hb dL_law_785 (by decide) (fun c_243 => ?_) (fun c_243 => ?_)
      ·
        exact tail _ _ ls hS hl
      ·
        exact absurd (i_inj (by omega)) c_243
    ·
      refine lv_tableIn (tgt := 790) hx hb dL_law_33 (by omega) (by omega) (off := 757) (by rw [kt]; rfl) (by decide) ?_
      refine lv_aload_n hx hb dL_law_790 rfl (lv_at hl 1 rfl) ?_
      refine lv_aload_n hx hb dL_law_791 rfl (lv_at hl 0 rfl) ?_
      refine lv_iload_n hx hb dL_law_792 rfl (lv_at hl 3 rfl) ?_
      refine lv_iconst (v := 1) hx hb dL_law_793 (by decide) ?_
      refine lv_iadd hx hb dL_law_794 ?_
      refine lv_topi (fun x_244 ex_244 => ?_)
      have fx_244 : x_244 = 1 := by rw [ex_244]; rfl
      subst fx_244
      refine va_sld hx hb hX hbl hbA hS (i_in (by decide) (by omega)) dL_law_795 ?_
      rw [hs1]
      refine lv_aload_n hx hb dL_law_796 rfl (lv_at hl 0 rfl) ?_
      refine lv_iload_n hx hb dL_law_797 rfl (lv_at hl 3 rfl) ?_
      refine lv_iconst (v := 2) hx hb dL_law_798 (by decide) ?_
      refine lv_iadd hx hb dL_law_799 ?_
      refine lv_topi (fun x_245 ex_245 => ?_)
      have fx_245 : x_245 = 2 := by rw [ex_245]; rfl
      subst fx_245
      refine va_sld hx hb hX hbl hbA hS (i_in (by decide) (by omega)) dL_law_800 ?_
      rw [hs2]
      refine lv_aload_n hx hb dL_law_801 rfl (lv_at hl 0 rfl) ?_
      refine lv_iload_n hx hb dL_law_802 rfl (lv_at hl 3 rfl) ?_
      refine lv_iconst (v := 3) hx hb dL_law_803 (by decide) ?_
      refine lv_iadd hx hb dL_law_804 ?_
      refine lv_topi (fun x_246 ex_246 => ?_)
      have fx_246 : x_246 = 3 := by rw [ex_246]; rfl
      subst fx_246
      refine va_sld hx hb hX hbl hbA hS (i_in (by decide) (by omega)) dL_law_805 ?_
      rw [hs3]
      refine cL_ro (As := [.int s1, .int s2, .int s3]) (rest := []) ⟨hx, hb, hml, hown, hg⟩ (k_F_X11_drawn l D cs _ ad fa fq rv v a w fv fp s1 s2 s3 hF) ca_X11_drawn q4_73 ⟨rfl, rfl⟩ ⟨Nat.le_of_ble_eq_true rfl, Nat.le_of_ble_eq_true rfl⟩ (rc_main hK (pw_l hP)) hK hP hD hS hZ rfl hl.1 rfl (Nat.le_of_ble_eq_true rfl) ⟨Nat.le_of_ble_eq_true rfl, Nat.le_of_ble_eq_true rfl⟩ dL_law_806 (fun r_247 wr_247 => ?_)
      have wr_247 : ((s3.toInt = -1 ∧ 0 ≤ s2.toInt ∧ 1 ≤ s2.toInt / 100 ∧ s2.toInt / 100 ≤ 30 ∧ 1 ≤ s2.toInt % 100 ∧ s2.toInt % 100 ≤ 40) ∧ r_247.toInt = 0) ∨ (¬ (s3.toInt = -1 ∧ 0 ≤ s2.toInt ∧ 1 ≤ s2.toInt / 100 ∧ s2.toInt / 100 ≤ 30 ∧ 1 ≤ s2.toInt % 100 ∧ s2.toInt % 100 ≤ 40) ∧ r_247.toInt = -1) := wr_247
      refine lv_aload_n hx hb dL_law_809 rfl (lv_at hl 2 rfl) ?_
      refine lv_aload_n hx hb dL_law_810 rfl (lv_at hl 0 rfl) ?_
      refine lv_iload_n hx hb dL_law_811 rfl (lv_at hl 3 rfl) ?_
      refine lv_iconst (v := 1) hx hb dL_law_812 (by decide) ?_
      refine lv_iadd hx hb dL_law_813 ?_
      refine lv_topi (fun x_248 ex_248 => ?_)
      have fx_248 : x_248 = 1 := by rw [ex_248]; rfl
      subst fx_248
      refine va_sld hx hb hX hbl hbA hS (i_in (by decide) (by omega)) dL_law_814 ?_
      rw [hs1]
      refine lv_aload_n hx hb dL_law_815 rfl (lv_at hl 0 rfl) ?_
      refine lv_iload_n hx hb dL_law_816 rfl (lv_at hl 3 rfl) ?_
      refine lv_iconst (v := 2) hx hb dL_law_817 (by decide) ?_
      refine lv_iadd hx hb dL_law_818 ?_
      refine lv_topi (fun x_249 ex_249 => ?_)
      have fx_249 : x_249 = 2 := by rw [ex_249]; rfl
      subst fx_249
      refine va_sld hx hb hX hbl hbA hS (i_in (by decide) (by omega)) dL_law_819 ?_
      rw [hs2]
      refine lv_aload_n hx hb dL_law_820 rfl (lv_at hl 0 rfl) ?_
      refine lv_iload_n hx hb dL_law_821 rfl (lv_at hl 3 rfl) ?_
      refine lv_iconst (v := 3) hx hb dL_law_822 (by decide) ?_
      refine lv_iadd hx hb dL_law_823 ?_
      refine lv_topi (fun x_250 ex_250 => ?_)
      have fx_250 : x_250 = 3 := by rw [ex_250]; rfl
      subst fx_250
      refine va_sld hx hb hX hbl hbA hS (i_in (by decide) (by omega)) dL_law_824 ?_
      rw [hs3]
      refine cR_ro (As := [.int s1, .int s2, .int s3]) (rest := [.int r_247]) ⟨hx, hb, hml, hown, hg⟩ (k_F_X12_drawn l D cs _ bd u b_ bw s1 s2 s3 hR) ca_X12_drawn q7_3 ⟨rfl, rfl⟩ ⟨Nat.le_of_ble_eq_true rfl, Nat.le_of_ble_eq_true rfl⟩ (rc_model hK (pw_r hP)) hK hP hD hS hZ rfl hl.1 rfl (Nat.le_of_ble_eq_true rfl) ⟨Nat.le_of_ble_eq_true rfl, Nat.le_of_ble_eq_true rfl⟩ dL_law_825 (fun r_251 wr_251 => ?_)
      have wr_251 : ((s3.toInt = -1 ∧ 0 ≤ s2.toInt ∧ 1 ≤ s2.toInt / 100 ∧ s2.toInt / 100 ≤ 30 ∧ 1 ≤ s2.toInt % 100 ∧ s2.toInt % 100 ≤ 40) ∧ r_251.toInt = 0) ∨ (¬ (s3.toInt = -1 ∧ 0 ≤ s2.toInt ∧ 1 ≤ s2.toInt / 100 ∧ s2.toInt / 100 ≤ 30 ∧ 1 ≤ s2.toInt % 100 ∧ s2.toInt % 100 ≤ 40) ∧ r_251.toInt = -1) := wr_251
      refine lv_icmp_eq (tgt := 1388) hx hb dL_law_828 (by decide) (fun c_252 => ?_) (fun c_252 => ?_)
      ·
        exact tail _ _ ls hS hl
      ·
        exact absurd (i_inj (by omega)) c_252
    ·
      refine lv_tableIn (tgt := 833) hx hb dL_law_33 (by omega) (by omega) (off := 800) (by rw [kt]; rfl) (by decide) ?_
      refine lv_aload_n hx hb dL_law_833 rfl (lv_at hl 1 rfl) ?_
      refine lv_aload_n hx hb dL_law_834 rfl (lv_at hl 0 rfl) ?_
      refine lv_iload_n hx hb dL_law_835 rfl (lv_at hl 3 rfl) ?_
      refine lv_iconst (v := 1) hx hb dL_law_836 (by decide) ?_
      refine lv_iadd hx hb dL_law_837 ?_
      refine lv_topi (fun x_253 ex_253 => ?_)
      have fx_253 : x_253 = 1 := by rw [ex_253]; rfl
      subst fx_253
      refine va_sld hx hb hX hbl hbA hS (i_in (by decide) (by omega)) dL_law_838 ?_
      rw [hs1]
      refine lv_aload_n hx hb dL_law_839 rfl (lv_at hl 0 rfl) ?_
      refine lv_iload_n hx hb dL_law_840 rfl (lv_at hl 3 rfl) ?_
      refine lv_iconst (v := 2) hx hb dL_law_841 (by decide) ?_
      refine lv_iadd hx hb dL_law_842 ?_
      refine lv_topi (fun x_254 ex_254 => ?_)
      have fx_254 : x_254 = 2 := by rw [ex_254]; rfl
      subst fx_254
      refine va_sld hx hb hX hbl hbA hS (i_in (by decide) (by omega)) dL_law_843 ?_
      rw [hs2]
      refine cL_ro (As := [.int s1, .int s2]) (rest := []) ⟨hx, hb, hml, hown, hg⟩ (k_F_X11_say l D cs _ ad fa fq rv v a w fv fp s1 s2 hF) ca_X11_say q4_78 ⟨rfl, rfl⟩ ⟨Nat.le_of_ble_eq_true rfl, Nat.le_of_ble_eq_true rfl⟩ (rc_main hK (pw_l hP)) hK hP hD hS hZ rfl hl.1 rfl (Nat.le_of_ble_eq_true rfl) ⟨Nat.le_of_ble_eq_true rfl, Nat.le_of_ble_eq_true rfl⟩ dL_law_844 (fun r_255 wr_255 => ?_)
      have wr_255 : r_255.toInt = -1 := wr_255
      refine lv_aload_n hx hb dL_law_847 rfl (lv_at hl 2 rfl) ?_
      refine lv_aload_n hx hb dL_law_848 rfl (lv_at hl 0 rfl) ?_
      refine lv_iload_n hx hb dL_law_849 rfl (lv_at hl 3 rfl) ?_
      refine lv_iconst (v := 1) hx hb dL_law_850 (by decide) ?_
      refine lv_iadd hx hb dL_law_851 ?_
      refine lv_topi (fun x_256 ex_256 => ?_)
      have fx_256 : x_256 = 1 := by rw [ex_256]; rfl
      subst fx_256
      refine va_sld hx hb hX hbl hbA hS (i_in (by decide) (by omega)) dL_law_852 ?_
      rw [hs1]
      refine lv_aload_n hx hb dL_law_853 rfl (lv_at hl 0 rfl) ?_
      refine lv_iload_n hx hb dL_law_854 rfl (lv_at hl 3 rfl) ?_
      refine lv_iconst (v := 2) hx hb dL_law_855 (by decide) ?_
      refine lv_iadd hx hb dL_law_856 ?_
      refine lv_topi (fun x_257 ex_257 => ?_)
      have fx_257 : x_257 = 2 := by rw [ex_257]; rfl
      subst fx_257
      refine va_sld hx hb hX hbl hbA hS (i_in (by decide) (by omega)) dL_law_857 ?_
      rw [hs2]
      refine cR_ro (As := [.int s1, .int s2]) (rest := [.int r_255]) ⟨hx, hb, hml, hown, hg⟩ (k_F_X12_say l D cs _ bd u b_ bw s1 s2 hR) ca_X12_say q7_8 ⟨rfl, rfl⟩ ⟨Nat.le_of_ble_eq_true rfl, Nat.le_of_ble_eq_true rfl⟩ (rc_model hK (pw_r hP)) hK hP hD hS hZ rfl hl.1 rfl (Nat.le_of_ble_eq_true rfl) ⟨Nat.le_of_ble_eq_true rfl, Nat.le_of_ble_eq_true rfl⟩ dL_law_858 (fun r_258 wr_258 => ?_)
      have wr_258 : r_258.toInt = -1 := wr_258
      refine lv_icmp_eq (tgt := 1388) hx hb dL_law_861 (by decide) (fun c_259 => ?_) (fun c_259 => ?_)
      ·
        exact tail _ _ ls hS hl
      ·
        exact absurd (i_inj (by omega)) c_259
    ·
      refine lv_tableIn (tgt := 866) hx hb dL_law_33 (by omega) (by omega) (off := 833) (by rw [kt]; rfl) (by decide) ?_
      refine lv_aload_n hx hb dL_law_866 rfl (lv_at hl 1 rfl) ?_
      refine lv_aload_n hx hb dL_law_867 rfl (lv_at hl 0 rfl) ?_
      refine lv_iload_n hx hb dL_law_868 rfl (lv_at hl 3 rfl) ?_
      refine lv_iconst (v := 1) hx hb dL_law_869 (by decide) ?_
      refine lv_iadd hx hb dL_law_870 ?_
      refine lv_topi (fun x_260 ex_260 => ?_)
      have fx_260 : x_260 = 1 := by rw [ex_260]; rfl
      subst fx_260
      refine va_sld hx hb hX hbl hbA hS (i_in (by decide) (by omega)) dL_law_871 ?_
      rw [hs1]
      refine lv_aload_n hx hb dL_law_872 rfl (lv_at hl 0 rfl) ?_
      refine lv_iload_n hx hb dL_law_873 rfl (lv_at hl 3 rfl) ?_
      refine lv_iconst (v := 2) hx hb dL_law_874 (by decide) ?_
      refine lv_iadd hx hb dL_law_875 ?_
      refine lv_topi (fun x_261 ex_261 => ?_)
      have fx_261 : x_261 = 2 := by rw [ex_261]; rfl
      subst fx_261
      refine va_sld hx hb hX hbl hbA hS (i_in (by decide) (by omega)) dL_law_876 ?_
      rw [hs2]
      refine cL_ro (As := [.int s1, .int s2]) (rest := []) ⟨hx, hb, hml, hown, hg⟩ (k_F_X11_go l D cs _ ad fa fq rv v a w fv fp s1 s2 hF) ca_X11_go q4_82 ⟨rfl, rfl⟩ ⟨Nat.le_of_ble_eq_true rfl, Nat.le_of_ble_eq_true rfl⟩ (rc_main hK (pw_l hP)) hK hP hD hS hZ rfl hl.1 rfl (Nat.le_of_ble_eq_true rfl) ⟨Nat.le_of_ble_eq_true rfl, Nat.le_of_ble_eq_true rfl⟩ dL_law_877 (fun r_262 wr_262 => ?_)
      have wr_262 : r_262.toInt = -1 := wr_262
      refine lv_aload_n hx hb dL_law_880 rfl (lv_at hl 2 rfl) ?_
      refine lv_aload_n hx hb dL_law_881 rfl (lv_at hl 0 rfl) ?_
      refine lv_iload_n hx hb dL_law_882 rfl (lv_at hl 3 rfl) ?_
      refine lv_iconst (v := 1) hx hb dL_law_883 (by decide) ?_
      refine lv_iadd hx hb dL_law_884 ?_
      refine lv_topi (fun x_263 ex_263 => ?_)
      have fx_263 : x_263 = 1 := by rw [ex_263]; rfl
      subst fx_263
      refine va_sld hx hb hX hbl hbA hS (i_in (by decide) (by omega)) dL_law_885 ?_
      rw [hs1]
      refine lv_aload_n hx hb dL_law_886 rfl (lv_at hl 0 rfl) ?_
      refine lv_iload_n hx hb dL_law_887 rfl (lv_at hl 3 rfl) ?_
      refine lv_iconst (v := 2) hx hb dL_law_888 (by decide) ?_
      refine lv_iadd hx hb dL_law_889 ?_
      refine lv_topi (fun x_264 ex_264 => ?_)
      have fx_264 : x_264 = 2 := by rw [ex_264]; rfl
      subst fx_264
      refine va_sld hx hb hX hbl hbA hS (i_in (by decide) (by omega)) dL_law_890 ?_
      rw [hs2]
      refine cR_ro (As := [.int s1, .int s2]) (rest := [.int r_262]) ⟨hx, hb, hml, hown, hg⟩ (k_F_X12_go l D cs _ bd u b_ bw s1 s2 hR) ca_X12_go q7_12 ⟨rfl, rfl⟩ ⟨Nat.le_of_ble_eq_true rfl, Nat.le_of_ble_eq_true rfl⟩ (rc_model hK (pw_r hP)) hK hP hD hS hZ rfl hl.1 rfl (Nat.le_of_ble_eq_true rfl) ⟨Nat.le_of_ble_eq_true rfl, Nat.le_of_ble_eq_true rfl⟩ dL_law_891 (fun r_265 wr_265 => ?_)
      have wr_265 : r_265.toInt = -1 := wr_265
      refine lv_icmp_eq (tgt := 1388) hx hb dL_law_894 (by decide) (fun c_266 => ?_) (fun c_266 => ?_)
      ·
        exact tail _ _ ls hS hl
      ·
        exact absurd (i_inj (by omega)) c_266
    ·
      refine lv_tableIn (tgt := 899) hx hb dL_law_33 (by omega) (by omega) (off := 866) (by rw [kt]; rfl) (by decide) ?_
      refine lv_aload_n hx hb dL_law_899 rfl (lv_at hl 1 rfl) ?_
      refine lv_aload_n hx hb dL_law_900 rfl (lv_at hl 0 rfl) ?_
      refine lv_iload_n hx hb dL_law_901 rfl (lv_at hl 3 rfl) ?_
      refine lv_iconst (v := 1) hx hb dL_law_902 (by decide) ?_
      refine lv_iadd hx hb dL_law_903 ?_
      refine lv_topi (fun x_267 ex_267 => ?_)
      have fx_267 : x_267 = 1 := by rw [ex_267]; rfl
      subst fx_267
      refine va_sld hx hb hX hbl hbA hS (i_in (by decide) (by omega)) dL_law_904 ?_
      rw [hs1]
      refine cL_ro (As := [.int s1]) (rest := []) ⟨hx, hb, hml, hown, hg⟩ (k_F_X11_pad l D cs _ ad fa fq rv v a w fv fp s1 hF) ca_X11_pad q4_86 ⟨rfl, rfl⟩ ⟨Nat.le_of_ble_eq_true rfl, Nat.le_of_ble_eq_true rfl⟩ (rc_main hK (pw_l hP)) hK hP hD hS hZ rfl hl.1 rfl (Nat.le_of_ble_eq_true rfl) ⟨Nat.le_of_ble_eq_true rfl, Nat.le_of_ble_eq_true rfl⟩ dL_law_905 (fun r_268 wr_268 => ?_)
      have wr_268 : r_268.toInt = -1 := wr_268
      refine lv_aload_n hx hb dL_law_908 rfl (lv_at hl 2 rfl) ?_
      refine lv_aload_n hx hb dL_law_909 rfl (lv_at hl 0 rfl) ?_
      refine lv_iload_n hx hb dL_law_910 rfl (lv_at hl 3 rfl) ?_
      refine lv_iconst (v := 1) hx hb dL_law_911 (by decide) ?_
      refine lv_iadd hx hb dL_law_912 ?_
      refine lv_topi (fun x_269 ex_269 => ?_)
      have fx_269 : x_269 = 1 := by rw [ex_269]; rfl
      subst fx_269
      refine va_sld hx hb hX hbl hbA hS (i_in (by decide) (by omega)) dL_law_913 ?_
      rw [hs1]
      refine cR_ro (As := [.int s1]) (rest := [.int r_268]) ⟨hx, hb, hml, hown, hg⟩ (k_F_X12_pad l D cs _ bd u b_ bw s1 hR) ca_X12_pad q7_16 ⟨rfl, rfl⟩ ⟨Nat.le_of_ble_eq_true rfl, Nat.le_of_ble_eq_true rfl⟩ (rc_model hK (pw_r hP)) hK hP hD hS hZ rfl hl.1 rfl (Nat.le_of_ble_eq_true rfl) ⟨Nat.le_of_ble_eq_true rfl, Nat.le_of_ble_eq_true rfl⟩ dL_law_914 (fun r_270 wr_270 => ?_)
      have wr_270 : r_270.toInt = -1 := wr_270
      refine lv_icmp_eq (tgt := 1388) hx hb dL_law_917 (by decide) (fun c_271 => ?_) (fun c_271 => ?_)
      ·
        exact tail _ _ ls hS hl
      ·
        exact absurd (i_inj (by omega)) c_271
    ·
      refine lv_tableIn (tgt := 922) hx hb dL_law_33 (by omega) (by omega) (off := 889) (by rw [kt]; rfl) (by decide) ?_
      refine lv_aload_n hx hb dL_law_922 rfl (lv_at hl 1 rfl) ?_
      refine lv_aload_n hx hb dL_law_923 rfl (lv_at hl 0 rfl) ?_
      refine lv_iload_n hx hb dL_law_924 rfl (lv_at hl 3 rfl) ?_
      refine lv_iconst (v := 1) hx hb dL_law_925 (by decide) ?_
      refine lv_iadd hx hb dL_law_926 ?_
      refine lv_topi (fun x_272 ex_272 => ?_)
      have fx_272 : x_272 = 1 := by rw [ex_272]; rfl
      subst fx_272
      refine va_sld hx hb hX hbl hbA hS (i_in (by decide) (by omega)) dL_law_927 ?_
      rw [hs1]
      refine cL_ro (As := [.int s1]) (rest := []) ⟨hx, hb, hml, hown, hg⟩ (k_F_X11_led l D cs _ ad fa fq rv v a w fv fp s1 hF) ca_X11_led q4_91 ⟨rfl, rfl⟩ ⟨Nat.le_of_ble_eq_true rfl, Nat.le_of_ble_eq_true rfl⟩ (rc_main hK (pw_l hP)) hK hP hD hS hZ rfl hl.1 rfl (Nat.le_of_ble_eq_true rfl) ⟨Nat.le_of_ble_eq_true rfl, Nat.le_of_ble_eq_true rfl⟩ dL_law_928 (fun r_273 wr_273 => ?_)
      have wr_273 : (0 ≤ s1.toInt ∧ s1.toInt ≤ 4 ∧ r_273.toInt = 0) ∨ (s1.toInt = 5 ∧ r_273.toInt = -2) ∨ (s1.toInt = 6 ∧ r_273.toInt = 0) ∨ ((s1.toInt < 0 ∨ 6 < s1.toInt) ∧ r_273.toInt = -1) := wr_273
      refine lv_aload_n hx hb dL_law_931 rfl (lv_at hl 2 rfl) ?_
      refine lv_aload_n hx hb dL_law_932 rfl (lv_at hl 0 rfl) ?_
      refine lv_iload_n hx hb dL_law_933 rfl (lv_at hl 3 rfl) ?_
      refine lv_iconst (v := 1) hx hb dL_law_934 (by decide) ?_
      refine lv_iadd hx hb dL_law_935 ?_
      refine lv_topi (fun x_274 ex_274 => ?_)
      have fx_274 : x_274 = 1 := by rw [ex_274]; rfl
      subst fx_274
      refine va_sld hx hb hX hbl hbA hS (i_in (by decide) (by omega)) dL_law_936 ?_
      rw [hs1]
      refine cR_ro (As := [.int s1]) (rest := [.int r_273]) ⟨hx, hb, hml, hown, hg⟩ (k_F_X12_led l D cs _ bd u b_ bw s1 hR) ca_X12_led q7_20 ⟨rfl, rfl⟩ ⟨Nat.le_of_ble_eq_true rfl, Nat.le_of_ble_eq_true rfl⟩ (rc_model hK (pw_r hP)) hK hP hD hS hZ rfl hl.1 rfl (Nat.le_of_ble_eq_true rfl) ⟨Nat.le_of_ble_eq_true rfl, Nat.le_of_ble_eq_true rfl⟩ dL_law_937 (fun r_275 wr_275 => ?_)
      have wr_275 : (0 ≤ s1.toInt ∧ s1.toInt ≤ 4 ∧ r_275.toInt = 0) ∨ (s1.toInt = 5 ∧ r_275.toInt = -2) ∨ (s1.toInt = 6 ∧ r_275.toInt = 0) ∨ ((s1.toInt < 0 ∨ 6 < s1.toInt) ∧ r_275.toInt = -1) := wr_275
      refine lv_icmp_eq (tgt := 1388) hx hb dL_law_940 (by decide) (fun c_276 => ?_) (fun c_276 => ?_)
      ·
        exact tail _ _ ls hS hl
      ·
        exact absurd (i_inj (by omega)) c_276
    ·
      refine lv_tableIn (tgt := 945) hx hb dL_law_33 (by omega) (by omega) (off := 912) (by rw [kt]; rfl) (by decide) ?_
      refine lv_aload_n hx hb dL_law_945 rfl (lv_at hl 1 rfl) ?_
      refine cL_i (As := []) (rest := []) ⟨hx, hb, hml, hown, hg⟩ (k_F_X11_image l D cs _ ad fa fq rv v a w fv fp  hF) ca_X11_image q4_95 ⟨rfl, rfl⟩ ⟨Nat.le_of_ble_eq_true rfl, Nat.le_of_ble_eq_true rfl⟩ (rc_main hK (pw_l hP)) hK hP hD hS hZ rfl hl.1 rfl (Nat.le_of_ble_eq_true rfl) ⟨Nat.le_of_ble_eq_true rfl, Nat.le_of_ble_eq_true rfl⟩ dL_law_946 (fun r_277 ur_277 H locs wr_277 hP hD hS => ?_)
      have wr_277 : r_277.toInt = 0 := wr_277
      refine lv_aload_n hx hb dL_law_949 rfl (lv_at hl 2 rfl) ?_
      refine cR_i (As := []) (rest := [.int r_277]) ⟨hx, hb, hml, hown, hg⟩ (k_F_X12_image l D cs _ bd u b_ bw  hR) ca_X12_image q7_24 ⟨rfl, rfl⟩ ⟨Nat.le_of_ble_eq_true rfl, Nat.le_of_ble_eq_true rfl⟩ (rc_model hK (pw_r hP)) hK hP hD hS hZ rfl hl.1 rfl (Nat.le_of_ble_eq_true rfl) ⟨Nat.le_of_ble_eq_true rfl, Nat.le_of_ble_eq_true rfl⟩ dL_law_950 (fun r_278 ur_278 H locs wr_278 hP hD hS => ?_)
      have wr_278 : r_278.toInt = 0 := wr_278
      refine lv_icmp_eq (tgt := 1388) hx hb dL_law_953 (by decide) (fun c_279 => ?_) (fun c_279 => ?_)
      ·
        exact tail _ _ ls hS hl
      ·
        exact absurd (i_inj (by omega)) c_279
    ·
      refine lv_tableIn (tgt := 958) hx hb dL_law_33 (by omega) (by omega) (off := 925) (by rw [kt]; rfl) (by decide) ?_
      refine lv_aload_n hx hb dL_law_958 rfl (lv_at hl 1 rfl) ?_
      refine cL_ro (As := []) (rest := []) ⟨hx, hb, hml, hown, hg⟩ (k_F_X11_back l D cs _ ad fa fq rv v a w fv fp  hF) ca_X11_back q4_100 ⟨rfl, rfl⟩ ⟨Nat.le_of_ble_eq_true rfl, Nat.le_of_ble_eq_true rfl⟩ (rc_main hK (pw_l hP)) hK hP hD hS hZ rfl hl.1 rfl (Nat.le_of_ble_eq_true rfl) ⟨Nat.le_of_ble_eq_true rfl, Nat.le_of_ble_eq_true rfl⟩ dL_law_959 (fun r_280 wr_280 => ?_)
      have wr_280 : r_280.toInt = -5 := wr_280
      refine lv_aload_n hx hb dL_law_962 rfl (lv_at hl 2 rfl) ?_
      refine cR_ro (As := []) (rest := [.int r_280]) ⟨hx, hb, hml, hown, hg⟩ (k_F_X12_back l D cs _ bd u b_ bw  hR) ca_X12_back q7_28 ⟨rfl, rfl⟩ ⟨Nat.le_of_ble_eq_true rfl, Nat.le_of_ble_eq_true rfl⟩ (rc_model hK (pw_r hP)) hK hP hD hS hZ rfl hl.1 rfl (Nat.le_of_ble_eq_true rfl) ⟨Nat.le_of_ble_eq_true rfl, Nat.le_of_ble_eq_true rfl⟩ dL_law_963 (fun r_281 wr_281 => ?_)
      have wr_281 : r_281.toInt = -5 := wr_281
      refine lv_icmp_eq (tgt := 1388) hx hb dL_law_966 (by decide) (fun c_282 => ?_) (fun c_282 => ?_)
      ·
        exact tail _ _ ls hS hl
      ·
        exact absurd (i_inj (by omega)) c_282
    ·
      refine lv_tableIn (tgt := 971) hx hb dL_law_33 (by omega) (by omega) (off := 938) (by rw [kt]; rfl) (by decide) ?_
      refine lv_aload_n hx hb dL_law_971 rfl (lv_at hl 1 rfl) ?_
      refine cL_ro (As := []) (rest := []) ⟨hx, hb, hml, hown, hg⟩ (k_F_X11_undo l D cs _ ad fa fq rv v a w fv fp  hF) ca_X11_undo q4_104 ⟨rfl, rfl⟩ ⟨Nat.le_of_ble_eq_true rfl, Nat.le_of_ble_eq_true rfl⟩ (rc_main hK (pw_l hP)) hK hP hD hS hZ rfl hl.1 rfl (Nat.le_of_ble_eq_true rfl) ⟨Nat.le_of_ble_eq_true rfl, Nat.le_of_ble_eq_true rfl⟩ dL_law_972 (fun r_283 wr_283 => ?_)
      have wr_283 : r_283.toInt = -5 := wr_283
      refine lv_aload_n hx hb dL_law_975 rfl (lv_at hl 2 rfl) ?_
      refine cR_ro (As := []) (rest := [.int r_283]) ⟨hx, hb, hml, hown, hg⟩ (k_F_X12_undo l D cs _ bd u b_ bw  hR) ca_X12_undo q5_227 ⟨rfl, rfl⟩ ⟨Nat.le_of_ble_eq_true rfl, Nat.le_of_ble_eq_true rfl⟩ (rc_model hK (pw_r hP)) hK hP hD hS hZ rfl hl.1 rfl (Nat.le_of_ble_eq_true rfl) ⟨Nat.le_of_ble_eq_true rfl, Nat.le_of_ble_eq_true rfl⟩ dL_law_976 (fun r_284 wr_284 => ?_)
      have wr_284 : r_284.toInt = -5 := wr_284
      refine lv_icmp_eq (tgt := 1388) hx hb dL_law_979 (by decide) (fun c_285 => ?_) (fun c_285 => ?_)
      ·
        exact tail _ _ ls hS hl
      ·
        exact absurd (i_inj (by omega)) c_285
    ·
      refine lv_tableIn (tgt := 984) hx hb dL_law_33 (by omega) (by omega) (off := 951) (by rw [kt]; rfl) (by decide) ?_
      refine lv_aload_n hx hb dL_law_984 rfl (lv_at hl 1 rfl) ?_
      refine cL_ro (As := []) (rest := []) ⟨hx, hb, hml, hown, hg⟩ (k_F_X11_redo l D cs _ ad fa fq rv v a w fv fp  hF) ca_X11_redo q4_108 ⟨rfl, rfl⟩ ⟨Nat.le_of_ble_eq_true rfl, Nat.le_of_ble_eq_true rfl⟩ (rc_main hK (pw_l hP)) hK hP hD hS hZ rfl hl.1 rfl (Nat.le_of_ble_eq_true rfl) ⟨Nat.le_of_ble_eq_true rfl, Nat.le_of_ble_eq_true rfl⟩ dL_law_985 (fun r_286 wr_286 => ?_)
      have wr_286 : r_286.toInt = -5 := wr_286
      refine lv_aload_n hx hb dL_law_988 rfl (lv_at hl 2 rfl) ?_
      refine cR_ro (As := []) (rest := [.int r_286]) ⟨hx, hb, hml, hown, hg⟩ (k_F_X12_redo l D cs _ bd u b_ bw  hR) ca_X12_redo q5_235 ⟨rfl, rfl⟩ ⟨Nat.le_of_ble_eq_true rfl, Nat.le_of_ble_eq_true rfl⟩ (rc_model hK (pw_r hP)) hK hP hD hS hZ rfl hl.1 rfl (Nat.le_of_ble_eq_true rfl) ⟨Nat.le_of_ble_eq_true rfl, Nat.le_of_ble_eq_true rfl⟩ dL_law_989 (fun r_287 wr_287 => ?_)
      have wr_287 : r_287.toInt = -5 := wr_287
      refine lv_icmp_eq (tgt := 1388) hx hb dL_law_992 (by decide) (fun c_288 => ?_) (fun c_288 => ?_)
      ·
        exact tail _ _ ls hS hl
      ·
        exact absurd (i_inj (by omega)) c_288
    ·
      refine lv_tableIn (tgt := 997) hx hb dL_law_33 (by omega) (by omega) (off := 964) (by rw [kt]; rfl) (by decide) ?_
      refine lv_aload_n hx hb dL_law_997 rfl (lv_at hl 1 rfl) ?_
      refine lv_aload_n hx hb dL_law_998 rfl (lv_at hl 0 rfl) ?_
      refine lv_iload_n hx hb dL_law_999 rfl (lv_at hl 3 rfl) ?_
      refine lv_iconst (v := 1) hx hb dL_law_1000 (by decide) ?_
      refine lv_iadd hx hb dL_law_1001 ?_
      refine lv_topi (fun x_289 ex_289 => ?_)
      have fx_289 : x_289 = 1 := by rw [ex_289]; rfl
      subst fx_289
      refine va_sld hx hb hX hbl hbA hS (i_in (by decide) (by omega)) dL_law_1002 ?_
      rw [hs1]
      refine cL_i (As := [.int s1]) (rest := []) ⟨hx, hb, hml, hown, hg⟩ (k_F_X11_body l D cs _ ad fa fq rv v a w fv fp s1 hF) ca_X11_body q4_112 ⟨rfl, rfl⟩ ⟨Nat.le_of_ble_eq_true rfl, Nat.le_of_ble_eq_true rfl⟩ (rc_main hK (pw_l hP)) hK hP hD hS hZ rfl hl.1 rfl (Nat.le_of_ble_eq_true rfl) ⟨Nat.le_of_ble_eq_true rfl, Nat.le_of_ble_eq_true rfl⟩ dL_law_1003 (fun r_290 ur_290 H locs wr_290 hP hD hS => ?_)
      have wr_290 : ((0 ≤ s1.toInt ∧ s1.toInt ≤ 7) ∧ r_290.toInt = 0) ∨ (¬ (0 ≤ s1.toInt ∧ s1.toInt ≤ 7) ∧ r_290.toInt = -1) := wr_290
      refine lv_aload_n hx hb dL_law_1006 rfl (lv_at hl 2 rfl) ?_
      refine lv_aload_n hx hb dL_law_1007 rfl (lv_at hl 0 rfl) ?_
      refine lv_iload_n hx hb dL_law_1008 rfl (lv_at hl 3 rfl) ?_
      refine lv_iconst (v := 1) hx hb dL_law_1009 (by decide) ?_
      refine lv_iadd hx hb dL_law_1010 ?_
      refine lv_topi (fun x_291 ex_291 => ?_)
      have fx_291 : x_291 = 1 := by rw [ex_291]; rfl
      subst fx_291
      refine va_sld hx hb hX hbl hbA hS (i_in (by decide) (by omega)) dL_law_1011 ?_
      rw [hs1]
      refine cR_i (As := [.int s1]) (rest := [.int r_290]) ⟨hx, hb, hml, hown, hg⟩ (k_F_X12_body l D cs _ bd u b_ bw s1 hR) ca_X12_body q7_36 ⟨rfl, rfl⟩ ⟨Nat.le_of_ble_eq_true rfl, Nat.le_of_ble_eq_true rfl⟩ (rc_model hK (pw_r hP)) hK hP hD hS hZ rfl hl.1 rfl (Nat.le_of_ble_eq_true rfl) ⟨Nat.le_of_ble_eq_true rfl, Nat.le_of_ble_eq_true rfl⟩ dL_law_1012 (fun r_292 ur_292 H locs wr_292 hP hD hS => ?_)
      have wr_292 : ((0 ≤ s1.toInt ∧ s1.toInt ≤ 7) ∧ r_292.toInt = 0) ∨ (¬ (0 ≤ s1.toInt ∧ s1.toInt ≤ 7) ∧ r_292.toInt = -1) := wr_292
      refine lv_icmp_eq (tgt := 1388) hx hb dL_law_1015 (by decide) (fun c_293 => ?_) (fun c_293 => ?_)
      ·
        exact tail _ _ ls hS hl
      ·
        exact absurd (i_inj (by omega)) c_293
    ·
      refine lv_tableIn (tgt := 1020) hx hb dL_law_33 (by omega) (by omega) (off := 987) (by rw [kt]; rfl) (by decide) ?_
      refine lv_aload_n hx hb dL_law_1020 rfl (lv_at hl 1 rfl) ?_
      refine lv_aload_n hx hb dL_law_1021 rfl (lv_at hl 0 rfl) ?_
      refine lv_iload_n hx hb dL_law_1022 rfl (lv_at hl 3 rfl) ?_
      refine lv_iconst (v := 1) hx hb dL_law_1023 (by decide) ?_
      refine lv_iadd hx hb dL_law_1024 ?_
      refine lv_topi (fun x_294 ex_294 => ?_)
      have fx_294 : x_294 = 1 := by rw [ex_294]; rfl
      subst fx_294
      refine va_sld hx hb hX hbl hbA hS (i_in (by decide) (by omega)) dL_law_1025 ?_
      rw [hs1]
      refine lv_aload_n hx hb dL_law_1026 rfl (lv_at hl 0 rfl) ?_
      refine lv_iload_n hx hb dL_law_1027 rfl (lv_at hl 3 rfl) ?_
      refine lv_iconst (v := 2) hx hb dL_law_1028 (by decide) ?_
      refine lv_iadd hx hb dL_law_1029 ?_
      refine lv_topi (fun x_295 ex_295 => ?_)
      have fx_295 : x_295 = 2 := by rw [ex_295]; rfl
      subst fx_295
      refine va_sld hx hb hX hbl hbA hS (i_in (by decide) (by omega)) dL_law_1030 ?_
      rw [hs2]
      refine lv_aload_n hx hb dL_law_1031 rfl (lv_at hl 0 rfl) ?_
      refine lv_iload_n hx hb dL_law_1032 rfl (lv_at hl 3 rfl) ?_
      refine lv_iconst (v := 3) hx hb dL_law_1033 (by decide) ?_
      refine lv_iadd hx hb dL_law_1034 ?_
      refine lv_topi (fun x_296 ex_296 => ?_)
      have fx_296 : x_296 = 3 := by rw [ex_296]; rfl
      subst fx_296
      refine va_sld hx hb hX hbl hbA hS (i_in (by decide) (by omega)) dL_law_1035 ?_
      rw [hs3]
      refine cL_i (As := [.int s1, .int s2, .int s3]) (rest := []) ⟨hx, hb, hml, hown, hg⟩ (k_F_X11_act l D cs _ ad fa fq rv v a w fv fp s1 s2 s3 hF) ca_X11_act q4_123 ⟨rfl, rfl⟩ ⟨Nat.le_of_ble_eq_true rfl, Nat.le_of_ble_eq_true rfl⟩ (rc_main hK (pw_l hP)) hK hP hD hS hZ rfl hl.1 rfl (Nat.le_of_ble_eq_true rfl) ⟨Nat.le_of_ble_eq_true rfl, Nat.le_of_ble_eq_true rfl⟩ dL_law_1036 (fun r_297 ur_297 H locs wr_297 hP hD hS => ?_)
      have wr_297 : r_297.toInt = 0 := wr_297
      refine lv_aload_n hx hb dL_law_1039 rfl (lv_at hl 2 rfl) ?_
      refine lv_aload_n hx hb dL_law_1040 rfl (lv_at hl 0 rfl) ?_
      refine lv_iload_n hx hb dL_law_1041 rfl (lv_at hl 3 rfl) ?_
      refine lv_iconst (v := 1) hx hb dL_law_1042 (by decide) ?_
      refine lv_iadd hx hb dL_law_1043 ?_
      refine lv_topi (fun x_298 ex_298 => ?_)
      have fx_298 : x_298 = 1 := by rw [ex_298]; rfl
      subst fx_298
      refine va_sld hx hb hX hbl hbA hS (i_in (by decide) (by omega)) dL_law_1044 ?_
      rw [hs1]
      refine lv_aload_n hx hb dL_law_1045 rfl (lv_at hl 0 rfl) ?_
      refine lv_iload_n hx hb dL_law_1046 rfl (lv_at hl 3 rfl) ?_
      refine lv_iconst (v := 2) hx hb dL_law_1047 (by decide) ?_
      refine lv_iadd hx hb dL_law_1048 ?_
      refine lv_topi (fun x_299 ex_299 => ?_)
      have fx_299 : x_299 = 2 := by rw [ex_299]; rfl
      subst fx_299
      refine va_sld hx hb hX hbl hbA hS (i_in (by decide) (by omega)) dL_law_1049 ?_
      rw [hs2]
      refine lv_aload_n hx hb dL_law_1050 rfl (lv_at hl 0 rfl) ?_
      refine lv_iload_n hx hb dL_law_1051 rfl (lv_at hl 3 rfl) ?_
      refine lv_iconst (v := 3) hx hb dL_law_1052 (by decide) ?_
      refine lv_iadd hx hb dL_law_1053 ?_
      refine lv_topi (fun x_300 ex_300 => ?_)
      have fx_300 : x_300 = 3 := by rw [ex_300]; rfl
      subst fx_300
      refine va_sld hx hb hX hbl hbA hS (i_in (by decide) (by omega)) dL_law_1054 ?_
      rw [hs3]
      refine cR_i (As := [.int s1, .int s2, .int s3]) (rest := [.int r_297]) ⟨hx, hb, hml, hown, hg⟩ (k_F_X12_act l D cs _ bd u b_ bw s1 s2 s3 hR) ca_X12_act q7_40 ⟨rfl, rfl⟩ ⟨Nat.le_of_ble_eq_true rfl, Nat.le_of_ble_eq_true rfl⟩ (rc_model hK (pw_r hP)) hK hP hD hS hZ rfl hl.1 rfl (Nat.le_of_ble_eq_true rfl) ⟨Nat.le_of_ble_eq_true rfl, Nat.le_of_ble_eq_true rfl⟩ dL_law_1055 (fun r_301 ur_301 H locs wr_301 hP hD hS => ?_)
      have wr_301 : r_301.toInt = 0 := wr_301
      refine lv_icmp_eq (tgt := 1388) hx hb dL_law_1058 (by decide) (fun c_302 => ?_) (fun c_302 => ?_)
      ·
        exact tail _ _ ls hS hl
      ·
        exact absurd (i_inj (by omega)) c_302
    ·
      refine lv_tableIn (tgt := 1063) hx hb dL_law_33 (by omega) (by omega) (off := 1030) (by rw [kt]; rfl) (by decide) ?_
      refine lv_aload_n hx hb dL_law_1063 rfl (lv_at hl 1 rfl) ?_
      refine lv_aload_n hx hb dL_law_1064 rfl (lv_at hl 0 rfl) ?_
      refine lv_iload_n hx hb dL_law_1065 rfl (lv_at hl 3 rfl) ?_
      refine lv_iconst (v := 1) hx hb dL_law_1066 (by decide) ?_
      refine lv_iadd hx hb dL_law_1067 ?_
      refine lv_topi (fun x_303 ex_303 => ?_)
      have fx_303 : x_303 = 1 := by rw [ex_303]; rfl
      subst fx_303
      refine va_sld hx hb hX hbl hbA hS (i_in (by decide) (by omega)) dL_law_1068 ?_
      rw [hs1]
      refine cL_ro (As := [.int s1]) (rest := []) ⟨hx, hb, hml, hown, hg⟩ (k_F_X11_trace l D cs _ ad fa fq rv v a w fv fp s1 hF) ca_X11_trace q4_153 ⟨rfl, rfl⟩ ⟨Nat.le_of_ble_eq_true rfl, Nat.le_of_ble_eq_true rfl⟩ (rc_main hK (pw_l hP)) hK hP hD hS hZ rfl hl.1 rfl (Nat.le_of_ble_eq_true rfl) ⟨Nat.le_of_ble_eq_true rfl, Nat.le_of_ble_eq_true rfl⟩ dL_law_1069 (fun r_304 wr_304 => ?_)
      have wr_304 : r_304.toInt = -1 := wr_304
      refine lv_aload_n hx hb dL_law_1072 rfl (lv_at hl 2 rfl) ?_
      refine lv_aload_n hx hb dL_law_1073 rfl (lv_at hl 0 rfl) ?_
      refine lv_iload_n hx hb dL_law_1074 rfl (lv_at hl 3 rfl) ?_
      refine lv_iconst (v := 1) hx hb dL_law_1075 (by decide) ?_
      refine lv_iadd hx hb dL_law_1076 ?_
      refine lv_topi (fun x_305 ex_305 => ?_)
      have fx_305 : x_305 = 1 := by rw [ex_305]; rfl
      subst fx_305
      refine va_sld hx hb hX hbl hbA hS (i_in (by decide) (by omega)) dL_law_1077 ?_
      rw [hs1]
      refine cR_ro (As := [.int s1]) (rest := [.int r_304]) ⟨hx, hb, hml, hown, hg⟩ (k_F_X12_trace l D cs _ bd u b_ bw s1 hR) ca_X12_trace q7_32 ⟨rfl, rfl⟩ ⟨Nat.le_of_ble_eq_true rfl, Nat.le_of_ble_eq_true rfl⟩ (rc_model hK (pw_r hP)) hK hP hD hS hZ rfl hl.1 rfl (Nat.le_of_ble_eq_true rfl) ⟨Nat.le_of_ble_eq_true rfl, Nat.le_of_ble_eq_true rfl⟩ dL_law_1078 (fun r_306 wr_306 => ?_)
      have wr_306 : r_306.toInt = -1 := wr_306
      refine lv_icmp_eq (tgt := 1388) hx hb dL_law_1081 (by decide) (fun c_307 => ?_) (fun c_307 => ?_)
      ·
        exact tail _ _ ls hS hl
      ·
        exact absurd (i_inj (by omega)) c_307
    ·
      refine lv_tableIn (tgt := 1086) hx hb dL_law_33 (by omega) (by omega) (off := 1053) (by rw [kt]; rfl) (by decide) ?_
      refine lv_aload_n hx hb dL_law_1086 rfl (lv_at hl 1 rfl) ?_
      refine lv_aload_n hx hb dL_law_1087 rfl (lv_at hl 0 rfl) ?_
      refine lv_iload_n hx hb dL_law_1088 rfl (lv_at hl 3 rfl) ?_
      refine lv_iconst (v := 1) hx hb dL_law_1089 (by decide) ?_
      refine lv_iadd hx hb dL_law_1090 ?_
      refine lv_topi (fun x_308 ex_308 => ?_)
      have fx_308 : x_308 = 1 := by rw [ex_308]; rfl
      subst fx_308
      refine va_sld hx hb hX hbl hbA hS (i_in (by decide) (by omega)) dL_law_1091 ?_
      rw [hs1]
      refine lv_aload_n hx hb dL_law_1092 rfl (lv_at hl 0 rfl) ?_
      refine lv_iload_n hx hb dL_law_1093 rfl (lv_at hl 3 rfl) ?_
      refine lv_iconst (v := 2) hx hb dL_law_1094 (by decide) ?_
      refine lv_iadd hx hb dL_law_1095 ?_
      refine lv_topi (fun x_309 ex_309 => ?_)
      have fx_309 : x_309 = 2 := by rw [ex_309]; rfl
      subst fx_309
      refine va_sld hx hb hX hbl hbA hS (i_in (by decide) (by omega)) dL_law_1096 ?_
      rw [hs2]
      refine cL_i (As := [.int s1, .int s2]) (rest := []) ⟨hx, hb, hml, hown, hg⟩ (k_F_X11_keep l D cs _ ad fa fq rv v a w fv fp s1 s2 hF) ca_X11_keep q4_162 ⟨rfl, rfl⟩ ⟨Nat.le_of_ble_eq_true rfl, Nat.le_of_ble_eq_true rfl⟩ (rc_main hK (pw_l hP)) hK hP hD hS hZ rfl hl.1 rfl (Nat.le_of_ble_eq_true rfl) ⟨Nat.le_of_ble_eq_true rfl, Nat.le_of_ble_eq_true rfl⟩ dL_law_1097 (fun r_310 ur_310 H locs wr_310 hP hD hS => ?_)
      have wr_310 : ((0 ≤ s1.toInt ∧ s1.toInt < 6 ∧ s2.toInt = -1) ∧ r_310.toInt = 1) ∨ (¬ (0 ≤ s1.toInt ∧ s1.toInt < 6 ∧ s2.toInt = -1) ∧ r_310.toInt = -1) := wr_310
      refine lv_aload_n hx hb dL_law_1100 rfl (lv_at hl 2 rfl) ?_
      refine lv_aload_n hx hb dL_law_1101 rfl (lv_at hl 0 rfl) ?_
      refine lv_iload_n hx hb dL_law_1102 rfl (lv_at hl 3 rfl) ?_
      refine lv_iconst (v := 1) hx hb dL_law_1103 (by decide) ?_
      refine lv_iadd hx hb dL_law_1104 ?_
      refine lv_topi (fun x_311 ex_311 => ?_)
      have fx_311 : x_311 = 1 := by rw [ex_311]; rfl
      subst fx_311
      refine va_sld hx hb hX hbl hbA hS (i_in (by decide) (by omega)) dL_law_1105 ?_
      rw [hs1]
      refine lv_aload_n hx hb dL_law_1106 rfl (lv_at hl 0 rfl) ?_
      refine lv_iload_n hx hb dL_law_1107 rfl (lv_at hl 3 rfl) ?_
      refine lv_iconst (v := 2) hx hb dL_law_1108 (by decide) ?_
      refine lv_iadd hx hb dL_law_1109 ?_
      refine lv_topi (fun x_312 ex_312 => ?_)
      have fx_312 : x_312 = 2 := by rw [ex_312]; rfl
      subst fx_312
      refine va_sld hx hb hX hbl hbA hS (i_in (by decide) (by omega)) dL_law_1110 ?_
      rw [hs2]
      refine cR_i (As := [.int s1, .int s2]) (rest := [.int r_310]) ⟨hx, hb, hml, hown, hg⟩ (k_F_X12_keep l D cs _ bd u b_ bw s1 s2 hR) ca_X12_keep q7_103 ⟨rfl, rfl⟩ ⟨Nat.le_of_ble_eq_true rfl, Nat.le_of_ble_eq_true rfl⟩ (rc_model hK (pw_r hP)) hK hP hD hS hZ rfl hl.1 rfl (Nat.le_of_ble_eq_true rfl) ⟨Nat.le_of_ble_eq_true rfl, Nat.le_of_ble_eq_true rfl⟩ dL_law_1111 (fun r_313 ur_313 H locs wr_313 hP hD hS => ?_)
      have wr_313 : ((0 ≤ s1.toInt ∧ s1.toInt < 6 ∧ s2.toInt = -1) ∧ r_313.toInt = 1) ∨ (¬ (0 ≤ s1.toInt ∧ s1.toInt < 6 ∧ s2.toInt = -1) ∧ r_313.toInt = -1) := wr_313
      refine lv_icmp_eq (tgt := 1388) hx hb dL_law_1114 (by decide) (fun c_314 => ?_) (fun c_314 => ?_)
      ·
        exact tail _ _ ls hS hl
      ·
        exact absurd (i_inj (by omega)) c_314
    ·
      refine lv_tableIn (tgt := 1119) hx hb dL_law_33 (by omega) (by omega) (off := 1086) (by rw [kt]; rfl) (by decide) ?_
      refine lv_aload_n hx hb dL_law_1119 rfl (lv_at hl 1 rfl) ?_
      refine lv_aload_n hx hb dL_law_1120 rfl (lv_at hl 0 rfl) ?_
      refine lv_iload_n hx hb dL_law_1121 rfl (lv_at hl 3 rfl) ?_
      refine lv_iconst (v := 1) hx hb dL_law_1122 (by decide) ?_
      refine lv_iadd hx hb dL_law_1123 ?_
      refine lv_topi (fun x_315 ex_315 => ?_)
      have fx_315 : x_315 = 1 := by rw [ex_315]; rfl
      subst fx_315
      refine va_sld hx hb hX hbl hbA hS (i_in (by decide) (by omega)) dL_law_1124 ?_
      rw [hs1]
      refine lv_aload_n hx hb dL_law_1125 rfl (lv_at hl 0 rfl) ?_
      refine lv_iload_n hx hb dL_law_1126 rfl (lv_at hl 3 rfl) ?_
      refine lv_iconst (v := 2) hx hb dL_law_1127 (by decide) ?_
      refine lv_iadd hx hb dL_law_1128 ?_
      refine lv_topi (fun x_316 ex_316 => ?_)
      have fx_316 : x_316 = 2 := by rw [ex_316]; rfl
      subst fx_316
      refine va_sld hx hb hX hbl hbA hS (i_in (by decide) (by omega)) dL_law_1129 ?_
      rw [hs2]
      refine lv_aload_n hx hb dL_law_1130 rfl (lv_at hl 0 rfl) ?_
      refine lv_iload_n hx hb dL_law_1131 rfl (lv_at hl 3 rfl) ?_
      refine lv_iconst (v := 3) hx hb dL_law_1132 (by decide) ?_
      refine lv_iadd hx hb dL_law_1133 ?_
      refine lv_topi (fun x_317 ex_317 => ?_)
      have fx_317 : x_317 = 3 := by rw [ex_317]; rfl
      subst fx_317
      refine va_sld hx hb hX hbl hbA hS (i_in (by decide) (by omega)) dL_law_1134 ?_
      rw [hs3]
      refine cL_i (As := [.int s1, .int s2, .int s3]) (rest := []) ⟨hx, hb, hml, hown, hg⟩ (k_F_X11_row l D cs _ ad fa fq rv v a w fv fp s1 s2 s3 hF) ca_X11_row q4_174 ⟨rfl, rfl⟩ ⟨Nat.le_of_ble_eq_true rfl, Nat.le_of_ble_eq_true rfl⟩ (rc_main hK (pw_l hP)) hK hP hD hS hZ rfl hl.1 rfl (Nat.le_of_ble_eq_true rfl) ⟨Nat.le_of_ble_eq_true rfl, Nat.le_of_ble_eq_true rfl⟩ dL_law_1135 (fun r_318 ur_318 H locs wr_318 hP hD hS => ?_)
      have wr_318 : ((0 ≤ s1.toInt ∧ s1.toInt < 6 ∧ 0 ≤ s2.toInt ∧ s2.toInt ≤ 4 ∧ s3.toInt ≤ 60) ∧ ((s3.toInt < 0 ∧ r_318.toInt = -14) ∨ (0 ≤ s3.toInt ∧ r_318.toInt = 1))) ∨ (¬ (0 ≤ s1.toInt ∧ s1.toInt < 6 ∧ 0 ≤ s2.toInt ∧ s2.toInt ≤ 4 ∧ s3.toInt ≤ 60) ∧ r_318.toInt = -1) := wr_318
      refine lv_aload_n hx hb dL_law_1138 rfl (lv_at hl 2 rfl) ?_
      refine lv_aload_n hx hb dL_law_1139 rfl (lv_at hl 0 rfl) ?_
      refine lv_iload_n hx hb dL_law_1140 rfl (lv_at hl 3 rfl) ?_
      refine lv_iconst (v := 1) hx hb dL_law_1141 (by decide) ?_
      refine lv_iadd hx hb dL_law_1142 ?_
      refine lv_topi (fun x_319 ex_319 => ?_)
      have fx_319 : x_319 = 1 := by rw [ex_319]; rfl
      subst fx_319
      refine va_sld hx hb hX hbl hbA hS (i_in (by decide) (by omega)) dL_law_1143 ?_
      rw [hs1]
      refine lv_aload_n hx hb dL_law_1144 rfl (lv_at hl 0 rfl) ?_
      refine lv_iload_n hx hb dL_law_1145 rfl (lv_at hl 3 rfl) ?_
      refine lv_iconst (v := 2) hx hb dL_law_1146 (by decide) ?_
      refine lv_iadd hx hb dL_law_1147 ?_
      refine lv_topi (fun x_320 ex_320 => ?_)
      have fx_320 : x_320 = 2 := by rw [ex_320]; rfl
      subst fx_320
      refine va_sld hx hb hX hbl hbA hS (i_in (by decide) (by omega)) dL_law_1148 ?_
      rw [hs2]
      refine lv_aload_n hx hb dL_law_1149 rfl (lv_at hl 0 rfl) ?_
      refine lv_iload_n hx hb dL_law_1150 rfl (lv_at hl 3 rfl) ?_
      refine lv_iconst (v := 3) hx hb dL_law_1151 (by decide) ?_
      refine lv_iadd hx hb dL_law_1152 ?_
      refine lv_topi (fun x_321 ex_321 => ?_)
      have fx_321 : x_321 = 3 := by rw [ex_321]; rfl
      subst fx_321
      refine va_sld hx hb hX hbl hbA hS (i_in (by decide) (by omega)) dL_law_1153 ?_
      rw [hs3]
      refine cR_i (As := [.int s1, .int s2, .int s3]) (rest := [.int r_318]) ⟨hx, hb, hml, hown, hg⟩ (k_F_X12_row l D cs _ bd u b_ bw s1 s2 s3 hR) ca_X12_row q7_107 ⟨rfl, rfl⟩ ⟨Nat.le_of_ble_eq_true rfl, Nat.le_of_ble_eq_true rfl⟩ (rc_model hK (pw_r hP)) hK hP hD hS hZ rfl hl.1 rfl (Nat.le_of_ble_eq_true rfl) ⟨Nat.le_of_ble_eq_true rfl, Nat.le_of_ble_eq_true rfl⟩ dL_law_1154 (fun r_322 ur_322 H locs wr_322 hP hD hS => ?_)
      have wr_322 : ((0 ≤ s1.toInt ∧ s1.toInt < 6 ∧ 0 ≤ s2.toInt ∧ s2.toInt ≤ 4 ∧ s3.toInt ≤ 60) ∧ ((s3.toInt < 0 ∧ r_322.toInt = -14) ∨ (0 ≤ s3.toInt ∧ r_322.toInt = 1))) ∨ (¬ (0 ≤ s1.toInt ∧ s1.toInt < 6 ∧ 0 ≤ s2.toInt ∧ s2.toInt ≤ 4 ∧ s3.toInt ≤ 60) ∧ r_322.toInt = -1) := wr_322
      refine lv_icmp_eq (tgt := 1388) hx hb dL_law_1157 (by decide) (fun c_323 => ?_) (fun c_323 => ?_)
      ·
        exact tail _ _ ls hS hl
      ·
        exact absurd (i_inj (by omega)) c_323
    ·
      refine lv_tableIn (tgt := 1162) hx hb dL_law_33 (by omega) (by omega) (off := 1129) (by rw [kt]; rfl) (by decide) ?_
      refine lv_aload_n hx hb dL_law_1162 rfl (lv_at hl 1 rfl) ?_
      refine lv_aload_n hx hb dL_law_1163 rfl (lv_at hl 0 rfl) ?_
      refine lv_iload_n hx hb dL_law_1164 rfl (lv_at hl 3 rfl) ?_
      refine lv_iconst (v := 1) hx hb dL_law_1165 (by decide) ?_
      refine lv_iadd hx hb dL_law_1166 ?_
      refine lv_topi (fun x_324 ex_324 => ?_)
      have fx_324 : x_324 = 1 := by rw [ex_324]; rfl
      subst fx_324
      refine va_sld hx hb hX hbl hbA hS (i_in (by decide) (by omega)) dL_law_1167 ?_
      rw [hs1]
      refine lv_aload_n hx hb dL_law_1168 rfl (lv_at hl 0 rfl) ?_
      refine lv_iload_n hx hb dL_law_1169 rfl (lv_at hl 3 rfl) ?_
      refine lv_iconst (v := 2) hx hb dL_law_1170 (by decide) ?_
      refine lv_iadd hx hb dL_law_1171 ?_
      refine lv_topi (fun x_325 ex_325 => ?_)
      have fx_325 : x_325 = 2 := by rw [ex_325]; rfl
      subst fx_325
      refine va_sld hx hb hX hbl hbA hS (i_in (by decide) (by omega)) dL_law_1172 ?_
      rw [hs2]
      refine lv_aload_n hx hb dL_law_1173 rfl (lv_at hl 0 rfl) ?_
      refine lv_iload_n hx hb dL_law_1174 rfl (lv_at hl 3 rfl) ?_
      refine lv_iconst (v := 3) hx hb dL_law_1175 (by decide) ?_
      refine lv_iadd hx hb dL_law_1176 ?_
      refine lv_topi (fun x_326 ex_326 => ?_)
      have fx_326 : x_326 = 3 := by rw [ex_326]; rfl
      subst fx_326
      refine va_sld hx hb hX hbl hbA hS (i_in (by decide) (by omega)) dL_law_1177 ?_
      rw [hs3]
      refine lv_i2l hx hb dL_law_1178 rfl ?_
      refine lv_topl (fun l_327 el_327 => ?_)
      refine lv_bipush (v := 32) hx hb dL_law_1179 (by decide) ?_
      refine lv_lshl hx hb dL_law_1181 rfl ?_
      refine lv_topl (fun l_328 el_328 => ?_)
      refine lv_aload_n hx hb dL_law_1182 rfl (lv_at hl 0 rfl) ?_
      refine lv_iload_n hx hb dL_law_1183 rfl (lv_at hl 3 rfl) ?_
      refine lv_iconst (v := 4) hx hb dL_law_1184 (by decide) ?_
      refine lv_iadd hx hb dL_law_1185 ?_
      refine lv_topi (fun x_329 ex_329 => ?_)
      have fx_329 : x_329 = 4 := by rw [ex_329]; rfl
      subst fx_329
      refine va_sld hx hb hX hbl hbA hS (i_in (by decide) (by omega)) dL_law_1186 ?_
      rw [hs4]
      refine lv_i2l hx hb dL_law_1187 rfl ?_
      refine lv_topl (fun l_330 el_330 => ?_)
      refine lv_ldc2 hx hb hown (v := 4294967295) (hg _ q7_132) dL_law_1188 ?_
      refine lv_land hx hb dL_law_1191 ?_
      refine lv_topl (fun l_331 el_331 => ?_)
      refine lv_lor hx hb dL_law_1192 ?_
      refine lv_topl (fun l_332 el_332 => ?_)
      refine cL_ro (As := [.int s1, .int s2, .long l_332]) (rest := []) ⟨hx, hb, hml, hown, hg⟩ (k_F_X11_put l D cs _ ad fa fq rv v a w fv fp s1 s2 l_332 hF) ca_X11_put q4_178 ⟨rfl, rfl⟩ ⟨Nat.le_of_ble_eq_true rfl, Nat.le_of_ble_eq_true rfl⟩ (rc_main hK (pw_l hP)) hK hP hD hS hZ rfl hl.1 rfl (Nat.le_of_ble_eq_true rfl) ⟨Nat.le_of_ble_eq_true rfl, Nat.le_of_ble_eq_true rfl⟩ dL_law_1193 (fun r_333 wr_333 => ?_)
      have wr_333 : ((0 ≤ s1.toInt ∧ s1.toInt < 6) ∧ r_333.toInt = -11) ∨ (¬ (0 ≤ s1.toInt ∧ s1.toInt < 6) ∧ r_333.toInt = -1) := wr_333
      refine lv_aload_n hx hb dL_law_1196 rfl (lv_at hl 2 rfl) ?_
      refine lv_aload_n hx hb dL_law_1197 rfl (lv_at hl 0 rfl) ?_
      refine lv_iload_n hx hb dL_law_1198 rfl (lv_at hl 3 rfl) ?_
      refine lv_iconst (v := 1) hx hb dL_law_1199 (by decide) ?_
      refine lv_iadd hx hb dL_law_1200 ?_
      refine lv_topi (fun x_334 ex_334 => ?_)
      have fx_334 : x_334 = 1 := by rw [ex_334]; rfl
      subst fx_334
      refine va_sld hx hb hX hbl hbA hS (i_in (by decide) (by omega)) dL_law_1201 ?_
      rw [hs1]
      refine lv_aload_n hx hb dL_law_1202 rfl (lv_at hl 0 rfl) ?_
      refine lv_iload_n hx hb dL_law_1203 rfl (lv_at hl 3 rfl) ?_
      refine lv_iconst (v := 2) hx hb dL_law_1204 (by decide) ?_
      refine lv_iadd hx hb dL_law_1205 ?_
      refine lv_topi (fun x_335 ex_335 => ?_)
      have fx_335 : x_335 = 2 := by rw [ex_335]; rfl
      subst fx_335
      refine va_sld hx hb hX hbl hbA hS (i_in (by decide) (by omega)) dL_law_1206 ?_
      rw [hs2]
      refine lv_aload_n hx hb dL_law_1207 rfl (lv_at hl 0 rfl) ?_
      refine lv_iload_n hx hb dL_law_1208 rfl (lv_at hl 3 rfl) ?_
      refine lv_iconst (v := 3) hx hb dL_law_1209 (by decide) ?_
      refine lv_iadd hx hb dL_law_1210 ?_
      refine lv_topi (fun x_336 ex_336 => ?_)
      have fx_336 : x_336 = 3 := by rw [ex_336]; rfl
      subst fx_336
      refine va_sld hx hb hX hbl hbA hS (i_in (by decide) (by omega)) dL_law_1211 ?_
      rw [hs3]
      refine lv_i2l hx hb dL_law_1212 rfl ?_
      refine lv_topl (fun l_337 el_337 => ?_)
      refine lv_bipush (v := 32) hx hb dL_law_1213 (by decide) ?_
      refine lv_lshl hx hb dL_law_1215 rfl ?_
      refine lv_topl (fun l_338 el_338 => ?_)
      refine lv_aload_n hx hb dL_law_1216 rfl (lv_at hl 0 rfl) ?_
      refine lv_iload_n hx hb dL_law_1217 rfl (lv_at hl 3 rfl) ?_
      refine lv_iconst (v := 4) hx hb dL_law_1218 (by decide) ?_
      refine lv_iadd hx hb dL_law_1219 ?_
      refine lv_topi (fun x_339 ex_339 => ?_)
      have fx_339 : x_339 = 4 := by rw [ex_339]; rfl
      subst fx_339
      refine va_sld hx hb hX hbl hbA hS (i_in (by decide) (by omega)) dL_law_1220 ?_
      rw [hs4]
      refine lv_i2l hx hb dL_law_1221 rfl ?_
      refine lv_topl (fun l_340 el_340 => ?_)
      refine lv_ldc2 hx hb hown (v := 4294967295) (hg _ q7_132) dL_law_1222 ?_
      refine lv_land hx hb dL_law_1225 ?_
      refine lv_topl (fun l_341 el_341 => ?_)
      refine lv_lor hx hb dL_law_1226 ?_
      refine lv_topl (fun l_342 el_342 => ?_)
      refine cR_ro (As := [.int s1, .int s2, .long l_342]) (rest := [.int r_333]) ⟨hx, hb, hml, hown, hg⟩ (k_F_X12_put l D cs _ bd u b_ bw s1 s2 l_342 hR) ca_X12_put q7_111 ⟨rfl, rfl⟩ ⟨Nat.le_of_ble_eq_true rfl, Nat.le_of_ble_eq_true rfl⟩ (rc_model hK (pw_r hP)) hK hP hD hS hZ rfl hl.1 rfl (Nat.le_of_ble_eq_true rfl) ⟨Nat.le_of_ble_eq_true rfl, Nat.le_of_ble_eq_true rfl⟩ dL_law_1227 (fun r_343 wr_343 => ?_)
      have wr_343 : ((0 ≤ s1.toInt ∧ s1.toInt < 6) ∧ r_343.toInt = -11) ∨ (¬ (0 ≤ s1.toInt ∧ s1.toInt < 6) ∧ r_343.toInt = -1) := wr_343
      refine lv_icmp_eq (tgt := 1388) hx hb dL_law_1230 (by decide) (fun c_344 => ?_) (fun c_344 => ?_)
      ·
        exact tail _ _ ls hS hl
      ·
        exact absurd (i_inj (by omega)) c_344
    ·
      refine lv_tableIn (tgt := 1235) hx hb dL_law_33 (by omega) (by omega) (off := 1202) (by rw [kt]; rfl) (by decide) ?_
      refine lv_aload_n hx hb dL_law_1235 rfl (lv_at hl 1 rfl) ?_
      refine lv_aload_n hx hb dL_law_1236 rfl (lv_at hl 0 rfl) ?_
      refine lv_iload_n hx hb dL_law_1237 rfl (lv_at hl 3 rfl) ?_
      refine lv_iconst (v := 1) hx hb dL_law_1238 (by decide) ?_
      refine lv_iadd hx hb dL_law_1239 ?_
      refine lv_topi (fun x_345 ex_345 => ?_)
      have fx_345 : x_345 = 1 := by rw [ex_345]; rfl
      subst fx_345
      refine va_sld hx hb hX hbl hbA hS (i_in (by decide) (by omega)) dL_law_1240 ?_
      rw [hs1]
      refine lv_aload_n hx hb dL_law_1241 rfl (lv_at hl 0 rfl) ?_
      refine lv_iload_n hx hb dL_law_1242 rfl (lv_at hl 3 rfl) ?_
      refine lv_iconst (v := 2) hx hb dL_law_1243 (by decide) ?_
      refine lv_iadd hx hb dL_law_1244 ?_
      refine lv_topi (fun x_346 ex_346 => ?_)
      have fx_346 : x_346 = 2 := by rw [ex_346]; rfl
      subst fx_346
      refine va_sld hx hb hX hbl hbA hS (i_in (by decide) (by omega)) dL_law_1245 ?_
      rw [hs2]
      refine cL_rol (As := [.int s1, .int s2]) (rest := []) ⟨hx, hb, hml, hown, hg⟩ (k_F_X11_element l D cs _ ad fa fq rv v a w fv fp s1 s2 hF) ca_X11_element q4_194 ⟨rfl, rfl⟩ ⟨Nat.le_of_ble_eq_true rfl, Nat.le_of_ble_eq_true rfl⟩ (rc_main hK (pw_l hP)) hK hP hD hS hZ rfl hl.1 rfl (Nat.le_of_ble_eq_true rfl) ⟨Nat.le_of_ble_eq_true rfl, Nat.le_of_ble_eq_true rfl⟩ dL_law_1246 (fun r_347 wr_347 => ?_)
      have wr_347 : r_347 = -9223372036854775808 := wr_347
      refine lv_aload_n hx hb dL_law_1249 rfl (lv_at hl 2 rfl) ?_
      refine lv_aload_n hx hb dL_law_1250 rfl (lv_at hl 0 rfl) ?_
      refine lv_iload_n hx hb dL_law_1251 rfl (lv_at hl 3 rfl) ?_
      refine lv_iconst (v := 1) hx hb dL_law_1252 (by decide) ?_
      refine lv_iadd hx hb dL_law_1253 ?_
      refine lv_topi (fun x_348 ex_348 => ?_)
      have fx_348 : x_348 = 1 := by rw [ex_348]; rfl
      subst fx_348
      refine va_sld hx hb hX hbl hbA hS (i_in (by decide) (by omega)) dL_law_1254 ?_
      rw [hs1]
      refine lv_aload_n hx hb dL_law_1255 rfl (lv_at hl 0 rfl) ?_
      refine lv_iload_n hx hb dL_law_1256 rfl (lv_at hl 3 rfl) ?_
      refine lv_iconst (v := 2) hx hb dL_law_1257 (by decide) ?_
      refine lv_iadd hx hb dL_law_1258 ?_
      refine lv_topi (fun x_349 ex_349 => ?_)
      have fx_349 : x_349 = 2 := by rw [ex_349]; rfl
      subst fx_349
      refine va_sld hx hb hX hbl hbA hS (i_in (by decide) (by omega)) dL_law_1259 ?_
      rw [hs2]
      refine cR_rol (As := [.int s1, .int s2]) (rest := [.long r_347]) ⟨hx, hb, hml, hown, hg⟩ (k_F_X12_element l D cs _ bd u b_ bw s1 s2 hR) ca_X12_element q7_119 ⟨rfl, rfl⟩ ⟨Nat.le_of_ble_eq_true rfl, Nat.le_of_ble_eq_true rfl⟩ (rc_model hK (pw_r hP)) hK hP hD hS hZ rfl hl.1 rfl (Nat.le_of_ble_eq_true rfl) ⟨Nat.le_of_ble_eq_true rfl, Nat.le_of_ble_eq_true rfl⟩ dL_law_1260 (fun r_350 wr_350 => ?_)
      have wr_350 : r_350 = -9223372036854775808 := wr_350
      refine W.lcmp hx hb dL_law_1263 ?_
      have ew : r_347 = r_350 := by rw [wr_347, wr_350]
      refine lv_topi (fun x_c ex_c => ?_)
      have hxc : x_c = 0 := by rw [ex_c, ew, lg_cmp, if_neg Int64.lt_irrefl, if_pos rfl]
      subst hxc
      refine lv_if_eq (tgt := 1388) hx hb dL_law_1264 (by decide) (fun c_351 => ?_) (fun c_351 => absurd rfl c_351)
      exact tail _ _ ls hS hl
    ·
      refine lv_tableIn (tgt := 1269) hx hb dL_law_33 (by omega) (by omega) (off := 1236) (by rw [kt]; rfl) (by decide) ?_
      refine lv_aload_n hx hb dL_law_1269 rfl (lv_at hl 1 rfl) ?_
      refine lv_aload_n hx hb dL_law_1270 rfl (lv_at hl 0 rfl) ?_
      refine lv_iload_n hx hb dL_law_1271 rfl (lv_at hl 3 rfl) ?_
      refine lv_iconst (v := 1) hx hb dL_law_1272 (by decide) ?_
      refine lv_iadd hx hb dL_law_1273 ?_
      refine lv_topi (fun x_352 ex_352 => ?_)
      have fx_352 : x_352 = 1 := by rw [ex_352]; rfl
      subst fx_352
      refine va_sld hx hb hX hbl hbA hS (i_in (by decide) (by omega)) dL_law_1274 ?_
      rw [hs1]
      refine lv_aload_n hx hb dL_law_1275 rfl (lv_at hl 0 rfl) ?_
      refine lv_iload_n hx hb dL_law_1276 rfl (lv_at hl 3 rfl) ?_
      refine lv_iconst (v := 2) hx hb dL_law_1277 (by decide) ?_
      refine lv_iadd hx hb dL_law_1278 ?_
      refine lv_topi (fun x_353 ex_353 => ?_)
      have fx_353 : x_353 = 2 := by rw [ex_353]; rfl
      subst fx_353
      refine va_sld hx hb hX hbl hbA hS (i_in (by decide) (by omega)) dL_law_1279 ?_
      rw [hs2]
      refine lv_aload_n hx hb dL_law_1280 rfl (lv_at hl 0 rfl) ?_
      refine lv_iload_n hx hb dL_law_1281 rfl (lv_at hl 3 rfl) ?_
      refine lv_iconst (v := 3) hx hb dL_law_1282 (by decide) ?_
      refine lv_iadd hx hb dL_law_1283 ?_
      refine lv_topi (fun x_354 ex_354 => ?_)
      have fx_354 : x_354 = 3 := by rw [ex_354]; rfl
      subst fx_354
      refine va_sld hx hb hX hbl hbA hS (i_in (by decide) (by omega)) dL_law_1284 ?_
      rw [hs3]
      refine lv_aload_n hx hb dL_law_1285 rfl (lv_at hl 0 rfl) ?_
      refine lv_iload_n hx hb dL_law_1286 rfl (lv_at hl 3 rfl) ?_
      refine lv_iconst (v := 4) hx hb dL_law_1287 (by decide) ?_
      refine lv_iadd hx hb dL_law_1288 ?_
      refine lv_topi (fun x_355 ex_355 => ?_)
      have fx_355 : x_355 = 4 := by rw [ex_355]; rfl
      subst fx_355
      refine va_sld hx hb hX hbl hbA hS (i_in (by decide) (by omega)) dL_law_1289 ?_
      rw [hs4]
      refine lv_aload_n hx hb dL_law_1290 rfl (lv_at hl 0 rfl) ?_
      refine lv_iload_n hx hb dL_law_1291 rfl (lv_at hl 3 rfl) ?_
      refine lv_iconst (v := 5) hx hb dL_law_1292 (by decide) ?_
      refine lv_iadd hx hb dL_law_1293 ?_
      refine lv_topi (fun x_356 ex_356 => ?_)
      have fx_356 : x_356 = 5 := by rw [ex_356]; rfl
      subst fx_356
      refine va_sld hx hb hX hbl hbA hS (i_in (by decide) (by omega)) dL_law_1294 ?_
      rw [hs5]
      refine cL_ro (As := [.int s1, .int s2, .int s3, .int s4, .int s5]) (rest := []) ⟨hx, hb, hml, hown, hg⟩ (k_F_X11_shift l D cs _ ad fa fq rv v a w fv fp s1 s2 s3 s4 s5 hF) ca_X11_shift q4_199 ⟨rfl, rfl⟩ ⟨Nat.le_of_ble_eq_true rfl, Nat.le_of_ble_eq_true rfl⟩ (rc_main hK (pw_l hP)) hK hP hD hS hZ rfl hl.1 rfl (Nat.le_of_ble_eq_true rfl) ⟨Nat.le_of_ble_eq_true rfl, Nat.le_of_ble_eq_true rfl⟩ dL_law_1295 (fun r_357 wr_357 => ?_)
      have wr_357 : ((0 ≤ s1.toInt ∧ s1.toInt < 6 ∧ 0 ≤ s3.toInt ∧ s3.toInt < 6) ∧ r_357.toInt = -11) ∨ (¬ (0 ≤ s1.toInt ∧ s1.toInt < 6 ∧ 0 ≤ s3.toInt ∧ s3.toInt < 6) ∧ r_357.toInt = -1) := wr_357
      refine lv_aload_n hx hb dL_law_1298 rfl (lv_at hl 2 rfl) ?_
      refine lv_aload_n hx hb dL_law_1299 rfl (lv_at hl 0 rfl) ?_
      refine lv_iload_n hx hb dL_law_1300 rfl (lv_at hl 3 rfl) ?_
      refine lv_iconst (v := 1) hx hb dL_law_1301 (by decide) ?_
      refine lv_iadd hx hb dL_law_1302 ?_
      refine lv_topi (fun x_358 ex_358 => ?_)
      have fx_358 : x_358 = 1 := by rw [ex_358]; rfl
      subst fx_358
      refine va_sld hx hb hX hbl hbA hS (i_in (by decide) (by omega)) dL_law_1303 ?_
      rw [hs1]
      refine lv_aload_n hx hb dL_law_1304 rfl (lv_at hl 0 rfl) ?_
      refine lv_iload_n hx hb dL_law_1305 rfl (lv_at hl 3 rfl) ?_
      refine lv_iconst (v := 2) hx hb dL_law_1306 (by decide) ?_
      refine lv_iadd hx hb dL_law_1307 ?_
      refine lv_topi (fun x_359 ex_359 => ?_)
      have fx_359 : x_359 = 2 := by rw [ex_359]; rfl
      subst fx_359
      refine va_sld hx hb hX hbl hbA hS (i_in (by decide) (by omega)) dL_law_1308 ?_
      rw [hs2]
      refine lv_aload_n hx hb dL_law_1309 rfl (lv_at hl 0 rfl) ?_
      refine lv_iload_n hx hb dL_law_1310 rfl (lv_at hl 3 rfl) ?_
      refine lv_iconst (v := 3) hx hb dL_law_1311 (by decide) ?_
      refine lv_iadd hx hb dL_law_1312 ?_
      refine lv_topi (fun x_360 ex_360 => ?_)
      have fx_360 : x_360 = 3 := by rw [ex_360]; rfl
      subst fx_360
      refine va_sld hx hb hX hbl hbA hS (i_in (by decide) (by omega)) dL_law_1313 ?_
      rw [hs3]
      refine lv_aload_n hx hb dL_law_1314 rfl (lv_at hl 0 rfl) ?_
      refine lv_iload_n hx hb dL_law_1315 rfl (lv_at hl 3 rfl) ?_
      refine lv_iconst (v := 4) hx hb dL_law_1316 (by decide) ?_
      refine lv_iadd hx hb dL_law_1317 ?_
      refine lv_topi (fun x_361 ex_361 => ?_)
      have fx_361 : x_361 = 4 := by rw [ex_361]; rfl
      subst fx_361
      refine va_sld hx hb hX hbl hbA hS (i_in (by decide) (by omega)) dL_law_1318 ?_
      rw [hs4]
      refine lv_aload_n hx hb dL_law_1319 rfl (lv_at hl 0 rfl) ?_
      refine lv_iload_n hx hb dL_law_1320 rfl (lv_at hl 3 rfl) ?_
      refine lv_iconst (v := 5) hx hb dL_law_1321 (by decide) ?_
      refine lv_iadd hx hb dL_law_1322 ?_
      refine lv_topi (fun x_362 ex_362 => ?_)
      have fx_362 : x_362 = 5 := by rw [ex_362]; rfl
      subst fx_362
      refine va_sld hx hb hX hbl hbA hS (i_in (by decide) (by omega)) dL_law_1323 ?_
      rw [hs5]
      refine cR_ro (As := [.int s1, .int s2, .int s3, .int s4, .int s5]) (rest := [.int r_357]) ⟨hx, hb, hml, hown, hg⟩ (k_F_X12_shift l D cs _ bd u b_ bw s1 s2 s3 s4 s5 hR) ca_X12_shift q7_124 ⟨rfl, rfl⟩ ⟨Nat.le_of_ble_eq_true rfl, Nat.le_of_ble_eq_true rfl⟩ (rc_model hK (pw_r hP)) hK hP hD hS hZ rfl hl.1 rfl (Nat.le_of_ble_eq_true rfl) ⟨Nat.le_of_ble_eq_true rfl, Nat.le_of_ble_eq_true rfl⟩ dL_law_1324 (fun r_363 wr_363 => ?_)
      have wr_363 : ((0 ≤ s1.toInt ∧ s1.toInt < 6 ∧ 0 ≤ s3.toInt ∧ s3.toInt < 6) ∧ r_363.toInt = -11) ∨ (¬ (0 ≤ s1.toInt ∧ s1.toInt < 6 ∧ 0 ≤ s3.toInt ∧ s3.toInt < 6) ∧ r_363.toInt = -1) := wr_363
      refine lv_icmp_eq (tgt := 1388) hx hb dL_law_1327 (by decide) (fun c_364 => ?_) (fun c_364 => ?_)
      ·
        exact tail _ _ ls hS hl
      ·
        exact absurd (i_inj (by omega)) c_364
    ·
      refine lv_tableIn (tgt := 1332) hx hb dL_law_33 (by omega) (by omega) (off := 1299) (by rw [kt]; rfl) (by decide) ?_
      refine lv_aload_n hx hb dL_law_1332 rfl (lv_at hl 1 rfl) ?_
      refine lv_aload_n hx hb dL_law_1333 rfl (lv_at hl 0 rfl) ?_
      refine lv_iload_n hx hb dL_law_1334 rfl (lv_at hl 3 rfl) ?_
      refine lv_iconst (v := 1) hx hb dL_law_1335 (by decide) ?_
      refine lv_iadd hx hb dL_law_1336 ?_
      refine lv_topi (fun x_365 ex_365 => ?_)
      have fx_365 : x_365 = 1 := by rw [ex_365]; rfl
      subst fx_365
      refine va_sld hx hb hX hbl hbA hS (i_in (by decide) (by omega)) dL_law_1337 ?_
      rw [hs1]
      refine lv_aload_n hx hb dL_law_1338 rfl (lv_at hl 0 rfl) ?_
      refine lv_iload_n hx hb dL_law_1339 rfl (lv_at hl 3 rfl) ?_
      refine lv_iconst (v := 2) hx hb dL_law_1340 (by decide) ?_
      refine lv_iadd hx hb dL_law_1341 ?_
      refine lv_topi (fun x_366 ex_366 => ?_)
      have fx_366 : x_366 = 2 := by rw [ex_366]; rfl
      subst fx_366
      refine va_sld hx hb hX hbl hbA hS (i_in (by decide) (by omega)) dL_law_1342 ?_
      rw [hs2]
      refine cL_ro (As := [.int s1, .int s2]) (rest := []) ⟨hx, hb, hml, hown, hg⟩ (k_F_X11_taken l D cs _ ad fa fq rv v a w fv fp s1 s2 hF) ca_X11_taken q4_208 ⟨rfl, rfl⟩ ⟨Nat.le_of_ble_eq_true rfl, Nat.le_of_ble_eq_true rfl⟩ (rc_main hK (pw_l hP)) hK hP hD hS hZ rfl hl.1 rfl (Nat.le_of_ble_eq_true rfl) ⟨Nat.le_of_ble_eq_true rfl, Nat.le_of_ble_eq_true rfl⟩ dL_law_1343 (fun r_367 wr_367 => ?_)
      have wr_367 : ((0 ≤ s1.toInt ∧ s1.toInt < 6 ∧ 0 ≤ s2.toInt ∧ s2.toInt ≤ 7) ∧ r_367.toInt = -11) ∨ (¬ (0 ≤ s1.toInt ∧ s1.toInt < 6 ∧ 0 ≤ s2.toInt ∧ s2.toInt ≤ 7) ∧ r_367.toInt = -1) := wr_367
      refine lv_aload_n hx hb dL_law_1346 rfl (lv_at hl 2 rfl) ?_
      refine lv_aload_n hx hb dL_law_1347 rfl (lv_at hl 0 rfl) ?_
      refine lv_iload_n hx hb dL_law_1348 rfl (lv_at hl 3 rfl) ?_
      refine lv_iconst (v := 1) hx hb dL_law_1349 (by decide) ?_
      refine lv_iadd hx hb dL_law_1350 ?_
      refine lv_topi (fun x_368 ex_368 => ?_)
      have fx_368 : x_368 = 1 := by rw [ex_368]; rfl
      subst fx_368
      refine va_sld hx hb hX hbl hbA hS (i_in (by decide) (by omega)) dL_law_1351 ?_
      rw [hs1]
      refine lv_aload_n hx hb dL_law_1352 rfl (lv_at hl 0 rfl) ?_
      refine lv_iload_n hx hb dL_law_1353 rfl (lv_at hl 3 rfl) ?_
      refine lv_iconst (v := 2) hx hb dL_law_1354 (by decide) ?_
      refine lv_iadd hx hb dL_law_1355 ?_
      refine lv_topi (fun x_369 ex_369 => ?_)
      have fx_369 : x_369 = 2 := by rw [ex_369]; rfl
      subst fx_369
      refine va_sld hx hb hX hbl hbA hS (i_in (by decide) (by omega)) dL_law_1356 ?_
      rw [hs2]
      refine cR_ro (As := [.int s1, .int s2]) (rest := [.int r_367]) ⟨hx, hb, hml, hown, hg⟩ (k_F_X12_taken l D cs _ bd u b_ bw s1 s2 hR) ca_X12_taken q7_128 ⟨rfl, rfl⟩ ⟨Nat.le_of_ble_eq_true rfl, Nat.le_of_ble_eq_true rfl⟩ (rc_model hK (pw_r hP)) hK hP hD hS hZ rfl hl.1 rfl (Nat.le_of_ble_eq_true rfl) ⟨Nat.le_of_ble_eq_true rfl, Nat.le_of_ble_eq_true rfl⟩ dL_law_1357 (fun r_370 wr_370 => ?_)
      have wr_370 : ((0 ≤ s1.toInt ∧ s1.toInt < 6 ∧ 0 ≤ s2.toInt ∧ s2.toInt ≤ 7) ∧ r_370.toInt = -11) ∨ (¬ (0 ≤ s1.toInt ∧ s1.toInt < 6 ∧ 0 ≤ s2.toInt ∧ s2.toInt ≤ 7) ∧ r_370.toInt = -1) := wr_370
      refine lv_icmp_eq (tgt := 1388) hx hb dL_law_1360 (by decide) (fun c_371 => ?_) (fun c_371 => ?_)
      ·
        exact tail _ _ ls hS hl
      ·
        exact absurd (i_inj (by omega)) c_371
    ·
      refine lv_tableIn (tgt := 1365) hx hb dL_law_33 (by omega) (by omega) (off := 1332) (by rw [kt]; rfl) (by decide) ?_
      refine lv_aload_n hx hb dL_law_1365 rfl (lv_at hl 1 rfl) ?_
      refine lv_aload_n hx hb dL_law_1366 rfl (lv_at hl 0 rfl) ?_
      refine lv_iload_n hx hb dL_law_1367 rfl (lv_at hl 3 rfl) ?_
      refine lv_iconst (v := 1) hx hb dL_law_1368 (by decide) ?_
      refine lv_iadd hx hb dL_law_1369 ?_
      refine lv_topi (fun x_372 ex_372 => ?_)
      have fx_372 : x_372 = 1 := by rw [ex_372]; rfl
      subst fx_372
      refine va_sld hx hb hX hbl hbA hS (i_in (by decide) (by omega)) dL_law_1370 ?_
      rw [hs1]
      refine cL_ro (As := [.int s1]) (rest := []) ⟨hx, hb, hml, hown, hg⟩ (k_F_X11_count l D cs _ ad fa fq rv v a w fv fp s1 hF) ca_X11_count q4_223 ⟨rfl, rfl⟩ ⟨Nat.le_of_ble_eq_true rfl, Nat.le_of_ble_eq_true rfl⟩ (rc_main hK (pw_l hP)) hK hP hD hS hZ rfl hl.1 rfl (Nat.le_of_ble_eq_true rfl) ⟨Nat.le_of_ble_eq_true rfl, Nat.le_of_ble_eq_true rfl⟩ dL_law_1371 (fun r_373 wr_373 => ?_)
      have wr_373 : (0 ≤ s1.toInt ∧ s1.toInt ≤ 4 ∧ r_373.toInt = 0) ∨ (¬ (0 ≤ s1.toInt ∧ s1.toInt ≤ 4) ∧ r_373.toInt = -1) := wr_373
      refine lv_aload_n hx hb dL_law_1374 rfl (lv_at hl 2 rfl) ?_
      refine lv_aload_n hx hb dL_law_1375 rfl (lv_at hl 0 rfl) ?_
      refine lv_iload_n hx hb dL_law_1376 rfl (lv_at hl 3 rfl) ?_
      refine lv_iconst (v := 1) hx hb dL_law_1377 (by decide) ?_
      refine lv_iadd hx hb dL_law_1378 ?_
      refine lv_topi (fun x_374 ex_374 => ?_)
      have fx_374 : x_374 = 1 := by rw [ex_374]; rfl
      subst fx_374
      refine va_sld hx hb hX hbl hbA hS (i_in (by decide) (by omega)) dL_law_1379 ?_
      rw [hs1]
      refine cR_ro (As := [.int s1]) (rest := [.int r_373]) ⟨hx, hb, hml, hown, hg⟩ (k_F_X12_count l D cs _ bd u b_ bw s1 hR) ca_X12_count q7_99 ⟨rfl, rfl⟩ ⟨Nat.le_of_ble_eq_true rfl, Nat.le_of_ble_eq_true rfl⟩ (rc_model hK (pw_r hP)) hK hP hD hS hZ rfl hl.1 rfl (Nat.le_of_ble_eq_true rfl) ⟨Nat.le_of_ble_eq_true rfl, Nat.le_of_ble_eq_true rfl⟩ dL_law_1380 (fun r_375 wr_375 => ?_)
      have wr_375 : (0 ≤ s1.toInt ∧ s1.toInt ≤ 4 ∧ r_375.toInt = 0) ∨ (¬ (0 ≤ s1.toInt ∧ s1.toInt ≤ 4) ∧ r_375.toInt = -1) := wr_375
      refine lv_icmp_eq (tgt := 1388) hx hb dL_law_1383 (by decide) (fun c_376 => ?_) (fun c_376 => ?_)
      ·
        exact tail _ _ ls hS hl
      ·
        exact absurd (i_inj (by omega)) c_376
    ·
      refine lv_tableOut (tgt := 1388) hx hb dL_law_33 kt (by decide) ?_
      exact tail H locs ls hS hl
set_option maxHeartbeats 4000000 in
theorem lw_walk (l : Launch) (hflags : l.flags = flags0) (b : Addr) (xs : List Int32) : MetFree l x (headSpec (Jvm.Cond.code x code maxLocals ret :: tables_1) room_1) (lw_P b xs) (fun _ _ _ _ _ => True) lw_Q := by
  refine MetFree.of_bodyS (code := code) (maxLocals := maxLocals) (ret := ret) (by decide) ?_ ?_
  · intro args s m h hn
    obtain ⟨meth, c, h1, h2, h3, h4, h5, h6, -, -⟩ := Cond.code_spec hn (atoms_spec (ws := Jvm.Cond.code x code maxLocals ret :: tables_1) h _ List.mem_cons_self)
    exact ⟨meth, c, h1, h2, h3, h4, h5, h6⟩
  · intro p e s m args below meth c s₁ B hml0 hP _
    obtain ⟨rfl, hx, hbd, hgv⟩ := hP
    obtain ⟨scr, harrAt, hlist, hof, hsmall⟩ := hx
    obtain ⟨hcb, hkn, -, -⟩ := State.arrayAt?_spec harrAt
    have hown : s.vm.findClass R_law = some m.cls := findClass_of_methodNamed B.named
    have hts0 : ∀ c ∈ (Jvm.Cond.code x code maxLocals ret :: tables_1), c.before #[Value.ref b] s = true := atoms_spec (ws := Jvm.Cond.code x code maxLocals ret :: tables_1) B.pre
    have hts : ∀ w ∈ lw_tbl, w.before #[Value.ref b] s = true := k2_hts_sels lw_privs (fun w hw => hts0 w (List.mem_cons_of_mem _ hw)) lw_privs_ok
    have hml : c.maxLocals = 4 := B.maxLocals_eq (hts0 _ List.mem_cons_self)
    have X₀ : Stand p l e room_1 s m #[Value.ref b] below meth c s₁ [] 0 0 := Stand.of_body B
    have hh0 : s₁.heap = s.heap := by rw [B.state]; rfl
    have hsz : scr.slots.size = xs.length := by rw [← Array.length_toList, hlist, List.length_map]
    have hval : ∀ j : Nat, j < xs.length → scr.slots[j]? = some (.int (xs.getD j 0)) := fun j hj => by
      rw [← Array.getElem?_toList, hlist]
      simp [hj]
    have hbl : b < s.heap.size := (Array.getElem?_eq_some_iff.mp hcb).1
    have hX : va_X b xs.length (fun j => xs.getD j 0) s s.heap := ⟨scr, hcb, hof, hkn, hsz, hval⟩
    have K : W p l e room_1 s m #[Value.ref b] below meth c s₁.heap [] 0 0 (lw_Z below #[Value.ref b] s) (entryFrame m ([Value.ref b] : List Value).toArray 4) := by
      rw [hh0]
      exact whole_start l hflags hbd ⟨B.exec, B.bytes, B.returns, hml, hown, hts, hX, hbl, B.notSynchronized, hgv⟩
    obtain ⟨t, a1, o, b1, b2, b3⟩ := K s₁ rfl X₀
    exact ⟨t, o, a1, b1, b2, b3⟩
theorem lw_pre_spec {args : Array Value} {s : State} (h : (Jvm.Cond.and given_1 narrow_1).before args s = true) (hr : rest_1_c.before args s = true) : ∃ (b : Addr) (xs : List Int32), lw_P b xs args s := by
  have hs := flat_of_before _ h
  have hq := flat_of_before _ hr
  have hc : (Cond.count 1).before args s = true := hs _ (by decide +kernel)
  have harr : (Cond.arrayOf (.arg 0) .int).before args s = true := hs _ (by decide +kernel)
  have hle : (Cond.le (.length (.arg 0)) (.int 6)).before args s = true := hs _ (by decide +kernel)
  have hlen : (Cond.isInt (.length (.arg 0))).before args s = true := hq _ (by decide +kernel)
  have hall : (Cond.all (.arg 0) (.isInt (.elem (.arg 0) (.index 0)))).before args s = true := hq _ (by decide +kernel)
  obtain ⟨b, xs, hb, hx⟩ := State.ints_of_pre rfl harr hlen hall
  have hsm : xs.length < 2 ^ 31 := hx.choose_spec.2.2.2
  have hev : (Term.length (.arg 0)).eval args s none [] s = some (.int xs.length.toInt32) := hx.length_eval hb
  have hv := Cond.le_ints hev (show (Term.int 6).eval args s none [] s = some (.int 6) from rfl)
  have hd : xs.length.toInt32 ≤ 6 := by
    simpa [Cond.before, Cond.holds, hv] using hle
  have hN : xs.length ≤ 6 := (Int32.ofNat_le_ofNat hsm (by decide)).mp (show Int32.ofNat xs.length ≤ Int32.ofNat 6 from hd)
  exact ⟨b, xs, Cond.one_arg hc (show args[0]? = some (.ref b) from hb), hx, hN, h⟩
theorem lw_comes (l : Launch) (hflags : l.flags = flags0) : Comes l x (Jvm.Cond.code x code maxLocals ret :: tables_1) room_1 (fun tb e args s => Calls_1 tb e args s ∧ rest_1 tb e args s ∧ Pre_1 tb e args s)
    (fun _ _ args s o t => lw_Q args s o t) := by
  intro p e ha hc hk s m args below hf hfit hheap happ hpre
  obtain ⟨b, xs, hP⟩ := lw_pre_spec hpre.2.2 hpre.2.1
  obtain ⟨k, o, h1, h2, h3, hQ⟩ := lw_walk l hflags b xs p e ha hc hk s m args below hf ((Spec.applies_iff_loose hf).mp happ).1 hP trivial
  exact ⟨k, o, h1, h2, h3, hQ⟩
theorem lw_frame {s t : State} {o : Outcome} {args : Array Value} (h : Framed s o t [] 600000 7302250) :
    Framed s o t (fieldLocs frame_1_writes args s ++ arrayLocs frame_1_arrays args s ++ staticLocs frame_1_statics s) 600000 7302250 := h
theorem lw_limb (L : Cond) (hL : ∀ (args : Array Value) (s t : State), L.after args s (.returned (some (.int 1))) t = true) :
    ArmFor flags0 classFile x code maxLocals ret World_1 tables_1 room_1 Calls_1 rest_1 Pre_1
      (fun tb e a s o t => postC L tb e a s o t ∧ Framed s o t (fieldLocs frame_1_writes a s ++ arrayLocs frame_1_arrays a s ++ staticLocs frame_1_statics s) 600000 7302250) := by
  intro l hflags _ _ p e ha hc hk s m args below hf hfit hheap happ hpre
  obtain ⟨k, o, h1, h2, h3, rfl, hF⟩ := lw_comes l hflags p e ha hc hk s m args below hf hfit hheap happ hpre
  exact ⟨k, _, h1, h2, h3, hL args s _, lw_frame hF⟩
theorem i_vc : Claimed_1_1 ∧ Claimed_1_2 := ⟨lw_limb limb_1_1 (fun args s t => by simp [limb_1_1, Cond.after, Cond.holds, Cond.value]), lw_limb limb_1_2 (fun args s t => Cond.after_iff.mpr (by
  first | (rw [show limb_1_2 = Cond.eq .result (.int 1) from rfl, Cond.eq_ints (x := 1) (y := 1) rfl rfl]; simp; done) | (simp [limb_1_2, Cond.value, Term.eval]; done)))⟩
