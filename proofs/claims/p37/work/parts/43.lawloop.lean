set_option maxHeartbeats 8000000 in
set_option maxRecDepth 100000 in
theorem law_loop {p : Program} {e : Env} {s : State} {m : MethodId} {below : List Frame} {meth : Method} {c : Code} (l : Launch) {b L : Nat} {xs : Nat → Int32} (C0 : lw_At p s m meth c b L xs) (hL : L ≤ 3072) {D : va_G} {cs : Nat → ClassId} {fa fq : Nat → Nat} (hK : va_K D vwCl (TY cs) s) (hZ : ZS (fun q : Nat => s.heap.size ≤ q) s) {x0 y0 : Nat} : ∀ (n : Nat) {i : Int32} (hi0 : 0 ≤ i.toInt) (hi9 : i.toInt ≤ 3100) (hn : (L : Int) - i.toInt < (n : Int)) (ad rv : Nat → Nat) (v : Nat → Int32) (a : Nat → Nat → Int32) (w : Nat → Nat → Int64) (fv fp : Nat → Nat → Int32) (bd : Nat → Nat) (u : Nat → Int32) (b_ : Nat → Nat → Int32) (bw : Nat → Nat → Int64) (H : Heap) (locs : List Loc) (ls : Array Slot) (hl : lv_has ls 4 [(0, .ref b), (1, .ref x0), (2, .ref y0), (3, .int i)]) (hx0 : ad 0 = x0) (hy0 : bd 0 = y0) (hI : CI v a fv) (hR : RI u b_ bw) (hE : REL v a w fv u b_ bw) (hP : va_P D vwCl (CW cs ad fa fq rv v a w fv fp ++ RW cs bd u b_ bw) H) (hD : va_D (fun q : Nat => s.heap.size ≤ q) (CW cs ad fa fq rv v a w fv fp ++ RW cs bd u b_ bw)) (hS : va_S (fun q : Nat => s.heap.size ≤ q) s.heap H locs), W p l e room_1 s m #[Value.ref b] below meth c H locs 200 9000 (lw_Z below #[Value.ref b] s) (F0 m 18 ls []) := by
  obtain ⟨hx, hb, hr, hml, hown, hts, hX, hbl, hlocks, hgv⟩ := id C0
  have hg : ∀ w ∈ gw, w.before #[Value.ref b] s = true := fun w h => hts w (gw_in w h)
  have hbA : ¬ (fun q : Nat => s.heap.size ≤ q) b := Nat.not_le.mpr hbl
  intro n
  induction n with
  | zero =>
    intro i hi0 hi9 hn ad rv v a w fv fp bd u b_ bw H locs ls hl hx0 hy0 hI hR hE hP hD hS
    refine lv_iload_n hx hb dL_law_18 rfl (lv_at hl 3 rfl) ?_
    refine lv_aload_n hx hb dL_law_19 rfl (lv_at hl 0 rfl) ?_
    refine va_slen hx hb hX hbl hbA hS dL_law_20 ?_
    refine lv_bipush (v := 6) hx hb dL_law_21 (by decide) ?_
    refine lv_isub hx hb dL_law_23 ?_
    refine lv_topi (fun x ex => ?_)
    have fx : x.toInt = (L : Int) - 6 := by
      have q : (Int32.ofNat L).toInt = (L : Int) := nI_toInt (by omega)
      have q6 : (6 : Int32).toInt = 6 := rfl
      rw [ex, i_sub] <;> omega
    refine lv_icmp_gt (tgt := 1393) hx hb dL_law_24 (by decide) (fun cc => ?_) (fun cc => ?_)
    ·
      refine lv_iconst (v := 1) hx hb dL_law_1393 (by decide) ?_
      refine va_forget (fun q hq => hS.2.2 q hq) ?_
      refine W.widen (k := 600000) (n := 7302250) (Nat.le_of_ble_eq_true rfl) (Nat.le_of_ble_eq_true rfl) ?_
      exact lw_ret hx hb hr hlocks dL_law_1394
    ·
      have kc := i_nlt cc
      exfalso; omega
  | succ n ih =>
    intro i hi0 hi9 hn ad rv v a w fv fp bd u b_ bw H locs ls hl hx0 hy0 hI hR hE hP hD hS
    refine lv_iload_n hx hb dL_law_18 rfl (lv_at hl 3 rfl) ?_
    refine lv_aload_n hx hb dL_law_19 rfl (lv_at hl 0 rfl) ?_
    refine va_slen hx hb hX hbl hbA hS dL_law_20 ?_
    refine lv_bipush (v := 6) hx hb dL_law_21 (by decide) ?_
    refine lv_isub hx hb dL_law_23 ?_
    refine lv_topi (fun x ex => ?_)
    have fx : x.toInt = (L : Int) - 6 := by
      have q : (Int32.ofNat L).toInt = (L : Int) := nI_toInt (by omega)
      have q6 : (6 : Int32).toInt = 6 := rfl
      rw [ex, i_sub] <;> omega
    refine lv_icmp_gt (tgt := 1393) hx hb dL_law_24 (by decide) (fun cc => ?_) (fun cc => ?_)
    ·
      refine lv_iconst (v := 1) hx hb dL_law_1393 (by decide) ?_
      refine va_forget (fun q hq => hS.2.2 q hq) ?_
      refine W.widen (k := 600000) (n := 7302250) (Nat.le_of_ble_eq_true rfl) (Nat.le_of_ble_eq_true rfl) ?_
      exact lw_ret hx hb hr hlocks dL_law_1394
    ·
      have kc := i_nlt cc
      have tail : ∀ (ad rv : Nat → Nat) (v : Nat → Int32) (a : Nat → Nat → Int32) (w : Nat → Nat → Int64) (fv fp : Nat → Nat → Int32) (bd : Nat → Nat) (u : Nat → Int32) (b_ : Nat → Nat → Int32) (bw : Nat → Nat → Int64) (H : Heap) (locs : List Loc) (ls : Array Slot) (hx0 : ad 0 = x0) (hy0 : bd 0 = y0) (hI : CI v a fv) (hR : RI u b_ bw) (hE : REL v a w fv u b_ bw) (hP : va_P D vwCl (CW cs ad fa fq rv v a w fv fp ++ RW cs bd u b_ bw) H) (hD : va_D (fun q : Nat => s.heap.size ≤ q) (CW cs ad fa fq rv v a w fv fp ++ RW cs bd u b_ bw)) (hS : va_S (fun q : Nat => s.heap.size ≤ q) s.heap H locs) (hl : lv_has ls 4 [(0, .ref b), (1, .ref x0), (2, .ref y0), (3, .int i)]), W p l e room_1 s m #[Value.ref b] below meth c H locs 200 9000 (lw_Z below #[Value.ref b] s) (F0 m 1387 ls []) := by
        intro ad rv v a w fv fp bd u b_ bw H locs ls hx0 hy0 hI hR hE hP hD hS hl
        obtain ⟨j, ej⟩ : ∃ y : Int32, y = i + 6 := ⟨_, rfl⟩
        have fj : j.toInt = i.toInt + 6 := by rw [ej]; exact i_add (by show _ ≤ i.toInt + (6 : Int32).toInt; have q : (6 : Int32).toInt = 6 := rfl; omega) (by show i.toInt + (6 : Int32).toInt ≤ _; have q : (6 : Int32).toInt = 6 := rfl; omega)
        refine lv_iinc (v := j) (lv' := [(3, .int j), (0, .ref b), (1, .ref x0), (2, .ref y0)]) hx hb dL_law_1387 hl (k := 3) rfl (by rw [ej]; rfl) (by decide) rfl (fun ls hl => ?_)
        refine lv_goto (tgt := 18) hx hb dL_law_1390 (by decide) ?_
        exact ih (by omega) (by omega) (by omega) ad rv v a w fv fp bd u b_ bw H locs ls (lv_sub hl [1, 2, 3, 0] rfl) hx0 hy0 hI hR hE hP hD hS
      refine lv_aload_n hx hb dL_law_27 rfl (lv_at hl 0 rfl) ?_
      refine lv_iload_n hx hb dL_law_28 rfl (lv_at hl 3 rfl) ?_
      refine va_sld hx hb hX hbl hbA hS (i_in (by omega) (by omega)) dL_law_29 ?_
      refine lv_bipush (v := 63) hx hb dL_law_30 (by decide) ?_
      refine lv_iand hx hb dL_law_32 ?_
      refine lv_topi (fun t_0 et_0 => ?_)
      rcases (show t_0.toInt = 0 ∨ t_0.toInt = 1 ∨ t_0.toInt = 2 ∨ t_0.toInt = 3 ∨ t_0.toInt = 4 ∨ t_0.toInt = 5 ∨ t_0.toInt = 6 ∨ t_0.toInt = 7 ∨ t_0.toInt = 8 ∨ t_0.toInt = 9 ∨ t_0.toInt = 10 ∨ t_0.toInt = 11 ∨ t_0.toInt = 12 ∨ t_0.toInt = 13 ∨ t_0.toInt = 14 ∨ t_0.toInt = 15 ∨ t_0.toInt = 16 ∨ t_0.toInt = 17 ∨ t_0.toInt = 18 ∨ t_0.toInt = 19 ∨ t_0.toInt = 20 ∨ t_0.toInt = 21 ∨ t_0.toInt = 22 ∨ t_0.toInt = 23 ∨ t_0.toInt = 24 ∨ t_0.toInt = 25 ∨ t_0.toInt = 26 ∨ t_0.toInt = 27 ∨ t_0.toInt = 28 ∨ t_0.toInt = 29 ∨ t_0.toInt = 30 ∨ t_0.toInt = 31 ∨ t_0.toInt = 32 ∨ t_0.toInt = 33 ∨ t_0.toInt = 34 ∨ t_0.toInt = 35 ∨ t_0.toInt = 36 ∨ (t_0.toInt < 0 ∨ 36 < t_0.toInt) by omega) with kt | kt | kt | kt | kt | kt | kt | kt | kt | kt | kt | kt | kt | kt | kt | kt | kt | kt | kt | kt | kt | kt | kt | kt | kt | kt | kt | kt | kt | kt | kt | kt | kt | kt | kt | kt | kt | kt
      ·
        refine lv_tableIn (tgt := 196) hx hb dL_law_33 (by omega) (by omega) (off := 163) (by rw [kt]; rfl) (by decide) ?_
        exact lc_person l C0 hL hK hZ hi0 (by omega) ad rv v a w fv fp bd u b_ bw H locs ls hl hx0 hy0 hI hR hE hP hD hS tail
      ·
        refine lv_tableIn (tgt := 219) hx hb dL_law_33 (by omega) (by omega) (off := 186) (by rw [kt]; rfl) (by decide) ?_
        exact lc_people l C0 hL hK hZ hi0 (by omega) ad rv v a w fv fp bd u b_ bw H locs ls hl hx0 hy0 hI hR hE hP hD hS tail
      ·
        refine lv_tableIn (tgt := 262) hx hb dL_law_33 (by omega) (by omega) (off := 229) (by rw [kt]; rfl) (by decide) ?_
        exact lc_mend l C0 hL hK hZ hi0 (by omega) ad rv v a w fv fp bd u b_ bw H locs ls hl hx0 hy0 hI hR hE hP hD hS tail
      ·
        refine lv_tableIn (tgt := 305) hx hb dL_law_33 (by omega) (by omega) (off := 272) (by rw [kt]; rfl) (by decide) ?_
        exact lc_of l C0 hL hK hZ hi0 (by omega) ad rv v a w fv fp bd u b_ bw H locs ls hl hx0 hy0 hI hR hE hP hD hS tail
      ·
        refine lv_tableIn (tgt := 338) hx hb dL_law_33 (by omega) (by omega) (off := 305) (by rw [kt]; rfl) (by decide) ?_
        exact lc_feed l C0 hL hK hZ hi0 (by omega) ad rv v a w fv fp bd u b_ bw H locs ls hl hx0 hy0 hI hR hE hP hD hS tail
      ·
        refine lv_tableIn (tgt := 361) hx hb dL_law_33 (by omega) (by omega) (off := 328) (by rw [kt]; rfl) (by decide) ?_
        exact lc_law l C0 hL hK hZ hi0 (by omega) ad rv v a w fv fp bd u b_ bw H locs ls hl hx0 hy0 hI hR hE hP hD hS tail
      ·
        refine lv_tableIn (tgt := 374) hx hb dL_law_33 (by omega) (by omega) (off := 341) (by rw [kt]; rfl) (by decide) ?_
        exact lc_loud l C0 hL hK hZ hi0 (by omega) ad rv v a w fv fp bd u b_ bw H locs ls hl hx0 hy0 hI hR hE hP hD hS tail
      ·
        refine lv_tableIn (tgt := 397) hx hb dL_law_33 (by omega) (by omega) (off := 364) (by rw [kt]; rfl) (by decide) ?_
        exact lc_day l C0 hL hK hZ hi0 (by omega) ad rv v a w fv fp bd u b_ bw H locs ls hl hx0 hy0 hI hR hE hP hD hS tail
      ·
        refine lv_tableIn (tgt := 440) hx hb dL_law_33 (by omega) (by omega) (off := 407) (by rw [kt]; rfl) (by decide) ?_
        exact lc_stung l C0 hL hK hZ hi0 (by omega) ad rv v a w fv fp bd u b_ bw H locs ls hl hx0 hy0 hI hR hE hP hD hS tail
      ·
        refine lv_tableIn (tgt := 493) hx hb dL_law_33 (by omega) (by omega) (off := 460) (by rw [kt]; rfl) (by decide) ?_
        exact lc_reach l C0 hL hK hZ hi0 (by omega) ad rv v a w fv fp bd u b_ bw H locs ls hl hx0 hy0 hI hR hE hP hD hS tail
      ·
        refine lv_tableIn (tgt := 506) hx hb dL_law_33 (by omega) (by omega) (off := 473) (by rw [kt]; rfl) (by decide) ?_
        exact lc_soon l C0 hL hK hZ hi0 (by omega) ad rv v a w fv fp bd u b_ bw H locs ls hl hx0 hy0 hI hR hE hP hD hS tail
      ·
        refine lv_tableIn (tgt := 529) hx hb dL_law_33 (by omega) (by omega) (off := 496) (by rw [kt]; rfl) (by decide) ?_
        exact lc_passOn l C0 hL hK hZ hi0 (by omega) ad rv v a w fv fp bd u b_ bw H locs ls hl hx0 hy0 hI hR hE hP hD hS tail
      ·
        refine lv_tableIn (tgt := 572) hx hb dL_law_33 (by omega) (by omega) (off := 539) (by rw [kt]; rfl) (by decide) ?_
        exact lc_orders l C0 hL hK hZ hi0 (by omega) ad rv v a w fv fp bd u b_ bw H locs ls hl hx0 hy0 hI hR hE hP hD hS tail
      ·
        refine lv_tableIn (tgt := 605) hx hb dL_law_33 (by omega) (by omega) (off := 572) (by rw [kt]; rfl) (by decide) ?_
        exact lc_stand l C0 hL hK hZ hi0 (by omega) ad rv v a w fv fp bd u b_ bw H locs ls hl hx0 hy0 hI hR hE hP hD hS tail
      ·
        refine lv_tableIn (tgt := 648) hx hb dL_law_33 (by omega) (by omega) (off := 615) (by rw [kt]; rfl) (by decide) ?_
        exact lc_lastWord l C0 hL hK hZ hi0 (by omega) ad rv v a w fv fp bd u b_ bw H locs ls hl hx0 hy0 hI hR hE hP hD hS tail
      ·
        refine lv_tableIn (tgt := 691) hx hb dL_law_33 (by omega) (by omega) (off := 658) (by rw [kt]; rfl) (by decide) ?_
        exact lc_crier l C0 hL hK hZ hi0 (by omega) ad rv v a w fv fp bd u b_ bw H locs ls hl hx0 hy0 hI hR hE hP hD hS tail
      ·
        refine lv_tableIn (tgt := 724) hx hb dL_law_33 (by omega) (by omega) (off := 691) (by rw [kt]; rfl) (by decide) ?_
        exact lc_keepNear l C0 hL hK hZ hi0 (by omega) ad rv v a w fv fp bd u b_ bw H locs ls hl hx0 hy0 hI hR hE hP hD hS tail
      ·
        refine lv_tableIn (tgt := 747) hx hb dL_law_33 (by omega) (by omega) (off := 714) (by rw [kt]; rfl) (by decide) ?_
        exact lc_heard l C0 hL hK hZ hi0 (by omega) ad rv v a w fv fp bd u b_ bw H locs ls hl hx0 hy0 hI hR hE hP hD hS tail
      ·
        refine lv_tableIn (tgt := 790) hx hb dL_law_33 (by omega) (by omega) (off := 757) (by rw [kt]; rfl) (by decide) ?_
        exact lc_drawn l C0 hL hK hZ hi0 (by omega) ad rv v a w fv fp bd u b_ bw H locs ls hl hx0 hy0 hI hR hE hP hD hS tail
      ·
        refine lv_tableIn (tgt := 833) hx hb dL_law_33 (by omega) (by omega) (off := 800) (by rw [kt]; rfl) (by decide) ?_
        exact lc_say l C0 hL hK hZ hi0 (by omega) ad rv v a w fv fp bd u b_ bw H locs ls hl hx0 hy0 hI hR hE hP hD hS tail
      ·
        refine lv_tableIn (tgt := 866) hx hb dL_law_33 (by omega) (by omega) (off := 833) (by rw [kt]; rfl) (by decide) ?_
        exact lc_go l C0 hL hK hZ hi0 (by omega) ad rv v a w fv fp bd u b_ bw H locs ls hl hx0 hy0 hI hR hE hP hD hS tail
      ·
        refine lv_tableIn (tgt := 899) hx hb dL_law_33 (by omega) (by omega) (off := 866) (by rw [kt]; rfl) (by decide) ?_
        exact lc_pad l C0 hL hK hZ hi0 (by omega) ad rv v a w fv fp bd u b_ bw H locs ls hl hx0 hy0 hI hR hE hP hD hS tail
      ·
        refine lv_tableIn (tgt := 922) hx hb dL_law_33 (by omega) (by omega) (off := 889) (by rw [kt]; rfl) (by decide) ?_
        exact lc_led l C0 hL hK hZ hi0 (by omega) ad rv v a w fv fp bd u b_ bw H locs ls hl hx0 hy0 hI hR hE hP hD hS tail
      ·
        refine lv_tableIn (tgt := 945) hx hb dL_law_33 (by omega) (by omega) (off := 912) (by rw [kt]; rfl) (by decide) ?_
        exact lc_image l C0 hL hK hZ hi0 (by omega) ad rv v a w fv fp bd u b_ bw H locs ls hl hx0 hy0 hI hR hE hP hD hS tail
      ·
        refine lv_tableIn (tgt := 958) hx hb dL_law_33 (by omega) (by omega) (off := 925) (by rw [kt]; rfl) (by decide) ?_
        exact lc_back l C0 hL hK hZ hi0 (by omega) ad rv v a w fv fp bd u b_ bw H locs ls hl hx0 hy0 hI hR hE hP hD hS tail
      ·
        refine lv_tableIn (tgt := 971) hx hb dL_law_33 (by omega) (by omega) (off := 938) (by rw [kt]; rfl) (by decide) ?_
        exact lc_undo l C0 hL hK hZ hi0 (by omega) ad rv v a w fv fp bd u b_ bw H locs ls hl hx0 hy0 hI hR hE hP hD hS tail
      ·
        refine lv_tableIn (tgt := 984) hx hb dL_law_33 (by omega) (by omega) (off := 951) (by rw [kt]; rfl) (by decide) ?_
        exact lc_redo l C0 hL hK hZ hi0 (by omega) ad rv v a w fv fp bd u b_ bw H locs ls hl hx0 hy0 hI hR hE hP hD hS tail
      ·
        refine lv_tableIn (tgt := 997) hx hb dL_law_33 (by omega) (by omega) (off := 964) (by rw [kt]; rfl) (by decide) ?_
        exact lc_body l C0 hL hK hZ hi0 (by omega) ad rv v a w fv fp bd u b_ bw H locs ls hl hx0 hy0 hI hR hE hP hD hS tail
      ·
        refine lv_tableIn (tgt := 1020) hx hb dL_law_33 (by omega) (by omega) (off := 987) (by rw [kt]; rfl) (by decide) ?_
        exact lc_act l C0 hL hK hZ hi0 (by omega) ad rv v a w fv fp bd u b_ bw H locs ls hl hx0 hy0 hI hR hE hP hD hS tail
      ·
        refine lv_tableIn (tgt := 1063) hx hb dL_law_33 (by omega) (by omega) (off := 1030) (by rw [kt]; rfl) (by decide) ?_
        exact lc_trace l C0 hL hK hZ hi0 (by omega) ad rv v a w fv fp bd u b_ bw H locs ls hl hx0 hy0 hI hR hE hP hD hS tail
      ·
        refine lv_tableIn (tgt := 1086) hx hb dL_law_33 (by omega) (by omega) (off := 1053) (by rw [kt]; rfl) (by decide) ?_
        exact lc_keep l C0 hL hK hZ hi0 (by omega) ad rv v a w fv fp bd u b_ bw H locs ls hl hx0 hy0 hI hR hE hP hD hS tail
      ·
        refine lv_tableIn (tgt := 1119) hx hb dL_law_33 (by omega) (by omega) (off := 1086) (by rw [kt]; rfl) (by decide) ?_
        exact lc_row l C0 hL hK hZ hi0 (by omega) ad rv v a w fv fp bd u b_ bw H locs ls hl hx0 hy0 hI hR hE hP hD hS tail
      ·
        refine lv_tableIn (tgt := 1162) hx hb dL_law_33 (by omega) (by omega) (off := 1129) (by rw [kt]; rfl) (by decide) ?_
        exact lc_put l C0 hL hK hZ hi0 (by omega) ad rv v a w fv fp bd u b_ bw H locs ls hl hx0 hy0 hI hR hE hP hD hS tail
      ·
        refine lv_tableIn (tgt := 1235) hx hb dL_law_33 (by omega) (by omega) (off := 1202) (by rw [kt]; rfl) (by decide) ?_
        exact lc_element l C0 hL hK hZ hi0 (by omega) ad rv v a w fv fp bd u b_ bw H locs ls hl hx0 hy0 hI hR hE hP hD hS tail
      ·
        refine lv_tableIn (tgt := 1268) hx hb dL_law_33 (by omega) (by omega) (off := 1235) (by rw [kt]; rfl) (by decide) ?_
        exact lc_shift l C0 hL hK hZ hi0 (by omega) ad rv v a w fv fp bd u b_ bw H locs ls hl hx0 hy0 hI hR hE hP hD hS tail
      ·
        refine lv_tableIn (tgt := 1331) hx hb dL_law_33 (by omega) (by omega) (off := 1298) (by rw [kt]; rfl) (by decide) ?_
        exact lc_taken l C0 hL hK hZ hi0 (by omega) ad rv v a w fv fp bd u b_ bw H locs ls hl hx0 hy0 hI hR hE hP hD hS tail
      ·
        refine lv_tableIn (tgt := 1364) hx hb dL_law_33 (by omega) (by omega) (off := 1331) (by rw [kt]; rfl) (by decide) ?_
        exact lc_count l C0 hL hK hZ hi0 (by omega) ad rv v a w fv fp bd u b_ bw H locs ls hl hx0 hy0 hI hR hE hP hD hS tail
      ·
        refine lv_tableOut (tgt := 1387) hx hb dL_law_33 kt (by decide) ?_
        exact tail ad rv v a w fv fp bd u b_ bw H locs ls hx0 hy0 hI hR hE hP hD hS hl
