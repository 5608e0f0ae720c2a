set_option maxHeartbeats 4000000 in
set_option maxRecDepth 100000 in
theorem k_X12_shift (l : Launch) (D : va_G) (cs : Nat → ClassId) (A : Nat → Prop) (bd : Nat → Nat) (u : Nat → Int32) (b : Nat → Nat → Int32) (bw : Nat → Nat → Int64)  (p1 : Int32) (p2 : Int32) (p3 : Int32) (p4 : Int32) (p5 : Int32) (ib66_0 : AB (-6) 49 (b 66)) (ib67_0 : AB 0 60 (b 67)) : Met l yX12_shift (Cond.code yX12_shift cX12_shift 7 (some .int) :: gw) ({ frames := 2, cells := 0, slots := 0, locals := 42 }) (va_Pc [.ref (bd 0), .int p1, .int p2, .int p3, .int p4, .int p5] (XPre D (TY cs) (RW cs bd u b bw) A)) (va_Qi (fun (r : Int32) (z : (Nat → Int64) × (Nat → Int64)) => ((¬ ((0 ≤ p1.toInt ∧ p1.toInt < 6) ∧ 0 ≤ p3.toInt ∧ p3.toInt < 6) ∧ r.toInt = -1) ∨ (((0 ≤ p1.toInt ∧ p1.toInt < 6) ∧ 0 ≤ p3.toInt ∧ p3.toInt < 6) ∧ (((((b 66) p1.toNatClampNeg).toInt = -1 ∨ ((b 66) p3.toNatClampNeg).toInt = -1) ∧ r.toInt = -11) ∨ (¬ (((b 66) p1.toNatClampNeg).toInt = -1 ∨ ((b 66) p3.toNatClampNeg).toInt = -1) ∧ ¬ (((b 66) p1.toNatClampNeg).toInt < 0 ∧ ((b 66) p1.toNatClampNeg).toInt = ((b 66) p3.toNatClampNeg).toInt) ∧ r.toInt = -12) ∨ (¬ (((b 66) p1.toNatClampNeg).toInt = -1 ∨ ((b 66) p3.toNatClampNeg).toInt = -1) ∧ (((b 66) p1.toNatClampNeg).toInt < 0 ∧ ((b 66) p1.toNatClampNeg).toInt = ((b 66) p3.toNatClampNeg).toInt) ∧ ¬ (0 ≤ p2.toInt ∧ 0 ≤ p4.toInt ∧ 0 ≤ p5.toInt ∧ p2.toInt + p5.toInt ≤ ((b 67) p1.toNatClampNeg).toInt ∧ p4.toInt + p5.toInt ≤ ((b 67) p3.toNatClampNeg).toInt) ∧ r.toInt = -13) ∨ (¬ (((b 66) p1.toNatClampNeg).toInt = -1 ∨ ((b 66) p3.toNatClampNeg).toInt = -1) ∧ (((b 66) p1.toNatClampNeg).toInt < 0 ∧ ((b 66) p1.toNatClampNeg).toInt = ((b 66) p3.toNatClampNeg).toInt) ∧ (0 ≤ p2.toInt ∧ 0 ≤ p4.toInt ∧ 0 ≤ p5.toInt ∧ p2.toInt + p5.toInt ≤ ((b 67) p1.toNatClampNeg).toInt ∧ p4.toInt + p5.toInt ≤ ((b 67) p3.toNatClampNeg).toInt) ∧ r.toInt = p5.toInt)))) ∧ (0 ≤ r.toInt → (∀ t, t < p5.toNatClampNeg → z.1 (60 * p3.toNatClampNeg + p4.toNatClampNeg + t) = (bw 68) (60 * p1.toNatClampNeg + p2.toNatClampNeg + t)) ∧ (∀ t, (t < 60 * p3.toNatClampNeg + p4.toNatClampNeg ∨ 60 * p3.toNatClampNeg + p4.toNatClampNeg + p5.toNatClampNeg ≤ t) → z.1 t = (bw 68) t)) ∧ (r.toInt < 0 → z.1 = (bw 68))) (XPo D (fun (z : (Nat → Int64) × (Nat → Int64)) => RW cs bd u b (va_up (va_up bw 68 z.1) 69 z.2)) A) A) 0 0 A := by
  refine Met.ofW (cc := cX12_shift) (maxL := 7) (ret := (some .int)) (by decide) rfl ?_
  intro p e s m args below meth c s₁ B hml hv
  obtain ⟨rfl, hP, hK, hD, hZ⟩ := hv
  have hx := B.exec
  have hb := B.bytes
  have hr := B.returns
  have hts := atoms_spec (ws := (Cond.code yX12_shift cX12_shift 7 (some .int) :: gw)) B.pre
  have hg : ∀ w ∈ gw, w.before ([.ref (bd 0), .int p1, .int p2, .int p3, .int p4, .int p5] : List Value).toArray s = true := fun w h => hts w (List.mem_cons_of_mem _ h)
  have hown : s.vm.findClass RX12 = some m.cls := findClass_of_methodNamed B.named
  have hlocks := B.notSynchronized
  have hS : va_S A s.heap s.heap [] := va_S.rf
  have hP : va_P D vwCl (RW cs bd u b bw) s.heap := hP
  have zp1 : p1.toNatClampNeg = p1.toInt.toNat := rfl
  have zp2 : p2.toNatClampNeg = p2.toInt.toNat := rfl
  have zp3 : p3.toNatClampNeg = p3.toInt.toNat := rfl
  have zp4 : p4.toNatClampNeg = p4.toInt.toNat := rfl
  have zp5 : p5.toNatClampNeg = p5.toInt.toNat := rfl
  have hl := lv_entry ([.ref (bd 0), .int p1, .int p2, .int p3, .int p4, .int p5]) (n := 7) (Nat.le_of_ble_eq_true rfl)
  rw [lg_entry_eq]
  generalize (lg_sl ([.ref (bd 0), .int p1, .int p2, .int p3, .int p4, .int p5]) ++ List.replicate (7 - (lg_sl ([.ref (bd 0), .int p1, .int p2, .int p3, .int p4, .int p5])).length) Slot.unset).toArray = ls at hl ⊢
  have hl : lv_has ls 7 [(0, .ref (bd 0)), (1, .int p1), (2, .int p2), (3, .int p3), (4, .int p4), (5, .int p5)] := hl
  have hcut : ∀ nk : Nat, (∀ (x6 : Int32) (c113_bw69 : Nat → Int64) (H : Heap) (locs : List Loc) (j1 : 0 ≤ p1.toInt) (j2 : p1.toInt < 6) (j3 : 0 ≤ p3.toInt) (j4 : p3.toInt < 6) (j5 : 0 ≤ p2.toInt) (j6 : 0 ≤ p4.toInt) (j7 : 0 ≤ p5.toInt) (j8 : p2.toInt + p5.toInt ≤ 60) (j9 : p4.toInt + p5.toInt ≤ 60) (hne : ¬ (((b 66) p1.toNatClampNeg).toInt = -1 ∨ ((b 66) p3.toNatClampNeg).toInt = -1)) (hki : (((b 66) p1.toNatClampNeg).toInt < 0 ∧ ((b 66) p1.toNatClampNeg).toInt = ((b 66) p3.toNatClampNeg).toInt)) (hrn : (0 ≤ p2.toInt ∧ 0 ≤ p4.toInt ∧ 0 ≤ p5.toInt ∧ p2.toInt + p5.toInt ≤ ((b 67) p1.toNatClampNeg).toInt ∧ p4.toInt + p5.toInt ≤ ((b 67) p3.toNatClampNeg).toInt)) (i6 : 0 ≤ x6.toInt) (i6b : x6.toInt ≤ p5.toInt) (hs1 : ∀ t, t < x6.toInt.toNat → c113_bw69 t = (bw 68) (60 * p1.toNatClampNeg + p2.toNatClampNeg + t)) (hmu : 100 + (p5.toInt - x6.toInt).toNat < nk) (hP : va_P D vwCl (RW cs bd u b (va_up bw 69 c113_bw69)) H) (hD : va_D A (RW cs bd u b (va_up bw 69 c113_bw69))) (hS : va_S A s.heap H locs) (ls : Array Slot) (hl : lv_has ls 7 [(0, .ref (bd 0)), (1, .int p1), (2, .int p2), (3, .int p3), (4, .int p4), (5, .int p5), (6, .int x6)]), W p l e (headSpec (Cond.code yX12_shift cX12_shift 7 (some .int) :: gw) ({ frames := 2, cells := 0, slots := 0, locals := 42 })).room s m ([.ref (bd 0), .int p1, .int p2, .int p3, .int p4, .int p5] : List Value).toArray below meth c H locs 0 0 (MQ below (va_Qi (fun (r : Int32) (z : (Nat → Int64) × (Nat → Int64)) => ((¬ ((0 ≤ p1.toInt ∧ p1.toInt < 6) ∧ 0 ≤ p3.toInt ∧ p3.toInt < 6) ∧ r.toInt = -1) ∨ (((0 ≤ p1.toInt ∧ p1.toInt < 6) ∧ 0 ≤ p3.toInt ∧ p3.toInt < 6) ∧ (((((b 66) p1.toNatClampNeg).toInt = -1 ∨ ((b 66) p3.toNatClampNeg).toInt = -1) ∧ r.toInt = -11) ∨ (¬ (((b 66) p1.toNatClampNeg).toInt = -1 ∨ ((b 66) p3.toNatClampNeg).toInt = -1) ∧ ¬ (((b 66) p1.toNatClampNeg).toInt < 0 ∧ ((b 66) p1.toNatClampNeg).toInt = ((b 66) p3.toNatClampNeg).toInt) ∧ r.toInt = -12) ∨ (¬ (((b 66) p1.toNatClampNeg).toInt = -1 ∨ ((b 66) p3.toNatClampNeg).toInt = -1) ∧ (((b 66) p1.toNatClampNeg).toInt < 0 ∧ ((b 66) p1.toNatClampNeg).toInt = ((b 66) p3.toNatClampNeg).toInt) ∧ ¬ (0 ≤ p2.toInt ∧ 0 ≤ p4.toInt ∧ 0 ≤ p5.toInt ∧ p2.toInt + p5.toInt ≤ ((b 67) p1.toNatClampNeg).toInt ∧ p4.toInt + p5.toInt ≤ ((b 67) p3.toNatClampNeg).toInt) ∧ r.toInt = -13) ∨ (¬ (((b 66) p1.toNatClampNeg).toInt = -1 ∨ ((b 66) p3.toNatClampNeg).toInt = -1) ∧ (((b 66) p1.toNatClampNeg).toInt < 0 ∧ ((b 66) p1.toNatClampNeg).toInt = ((b 66) p3.toNatClampNeg).toInt) ∧ (0 ≤ p2.toInt ∧ 0 ≤ p4.toInt ∧ 0 ≤ p5.toInt ∧ p2.toInt + p5.toInt ≤ ((b 67) p1.toNatClampNeg).toInt ∧ p4.toInt + p5.toInt ≤ ((b 67) p3.toNatClampNeg).toInt) ∧ r.toInt = p5.toInt)))) ∧ (0 ≤ r.toInt → (∀ t, t < p5.toNatClampNeg → z.1 (60 * p3.toNatClampNeg + p4.toNatClampNeg + t) = (bw 68) (60 * p1.toNatClampNeg + p2.toNatClampNeg + t)) ∧ (∀ t, (t < 60 * p3.toNatClampNeg + p4.toNatClampNeg ∨ 60 * p3.toNatClampNeg + p4.toNatClampNeg + p5.toNatClampNeg ≤ t) → z.1 t = (bw 68) t)) ∧ (r.toInt < 0 → z.1 = (bw 68))) (XPo D (fun (z : (Nat → Int64) × (Nat → Int64)) => RW cs bd u b (va_up (va_up bw 68 z.1) 69 z.2)) A) A) ([.ref (bd 0), .int p1, .int p2, .int p3, .int p4, .int p5] : List Value).toArray s 0 0 A) (F0 m 113 ls [])) ∧ (∀ (x6 : Int32) (c150_bw68 : Nat → Int64) (c150_bw69 : Nat → Int64) (H : Heap) (locs : List Loc) (j1 : 0 ≤ p1.toInt) (j2 : p1.toInt < 6) (j3 : 0 ≤ p3.toInt) (j4 : p3.toInt < 6) (j5 : 0 ≤ p2.toInt) (j6 : 0 ≤ p4.toInt) (j7 : 0 ≤ p5.toInt) (j8 : p2.toInt + p5.toInt ≤ 60) (j9 : p4.toInt + p5.toInt ≤ 60) (hne : ¬ (((b 66) p1.toNatClampNeg).toInt = -1 ∨ ((b 66) p3.toNatClampNeg).toInt = -1)) (hki : (((b 66) p1.toNatClampNeg).toInt < 0 ∧ ((b 66) p1.toNatClampNeg).toInt = ((b 66) p3.toNatClampNeg).toInt)) (hrn : (0 ≤ p2.toInt ∧ 0 ≤ p4.toInt ∧ 0 ≤ p5.toInt ∧ p2.toInt + p5.toInt ≤ ((b 67) p1.toNatClampNeg).toInt ∧ p4.toInt + p5.toInt ≤ ((b 67) p3.toNatClampNeg).toInt)) (i6 : 0 ≤ x6.toInt) (i6b : x6.toInt ≤ p5.toInt) (hsh : ∀ t, t < p5.toInt.toNat → c150_bw69 t = (bw 68) (60 * p1.toNatClampNeg + p2.toNatClampNeg + t)) (h1s : ∀ t, t < x6.toInt.toNat → c150_bw68 (60 * p3.toNatClampNeg + p4.toNatClampNeg + t) = (bw 68) (60 * p1.toNatClampNeg + p2.toNatClampNeg + t)) (h2s : ∀ t, (t < 60 * p3.toNatClampNeg + p4.toNatClampNeg ∨ 60 * p3.toNatClampNeg + p4.toNatClampNeg + x6.toInt.toNat ≤ t) → c150_bw68 t = (bw 68) t) (hmu : (p5.toInt - x6.toInt).toNat < nk) (hP : va_P D vwCl (RW cs bd u b (va_up (va_up bw 68 c150_bw68) 69 c150_bw69)) H) (hD : va_D A (RW cs bd u b (va_up (va_up bw 68 c150_bw68) 69 c150_bw69))) (hS : va_S A s.heap H locs) (ls : Array Slot) (hl : lv_has ls 7 [(0, .ref (bd 0)), (1, .int p1), (2, .int p2), (3, .int p3), (4, .int p4), (5, .int p5), (6, .int x6)]), W p l e (headSpec (Cond.code yX12_shift cX12_shift 7 (some .int) :: gw) ({ frames := 2, cells := 0, slots := 0, locals := 42 })).room s m ([.ref (bd 0), .int p1, .int p2, .int p3, .int p4, .int p5] : List Value).toArray below meth c H locs 0 0 (MQ below (va_Qi (fun (r : Int32) (z : (Nat → Int64) × (Nat → Int64)) => ((¬ ((0 ≤ p1.toInt ∧ p1.toInt < 6) ∧ 0 ≤ p3.toInt ∧ p3.toInt < 6) ∧ r.toInt = -1) ∨ (((0 ≤ p1.toInt ∧ p1.toInt < 6) ∧ 0 ≤ p3.toInt ∧ p3.toInt < 6) ∧ (((((b 66) p1.toNatClampNeg).toInt = -1 ∨ ((b 66) p3.toNatClampNeg).toInt = -1) ∧ r.toInt = -11) ∨ (¬ (((b 66) p1.toNatClampNeg).toInt = -1 ∨ ((b 66) p3.toNatClampNeg).toInt = -1) ∧ ¬ (((b 66) p1.toNatClampNeg).toInt < 0 ∧ ((b 66) p1.toNatClampNeg).toInt = ((b 66) p3.toNatClampNeg).toInt) ∧ r.toInt = -12) ∨ (¬ (((b 66) p1.toNatClampNeg).toInt = -1 ∨ ((b 66) p3.toNatClampNeg).toInt = -1) ∧ (((b 66) p1.toNatClampNeg).toInt < 0 ∧ ((b 66) p1.toNatClampNeg).toInt = ((b 66) p3.toNatClampNeg).toInt) ∧ ¬ (0 ≤ p2.toInt ∧ 0 ≤ p4.toInt ∧ 0 ≤ p5.toInt ∧ p2.toInt + p5.toInt ≤ ((b 67) p1.toNatClampNeg).toInt ∧ p4.toInt + p5.toInt ≤ ((b 67) p3.toNatClampNeg).toInt) ∧ r.toInt = -13) ∨ (¬ (((b 66) p1.toNatClampNeg).toInt = -1 ∨ ((b 66) p3.toNatClampNeg).toInt = -1) ∧ (((b 66) p1.toNatClampNeg).toInt < 0 ∧ ((b 66) p1.toNatClampNeg).toInt = ((b 66) p3.toNatClampNeg).toInt) ∧ (0 ≤ p2.toInt ∧ 0 ≤ p4.toInt ∧ 0 ≤ p5.toInt ∧ p2.toInt + p5.toInt ≤ ((b 67) p1.toNatClampNeg).toInt ∧ p4.toInt + p5.toInt ≤ ((b 67) p3.toNatClampNeg).toInt) ∧ r.toInt = p5.toInt)))) ∧ (0 ≤ r.toInt → (∀ t, t < p5.toNatClampNeg → z.1 (60 * p3.toNatClampNeg + p4.toNatClampNeg + t) = (bw 68) (60 * p1.toNatClampNeg + p2.toNatClampNeg + t)) ∧ (∀ t, (t < 60 * p3.toNatClampNeg + p4.toNatClampNeg ∨ 60 * p3.toNatClampNeg + p4.toNatClampNeg + p5.toNatClampNeg ≤ t) → z.1 t = (bw 68) t)) ∧ (r.toInt < 0 → z.1 = (bw 68))) (XPo D (fun (z : (Nat → Int64) × (Nat → Int64)) => RW cs bd u b (va_up (va_up bw 68 z.1) 69 z.2)) A) A) ([.ref (bd 0), .int p1, .int p2, .int p3, .int p4, .int p5] : List Value).toArray s 0 0 A) (F0 m 150 ls [])) := by
    intro nk
    induction nk with
    | zero => exact ⟨(fun x6 c113_bw69 H locs j1 j2 j3 j4 j5 j6 j7 j8 j9 hne hki hrn i6 i6b hs1 hmu hP hD hS ls hl => absurd hmu (Nat.not_lt_zero _)), (fun x6 c150_bw68 c150_bw69 H locs j1 j2 j3 j4 j5 j6 j7 j8 j9 hne hki hrn i6 i6b hsh h1s h2s hmu hP hD hS ls hl => absurd hmu (Nat.not_lt_zero _))⟩
    | succ nk ih =>
      refine ⟨?_, ?_⟩
      ·
        intro x6 c113_bw69 H locs j1 j2 j3 j4 j5 j6 j7 j8 j9 hne hki hrn i6 i6b hs1 hmu hP hD hS ls hl
        refine lv_iload hx hb dX12_shift_113 (lv_at hl 6 rfl) ?_
        refine lv_iload hx hb dX12_shift_115 (lv_at hl 5 rfl) ?_
        refine lv_icmp_ge (tgt := 147) hx hb dX12_shift_117 (by decide) (fun c_1 => ?_) (fun c_1 => ?_)
        ·
          have kc_1 : p5.toInt ≤ x6.toInt := i_le c_1
          refine lv_iconst (v := 0) hx hb dX12_shift_147 (by decide) ?_
          refine lv_istore (lv' := [(6, .int 0), (0, .ref (bd 0)), (1, .int p1), (2, .int p2), (3, .int p3), (4, .int p4), (5, .int p5)]) hx hb dX12_shift_148 hl (by decide) rfl (fun ls hl => ?_)
          have q0_0 : (0 : Int32).toInt = 0 := rfl
          exact ih.2 0 (bw 68) c113_bw69 _ _ (by omega) (by omega) (by omega) (by omega) (by omega) (by omega) (by omega) (by omega) (by omega) hne hki hrn (by omega) (by omega) (by first | assumption | exact (fun t ht => hs1 t (by omega))) (by first | exact (fun t ht => (Classical.em (t = x6.toNatClampNeg)).elim (fun q => (upl_at (by rw [ki2, q])).trans (by rw [q]; exact kv2)) (fun q => (upl_ne (by rw [ki2]; omega)).trans (h1s t (by have z6 : x6.toNatClampNeg = x6.toInt.toNat := rfl; omega)))) | exact (fun t ht => absurd ht (by have q : (0 : Int32).toInt = 0 := rfl; omega))) (by first | exact (fun t ht => (upl_ne (by rw [ki2]; have z6 : x6.toNatClampNeg = x6.toInt.toNat := rfl; omega)).trans (h2s t (by omega))) | exact (fun t ht => rfl)) (by omega) hP hD hS ls (lv_sub hl [1, 2, 3, 4, 5, 6, 0] rfl)
        ·
          have kc_1 : x6.toInt < p5.toInt := i_nle c_1
          refine lv_aload_n hx hb dX12_shift_120 rfl (lv_at hl 0 rfl) ?_
          refine gr_shifted hx hb hg hown hK hP (hg _ q5_61) dX12_shift_121 ?_
          refine lv_iload hx hb dX12_shift_124 (lv_at hl 6 rfl) ?_
          refine lv_aload_n hx hb dX12_shift_126 rfl (lv_at hl 0 rfl) ?_
          refine gr_elements hx hb hg hown hK hP (hg _ q5_60) dX12_shift_127 ?_
          refine lv_bipush (v := 60) hx hb dX12_shift_130 (by decide) ?_
          refine lv_iload_n hx hb dX12_shift_132 rfl (lv_at hl 1 rfl) ?_
          refine lv_imul hx hb dX12_shift_133 ?_
          refine lv_topi (fun x_2 ex_2 => ?_)
          have fx_2 : x_2.toInt = (60 : Int) * p1.toInt := by rw [ex_2]; exact i_mul (by first | omega | (show _ ≤ (60 : Int) * p1.toInt; omega)) (by first | omega | (show (60 : Int) * p1.toInt ≤ _; omega))
          refine lv_iload_n hx hb dX12_shift_134 rfl (lv_at hl 2 rfl) ?_
          refine lv_iadd hx hb dX12_shift_135 ?_
          refine lv_topi (fun x_3 ex_3 => ?_)
          have fx_3 : x_3.toInt = x_2.toInt + p2.toInt := by rw [ex_3]; exact i_add (by first | omega | (show (_ : Int) ≤ x_2.toInt + p2.toInt; omega)) (by first | omega | (show x_2.toInt + p2.toInt ≤ (_ : Int); omega))
          refine lv_iload hx hb dX12_shift_136 (lv_at hl 6 rfl) ?_
          refine lv_iadd hx hb dX12_shift_138 ?_
          refine lv_topi (fun x_4 ex_4 => ?_)
          have fx_4 : x_4.toInt = x_3.toInt + x6.toInt := by rw [ex_4]; exact i_add (by first | omega | (show (_ : Int) ≤ x_3.toInt + x6.toInt; omega)) (by first | omega | (show x_3.toInt + x6.toInt ≤ (_ : Int); omega))
          refine lr_elements hx hb hK hP (i_in (by omega) (by omega)) dX12_shift_139 ?_
          refine lv_topl (fun x_5 ex_5 => ?_)
          have ex_5 : x_5 = (bw 68) x_4.toNatClampNeg := ex_5
          have kv1 : x_5 = (bw 68) (60 * p1.toNatClampNeg + p2.toNatClampNeg + x6.toNatClampNeg) := by rw [ex_5]; congr 1; show (_ : Int32).toInt.toNat = _; have z6 : x6.toNatClampNeg = x6.toInt.toNat := rfl; omega
          refine sr_shifted hx hb hK hP hD hS (i_in (by omega) (by omega)) dX12_shift_140 (fun H locs hP hD hS => ?_)
          obtain ⟨x_6, ex_6⟩ : ∃ y : Int32, y = x6 + 1 := ⟨_, rfl⟩
          have fx_6 : x_6.toInt = x6.toInt + 1 := by rw [ex_6]; exact i_add (by first | omega | (show (_ : Int) ≤ x6.toInt + 1; omega)) (by first | omega | (show x6.toInt + 1 ≤ (_ : Int); omega))
          refine lv_iinc (v := x_6) (lv' := [(6, .int x_6), (0, .ref (bd 0)), (1, .int p1), (2, .int p2), (3, .int p3), (4, .int p4), (5, .int p5)]) hx hb dX12_shift_141 hl (k := 6) rfl (by rw [ex_6]; rfl) (by decide) rfl (fun ls hl => ?_)
          refine lv_goto (tgt := 113) hx hb dX12_shift_144 (by decide) ?_
          exact ih.1 x_6 (vp_updL c113_bw69 x6.toNatClampNeg x_5) _ _ (by omega) (by omega) (by omega) (by omega) (by omega) (by omega) (by omega) (by omega) (by omega) hne hki hrn (by omega) (by omega) (fun t ht => (Classical.em (t = x6.toNatClampNeg)).elim (fun q => (upl_at q).trans (by rw [q]; exact kv1)) (fun q => (upl_ne q).trans (hs1 t (by have z6 : x6.toNatClampNeg = x6.toInt.toNat := rfl; omega)))) (by omega) hP hD hS ls (lv_sub hl [1, 2, 3, 4, 5, 6, 0] rfl)
      ·
        intro x6 c150_bw68 c150_bw69 H locs j1 j2 j3 j4 j5 j6 j7 j8 j9 hne hki hrn i6 i6b hsh h1s h2s hmu hP hD hS ls hl
        refine lv_iload hx hb dX12_shift_150 (lv_at hl 6 rfl) ?_
        refine lv_iload hx hb dX12_shift_152 (lv_at hl 5 rfl) ?_
        refine lv_icmp_ge (tgt := 185) hx hb dX12_shift_154 (by decide) (fun c_7 => ?_) (fun c_7 => ?_)
        ·
          have kc_7 : p5.toInt ≤ x6.toInt := i_le c_7
          refine lv_iload hx hb dX12_shift_185 (lv_at hl 5 rfl) ?_
          exact W.iret (v := p5) hx hb hr (fun tt ht hW => ⟨⟨p5, ⟨c150_bw68, c150_bw69⟩, rfl, ⟨(Or.inr ⟨⟨⟨j1, j2⟩, j3, j4⟩, Or.inr (Or.inr (Or.inr ⟨hne, hki, hrn, rfl⟩))⟩), (fun _ => ⟨fun t ht => h1s t (by omega), fun t ht => h2s t (by omega)⟩), (fun q => absurd q (by omega))⟩, by rw [ht]; exact hP, hD⟩, hS.F ht⟩) hS.2.2 dX12_shift_187
        ·
          have kc_7 : x6.toInt < p5.toInt := i_nle c_7
          refine lv_aload_n hx hb dX12_shift_157 rfl (lv_at hl 0 rfl) ?_
          refine gr_elements hx hb hg hown hK hP (hg _ q5_60) dX12_shift_158 ?_
          refine lv_bipush (v := 60) hx hb dX12_shift_161 (by decide) ?_
          refine lv_iload_n hx hb dX12_shift_163 rfl (lv_at hl 3 rfl) ?_
          refine lv_imul hx hb dX12_shift_164 ?_
          refine lv_topi (fun x_8 ex_8 => ?_)
          have fx_8 : x_8.toInt = (60 : Int) * p3.toInt := by rw [ex_8]; exact i_mul (by first | omega | (show _ ≤ (60 : Int) * p3.toInt; omega)) (by first | omega | (show (60 : Int) * p3.toInt ≤ _; omega))
          refine lv_iload hx hb dX12_shift_165 (lv_at hl 4 rfl) ?_
          refine lv_iadd hx hb dX12_shift_167 ?_
          refine lv_topi (fun x_9 ex_9 => ?_)
          have fx_9 : x_9.toInt = x_8.toInt + p4.toInt := by rw [ex_9]; exact i_add (by first | omega | (show (_ : Int) ≤ x_8.toInt + p4.toInt; omega)) (by first | omega | (show x_8.toInt + p4.toInt ≤ (_ : Int); omega))
          refine lv_iload hx hb dX12_shift_168 (lv_at hl 6 rfl) ?_
          refine lv_iadd hx hb dX12_shift_170 ?_
          refine lv_topi (fun x_10 ex_10 => ?_)
          have fx_10 : x_10.toInt = x_9.toInt + x6.toInt := by rw [ex_10]; exact i_add (by first | omega | (show (_ : Int) ≤ x_9.toInt + x6.toInt; omega)) (by first | omega | (show x_9.toInt + x6.toInt ≤ (_ : Int); omega))
          refine lv_aload_n hx hb dX12_shift_171 rfl (lv_at hl 0 rfl) ?_
          refine gr_shifted hx hb hg hown hK hP (hg _ q5_61) dX12_shift_172 ?_
          refine lv_iload hx hb dX12_shift_175 (lv_at hl 6 rfl) ?_
          refine lr_shifted hx hb hK hP (i_in (by omega) (by omega)) dX12_shift_177 ?_
          refine lv_topl (fun x_11 ex_11 => ?_)
          have ex_11 : x_11 = c150_bw69 x6.toNatClampNeg := ex_11
          have kv2 : x_11 = (bw 68) (60 * p1.toNatClampNeg + p2.toNatClampNeg + x6.toNatClampNeg) := by rw [ex_11]; exact hsh _ (by have z6 : x6.toNatClampNeg = x6.toInt.toNat := rfl; omega)
          have ki2 : x_10.toNatClampNeg = 60 * p3.toNatClampNeg + p4.toNatClampNeg + x6.toNatClampNeg := by show (x_10).toInt.toNat = _; have z6 : x6.toNatClampNeg = x6.toInt.toNat := rfl; omega
          refine sr_elements hx hb hK hP hD hS (i_in (by omega) (by omega)) dX12_shift_178 (fun H locs hP hD hS => ?_)
          obtain ⟨x_12, ex_12⟩ : ∃ y : Int32, y = x6 + 1 := ⟨_, rfl⟩
          have fx_12 : x_12.toInt = x6.toInt + 1 := by rw [ex_12]; exact i_add (by first | omega | (show (_ : Int) ≤ x6.toInt + 1; omega)) (by first | omega | (show x6.toInt + 1 ≤ (_ : Int); omega))
          refine lv_iinc (v := x_12) (lv' := [(6, .int x_12), (0, .ref (bd 0)), (1, .int p1), (2, .int p2), (3, .int p3), (4, .int p4), (5, .int p5)]) hx hb dX12_shift_179 hl (k := 6) rfl (by rw [ex_12]; rfl) (by decide) rfl (fun ls hl => ?_)
          refine lv_goto (tgt := 150) hx hb dX12_shift_182 (by decide) ?_
          exact ih.2 x_12 (vp_updL c150_bw68 x_10.toNatClampNeg x_11) c150_bw69 _ _ (by omega) (by omega) (by omega) (by omega) (by omega) (by omega) (by omega) (by omega) (by omega) hne hki hrn (by omega) (by omega) (by first | assumption | exact (fun t ht => hs1 t (by omega))) (by first | exact (fun t ht => (Classical.em (t = x6.toNatClampNeg)).elim (fun q => (upl_at (by rw [ki2, q])).trans (by rw [q]; exact kv2)) (fun q => (upl_ne (by rw [ki2]; omega)).trans (h1s t (by have z6 : x6.toNatClampNeg = x6.toInt.toNat := rfl; omega)))) | exact (fun t ht => absurd ht (by have q : (0 : Int32).toInt = 0 := rfl; omega))) (by first | exact (fun t ht => (upl_ne (by rw [ki2]; have z6 : x6.toNatClampNeg = x6.toInt.toNat := rfl; omega)).trans (h2s t (by omega))) | exact (fun t ht => rfl)) (by omega) hP hD hS ls (lv_sub hl [1, 2, 3, 4, 5, 6, 0] rfl)
  refine lv_iload_n hx hb dX12_shift_0 rfl (lv_at hl 1 rfl) ?_
  refine cS_p (As := [.int p1]) (rest := []) ⟨hx, hb, hml, hown, hg⟩ (k_X12_isShelf l   p1 ) ca_X12_isShelf q5_223 ⟨rfl, rfl⟩ ⟨Nat.le_of_ble_eq_true rfl, Nat.le_of_ble_eq_true rfl⟩ rfl hl.1 rfl (Nat.le_of_ble_eq_true rfl) ⟨Nat.zero_le _, Nat.zero_le _⟩ dX12_shift_1 (fun r_13 wr_13 => ?_)
  have wr_13 : (r_13.toInt = 1 ∧ 0 ≤ p1.toInt ∧ p1.toInt < 6) ∨ (r_13.toInt = 0 ∧ ¬ (0 ≤ p1.toInt ∧ p1.toInt < 6)) := wr_13
  refine lv_if_eq (tgt := 14) hx hb dX12_shift_4 (by decide) (fun c_14 => ?_) (fun c_14 => ?_)
  ·
    have kc_14 : r_13.toInt = (0 : Int) := i_eq c_14
    refine lv_iconst (v := (-1)) hx hb dX12_shift_14 (by decide) ?_
    have q0_m1 : ((-1) : Int32).toInt = (-1) := rfl
    have hP : va_P D vwCl (RW cs bd u b (va_up (va_up bw 68 (bw 68)) 69 (bw 69))) _ := hP
    have hD : va_D A (RW cs bd u b (va_up (va_up bw 68 (bw 68)) 69 (bw 69))) := hD
    exact W.iret (v := (-1)) hx hb hr (fun tt ht hW => ⟨⟨(-1), ⟨(bw 68), (bw 69)⟩, rfl, ⟨(Or.inl ⟨by omega, rfl⟩), (fun q => absurd q (by decide)), (fun _ => rfl)⟩, by rw [ht]; exact hP, hD⟩, hS.F ht⟩) hS.2.2 dX12_shift_15
  ·
    have kc_14 : r_13.toInt ≠ (0 : Int) := i_ne c_14
    refine lv_iload_n hx hb dX12_shift_7 rfl (lv_at hl 3 rfl) ?_
    refine cS_p (As := [.int p3]) (rest := []) ⟨hx, hb, hml, hown, hg⟩ (k_X12_isShelf l   p3 ) ca_X12_isShelf q5_223 ⟨rfl, rfl⟩ ⟨Nat.le_of_ble_eq_true rfl, Nat.le_of_ble_eq_true rfl⟩ rfl hl.1 rfl (Nat.le_of_ble_eq_true rfl) ⟨Nat.zero_le _, Nat.zero_le _⟩ dX12_shift_8 (fun r_15 wr_15 => ?_)
    have wr_15 : (r_15.toInt = 1 ∧ 0 ≤ p3.toInt ∧ p3.toInt < 6) ∨ (r_15.toInt = 0 ∧ ¬ (0 ≤ p3.toInt ∧ p3.toInt < 6)) := wr_15
    refine lv_if_ne (tgt := 16) hx hb dX12_shift_11 (by decide) (fun c_16 => ?_) (fun c_16 => ?_)
    ·
      have kc_16 : r_15.toInt ≠ (0 : Int) := i_ne c_16
      refine lv_aload_n hx hb dX12_shift_16 rfl (lv_at hl 0 rfl) ?_
      refine gr_holds hx hb hg hown hK hP (hg _ q5_58) dX12_shift_17 ?_
      refine lv_iload_n hx hb dX12_shift_20 rfl (lv_at hl 1 rfl) ?_
      refine lr_holds hx hb hK hP (i_in (by omega) (by omega)) dX12_shift_21 ?_
      refine lv_topi (fun x_17 ex_17 => ?_)
      have ex_17 : x_17 = (b 66) p1.toNatClampNeg := ex_17
      have hx_17 : x_17.toInt = ((b 66) p1.toNatClampNeg).toInt := by rw [ex_17]
      have bx_17 := ib66_0 p1.toNatClampNeg
      rw [← ex_17] at bx_17
      refine lv_iconst (v := (-1)) hx hb dX12_shift_22 (by decide) ?_
      refine lv_icmp_eq (tgt := 36) hx hb dX12_shift_23 (by decide) (fun c_18 => ?_) (fun c_18 => ?_)
      ·
        have kc_18 : x_17.toInt = (-1 : Int) := i_eq c_18
        refine lv_bipush (v := (-11)) hx hb dX12_shift_36 (by decide) ?_
        have q0_m11 : ((-11) : Int32).toInt = (-11) := rfl
        have hP : va_P D vwCl (RW cs bd u b (va_up (va_up bw 68 (bw 68)) 69 (bw 69))) _ := hP
        have hD : va_D A (RW cs bd u b (va_up (va_up bw 68 (bw 68)) 69 (bw 69))) := hD
        exact W.iret (v := (-11)) hx hb hr (fun tt ht hW => ⟨⟨(-11), ⟨(bw 68), (bw 69)⟩, rfl, ⟨(Or.inr ⟨⟨⟨by omega, by omega⟩, by omega, by omega⟩, Or.inl ⟨by omega, rfl⟩⟩), (fun q => absurd q (by decide)), (fun _ => rfl)⟩, by rw [ht]; exact hP, hD⟩, hS.F ht⟩) hS.2.2 dX12_shift_38
      ·
        have kc_18 : x_17.toInt ≠ (-1 : Int) := i_ne c_18
        refine lv_aload_n hx hb dX12_shift_26 rfl (lv_at hl 0 rfl) ?_
        refine gr_holds hx hb hg hown hK hP (hg _ q5_58) dX12_shift_27 ?_
        refine lv_iload_n hx hb dX12_shift_30 rfl (lv_at hl 3 rfl) ?_
        refine lr_holds hx hb hK hP (i_in (by omega) (by omega)) dX12_shift_31 ?_
        refine lv_topi (fun x_19 ex_19 => ?_)
        have ex_19 : x_19 = (b 66) p3.toNatClampNeg := ex_19
        have hx_19 : x_19.toInt = ((b 66) p3.toNatClampNeg).toInt := by rw [ex_19]
        have bx_19 := ib66_0 p3.toNatClampNeg
        rw [← ex_19] at bx_19
        refine lv_iconst (v := (-1)) hx hb dX12_shift_32 (by decide) ?_
        refine lv_icmp_ne (tgt := 39) hx hb dX12_shift_33 (by decide) (fun c_20 => ?_) (fun c_20 => ?_)
        ·
          have kc_20 : x_19.toInt ≠ (-1 : Int) := i_ne c_20
          refine lv_aload_n hx hb dX12_shift_39 rfl (lv_at hl 0 rfl) ?_
          refine gr_holds hx hb hg hown hK hP (hg _ q5_58) dX12_shift_40 ?_
          refine lv_iload_n hx hb dX12_shift_43 rfl (lv_at hl 1 rfl) ?_
          refine lr_holds hx hb hK hP (i_in (by omega) (by omega)) dX12_shift_44 ?_
          refine lv_topi (fun x_21 ex_21 => ?_)
          have ex_21 : x_21 = (b 66) p1.toNatClampNeg := ex_21
          have hx_21 : x_21.toInt = ((b 66) p1.toNatClampNeg).toInt := by rw [ex_21]
          have bx_21 := ib66_0 p1.toNatClampNeg
          rw [← ex_21] at bx_21
          refine lv_if_ge (tgt := 63) hx hb dX12_shift_45 (by decide) (fun c_22 => ?_) (fun c_22 => ?_)
          ·
            have kc_22 : (0 : Int) ≤ x_21.toInt := i_le c_22
            refine lv_bipush (v := (-12)) hx hb dX12_shift_63 (by decide) ?_
            have q0_m12 : ((-12) : Int32).toInt = (-12) := rfl
            have hP : va_P D vwCl (RW cs bd u b (va_up (va_up bw 68 (bw 68)) 69 (bw 69))) _ := hP
            have hD : va_D A (RW cs bd u b (va_up (va_up bw 68 (bw 68)) 69 (bw 69))) := hD
            exact W.iret (v := (-12)) hx hb hr (fun tt ht hW => ⟨⟨(-12), ⟨(bw 68), (bw 69)⟩, rfl, ⟨(Or.inr ⟨⟨⟨by omega, by omega⟩, by omega, by omega⟩, Or.inr (Or.inl ⟨by omega, by omega, rfl⟩)⟩), (fun q => absurd q (by decide)), (fun _ => rfl)⟩, by rw [ht]; exact hP, hD⟩, hS.F ht⟩) hS.2.2 dX12_shift_65
          ·
            have kc_22 : x_21.toInt < (0 : Int) := i_nle c_22
            refine lv_aload_n hx hb dX12_shift_48 rfl (lv_at hl 0 rfl) ?_
            refine gr_holds hx hb hg hown hK hP (hg _ q5_58) dX12_shift_49 ?_
            refine lv_iload_n hx hb dX12_shift_52 rfl (lv_at hl 1 rfl) ?_
            refine lr_holds hx hb hK hP (i_in (by omega) (by omega)) dX12_shift_53 ?_
            refine lv_topi (fun x_23 ex_23 => ?_)
            have ex_23 : x_23 = (b 66) p1.toNatClampNeg := ex_23
            have hx_23 : x_23.toInt = ((b 66) p1.toNatClampNeg).toInt := by rw [ex_23]
            have bx_23 := ib66_0 p1.toNatClampNeg
            rw [← ex_23] at bx_23
            refine lv_aload_n hx hb dX12_shift_54 rfl (lv_at hl 0 rfl) ?_
            refine gr_holds hx hb hg hown hK hP (hg _ q5_58) dX12_shift_55 ?_
            refine lv_iload_n hx hb dX12_shift_58 rfl (lv_at hl 3 rfl) ?_
            refine lr_holds hx hb hK hP (i_in (by omega) (by omega)) dX12_shift_59 ?_
            refine lv_topi (fun x_24 ex_24 => ?_)
            have ex_24 : x_24 = (b 66) p3.toNatClampNeg := ex_24
            have hx_24 : x_24.toInt = ((b 66) p3.toNatClampNeg).toInt := by rw [ex_24]
            have bx_24 := ib66_0 p3.toNatClampNeg
            rw [← ex_24] at bx_24
            refine lv_icmp_eq (tgt := 66) hx hb dX12_shift_60 (by decide) (fun c_25 => ?_) (fun c_25 => ?_)
            ·
              have kc_25 : x_23.toInt = x_24.toInt := i_eq c_25
              refine lv_iload hx hb dX12_shift_66 (lv_at hl 5 rfl) ?_
              refine lv_if_lt (tgt := 107) hx hb dX12_shift_68 (by decide) (fun c_26 => ?_) (fun c_26 => ?_)
              ·
                have kc_26 : p5.toInt < (0 : Int) := i_lt c_26
                refine lv_bipush (v := (-13)) hx hb dX12_shift_107 (by decide) ?_
                have q0_m13 : ((-13) : Int32).toInt = (-13) := rfl
                have hP : va_P D vwCl (RW cs bd u b (va_up (va_up bw 68 (bw 68)) 69 (bw 69))) _ := hP
                have hD : va_D A (RW cs bd u b (va_up (va_up bw 68 (bw 68)) 69 (bw 69))) := hD
                exact W.iret (v := (-13)) hx hb hr (fun tt ht hW => ⟨⟨(-13), ⟨(bw 68), (bw 69)⟩, rfl, ⟨(Or.inr ⟨⟨⟨by omega, by omega⟩, by omega, by omega⟩, Or.inr (Or.inr (Or.inl ⟨by omega, by omega, by omega, rfl⟩))⟩), (fun q => absurd q (by decide)), (fun _ => rfl)⟩, by rw [ht]; exact hP, hD⟩, hS.F ht⟩) hS.2.2 dX12_shift_109
              ·
                have kc_26 : (0 : Int) ≤ p5.toInt := i_nlt c_26
                refine lv_iload_n hx hb dX12_shift_71 rfl (lv_at hl 2 rfl) ?_
                refine lv_if_lt (tgt := 107) hx hb dX12_shift_72 (by decide) (fun c_27 => ?_) (fun c_27 => ?_)
                ·
                  have kc_27 : p2.toInt < (0 : Int) := i_lt c_27
                  refine lv_bipush (v := (-13)) hx hb dX12_shift_107 (by decide) ?_
                  have q0_m13 : ((-13) : Int32).toInt = (-13) := rfl
                  have hP : va_P D vwCl (RW cs bd u b (va_up (va_up bw 68 (bw 68)) 69 (bw 69))) _ := hP
                  have hD : va_D A (RW cs bd u b (va_up (va_up bw 68 (bw 68)) 69 (bw 69))) := hD
                  exact W.iret (v := (-13)) hx hb hr (fun tt ht hW => ⟨⟨(-13), ⟨(bw 68), (bw 69)⟩, rfl, ⟨(Or.inr ⟨⟨⟨by omega, by omega⟩, by omega, by omega⟩, Or.inr (Or.inr (Or.inl ⟨by omega, by omega, by omega, rfl⟩))⟩), (fun q => absurd q (by decide)), (fun _ => rfl)⟩, by rw [ht]; exact hP, hD⟩, hS.F ht⟩) hS.2.2 dX12_shift_109
                ·
                  have kc_27 : (0 : Int) ≤ p2.toInt := i_nlt c_27
                  refine lv_iload hx hb dX12_shift_75 (lv_at hl 4 rfl) ?_
                  refine lv_if_lt (tgt := 107) hx hb dX12_shift_77 (by decide) (fun c_28 => ?_) (fun c_28 => ?_)
                  ·
                    have kc_28 : p4.toInt < (0 : Int) := i_lt c_28
                    refine lv_bipush (v := (-13)) hx hb dX12_shift_107 (by decide) ?_
                    have q0_m13 : ((-13) : Int32).toInt = (-13) := rfl
                    have hP : va_P D vwCl (RW cs bd u b (va_up (va_up bw 68 (bw 68)) 69 (bw 69))) _ := hP
                    have hD : va_D A (RW cs bd u b (va_up (va_up bw 68 (bw 68)) 69 (bw 69))) := hD
                    exact W.iret (v := (-13)) hx hb hr (fun tt ht hW => ⟨⟨(-13), ⟨(bw 68), (bw 69)⟩, rfl, ⟨(Or.inr ⟨⟨⟨by omega, by omega⟩, by omega, by omega⟩, Or.inr (Or.inr (Or.inl ⟨by omega, by omega, by omega, rfl⟩))⟩), (fun q => absurd q (by decide)), (fun _ => rfl)⟩, by rw [ht]; exact hP, hD⟩, hS.F ht⟩) hS.2.2 dX12_shift_109
                  ·
                    have kc_28 : (0 : Int) ≤ p4.toInt := i_nlt c_28
                    refine lv_iload_n hx hb dX12_shift_80 rfl (lv_at hl 2 rfl) ?_
                    refine lv_aload_n hx hb dX12_shift_81 rfl (lv_at hl 0 rfl) ?_
                    refine gr_size hx hb hg hown hK hP (hg _ q5_59) dX12_shift_82 ?_
                    refine lv_iload_n hx hb dX12_shift_85 rfl (lv_at hl 1 rfl) ?_
                    refine lr_size hx hb hK hP (i_in (by omega) (by omega)) dX12_shift_86 ?_
                    refine lv_topi (fun x_29 ex_29 => ?_)
                    have ex_29 : x_29 = (b 67) p1.toNatClampNeg := ex_29
                    have hx_29 : x_29.toInt = ((b 67) p1.toNatClampNeg).toInt := by rw [ex_29]
                    have bx_29 := ib67_0 p1.toNatClampNeg
                    rw [← ex_29] at bx_29
                    refine lv_iload hx hb dX12_shift_87 (lv_at hl 5 rfl) ?_
                    refine lv_isub hx hb dX12_shift_89 ?_
                    refine lv_topi (fun x_30 ex_30 => ?_)
                    have gb1_x_30 := i_bd p5
                    have fx_30 : x_30.toInt = x_29.toInt - p5.toInt := by rw [ex_30]; exact i_sub (by first | omega | (show (_ : Int) ≤ x_29.toInt - p5.toInt; omega)) (by first | omega | (show x_29.toInt - p5.toInt ≤ (_ : Int); omega))
                    refine lv_icmp_gt (tgt := 107) hx hb dX12_shift_90 (by decide) (fun c_31 => ?_) (fun c_31 => ?_)
                    ·
                      have kc_31 : x_30.toInt < p2.toInt := i_lt c_31
                      refine lv_bipush (v := (-13)) hx hb dX12_shift_107 (by decide) ?_
                      have q0_m13 : ((-13) : Int32).toInt = (-13) := rfl
                      have hP : va_P D vwCl (RW cs bd u b (va_up (va_up bw 68 (bw 68)) 69 (bw 69))) _ := hP
                      have hD : va_D A (RW cs bd u b (va_up (va_up bw 68 (bw 68)) 69 (bw 69))) := hD
                      exact W.iret (v := (-13)) hx hb hr (fun tt ht hW => ⟨⟨(-13), ⟨(bw 68), (bw 69)⟩, rfl, ⟨(Or.inr ⟨⟨⟨by omega, by omega⟩, by omega, by omega⟩, Or.inr (Or.inr (Or.inl ⟨by omega, by omega, by omega, rfl⟩))⟩), (fun q => absurd q (by decide)), (fun _ => rfl)⟩, by rw [ht]; exact hP, hD⟩, hS.F ht⟩) hS.2.2 dX12_shift_109
                    ·
                      have kc_31 : p2.toInt ≤ x_30.toInt := i_nlt c_31
                      refine lv_iload hx hb dX12_shift_93 (lv_at hl 4 rfl) ?_
                      refine lv_aload_n hx hb dX12_shift_95 rfl (lv_at hl 0 rfl) ?_
                      refine gr_size hx hb hg hown hK hP (hg _ q5_59) dX12_shift_96 ?_
                      refine lv_iload_n hx hb dX12_shift_99 rfl (lv_at hl 3 rfl) ?_
                      refine lr_size hx hb hK hP (i_in (by omega) (by omega)) dX12_shift_100 ?_
                      refine lv_topi (fun x_32 ex_32 => ?_)
                      have ex_32 : x_32 = (b 67) p3.toNatClampNeg := ex_32
                      have hx_32 : x_32.toInt = ((b 67) p3.toNatClampNeg).toInt := by rw [ex_32]
                      have bx_32 := ib67_0 p3.toNatClampNeg
                      rw [← ex_32] at bx_32
                      refine lv_iload hx hb dX12_shift_101 (lv_at hl 5 rfl) ?_
                      refine lv_isub hx hb dX12_shift_103 ?_
                      refine lv_topi (fun x_33 ex_33 => ?_)
                      have gb1_x_33 := i_bd p5
                      have fx_33 : x_33.toInt = x_32.toInt - p5.toInt := by rw [ex_33]; exact i_sub (by first | omega | (show (_ : Int) ≤ x_32.toInt - p5.toInt; omega)) (by first | omega | (show x_32.toInt - p5.toInt ≤ (_ : Int); omega))
                      refine lv_icmp_le (tgt := 110) hx hb dX12_shift_104 (by decide) (fun c_34 => ?_) (fun c_34 => ?_)
                      ·
                        have kc_34 : p4.toInt ≤ x_33.toInt := i_le c_34
                        refine lv_iconst (v := 0) hx hb dX12_shift_110 (by decide) ?_
                        refine lv_istore (lv' := [(6, .int 0), (0, .ref (bd 0)), (1, .int p1), (2, .int p2), (3, .int p3), (4, .int p4), (5, .int p5)]) hx hb dX12_shift_111 hl (by decide) rfl (fun ls hl => ?_)
                        have q0_0 : (0 : Int32).toInt = 0 := rfl
                        exact (hcut ((100 + (p5.toInt - (0 : Int32).toInt).toNat) + 1)).1 0 (bw 69) _ _ (by omega) (by omega) (by omega) (by omega) (by omega) (by omega) (by omega) (by omega) (by omega) (by omega) (by omega) (by omega) (by omega) (by omega) (fun t ht => absurd ht (by have q : (0 : Int32).toInt = 0 := rfl; omega)) (Nat.lt_succ_self _) hP hD hS ls (lv_sub hl [1, 2, 3, 4, 5, 6, 0] rfl)
                      ·
                        have kc_34 : x_33.toInt < p4.toInt := i_nle c_34
                        refine lv_bipush (v := (-13)) hx hb dX12_shift_107 (by decide) ?_
                        have q0_m13 : ((-13) : Int32).toInt = (-13) := rfl
                        have hP : va_P D vwCl (RW cs bd u b (va_up (va_up bw 68 (bw 68)) 69 (bw 69))) _ := hP
                        have hD : va_D A (RW cs bd u b (va_up (va_up bw 68 (bw 68)) 69 (bw 69))) := hD
                        exact W.iret (v := (-13)) hx hb hr (fun tt ht hW => ⟨⟨(-13), ⟨(bw 68), (bw 69)⟩, rfl, ⟨(Or.inr ⟨⟨⟨by omega, by omega⟩, by omega, by omega⟩, Or.inr (Or.inr (Or.inl ⟨by omega, by omega, by omega, rfl⟩))⟩), (fun q => absurd q (by decide)), (fun _ => rfl)⟩, by rw [ht]; exact hP, hD⟩, hS.F ht⟩) hS.2.2 dX12_shift_109
            ·
              have kc_25 : x_23.toInt ≠ x_24.toInt := i_ne c_25
              refine lv_bipush (v := (-12)) hx hb dX12_shift_63 (by decide) ?_
              have q0_m12 : ((-12) : Int32).toInt = (-12) := rfl
              have hP : va_P D vwCl (RW cs bd u b (va_up (va_up bw 68 (bw 68)) 69 (bw 69))) _ := hP
              have hD : va_D A (RW cs bd u b (va_up (va_up bw 68 (bw 68)) 69 (bw 69))) := hD
              exact W.iret (v := (-12)) hx hb hr (fun tt ht hW => ⟨⟨(-12), ⟨(bw 68), (bw 69)⟩, rfl, ⟨(Or.inr ⟨⟨⟨by omega, by omega⟩, by omega, by omega⟩, Or.inr (Or.inl ⟨by omega, by omega, rfl⟩)⟩), (fun q => absurd q (by decide)), (fun _ => rfl)⟩, by rw [ht]; exact hP, hD⟩, hS.F ht⟩) hS.2.2 dX12_shift_65
        ·
          have kc_20 : x_19.toInt = (-1 : Int) := i_eq c_20
          refine lv_bipush (v := (-11)) hx hb dX12_shift_36 (by decide) ?_
          have q0_m11 : ((-11) : Int32).toInt = (-11) := rfl
          have hP : va_P D vwCl (RW cs bd u b (va_up (va_up bw 68 (bw 68)) 69 (bw 69))) _ := hP
          have hD : va_D A (RW cs bd u b (va_up (va_up bw 68 (bw 68)) 69 (bw 69))) := hD
          exact W.iret (v := (-11)) hx hb hr (fun tt ht hW => ⟨⟨(-11), ⟨(bw 68), (bw 69)⟩, rfl, ⟨(Or.inr ⟨⟨⟨by omega, by omega⟩, by omega, by omega⟩, Or.inl ⟨by omega, rfl⟩⟩), (fun q => absurd q (by decide)), (fun _ => rfl)⟩, by rw [ht]; exact hP, hD⟩, hS.F ht⟩) hS.2.2 dX12_shift_38
    ·
      have kc_16 : r_15.toInt = (0 : Int) := i_eq c_16
      refine lv_iconst (v := (-1)) hx hb dX12_shift_14 (by decide) ?_
      have q0_m1 : ((-1) : Int32).toInt = (-1) := rfl
      have hP : va_P D vwCl (RW cs bd u b (va_up (va_up bw 68 (bw 68)) 69 (bw 69))) _ := hP
      have hD : va_D A (RW cs bd u b (va_up (va_up bw 68 (bw 68)) 69 (bw 69))) := hD
      exact W.iret (v := (-1)) hx hb hr (fun tt ht hW => ⟨⟨(-1), ⟨(bw 68), (bw 69)⟩, rfl, ⟨(Or.inl ⟨by omega, rfl⟩), (fun q => absurd q (by decide)), (fun _ => rfl)⟩, by rw [ht]; exact hP, hD⟩, hS.F ht⟩) hS.2.2 dX12_shift_15
