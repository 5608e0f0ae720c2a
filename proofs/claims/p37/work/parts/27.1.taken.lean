set_option maxHeartbeats 4000000 in
set_option maxRecDepth 100000 in
theorem k_U_0 (l : Launch) (D : va_G) (cs : Nat → ClassId) (A : Nat → Prop) (ad fa fq rv : Nat → Nat) (v : Nat → Int32) (a : Nat → Nat → Int32) (w : Nat → Nat → Int64) (fv fp : Nat → Nat → Int32)  (p2 : Int32) (h1 : 0 ≤ p2.toInt) (h2 : p2.toInt ≤ 7) : Met l yX0_isUnder (Cond.code yX0_isUnder cX0_isUnder 4 (some .boolean) :: gw) ({ frames := 1, cells := 0, slots := 0, locals := 20 }) (va_Pc [.int (-1), .int p2] (XPre D (TY cs) (CW cs ad fa fq rv v a w fv fp) A)) (va_Qi (fun (r : Int32) (z : Unit) => ((r.toInt = 1 ∧ (p2.toInt = 100)) ∨ (r.toInt = 0 ∧ ¬ ((p2.toInt = 100))))) (XPo D (fun (z : Unit) => CW cs ad fa fq rv v a w fv fp) A) A) 0 0 A := by
  refine Met.ofW (cc := cX0_isUnder) (maxL := 4) (ret := (some .boolean)) (by decide) rfl ?_
  intro p e s m args below meth c s₁ B hml hv
  obtain ⟨rfl, hP, hK, hD, hZ⟩ := hv
  have hx := B.exec
  have hb := B.bytes
  have hr := B.returns
  have hts := atoms_spec (ws := (Cond.code yX0_isUnder cX0_isUnder 4 (some .boolean) :: gw)) B.pre
  have hg : ∀ w ∈ gw, w.before ([.int (-1), .int p2] : List Value).toArray s = true := fun w h => hts w (List.mem_cons_of_mem _ h)
  have hown : s.vm.findClass RX0 = some m.cls := findClass_of_methodNamed B.named
  have hlocks := B.notSynchronized
  have hS : va_S A s.heap s.heap [] := va_S.rf
  have hP : va_P D vwCl (CW cs ad fa fq rv v a w fv fp) s.heap := hP
  have hl := lv_entry ([.int (-1), .int p2]) (n := 4) (Nat.le_of_ble_eq_true rfl)
  rw [lg_entry_eq]
  generalize (lg_sl ([.int (-1), .int p2]) ++ List.replicate (4 - (lg_sl ([.int (-1), .int p2])).length) Slot.unset).toArray = ls at hl ⊢
  have hl : lv_has ls 4 [(0, .int (-1)), (1, .int p2)] := hl
  refine lv_iload_n hx hb dX0_isUnder_0 rfl (lv_at hl 0 rfl) ?_
  refine lv_istore_n (lv' := [(2, .int (-1)), (0, .int (-1)), (1, .int p2)]) hx hb dX0_isUnder_1 rfl hl (by decide) rfl (fun ls hl => ?_)
  refine lv_iconst (v := 0) hx hb dX0_isUnder_2 (by decide) ?_
  refine lv_istore_n (lv' := [(3, .int 0), (2, .int (-1)), (0, .int (-1)), (1, .int p2)]) hx hb dX0_isUnder_3 rfl hl (by decide) rfl (fun ls hl => ?_)
  refine lv_iload_n hx hb dX0_isUnder_4 rfl (lv_at hl 0 rfl) ?_
  obtain ⟨t0, t1, t2, ⟨a0, b0⟩, ⟨a1, b1⟩, ⟨a2, b2⟩⟩ := id hZ
  refine va_gets hx hb a2 hS hown (hg _ q4_143) (fun _ h9 => h9) dX0_isUnder_5 ?_
  refine va_tlen hx hb b2 hS (v := 8) rfl dX0_isUnder_8 ?_
  refine lv_icmp_ge (tgt := 38) hx hb dX0_isUnder_9 (by decide) (fun c_1 => absurd c_1 (by decide)) (fun c_1 => ?_)
  refine lv_iload_n hx hb dX0_isUnder_12 rfl (lv_at hl 1 rfl) ?_
  refine cS_p (As := [.int (-1)]) (rest := []) ⟨hx, hb, hml, hown, hg⟩ (k_IK_0 l    ) ca_X0_isKind q4_145 ⟨rfl, rfl⟩ ⟨Nat.le_of_ble_eq_true rfl, Nat.le_of_ble_eq_true rfl⟩ rfl hl.1 rfl (Nat.le_of_ble_eq_true rfl) ⟨Nat.zero_le _, Nat.zero_le _⟩ dX0_isUnder_13 (fun r_2 wr_2 => ?_)
  have wr_2 : r_2.toInt = 0 := wr_2
  refine lv_if_eq (tgt := 38) hx hb dX0_isUnder_16 (by decide) (fun c_3 => ?_) (fun c_3 => ?_)
  ·
    have kc_3 : r_2.toInt = (0 : Int) := i_eq c_3
    refine lv_iconst (v := 0) hx hb dX0_isUnder_38 (by decide) ?_
    have q0_0 : (0 : Int32).toInt = 0 := rfl
    exact W.zret (v := 0) hx hb hr rfl (fun tt ht hW => ⟨⟨0, (), rfl, (by first | rfl | omega | trivial | assumption | (dsimp only; first | omega | assumption)), by rw [ht]; exact hP, hD⟩, hS.F ht⟩) hS.2.2 dX0_isUnder_39
  ·
    have kc_3 : r_2.toInt ≠ (0 : Int) := i_ne c_3
    exfalso; omega
set_option maxHeartbeats 4000000 in
set_option maxRecDepth 100000 in
theorem k_U_1 (l : Launch) (D : va_G) (cs : Nat → ClassId) (A : Nat → Prop) (ad fa fq rv : Nat → Nat) (v : Nat → Int32) (a : Nat → Nat → Int32) (w : Nat → Nat → Int64) (fv fp : Nat → Nat → Int32)  (p2 : Int32) (h1 : 0 ≤ p2.toInt) (h2 : p2.toInt ≤ 7) : Met l yX0_isUnder (Cond.code yX0_isUnder cX0_isUnder 4 (some .boolean) :: gw) ({ frames := 1, cells := 0, slots := 0, locals := 20 }) (va_Pc [.int 0, .int p2] (XPre D (TY cs) (CW cs ad fa fq rv v a w fv fp) A)) (va_Qi (fun (r : Int32) (z : Unit) => ((r.toInt = 1 ∧ (p2.toInt = 0)) ∨ (r.toInt = 0 ∧ ¬ ((p2.toInt = 0))))) (XPo D (fun (z : Unit) => CW cs ad fa fq rv v a w fv fp) A) A) 0 0 A := by
  refine Met.ofW (cc := cX0_isUnder) (maxL := 4) (ret := (some .boolean)) (by decide) rfl ?_
  intro p e s m args below meth c s₁ B hml hv
  obtain ⟨rfl, hP, hK, hD, hZ⟩ := hv
  have hx := B.exec
  have hb := B.bytes
  have hr := B.returns
  have hts := atoms_spec (ws := (Cond.code yX0_isUnder cX0_isUnder 4 (some .boolean) :: gw)) B.pre
  have hg : ∀ w ∈ gw, w.before ([.int 0, .int p2] : List Value).toArray s = true := fun w h => hts w (List.mem_cons_of_mem _ h)
  have hown : s.vm.findClass RX0 = some m.cls := findClass_of_methodNamed B.named
  have hlocks := B.notSynchronized
  have hS : va_S A s.heap s.heap [] := va_S.rf
  have hP : va_P D vwCl (CW cs ad fa fq rv v a w fv fp) s.heap := hP
  have hl := lv_entry ([.int 0, .int p2]) (n := 4) (Nat.le_of_ble_eq_true rfl)
  rw [lg_entry_eq]
  generalize (lg_sl ([.int 0, .int p2]) ++ List.replicate (4 - (lg_sl ([.int 0, .int p2])).length) Slot.unset).toArray = ls at hl ⊢
  have hl : lv_has ls 4 [(0, .int 0), (1, .int p2)] := hl
  refine lv_iload_n hx hb dX0_isUnder_0 rfl (lv_at hl 0 rfl) ?_
  refine lv_istore_n (lv' := [(2, .int 0), (0, .int 0), (1, .int p2)]) hx hb dX0_isUnder_1 rfl hl (by decide) rfl (fun ls hl => ?_)
  refine lv_iconst (v := 0) hx hb dX0_isUnder_2 (by decide) ?_
  refine lv_istore_n (lv' := [(3, .int 0), (2, .int 0), (0, .int 0), (1, .int p2)]) hx hb dX0_isUnder_3 rfl hl (by decide) rfl (fun ls hl => ?_)
  refine lv_iload_n hx hb dX0_isUnder_4 rfl (lv_at hl 0 rfl) ?_
  obtain ⟨t0, t1, t2, ⟨a0, b0⟩, ⟨a1, b1⟩, ⟨a2, b2⟩⟩ := id hZ
  refine va_gets hx hb a2 hS hown (hg _ q4_143) (fun _ h9 => h9) dX0_isUnder_5 ?_
  refine va_tlen hx hb b2 hS (v := 8) rfl dX0_isUnder_8 ?_
  refine lv_icmp_ge (tgt := 38) hx hb dX0_isUnder_9 (by decide) (fun c_1 => absurd c_1 (by decide)) (fun c_1 => ?_)
  refine lv_iload_n hx hb dX0_isUnder_12 rfl (lv_at hl 1 rfl) ?_
  refine cS_p (As := [.int 0]) (rest := []) ⟨hx, hb, hml, hown, hg⟩ (k_IK_1 l    ) ca_X0_isKind q4_145 ⟨rfl, rfl⟩ ⟨Nat.le_of_ble_eq_true rfl, Nat.le_of_ble_eq_true rfl⟩ rfl hl.1 rfl (Nat.le_of_ble_eq_true rfl) ⟨Nat.zero_le _, Nat.zero_le _⟩ dX0_isUnder_13 (fun r_2 wr_2 => ?_)
  have wr_2 : r_2.toInt = 1 := wr_2
  refine lv_if_eq (tgt := 38) hx hb dX0_isUnder_16 (by decide) (fun c_3 => ?_) (fun c_3 => ?_)
  ·
    have kc_3 : r_2.toInt = (0 : Int) := i_eq c_3
    exfalso; omega
  ·
    have kc_3 : r_2.toInt ≠ (0 : Int) := i_ne c_3
    refine lv_iload_n hx hb dX0_isUnder_19 rfl (lv_at hl 1 rfl) ?_
    refine lv_iload_n hx hb dX0_isUnder_20 rfl (lv_at hl 3 rfl) ?_
    refine lv_icmp_ne (tgt := 26) hx hb dX0_isUnder_21 (by decide) (fun c_4 => ?_) (fun c_4 => ?_)
    ·
      have kc_4 : (0 : Int) ≠ p2.toInt := i_ne c_4
      obtain ⟨t0, t1, t2, ⟨a0, b0⟩, ⟨a1, b1⟩, ⟨a2, b2⟩⟩ := id hZ
      refine va_gets hx hb a2 hS hown (hg _ q4_143) (fun _ h9 => h9) dX0_isUnder_26 ?_
      refine lv_iload_n hx hb dX0_isUnder_29 rfl (lv_at hl 1 rfl) ?_
      refine va_ti hx hb b2 hS (i_in (by decide) (by decide)) (v := .int (-1)) rfl dX0_isUnder_30 ?_
      refine lv_istore_n (lv' := [(2, .int (-1)), (3, .int 0), (0, .int 0), (1, .int p2)]) hx hb dX0_isUnder_31 rfl hl (by decide) rfl (fun ls hl => ?_)
      obtain ⟨x_5, ex_5⟩ : ∃ y : Int32, y = 0 + 1 := ⟨_, rfl⟩
      have fx_5 : x_5.toInt = (0 : Int) + 1 := by rw [ex_5]; exact i_add (by first | omega | (show (_ : Int) ≤ (0 : Int) + 1; omega)) (by first | omega | (show (0 : Int) + 1 ≤ (_ : Int); omega))
      refine lv_iinc (v := x_5) (lv' := [(3, .int x_5), (2, .int (-1)), (0, .int 0), (1, .int p2)]) hx hb dX0_isUnder_32 hl (k := 1) rfl (by rw [ex_5]; rfl) (by decide) rfl (fun ls hl => ?_)
      refine lv_goto (tgt := 4) hx hb dX0_isUnder_35 (by decide) ?_
      refine lv_iload_n hx hb dX0_isUnder_4 rfl (lv_at hl 0 rfl) ?_
      obtain ⟨t0, t1, t2, ⟨a0, b0⟩, ⟨a1, b1⟩, ⟨a2, b2⟩⟩ := id hZ
      refine va_gets hx hb a2 hS hown (hg _ q4_143) (fun _ h9 => h9) dX0_isUnder_5 ?_
      refine va_tlen hx hb b2 hS (v := 8) rfl dX0_isUnder_8 ?_
      refine lv_icmp_ge (tgt := 38) hx hb dX0_isUnder_9 (by decide) (fun c_6 => ?_) (fun c_6 => ?_)
      ·
        have kc_6 : (8 : Int) ≤ x_5.toInt := i_le c_6
        exfalso; omega
      ·
        have kc_6 : x_5.toInt < (8 : Int) := i_nle c_6
        refine lv_iload_n hx hb dX0_isUnder_12 rfl (lv_at hl 1 rfl) ?_
        refine cS_p (As := [.int (-1)]) (rest := []) ⟨hx, hb, hml, hown, hg⟩ (k_IK_0 l    ) ca_X0_isKind q4_145 ⟨rfl, rfl⟩ ⟨Nat.le_of_ble_eq_true rfl, Nat.le_of_ble_eq_true rfl⟩ rfl hl.1 rfl (Nat.le_of_ble_eq_true rfl) ⟨Nat.zero_le _, Nat.zero_le _⟩ dX0_isUnder_13 (fun r_7 wr_7 => ?_)
        have wr_7 : r_7.toInt = 0 := wr_7
        refine lv_if_eq (tgt := 38) hx hb dX0_isUnder_16 (by decide) (fun c_8 => ?_) (fun c_8 => ?_)
        ·
          have kc_8 : r_7.toInt = (0 : Int) := i_eq c_8
          refine lv_iconst (v := 0) hx hb dX0_isUnder_38 (by decide) ?_
          have q0_0 : (0 : Int32).toInt = 0 := rfl
          exact W.zret (v := 0) hx hb hr rfl (fun tt ht hW => ⟨⟨0, (), rfl, (by first | rfl | omega | trivial | assumption | (dsimp only; first | omega | assumption)), by rw [ht]; exact hP, hD⟩, hS.F ht⟩) hS.2.2 dX0_isUnder_39
        ·
          have kc_8 : r_7.toInt ≠ (0 : Int) := i_ne c_8
          exfalso; omega
    ·
      have kc_4 : (0 : Int) = p2.toInt := i_eq c_4
      refine lv_iconst (v := 1) hx hb dX0_isUnder_24 (by decide) ?_
      have q0_1 : (1 : Int32).toInt = 1 := rfl
      exact W.zret (v := 1) hx hb hr rfl (fun tt ht hW => ⟨⟨1, (), rfl, (by first | rfl | omega | trivial | assumption | (dsimp only; first | omega | assumption)), by rw [ht]; exact hP, hD⟩, hS.F ht⟩) hS.2.2 dX0_isUnder_25
set_option maxHeartbeats 4000000 in
set_option maxRecDepth 100000 in
theorem k_U_2 (l : Launch) (D : va_G) (cs : Nat → ClassId) (A : Nat → Prop) (ad fa fq rv : Nat → Nat) (v : Nat → Int32) (a : Nat → Nat → Int32) (w : Nat → Nat → Int64) (fv fp : Nat → Nat → Int32)  (p2 : Int32) (h1 : 0 ≤ p2.toInt) (h2 : p2.toInt ≤ 7) : Met l yX0_isUnder (Cond.code yX0_isUnder cX0_isUnder 4 (some .boolean) :: gw) ({ frames := 1, cells := 0, slots := 0, locals := 20 }) (va_Pc [.int 1, .int p2] (XPre D (TY cs) (CW cs ad fa fq rv v a w fv fp) A)) (va_Qi (fun (r : Int32) (z : Unit) => ((r.toInt = 1 ∧ (p2.toInt = 1 ∨ p2.toInt = 0)) ∨ (r.toInt = 0 ∧ ¬ ((p2.toInt = 1 ∨ p2.toInt = 0))))) (XPo D (fun (z : Unit) => CW cs ad fa fq rv v a w fv fp) A) A) 0 0 A := by
  refine Met.ofW (cc := cX0_isUnder) (maxL := 4) (ret := (some .boolean)) (by decide) rfl ?_
  intro p e s m args below meth c s₁ B hml hv
  obtain ⟨rfl, hP, hK, hD, hZ⟩ := hv
  have hx := B.exec
  have hb := B.bytes
  have hr := B.returns
  have hts := atoms_spec (ws := (Cond.code yX0_isUnder cX0_isUnder 4 (some .boolean) :: gw)) B.pre
  have hg : ∀ w ∈ gw, w.before ([.int 1, .int p2] : List Value).toArray s = true := fun w h => hts w (List.mem_cons_of_mem _ h)
  have hown : s.vm.findClass RX0 = some m.cls := findClass_of_methodNamed B.named
  have hlocks := B.notSynchronized
  have hS : va_S A s.heap s.heap [] := va_S.rf
  have hP : va_P D vwCl (CW cs ad fa fq rv v a w fv fp) s.heap := hP
  have hl := lv_entry ([.int 1, .int p2]) (n := 4) (Nat.le_of_ble_eq_true rfl)
  rw [lg_entry_eq]
  generalize (lg_sl ([.int 1, .int p2]) ++ List.replicate (4 - (lg_sl ([.int 1, .int p2])).length) Slot.unset).toArray = ls at hl ⊢
  have hl : lv_has ls 4 [(0, .int 1), (1, .int p2)] := hl
  refine lv_iload_n hx hb dX0_isUnder_0 rfl (lv_at hl 0 rfl) ?_
  refine lv_istore_n (lv' := [(2, .int 1), (0, .int 1), (1, .int p2)]) hx hb dX0_isUnder_1 rfl hl (by decide) rfl (fun ls hl => ?_)
  refine lv_iconst (v := 0) hx hb dX0_isUnder_2 (by decide) ?_
  refine lv_istore_n (lv' := [(3, .int 0), (2, .int 1), (0, .int 1), (1, .int p2)]) hx hb dX0_isUnder_3 rfl hl (by decide) rfl (fun ls hl => ?_)
  refine lv_iload_n hx hb dX0_isUnder_4 rfl (lv_at hl 0 rfl) ?_
  obtain ⟨t0, t1, t2, ⟨a0, b0⟩, ⟨a1, b1⟩, ⟨a2, b2⟩⟩ := id hZ
  refine va_gets hx hb a2 hS hown (hg _ q4_143) (fun _ h9 => h9) dX0_isUnder_5 ?_
  refine va_tlen hx hb b2 hS (v := 8) rfl dX0_isUnder_8 ?_
  refine lv_icmp_ge (tgt := 38) hx hb dX0_isUnder_9 (by decide) (fun c_1 => absurd c_1 (by decide)) (fun c_1 => ?_)
  refine lv_iload_n hx hb dX0_isUnder_12 rfl (lv_at hl 1 rfl) ?_
  refine cS_p (As := [.int 1]) (rest := []) ⟨hx, hb, hml, hown, hg⟩ (k_IK_2 l    ) ca_X0_isKind q4_145 ⟨rfl, rfl⟩ ⟨Nat.le_of_ble_eq_true rfl, Nat.le_of_ble_eq_true rfl⟩ rfl hl.1 rfl (Nat.le_of_ble_eq_true rfl) ⟨Nat.zero_le _, Nat.zero_le _⟩ dX0_isUnder_13 (fun r_2 wr_2 => ?_)
  have wr_2 : r_2.toInt = 1 := wr_2
  refine lv_if_eq (tgt := 38) hx hb dX0_isUnder_16 (by decide) (fun c_3 => ?_) (fun c_3 => ?_)
  ·
    have kc_3 : r_2.toInt = (0 : Int) := i_eq c_3
    exfalso; omega
  ·
    have kc_3 : r_2.toInt ≠ (0 : Int) := i_ne c_3
    refine lv_iload_n hx hb dX0_isUnder_19 rfl (lv_at hl 1 rfl) ?_
    refine lv_iload_n hx hb dX0_isUnder_20 rfl (lv_at hl 3 rfl) ?_
    refine lv_icmp_ne (tgt := 26) hx hb dX0_isUnder_21 (by decide) (fun c_4 => ?_) (fun c_4 => ?_)
    ·
      have kc_4 : (1 : Int) ≠ p2.toInt := i_ne c_4
      obtain ⟨t0, t1, t2, ⟨a0, b0⟩, ⟨a1, b1⟩, ⟨a2, b2⟩⟩ := id hZ
      refine va_gets hx hb a2 hS hown (hg _ q4_143) (fun _ h9 => h9) dX0_isUnder_26 ?_
      refine lv_iload_n hx hb dX0_isUnder_29 rfl (lv_at hl 1 rfl) ?_
      refine va_ti hx hb b2 hS (i_in (by decide) (by decide)) (v := .int 0) rfl dX0_isUnder_30 ?_
      refine lv_istore_n (lv' := [(2, .int 0), (3, .int 0), (0, .int 1), (1, .int p2)]) hx hb dX0_isUnder_31 rfl hl (by decide) rfl (fun ls hl => ?_)
      obtain ⟨x_5, ex_5⟩ : ∃ y : Int32, y = 0 + 1 := ⟨_, rfl⟩
      have fx_5 : x_5.toInt = (0 : Int) + 1 := by rw [ex_5]; exact i_add (by first | omega | (show (_ : Int) ≤ (0 : Int) + 1; omega)) (by first | omega | (show (0 : Int) + 1 ≤ (_ : Int); omega))
      refine lv_iinc (v := x_5) (lv' := [(3, .int x_5), (2, .int 0), (0, .int 1), (1, .int p2)]) hx hb dX0_isUnder_32 hl (k := 1) rfl (by rw [ex_5]; rfl) (by decide) rfl (fun ls hl => ?_)
      refine lv_goto (tgt := 4) hx hb dX0_isUnder_35 (by decide) ?_
      refine lv_iload_n hx hb dX0_isUnder_4 rfl (lv_at hl 0 rfl) ?_
      obtain ⟨t0, t1, t2, ⟨a0, b0⟩, ⟨a1, b1⟩, ⟨a2, b2⟩⟩ := id hZ
      refine va_gets hx hb a2 hS hown (hg _ q4_143) (fun _ h9 => h9) dX0_isUnder_5 ?_
      refine va_tlen hx hb b2 hS (v := 8) rfl dX0_isUnder_8 ?_
      refine lv_icmp_ge (tgt := 38) hx hb dX0_isUnder_9 (by decide) (fun c_6 => ?_) (fun c_6 => ?_)
      ·
        have kc_6 : (8 : Int) ≤ x_5.toInt := i_le c_6
        exfalso; omega
      ·
        have kc_6 : x_5.toInt < (8 : Int) := i_nle c_6
        refine lv_iload_n hx hb dX0_isUnder_12 rfl (lv_at hl 1 rfl) ?_
        refine cS_p (As := [.int 0]) (rest := []) ⟨hx, hb, hml, hown, hg⟩ (k_IK_1 l    ) ca_X0_isKind q4_145 ⟨rfl, rfl⟩ ⟨Nat.le_of_ble_eq_true rfl, Nat.le_of_ble_eq_true rfl⟩ rfl hl.1 rfl (Nat.le_of_ble_eq_true rfl) ⟨Nat.zero_le _, Nat.zero_le _⟩ dX0_isUnder_13 (fun r_7 wr_7 => ?_)
        have wr_7 : r_7.toInt = 1 := wr_7
        refine lv_if_eq (tgt := 38) hx hb dX0_isUnder_16 (by decide) (fun c_8 => ?_) (fun c_8 => ?_)
        ·
          have kc_8 : r_7.toInt = (0 : Int) := i_eq c_8
          exfalso; omega
        ·
          have kc_8 : r_7.toInt ≠ (0 : Int) := i_ne c_8
          refine lv_iload_n hx hb dX0_isUnder_19 rfl (lv_at hl 1 rfl) ?_
          refine lv_iload_n hx hb dX0_isUnder_20 rfl (lv_at hl 3 rfl) ?_
          refine lv_icmp_ne (tgt := 26) hx hb dX0_isUnder_21 (by decide) (fun c_9 => ?_) (fun c_9 => ?_)
          ·
            have kc_9 : (0 : Int) ≠ p2.toInt := i_ne c_9
            obtain ⟨t0, t1, t2, ⟨a0, b0⟩, ⟨a1, b1⟩, ⟨a2, b2⟩⟩ := id hZ
            refine va_gets hx hb a2 hS hown (hg _ q4_143) (fun _ h9 => h9) dX0_isUnder_26 ?_
            refine lv_iload_n hx hb dX0_isUnder_29 rfl (lv_at hl 1 rfl) ?_
            refine va_ti hx hb b2 hS (i_in (by decide) (by decide)) (v := .int (-1)) rfl dX0_isUnder_30 ?_
            refine lv_istore_n (lv' := [(2, .int (-1)), (3, .int x_5), (0, .int 1), (1, .int p2)]) hx hb dX0_isUnder_31 rfl hl (by decide) rfl (fun ls hl => ?_)
            obtain ⟨x_10, ex_10⟩ : ∃ y : Int32, y = x_5 + 1 := ⟨_, rfl⟩
            have fx_10 : x_10.toInt = x_5.toInt + 1 := by rw [ex_10]; exact i_add (by first | omega | (show (_ : Int) ≤ x_5.toInt + 1; omega)) (by first | omega | (show x_5.toInt + 1 ≤ (_ : Int); omega))
            refine lv_iinc (v := x_10) (lv' := [(3, .int x_10), (2, .int (-1)), (0, .int 1), (1, .int p2)]) hx hb dX0_isUnder_32 hl (k := 1) rfl (by rw [ex_10]; rfl) (by decide) rfl (fun ls hl => ?_)
            refine lv_goto (tgt := 4) hx hb dX0_isUnder_35 (by decide) ?_
            refine lv_iload_n hx hb dX0_isUnder_4 rfl (lv_at hl 0 rfl) ?_
            obtain ⟨t0, t1, t2, ⟨a0, b0⟩, ⟨a1, b1⟩, ⟨a2, b2⟩⟩ := id hZ
            refine va_gets hx hb a2 hS hown (hg _ q4_143) (fun _ h9 => h9) dX0_isUnder_5 ?_
            refine va_tlen hx hb b2 hS (v := 8) rfl dX0_isUnder_8 ?_
            refine lv_icmp_ge (tgt := 38) hx hb dX0_isUnder_9 (by decide) (fun c_11 => ?_) (fun c_11 => ?_)
            ·
              have kc_11 : (8 : Int) ≤ x_10.toInt := i_le c_11
              exfalso; omega
            ·
              have kc_11 : x_10.toInt < (8 : Int) := i_nle c_11
              refine lv_iload_n hx hb dX0_isUnder_12 rfl (lv_at hl 1 rfl) ?_
              refine cS_p (As := [.int (-1)]) (rest := []) ⟨hx, hb, hml, hown, hg⟩ (k_IK_0 l    ) ca_X0_isKind q4_145 ⟨rfl, rfl⟩ ⟨Nat.le_of_ble_eq_true rfl, Nat.le_of_ble_eq_true rfl⟩ rfl hl.1 rfl (Nat.le_of_ble_eq_true rfl) ⟨Nat.zero_le _, Nat.zero_le _⟩ dX0_isUnder_13 (fun r_12 wr_12 => ?_)
              have wr_12 : r_12.toInt = 0 := wr_12
              refine lv_if_eq (tgt := 38) hx hb dX0_isUnder_16 (by decide) (fun c_13 => ?_) (fun c_13 => ?_)
              ·
                have kc_13 : r_12.toInt = (0 : Int) := i_eq c_13
                refine lv_iconst (v := 0) hx hb dX0_isUnder_38 (by decide) ?_
                have q0_0 : (0 : Int32).toInt = 0 := rfl
                exact W.zret (v := 0) hx hb hr rfl (fun tt ht hW => ⟨⟨0, (), rfl, (by first | rfl | omega | trivial | assumption | (dsimp only; first | omega | assumption)), by rw [ht]; exact hP, hD⟩, hS.F ht⟩) hS.2.2 dX0_isUnder_39
              ·
                have kc_13 : r_12.toInt ≠ (0 : Int) := i_ne c_13
                exfalso; omega
          ·
            have kc_9 : (0 : Int) = p2.toInt := i_eq c_9
            refine lv_iconst (v := 1) hx hb dX0_isUnder_24 (by decide) ?_
            have q0_1 : (1 : Int32).toInt = 1 := rfl
            exact W.zret (v := 1) hx hb hr rfl (fun tt ht hW => ⟨⟨1, (), rfl, (by first | rfl | omega | trivial | assumption | (dsimp only; first | omega | assumption)), by rw [ht]; exact hP, hD⟩, hS.F ht⟩) hS.2.2 dX0_isUnder_25
    ·
      have kc_4 : (1 : Int) = p2.toInt := i_eq c_4
      refine lv_iconst (v := 1) hx hb dX0_isUnder_24 (by decide) ?_
      have q0_1 : (1 : Int32).toInt = 1 := rfl
      exact W.zret (v := 1) hx hb hr rfl (fun tt ht hW => ⟨⟨1, (), rfl, (by first | rfl | omega | trivial | assumption | (dsimp only; first | omega | assumption)), by rw [ht]; exact hP, hD⟩, hS.F ht⟩) hS.2.2 dX0_isUnder_25
set_option maxHeartbeats 4000000 in
set_option maxRecDepth 100000 in
theorem k_U_3 (l : Launch) (D : va_G) (cs : Nat → ClassId) (A : Nat → Prop) (ad fa fq rv : Nat → Nat) (v : Nat → Int32) (a : Nat → Nat → Int32) (w : Nat → Nat → Int64) (fv fp : Nat → Nat → Int32)  (p2 : Int32) (h1 : 0 ≤ p2.toInt) (h2 : p2.toInt ≤ 7) : Met l yX0_isUnder (Cond.code yX0_isUnder cX0_isUnder 4 (some .boolean) :: gw) ({ frames := 1, cells := 0, slots := 0, locals := 20 }) (va_Pc [.int 2, .int p2] (XPre D (TY cs) (CW cs ad fa fq rv v a w fv fp) A)) (va_Qi (fun (r : Int32) (z : Unit) => ((r.toInt = 1 ∧ (p2.toInt = 2 ∨ p2.toInt = 0)) ∨ (r.toInt = 0 ∧ ¬ ((p2.toInt = 2 ∨ p2.toInt = 0))))) (XPo D (fun (z : Unit) => CW cs ad fa fq rv v a w fv fp) A) A) 0 0 A := by
  refine Met.ofW (cc := cX0_isUnder) (maxL := 4) (ret := (some .boolean)) (by decide) rfl ?_
  intro p e s m args below meth c s₁ B hml hv
  obtain ⟨rfl, hP, hK, hD, hZ⟩ := hv
  have hx := B.exec
  have hb := B.bytes
  have hr := B.returns
  have hts := atoms_spec (ws := (Cond.code yX0_isUnder cX0_isUnder 4 (some .boolean) :: gw)) B.pre
  have hg : ∀ w ∈ gw, w.before ([.int 2, .int p2] : List Value).toArray s = true := fun w h => hts w (List.mem_cons_of_mem _ h)
  have hown : s.vm.findClass RX0 = some m.cls := findClass_of_methodNamed B.named
  have hlocks := B.notSynchronized
  have hS : va_S A s.heap s.heap [] := va_S.rf
  have hP : va_P D vwCl (CW cs ad fa fq rv v a w fv fp) s.heap := hP
  have hl := lv_entry ([.int 2, .int p2]) (n := 4) (Nat.le_of_ble_eq_true rfl)
  rw [lg_entry_eq]
  generalize (lg_sl ([.int 2, .int p2]) ++ List.replicate (4 - (lg_sl ([.int 2, .int p2])).length) Slot.unset).toArray = ls at hl ⊢
  have hl : lv_has ls 4 [(0, .int 2), (1, .int p2)] := hl
  refine lv_iload_n hx hb dX0_isUnder_0 rfl (lv_at hl 0 rfl) ?_
  refine lv_istore_n (lv' := [(2, .int 2), (0, .int 2), (1, .int p2)]) hx hb dX0_isUnder_1 rfl hl (by decide) rfl (fun ls hl => ?_)
  refine lv_iconst (v := 0) hx hb dX0_isUnder_2 (by decide) ?_
  refine lv_istore_n (lv' := [(3, .int 0), (2, .int 2), (0, .int 2), (1, .int p2)]) hx hb dX0_isUnder_3 rfl hl (by decide) rfl (fun ls hl => ?_)
  refine lv_iload_n hx hb dX0_isUnder_4 rfl (lv_at hl 0 rfl) ?_
  obtain ⟨t0, t1, t2, ⟨a0, b0⟩, ⟨a1, b1⟩, ⟨a2, b2⟩⟩ := id hZ
  refine va_gets hx hb a2 hS hown (hg _ q4_143) (fun _ h9 => h9) dX0_isUnder_5 ?_
  refine va_tlen hx hb b2 hS (v := 8) rfl dX0_isUnder_8 ?_
  refine lv_icmp_ge (tgt := 38) hx hb dX0_isUnder_9 (by decide) (fun c_1 => absurd c_1 (by decide)) (fun c_1 => ?_)
  refine lv_iload_n hx hb dX0_isUnder_12 rfl (lv_at hl 1 rfl) ?_
  refine cS_p (As := [.int 2]) (rest := []) ⟨hx, hb, hml, hown, hg⟩ (k_IK_3 l    ) ca_X0_isKind q4_145 ⟨rfl, rfl⟩ ⟨Nat.le_of_ble_eq_true rfl, Nat.le_of_ble_eq_true rfl⟩ rfl hl.1 rfl (Nat.le_of_ble_eq_true rfl) ⟨Nat.zero_le _, Nat.zero_le _⟩ dX0_isUnder_13 (fun r_2 wr_2 => ?_)
  have wr_2 : r_2.toInt = 1 := wr_2
  refine lv_if_eq (tgt := 38) hx hb dX0_isUnder_16 (by decide) (fun c_3 => ?_) (fun c_3 => ?_)
  ·
    have kc_3 : r_2.toInt = (0 : Int) := i_eq c_3
    exfalso; omega
  ·
    have kc_3 : r_2.toInt ≠ (0 : Int) := i_ne c_3
    refine lv_iload_n hx hb dX0_isUnder_19 rfl (lv_at hl 1 rfl) ?_
    refine lv_iload_n hx hb dX0_isUnder_20 rfl (lv_at hl 3 rfl) ?_
    refine lv_icmp_ne (tgt := 26) hx hb dX0_isUnder_21 (by decide) (fun c_4 => ?_) (fun c_4 => ?_)
    ·
      have kc_4 : (2 : Int) ≠ p2.toInt := i_ne c_4
      obtain ⟨t0, t1, t2, ⟨a0, b0⟩, ⟨a1, b1⟩, ⟨a2, b2⟩⟩ := id hZ
      refine va_gets hx hb a2 hS hown (hg _ q4_143) (fun _ h9 => h9) dX0_isUnder_26 ?_
      refine lv_iload_n hx hb dX0_isUnder_29 rfl (lv_at hl 1 rfl) ?_
      refine va_ti hx hb b2 hS (i_in (by decide) (by decide)) (v := .int 0) rfl dX0_isUnder_30 ?_
      refine lv_istore_n (lv' := [(2, .int 0), (3, .int 0), (0, .int 2), (1, .int p2)]) hx hb dX0_isUnder_31 rfl hl (by decide) rfl (fun ls hl => ?_)
      obtain ⟨x_5, ex_5⟩ : ∃ y : Int32, y = 0 + 1 := ⟨_, rfl⟩
      have fx_5 : x_5.toInt = (0 : Int) + 1 := by rw [ex_5]; exact i_add (by first | omega | (show (_ : Int) ≤ (0 : Int) + 1; omega)) (by first | omega | (show (0 : Int) + 1 ≤ (_ : Int); omega))
      refine lv_iinc (v := x_5) (lv' := [(3, .int x_5), (2, .int 0), (0, .int 2), (1, .int p2)]) hx hb dX0_isUnder_32 hl (k := 1) rfl (by rw [ex_5]; rfl) (by decide) rfl (fun ls hl => ?_)
      refine lv_goto (tgt := 4) hx hb dX0_isUnder_35 (by decide) ?_
      refine lv_iload_n hx hb dX0_isUnder_4 rfl (lv_at hl 0 rfl) ?_
      obtain ⟨t0, t1, t2, ⟨a0, b0⟩, ⟨a1, b1⟩, ⟨a2, b2⟩⟩ := id hZ
      refine va_gets hx hb a2 hS hown (hg _ q4_143) (fun _ h9 => h9) dX0_isUnder_5 ?_
      refine va_tlen hx hb b2 hS (v := 8) rfl dX0_isUnder_8 ?_
      refine lv_icmp_ge (tgt := 38) hx hb dX0_isUnder_9 (by decide) (fun c_6 => ?_) (fun c_6 => ?_)
      ·
        have kc_6 : (8 : Int) ≤ x_5.toInt := i_le c_6
        exfalso; omega
      ·
        have kc_6 : x_5.toInt < (8 : Int) := i_nle c_6
        refine lv_iload_n hx hb dX0_isUnder_12 rfl (lv_at hl 1 rfl) ?_
        refine cS_p (As := [.int 0]) (rest := []) ⟨hx, hb, hml, hown, hg⟩ (k_IK_1 l    ) ca_X0_isKind q4_145 ⟨rfl, rfl⟩ ⟨Nat.le_of_ble_eq_true rfl, Nat.le_of_ble_eq_true rfl⟩ rfl hl.1 rfl (Nat.le_of_ble_eq_true rfl) ⟨Nat.zero_le _, Nat.zero_le _⟩ dX0_isUnder_13 (fun r_7 wr_7 => ?_)
        have wr_7 : r_7.toInt = 1 := wr_7
        refine lv_if_eq (tgt := 38) hx hb dX0_isUnder_16 (by decide) (fun c_8 => ?_) (fun c_8 => ?_)
        ·
          have kc_8 : r_7.toInt = (0 : Int) := i_eq c_8
          exfalso; omega
        ·
          have kc_8 : r_7.toInt ≠ (0 : Int) := i_ne c_8
          refine lv_iload_n hx hb dX0_isUnder_19 rfl (lv_at hl 1 rfl) ?_
          refine lv_iload_n hx hb dX0_isUnder_20 rfl (lv_at hl 3 rfl) ?_
          refine lv_icmp_ne (tgt := 26) hx hb dX0_isUnder_21 (by decide) (fun c_9 => ?_) (fun c_9 => ?_)
          ·
            have kc_9 : (0 : Int) ≠ p2.toInt := i_ne c_9
            obtain ⟨t0, t1, t2, ⟨a0, b0⟩, ⟨a1, b1⟩, ⟨a2, b2⟩⟩ := id hZ
            refine va_gets hx hb a2 hS hown (hg _ q4_143) (fun _ h9 => h9) dX0_isUnder_26 ?_
            refine lv_iload_n hx hb dX0_isUnder_29 rfl (lv_at hl 1 rfl) ?_
            refine va_ti hx hb b2 hS (i_in (by decide) (by decide)) (v := .int (-1)) rfl dX0_isUnder_30 ?_
            refine lv_istore_n (lv' := [(2, .int (-1)), (3, .int x_5), (0, .int 2), (1, .int p2)]) hx hb dX0_isUnder_31 rfl hl (by decide) rfl (fun ls hl => ?_)
            obtain ⟨x_10, ex_10⟩ : ∃ y : Int32, y = x_5 + 1 := ⟨_, rfl⟩
            have fx_10 : x_10.toInt = x_5.toInt + 1 := by rw [ex_10]; exact i_add (by first | omega | (show (_ : Int) ≤ x_5.toInt + 1; omega)) (by first | omega | (show x_5.toInt + 1 ≤ (_ : Int); omega))
            refine lv_iinc (v := x_10) (lv' := [(3, .int x_10), (2, .int (-1)), (0, .int 2), (1, .int p2)]) hx hb dX0_isUnder_32 hl (k := 1) rfl (by rw [ex_10]; rfl) (by decide) rfl (fun ls hl => ?_)
            refine lv_goto (tgt := 4) hx hb dX0_isUnder_35 (by decide) ?_
            refine lv_iload_n hx hb dX0_isUnder_4 rfl (lv_at hl 0 rfl) ?_
            obtain ⟨t0, t1, t2, ⟨a0, b0⟩, ⟨a1, b1⟩, ⟨a2, b2⟩⟩ := id hZ
            refine va_gets hx hb a2 hS hown (hg _ q4_143) (fun _ h9 => h9) dX0_isUnder_5 ?_
            refine va_tlen hx hb b2 hS (v := 8) rfl dX0_isUnder_8 ?_
            refine lv_icmp_ge (tgt := 38) hx hb dX0_isUnder_9 (by decide) (fun c_11 => ?_) (fun c_11 => ?_)
            ·
              have kc_11 : (8 : Int) ≤ x_10.toInt := i_le c_11
              exfalso; omega
            ·
              have kc_11 : x_10.toInt < (8 : Int) := i_nle c_11
              refine lv_iload_n hx hb dX0_isUnder_12 rfl (lv_at hl 1 rfl) ?_
              refine cS_p (As := [.int (-1)]) (rest := []) ⟨hx, hb, hml, hown, hg⟩ (k_IK_0 l    ) ca_X0_isKind q4_145 ⟨rfl, rfl⟩ ⟨Nat.le_of_ble_eq_true rfl, Nat.le_of_ble_eq_true rfl⟩ rfl hl.1 rfl (Nat.le_of_ble_eq_true rfl) ⟨Nat.zero_le _, Nat.zero_le _⟩ dX0_isUnder_13 (fun r_12 wr_12 => ?_)
              have wr_12 : r_12.toInt = 0 := wr_12
              refine lv_if_eq (tgt := 38) hx hb dX0_isUnder_16 (by decide) (fun c_13 => ?_) (fun c_13 => ?_)
              ·
                have kc_13 : r_12.toInt = (0 : Int) := i_eq c_13
                refine lv_iconst (v := 0) hx hb dX0_isUnder_38 (by decide) ?_
                have q0_0 : (0 : Int32).toInt = 0 := rfl
                exact W.zret (v := 0) hx hb hr rfl (fun tt ht hW => ⟨⟨0, (), rfl, (by first | rfl | omega | trivial | assumption | (dsimp only; first | omega | assumption)), by rw [ht]; exact hP, hD⟩, hS.F ht⟩) hS.2.2 dX0_isUnder_39
              ·
                have kc_13 : r_12.toInt ≠ (0 : Int) := i_ne c_13
                exfalso; omega
          ·
            have kc_9 : (0 : Int) = p2.toInt := i_eq c_9
            refine lv_iconst (v := 1) hx hb dX0_isUnder_24 (by decide) ?_
            have q0_1 : (1 : Int32).toInt = 1 := rfl
            exact W.zret (v := 1) hx hb hr rfl (fun tt ht hW => ⟨⟨1, (), rfl, (by first | rfl | omega | trivial | assumption | (dsimp only; first | omega | assumption)), by rw [ht]; exact hP, hD⟩, hS.F ht⟩) hS.2.2 dX0_isUnder_25
    ·
      have kc_4 : (2 : Int) = p2.toInt := i_eq c_4
      refine lv_iconst (v := 1) hx hb dX0_isUnder_24 (by decide) ?_
      have q0_1 : (1 : Int32).toInt = 1 := rfl
      exact W.zret (v := 1) hx hb hr rfl (fun tt ht hW => ⟨⟨1, (), rfl, (by first | rfl | omega | trivial | assumption | (dsimp only; first | omega | assumption)), by rw [ht]; exact hP, hD⟩, hS.F ht⟩) hS.2.2 dX0_isUnder_25
set_option maxHeartbeats 4000000 in
set_option maxRecDepth 100000 in
theorem k_U_4 (l : Launch) (D : va_G) (cs : Nat → ClassId) (A : Nat → Prop) (ad fa fq rv : Nat → Nat) (v : Nat → Int32) (a : Nat → Nat → Int32) (w : Nat → Nat → Int64) (fv fp : Nat → Nat → Int32)  (p2 : Int32) (h1 : 0 ≤ p2.toInt) (h2 : p2.toInt ≤ 7) : Met l yX0_isUnder (Cond.code yX0_isUnder cX0_isUnder 4 (some .boolean) :: gw) ({ frames := 1, cells := 0, slots := 0, locals := 20 }) (va_Pc [.int 3, .int p2] (XPre D (TY cs) (CW cs ad fa fq rv v a w fv fp) A)) (va_Qi (fun (r : Int32) (z : Unit) => ((r.toInt = 1 ∧ (p2.toInt = 3 ∨ p2.toInt = 2 ∨ p2.toInt = 0)) ∨ (r.toInt = 0 ∧ ¬ ((p2.toInt = 3 ∨ p2.toInt = 2 ∨ p2.toInt = 0))))) (XPo D (fun (z : Unit) => CW cs ad fa fq rv v a w fv fp) A) A) 0 0 A := by
  refine Met.ofW (cc := cX0_isUnder) (maxL := 4) (ret := (some .boolean)) (by decide) rfl ?_
  intro p e s m args below meth c s₁ B hml hv
  obtain ⟨rfl, hP, hK, hD, hZ⟩ := hv
  have hx := B.exec
  have hb := B.bytes
  have hr := B.returns
  have hts := atoms_spec (ws := (Cond.code yX0_isUnder cX0_isUnder 4 (some .boolean) :: gw)) B.pre
  have hg : ∀ w ∈ gw, w.before ([.int 3, .int p2] : List Value).toArray s = true := fun w h => hts w (List.mem_cons_of_mem _ h)
  have hown : s.vm.findClass RX0 = some m.cls := findClass_of_methodNamed B.named
  have hlocks := B.notSynchronized
  have hS : va_S A s.heap s.heap [] := va_S.rf
  have hP : va_P D vwCl (CW cs ad fa fq rv v a w fv fp) s.heap := hP
  have hl := lv_entry ([.int 3, .int p2]) (n := 4) (Nat.le_of_ble_eq_true rfl)
  rw [lg_entry_eq]
  generalize (lg_sl ([.int 3, .int p2]) ++ List.replicate (4 - (lg_sl ([.int 3, .int p2])).length) Slot.unset).toArray = ls at hl ⊢
  have hl : lv_has ls 4 [(0, .int 3), (1, .int p2)] := hl
  refine lv_iload_n hx hb dX0_isUnder_0 rfl (lv_at hl 0 rfl) ?_
  refine lv_istore_n (lv' := [(2, .int 3), (0, .int 3), (1, .int p2)]) hx hb dX0_isUnder_1 rfl hl (by decide) rfl (fun ls hl => ?_)
  refine lv_iconst (v := 0) hx hb dX0_isUnder_2 (by decide) ?_
  refine lv_istore_n (lv' := [(3, .int 0), (2, .int 3), (0, .int 3), (1, .int p2)]) hx hb dX0_isUnder_3 rfl hl (by decide) rfl (fun ls hl => ?_)
  refine lv_iload_n hx hb dX0_isUnder_4 rfl (lv_at hl 0 rfl) ?_
  obtain ⟨t0, t1, t2, ⟨a0, b0⟩, ⟨a1, b1⟩, ⟨a2, b2⟩⟩ := id hZ
  refine va_gets hx hb a2 hS hown (hg _ q4_143) (fun _ h9 => h9) dX0_isUnder_5 ?_
  refine va_tlen hx hb b2 hS (v := 8) rfl dX0_isUnder_8 ?_
  refine lv_icmp_ge (tgt := 38) hx hb dX0_isUnder_9 (by decide) (fun c_1 => absurd c_1 (by decide)) (fun c_1 => ?_)
  refine lv_iload_n hx hb dX0_isUnder_12 rfl (lv_at hl 1 rfl) ?_
  refine cS_p (As := [.int 3]) (rest := []) ⟨hx, hb, hml, hown, hg⟩ (k_IK_4 l    ) ca_X0_isKind q4_145 ⟨rfl, rfl⟩ ⟨Nat.le_of_ble_eq_true rfl, Nat.le_of_ble_eq_true rfl⟩ rfl hl.1 rfl (Nat.le_of_ble_eq_true rfl) ⟨Nat.zero_le _, Nat.zero_le _⟩ dX0_isUnder_13 (fun r_2 wr_2 => ?_)
  have wr_2 : r_2.toInt = 1 := wr_2
  refine lv_if_eq (tgt := 38) hx hb dX0_isUnder_16 (by decide) (fun c_3 => ?_) (fun c_3 => ?_)
  ·
    have kc_3 : r_2.toInt = (0 : Int) := i_eq c_3
    exfalso; omega
  ·
    have kc_3 : r_2.toInt ≠ (0 : Int) := i_ne c_3
    refine lv_iload_n hx hb dX0_isUnder_19 rfl (lv_at hl 1 rfl) ?_
    refine lv_iload_n hx hb dX0_isUnder_20 rfl (lv_at hl 3 rfl) ?_
    refine lv_icmp_ne (tgt := 26) hx hb dX0_isUnder_21 (by decide) (fun c_4 => ?_) (fun c_4 => ?_)
    ·
      have kc_4 : (3 : Int) ≠ p2.toInt := i_ne c_4
      obtain ⟨t0, t1, t2, ⟨a0, b0⟩, ⟨a1, b1⟩, ⟨a2, b2⟩⟩ := id hZ
      refine va_gets hx hb a2 hS hown (hg _ q4_143) (fun _ h9 => h9) dX0_isUnder_26 ?_
      refine lv_iload_n hx hb dX0_isUnder_29 rfl (lv_at hl 1 rfl) ?_
      refine va_ti hx hb b2 hS (i_in (by decide) (by decide)) (v := .int 2) rfl dX0_isUnder_30 ?_
      refine lv_istore_n (lv' := [(2, .int 2), (3, .int 0), (0, .int 3), (1, .int p2)]) hx hb dX0_isUnder_31 rfl hl (by decide) rfl (fun ls hl => ?_)
      obtain ⟨x_5, ex_5⟩ : ∃ y : Int32, y = 0 + 1 := ⟨_, rfl⟩
      have fx_5 : x_5.toInt = (0 : Int) + 1 := by rw [ex_5]; exact i_add (by first | omega | (show (_ : Int) ≤ (0 : Int) + 1; omega)) (by first | omega | (show (0 : Int) + 1 ≤ (_ : Int); omega))
      refine lv_iinc (v := x_5) (lv' := [(3, .int x_5), (2, .int 2), (0, .int 3), (1, .int p2)]) hx hb dX0_isUnder_32 hl (k := 1) rfl (by rw [ex_5]; rfl) (by decide) rfl (fun ls hl => ?_)
      refine lv_goto (tgt := 4) hx hb dX0_isUnder_35 (by decide) ?_
      refine lv_iload_n hx hb dX0_isUnder_4 rfl (lv_at hl 0 rfl) ?_
      obtain ⟨t0, t1, t2, ⟨a0, b0⟩, ⟨a1, b1⟩, ⟨a2, b2⟩⟩ := id hZ
      refine va_gets hx hb a2 hS hown (hg _ q4_143) (fun _ h9 => h9) dX0_isUnder_5 ?_
      refine va_tlen hx hb b2 hS (v := 8) rfl dX0_isUnder_8 ?_
      refine lv_icmp_ge (tgt := 38) hx hb dX0_isUnder_9 (by decide) (fun c_6 => ?_) (fun c_6 => ?_)
      ·
        have kc_6 : (8 : Int) ≤ x_5.toInt := i_le c_6
        exfalso; omega
      ·
        have kc_6 : x_5.toInt < (8 : Int) := i_nle c_6
        refine lv_iload_n hx hb dX0_isUnder_12 rfl (lv_at hl 1 rfl) ?_
        refine cS_p (As := [.int 2]) (rest := []) ⟨hx, hb, hml, hown, hg⟩ (k_IK_3 l    ) ca_X0_isKind q4_145 ⟨rfl, rfl⟩ ⟨Nat.le_of_ble_eq_true rfl, Nat.le_of_ble_eq_true rfl⟩ rfl hl.1 rfl (Nat.le_of_ble_eq_true rfl) ⟨Nat.zero_le _, Nat.zero_le _⟩ dX0_isUnder_13 (fun r_7 wr_7 => ?_)
        have wr_7 : r_7.toInt = 1 := wr_7
        refine lv_if_eq (tgt := 38) hx hb dX0_isUnder_16 (by decide) (fun c_8 => ?_) (fun c_8 => ?_)
        ·
          have kc_8 : r_7.toInt = (0 : Int) := i_eq c_8
          exfalso; omega
        ·
          have kc_8 : r_7.toInt ≠ (0 : Int) := i_ne c_8
          refine lv_iload_n hx hb dX0_isUnder_19 rfl (lv_at hl 1 rfl) ?_
          refine lv_iload_n hx hb dX0_isUnder_20 rfl (lv_at hl 3 rfl) ?_
          refine lv_icmp_ne (tgt := 26) hx hb dX0_isUnder_21 (by decide) (fun c_9 => ?_) (fun c_9 => ?_)
          ·
            have kc_9 : (2 : Int) ≠ p2.toInt := i_ne c_9
            obtain ⟨t0, t1, t2, ⟨a0, b0⟩, ⟨a1, b1⟩, ⟨a2, b2⟩⟩ := id hZ
            refine va_gets hx hb a2 hS hown (hg _ q4_143) (fun _ h9 => h9) dX0_isUnder_26 ?_
            refine lv_iload_n hx hb dX0_isUnder_29 rfl (lv_at hl 1 rfl) ?_
            refine va_ti hx hb b2 hS (i_in (by decide) (by decide)) (v := .int 0) rfl dX0_isUnder_30 ?_
            refine lv_istore_n (lv' := [(2, .int 0), (3, .int x_5), (0, .int 3), (1, .int p2)]) hx hb dX0_isUnder_31 rfl hl (by decide) rfl (fun ls hl => ?_)
            obtain ⟨x_10, ex_10⟩ : ∃ y : Int32, y = x_5 + 1 := ⟨_, rfl⟩
            have fx_10 : x_10.toInt = x_5.toInt + 1 := by rw [ex_10]; exact i_add (by first | omega | (show (_ : Int) ≤ x_5.toInt + 1; omega)) (by first | omega | (show x_5.toInt + 1 ≤ (_ : Int); omega))
            refine lv_iinc (v := x_10) (lv' := [(3, .int x_10), (2, .int 0), (0, .int 3), (1, .int p2)]) hx hb dX0_isUnder_32 hl (k := 1) rfl (by rw [ex_10]; rfl) (by decide) rfl (fun ls hl => ?_)
            refine lv_goto (tgt := 4) hx hb dX0_isUnder_35 (by decide) ?_
            refine lv_iload_n hx hb dX0_isUnder_4 rfl (lv_at hl 0 rfl) ?_
            obtain ⟨t0, t1, t2, ⟨a0, b0⟩, ⟨a1, b1⟩, ⟨a2, b2⟩⟩ := id hZ
            refine va_gets hx hb a2 hS hown (hg _ q4_143) (fun _ h9 => h9) dX0_isUnder_5 ?_
            refine va_tlen hx hb b2 hS (v := 8) rfl dX0_isUnder_8 ?_
            refine lv_icmp_ge (tgt := 38) hx hb dX0_isUnder_9 (by decide) (fun c_11 => ?_) (fun c_11 => ?_)
            ·
              have kc_11 : (8 : Int) ≤ x_10.toInt := i_le c_11
              exfalso; omega
            ·
              have kc_11 : x_10.toInt < (8 : Int) := i_nle c_11
              refine lv_iload_n hx hb dX0_isUnder_12 rfl (lv_at hl 1 rfl) ?_
              refine cS_p (As := [.int 0]) (rest := []) ⟨hx, hb, hml, hown, hg⟩ (k_IK_1 l    ) ca_X0_isKind q4_145 ⟨rfl, rfl⟩ ⟨Nat.le_of_ble_eq_true rfl, Nat.le_of_ble_eq_true rfl⟩ rfl hl.1 rfl (Nat.le_of_ble_eq_true rfl) ⟨Nat.zero_le _, Nat.zero_le _⟩ dX0_isUnder_13 (fun r_12 wr_12 => ?_)
              have wr_12 : r_12.toInt = 1 := wr_12
              refine lv_if_eq (tgt := 38) hx hb dX0_isUnder_16 (by decide) (fun c_13 => ?_) (fun c_13 => ?_)
              ·
                have kc_13 : r_12.toInt = (0 : Int) := i_eq c_13
                exfalso; omega
              ·
                have kc_13 : r_12.toInt ≠ (0 : Int) := i_ne c_13
                refine lv_iload_n hx hb dX0_isUnder_19 rfl (lv_at hl 1 rfl) ?_
                refine lv_iload_n hx hb dX0_isUnder_20 rfl (lv_at hl 3 rfl) ?_
                refine lv_icmp_ne (tgt := 26) hx hb dX0_isUnder_21 (by decide) (fun c_14 => ?_) (fun c_14 => ?_)
                ·
                  have kc_14 : (0 : Int) ≠ p2.toInt := i_ne c_14
                  obtain ⟨t0, t1, t2, ⟨a0, b0⟩, ⟨a1, b1⟩, ⟨a2, b2⟩⟩ := id hZ
                  refine va_gets hx hb a2 hS hown (hg _ q4_143) (fun _ h9 => h9) dX0_isUnder_26 ?_
                  refine lv_iload_n hx hb dX0_isUnder_29 rfl (lv_at hl 1 rfl) ?_
                  refine va_ti hx hb b2 hS (i_in (by decide) (by decide)) (v := .int (-1)) rfl dX0_isUnder_30 ?_
                  refine lv_istore_n (lv' := [(2, .int (-1)), (3, .int x_10), (0, .int 3), (1, .int p2)]) hx hb dX0_isUnder_31 rfl hl (by decide) rfl (fun ls hl => ?_)
                  obtain ⟨x_15, ex_15⟩ : ∃ y : Int32, y = x_10 + 1 := ⟨_, rfl⟩
                  have fx_15 : x_15.toInt = x_10.toInt + 1 := by rw [ex_15]; exact i_add (by first | omega | (show (_ : Int) ≤ x_10.toInt + 1; omega)) (by first | omega | (show x_10.toInt + 1 ≤ (_ : Int); omega))
                  refine lv_iinc (v := x_15) (lv' := [(3, .int x_15), (2, .int (-1)), (0, .int 3), (1, .int p2)]) hx hb dX0_isUnder_32 hl (k := 1) rfl (by rw [ex_15]; rfl) (by decide) rfl (fun ls hl => ?_)
                  refine lv_goto (tgt := 4) hx hb dX0_isUnder_35 (by decide) ?_
                  refine lv_iload_n hx hb dX0_isUnder_4 rfl (lv_at hl 0 rfl) ?_
                  obtain ⟨t0, t1, t2, ⟨a0, b0⟩, ⟨a1, b1⟩, ⟨a2, b2⟩⟩ := id hZ
                  refine va_gets hx hb a2 hS hown (hg _ q4_143) (fun _ h9 => h9) dX0_isUnder_5 ?_
                  refine va_tlen hx hb b2 hS (v := 8) rfl dX0_isUnder_8 ?_
                  refine lv_icmp_ge (tgt := 38) hx hb dX0_isUnder_9 (by decide) (fun c_16 => ?_) (fun c_16 => ?_)
                  ·
                    have kc_16 : (8 : Int) ≤ x_15.toInt := i_le c_16
                    exfalso; omega
                  ·
                    have kc_16 : x_15.toInt < (8 : Int) := i_nle c_16
                    refine lv_iload_n hx hb dX0_isUnder_12 rfl (lv_at hl 1 rfl) ?_
                    refine cS_p (As := [.int (-1)]) (rest := []) ⟨hx, hb, hml, hown, hg⟩ (k_IK_0 l    ) ca_X0_isKind q4_145 ⟨rfl, rfl⟩ ⟨Nat.le_of_ble_eq_true rfl, Nat.le_of_ble_eq_true rfl⟩ rfl hl.1 rfl (Nat.le_of_ble_eq_true rfl) ⟨Nat.zero_le _, Nat.zero_le _⟩ dX0_isUnder_13 (fun r_17 wr_17 => ?_)
                    have wr_17 : r_17.toInt = 0 := wr_17
                    refine lv_if_eq (tgt := 38) hx hb dX0_isUnder_16 (by decide) (fun c_18 => ?_) (fun c_18 => ?_)
                    ·
                      have kc_18 : r_17.toInt = (0 : Int) := i_eq c_18
                      refine lv_iconst (v := 0) hx hb dX0_isUnder_38 (by decide) ?_
                      have q0_0 : (0 : Int32).toInt = 0 := rfl
                      exact W.zret (v := 0) hx hb hr rfl (fun tt ht hW => ⟨⟨0, (), rfl, (by first | rfl | omega | trivial | assumption | (dsimp only; first | omega | assumption)), by rw [ht]; exact hP, hD⟩, hS.F ht⟩) hS.2.2 dX0_isUnder_39
                    ·
                      have kc_18 : r_17.toInt ≠ (0 : Int) := i_ne c_18
                      exfalso; omega
                ·
                  have kc_14 : (0 : Int) = p2.toInt := i_eq c_14
                  refine lv_iconst (v := 1) hx hb dX0_isUnder_24 (by decide) ?_
                  have q0_1 : (1 : Int32).toInt = 1 := rfl
                  exact W.zret (v := 1) hx hb hr rfl (fun tt ht hW => ⟨⟨1, (), rfl, (by first | rfl | omega | trivial | assumption | (dsimp only; first | omega | assumption)), by rw [ht]; exact hP, hD⟩, hS.F ht⟩) hS.2.2 dX0_isUnder_25
          ·
            have kc_9 : (2 : Int) = p2.toInt := i_eq c_9
            refine lv_iconst (v := 1) hx hb dX0_isUnder_24 (by decide) ?_
            have q0_1 : (1 : Int32).toInt = 1 := rfl
            exact W.zret (v := 1) hx hb hr rfl (fun tt ht hW => ⟨⟨1, (), rfl, (by first | rfl | omega | trivial | assumption | (dsimp only; first | omega | assumption)), by rw [ht]; exact hP, hD⟩, hS.F ht⟩) hS.2.2 dX0_isUnder_25
    ·
      have kc_4 : (3 : Int) = p2.toInt := i_eq c_4
      refine lv_iconst (v := 1) hx hb dX0_isUnder_24 (by decide) ?_
      have q0_1 : (1 : Int32).toInt = 1 := rfl
      exact W.zret (v := 1) hx hb hr rfl (fun tt ht hW => ⟨⟨1, (), rfl, (by first | rfl | omega | trivial | assumption | (dsimp only; first | omega | assumption)), by rw [ht]; exact hP, hD⟩, hS.F ht⟩) hS.2.2 dX0_isUnder_25
set_option maxHeartbeats 4000000 in
set_option maxRecDepth 100000 in
theorem k_U_5 (l : Launch) (D : va_G) (cs : Nat → ClassId) (A : Nat → Prop) (ad fa fq rv : Nat → Nat) (v : Nat → Int32) (a : Nat → Nat → Int32) (w : Nat → Nat → Int64) (fv fp : Nat → Nat → Int32)  (p2 : Int32) (h1 : 0 ≤ p2.toInt) (h2 : p2.toInt ≤ 7) : Met l yX0_isUnder (Cond.code yX0_isUnder cX0_isUnder 4 (some .boolean) :: gw) ({ frames := 1, cells := 0, slots := 0, locals := 20 }) (va_Pc [.int 4, .int p2] (XPre D (TY cs) (CW cs ad fa fq rv v a w fv fp) A)) (va_Qi (fun (r : Int32) (z : Unit) => ((r.toInt = 1 ∧ (p2.toInt = 4 ∨ p2.toInt = 1 ∨ p2.toInt = 0)) ∨ (r.toInt = 0 ∧ ¬ ((p2.toInt = 4 ∨ p2.toInt = 1 ∨ p2.toInt = 0))))) (XPo D (fun (z : Unit) => CW cs ad fa fq rv v a w fv fp) A) A) 0 0 A := by
  refine Met.ofW (cc := cX0_isUnder) (maxL := 4) (ret := (some .boolean)) (by decide) rfl ?_
  intro p e s m args below meth c s₁ B hml hv
  obtain ⟨rfl, hP, hK, hD, hZ⟩ := hv
  have hx := B.exec
  have hb := B.bytes
  have hr := B.returns
  have hts := atoms_spec (ws := (Cond.code yX0_isUnder cX0_isUnder 4 (some .boolean) :: gw)) B.pre
  have hg : ∀ w ∈ gw, w.before ([.int 4, .int p2] : List Value).toArray s = true := fun w h => hts w (List.mem_cons_of_mem _ h)
  have hown : s.vm.findClass RX0 = some m.cls := findClass_of_methodNamed B.named
  have hlocks := B.notSynchronized
  have hS : va_S A s.heap s.heap [] := va_S.rf
  have hP : va_P D vwCl (CW cs ad fa fq rv v a w fv fp) s.heap := hP
  have hl := lv_entry ([.int 4, .int p2]) (n := 4) (Nat.le_of_ble_eq_true rfl)
  rw [lg_entry_eq]
  generalize (lg_sl ([.int 4, .int p2]) ++ List.replicate (4 - (lg_sl ([.int 4, .int p2])).length) Slot.unset).toArray = ls at hl ⊢
  have hl : lv_has ls 4 [(0, .int 4), (1, .int p2)] := hl
  refine lv_iload_n hx hb dX0_isUnder_0 rfl (lv_at hl 0 rfl) ?_
  refine lv_istore_n (lv' := [(2, .int 4), (0, .int 4), (1, .int p2)]) hx hb dX0_isUnder_1 rfl hl (by decide) rfl (fun ls hl => ?_)
  refine lv_iconst (v := 0) hx hb dX0_isUnder_2 (by decide) ?_
  refine lv_istore_n (lv' := [(3, .int 0), (2, .int 4), (0, .int 4), (1, .int p2)]) hx hb dX0_isUnder_3 rfl hl (by decide) rfl (fun ls hl => ?_)
  refine lv_iload_n hx hb dX0_isUnder_4 rfl (lv_at hl 0 rfl) ?_
  obtain ⟨t0, t1, t2, ⟨a0, b0⟩, ⟨a1, b1⟩, ⟨a2, b2⟩⟩ := id hZ
  refine va_gets hx hb a2 hS hown (hg _ q4_143) (fun _ h9 => h9) dX0_isUnder_5 ?_
  refine va_tlen hx hb b2 hS (v := 8) rfl dX0_isUnder_8 ?_
  refine lv_icmp_ge (tgt := 38) hx hb dX0_isUnder_9 (by decide) (fun c_1 => absurd c_1 (by decide)) (fun c_1 => ?_)
  refine lv_iload_n hx hb dX0_isUnder_12 rfl (lv_at hl 1 rfl) ?_
  refine cS_p (As := [.int 4]) (rest := []) ⟨hx, hb, hml, hown, hg⟩ (k_IK_5 l    ) ca_X0_isKind q4_145 ⟨rfl, rfl⟩ ⟨Nat.le_of_ble_eq_true rfl, Nat.le_of_ble_eq_true rfl⟩ rfl hl.1 rfl (Nat.le_of_ble_eq_true rfl) ⟨Nat.zero_le _, Nat.zero_le _⟩ dX0_isUnder_13 (fun r_2 wr_2 => ?_)
  have wr_2 : r_2.toInt = 1 := wr_2
  refine lv_if_eq (tgt := 38) hx hb dX0_isUnder_16 (by decide) (fun c_3 => ?_) (fun c_3 => ?_)
  ·
    have kc_3 : r_2.toInt = (0 : Int) := i_eq c_3
    exfalso; omega
  ·
    have kc_3 : r_2.toInt ≠ (0 : Int) := i_ne c_3
    refine lv_iload_n hx hb dX0_isUnder_19 rfl (lv_at hl 1 rfl) ?_
    refine lv_iload_n hx hb dX0_isUnder_20 rfl (lv_at hl 3 rfl) ?_
    refine lv_icmp_ne (tgt := 26) hx hb dX0_isUnder_21 (by decide) (fun c_4 => ?_) (fun c_4 => ?_)
    ·
      have kc_4 : (4 : Int) ≠ p2.toInt := i_ne c_4
      obtain ⟨t0, t1, t2, ⟨a0, b0⟩, ⟨a1, b1⟩, ⟨a2, b2⟩⟩ := id hZ
      refine va_gets hx hb a2 hS hown (hg _ q4_143) (fun _ h9 => h9) dX0_isUnder_26 ?_
      refine lv_iload_n hx hb dX0_isUnder_29 rfl (lv_at hl 1 rfl) ?_
      refine va_ti hx hb b2 hS (i_in (by decide) (by decide)) (v := .int 1) rfl dX0_isUnder_30 ?_
      refine lv_istore_n (lv' := [(2, .int 1), (3, .int 0), (0, .int 4), (1, .int p2)]) hx hb dX0_isUnder_31 rfl hl (by decide) rfl (fun ls hl => ?_)
      obtain ⟨x_5, ex_5⟩ : ∃ y : Int32, y = 0 + 1 := ⟨_, rfl⟩
      have fx_5 : x_5.toInt = (0 : Int) + 1 := by rw [ex_5]; exact i_add (by first | omega | (show (_ : Int) ≤ (0 : Int) + 1; omega)) (by first | omega | (show (0 : Int) + 1 ≤ (_ : Int); omega))
      refine lv_iinc (v := x_5) (lv' := [(3, .int x_5), (2, .int 1), (0, .int 4), (1, .int p2)]) hx hb dX0_isUnder_32 hl (k := 1) rfl (by rw [ex_5]; rfl) (by decide) rfl (fun ls hl => ?_)
      refine lv_goto (tgt := 4) hx hb dX0_isUnder_35 (by decide) ?_
      refine lv_iload_n hx hb dX0_isUnder_4 rfl (lv_at hl 0 rfl) ?_
      obtain ⟨t0, t1, t2, ⟨a0, b0⟩, ⟨a1, b1⟩, ⟨a2, b2⟩⟩ := id hZ
      refine va_gets hx hb a2 hS hown (hg _ q4_143) (fun _ h9 => h9) dX0_isUnder_5 ?_
      refine va_tlen hx hb b2 hS (v := 8) rfl dX0_isUnder_8 ?_
      refine lv_icmp_ge (tgt := 38) hx hb dX0_isUnder_9 (by decide) (fun c_6 => ?_) (fun c_6 => ?_)
      ·
        have kc_6 : (8 : Int) ≤ x_5.toInt := i_le c_6
        exfalso; omega
      ·
        have kc_6 : x_5.toInt < (8 : Int) := i_nle c_6
        refine lv_iload_n hx hb dX0_isUnder_12 rfl (lv_at hl 1 rfl) ?_
        refine cS_p (As := [.int 1]) (rest := []) ⟨hx, hb, hml, hown, hg⟩ (k_IK_2 l    ) ca_X0_isKind q4_145 ⟨rfl, rfl⟩ ⟨Nat.le_of_ble_eq_true rfl, Nat.le_of_ble_eq_true rfl⟩ rfl hl.1 rfl (Nat.le_of_ble_eq_true rfl) ⟨Nat.zero_le _, Nat.zero_le _⟩ dX0_isUnder_13 (fun r_7 wr_7 => ?_)
        have wr_7 : r_7.toInt = 1 := wr_7
        refine lv_if_eq (tgt := 38) hx hb dX0_isUnder_16 (by decide) (fun c_8 => ?_) (fun c_8 => ?_)
        ·
          have kc_8 : r_7.toInt = (0 : Int) := i_eq c_8
          exfalso; omega
        ·
          have kc_8 : r_7.toInt ≠ (0 : Int) := i_ne c_8
          refine lv_iload_n hx hb dX0_isUnder_19 rfl (lv_at hl 1 rfl) ?_
          refine lv_iload_n hx hb dX0_isUnder_20 rfl (lv_at hl 3 rfl) ?_
          refine lv_icmp_ne (tgt := 26) hx hb dX0_isUnder_21 (by decide) (fun c_9 => ?_) (fun c_9 => ?_)
          ·
            have kc_9 : (1 : Int) ≠ p2.toInt := i_ne c_9
            obtain ⟨t0, t1, t2, ⟨a0, b0⟩, ⟨a1, b1⟩, ⟨a2, b2⟩⟩ := id hZ
            refine va_gets hx hb a2 hS hown (hg _ q4_143) (fun _ h9 => h9) dX0_isUnder_26 ?_
            refine lv_iload_n hx hb dX0_isUnder_29 rfl (lv_at hl 1 rfl) ?_
            refine va_ti hx hb b2 hS (i_in (by decide) (by decide)) (v := .int 0) rfl dX0_isUnder_30 ?_
            refine lv_istore_n (lv' := [(2, .int 0), (3, .int x_5), (0, .int 4), (1, .int p2)]) hx hb dX0_isUnder_31 rfl hl (by decide) rfl (fun ls hl => ?_)
            obtain ⟨x_10, ex_10⟩ : ∃ y : Int32, y = x_5 + 1 := ⟨_, rfl⟩
            have fx_10 : x_10.toInt = x_5.toInt + 1 := by rw [ex_10]; exact i_add (by first | omega | (show (_ : Int) ≤ x_5.toInt + 1; omega)) (by first | omega | (show x_5.toInt + 1 ≤ (_ : Int); omega))
            refine lv_iinc (v := x_10) (lv' := [(3, .int x_10), (2, .int 0), (0, .int 4), (1, .int p2)]) hx hb dX0_isUnder_32 hl (k := 1) rfl (by rw [ex_10]; rfl) (by decide) rfl (fun ls hl => ?_)
            refine lv_goto (tgt := 4) hx hb dX0_isUnder_35 (by decide) ?_
            refine lv_iload_n hx hb dX0_isUnder_4 rfl (lv_at hl 0 rfl) ?_
            obtain ⟨t0, t1, t2, ⟨a0, b0⟩, ⟨a1, b1⟩, ⟨a2, b2⟩⟩ := id hZ
            refine va_gets hx hb a2 hS hown (hg _ q4_143) (fun _ h9 => h9) dX0_isUnder_5 ?_
            refine va_tlen hx hb b2 hS (v := 8) rfl dX0_isUnder_8 ?_
            refine lv_icmp_ge (tgt := 38) hx hb dX0_isUnder_9 (by decide) (fun c_11 => ?_) (fun c_11 => ?_)
            ·
              have kc_11 : (8 : Int) ≤ x_10.toInt := i_le c_11
              exfalso; omega
            ·
              have kc_11 : x_10.toInt < (8 : Int) := i_nle c_11
              refine lv_iload_n hx hb dX0_isUnder_12 rfl (lv_at hl 1 rfl) ?_
              refine cS_p (As := [.int 0]) (rest := []) ⟨hx, hb, hml, hown, hg⟩ (k_IK_1 l    ) ca_X0_isKind q4_145 ⟨rfl, rfl⟩ ⟨Nat.le_of_ble_eq_true rfl, Nat.le_of_ble_eq_true rfl⟩ rfl hl.1 rfl (Nat.le_of_ble_eq_true rfl) ⟨Nat.zero_le _, Nat.zero_le _⟩ dX0_isUnder_13 (fun r_12 wr_12 => ?_)
              have wr_12 : r_12.toInt = 1 := wr_12
              refine lv_if_eq (tgt := 38) hx hb dX0_isUnder_16 (by decide) (fun c_13 => ?_) (fun c_13 => ?_)
              ·
                have kc_13 : r_12.toInt = (0 : Int) := i_eq c_13
                exfalso; omega
              ·
                have kc_13 : r_12.toInt ≠ (0 : Int) := i_ne c_13
                refine lv_iload_n hx hb dX0_isUnder_19 rfl (lv_at hl 1 rfl) ?_
                refine lv_iload_n hx hb dX0_isUnder_20 rfl (lv_at hl 3 rfl) ?_
                refine lv_icmp_ne (tgt := 26) hx hb dX0_isUnder_21 (by decide) (fun c_14 => ?_) (fun c_14 => ?_)
                ·
                  have kc_14 : (0 : Int) ≠ p2.toInt := i_ne c_14
                  obtain ⟨t0, t1, t2, ⟨a0, b0⟩, ⟨a1, b1⟩, ⟨a2, b2⟩⟩ := id hZ
                  refine va_gets hx hb a2 hS hown (hg _ q4_143) (fun _ h9 => h9) dX0_isUnder_26 ?_
                  refine lv_iload_n hx hb dX0_isUnder_29 rfl (lv_at hl 1 rfl) ?_
                  refine va_ti hx hb b2 hS (i_in (by decide) (by decide)) (v := .int (-1)) rfl dX0_isUnder_30 ?_
                  refine lv_istore_n (lv' := [(2, .int (-1)), (3, .int x_10), (0, .int 4), (1, .int p2)]) hx hb dX0_isUnder_31 rfl hl (by decide) rfl (fun ls hl => ?_)
                  obtain ⟨x_15, ex_15⟩ : ∃ y : Int32, y = x_10 + 1 := ⟨_, rfl⟩
                  have fx_15 : x_15.toInt = x_10.toInt + 1 := by rw [ex_15]; exact i_add (by first | omega | (show (_ : Int) ≤ x_10.toInt + 1; omega)) (by first | omega | (show x_10.toInt + 1 ≤ (_ : Int); omega))
                  refine lv_iinc (v := x_15) (lv' := [(3, .int x_15), (2, .int (-1)), (0, .int 4), (1, .int p2)]) hx hb dX0_isUnder_32 hl (k := 1) rfl (by rw [ex_15]; rfl) (by decide) rfl (fun ls hl => ?_)
                  refine lv_goto (tgt := 4) hx hb dX0_isUnder_35 (by decide) ?_
                  refine lv_iload_n hx hb dX0_isUnder_4 rfl (lv_at hl 0 rfl) ?_
                  obtain ⟨t0, t1, t2, ⟨a0, b0⟩, ⟨a1, b1⟩, ⟨a2, b2⟩⟩ := id hZ
                  refine va_gets hx hb a2 hS hown (hg _ q4_143) (fun _ h9 => h9) dX0_isUnder_5 ?_
                  refine va_tlen hx hb b2 hS (v := 8) rfl dX0_isUnder_8 ?_
                  refine lv_icmp_ge (tgt := 38) hx hb dX0_isUnder_9 (by decide) (fun c_16 => ?_) (fun c_16 => ?_)
                  ·
                    have kc_16 : (8 : Int) ≤ x_15.toInt := i_le c_16
                    exfalso; omega
                  ·
                    have kc_16 : x_15.toInt < (8 : Int) := i_nle c_16
                    refine lv_iload_n hx hb dX0_isUnder_12 rfl (lv_at hl 1 rfl) ?_
                    refine cS_p (As := [.int (-1)]) (rest := []) ⟨hx, hb, hml, hown, hg⟩ (k_IK_0 l    ) ca_X0_isKind q4_145 ⟨rfl, rfl⟩ ⟨Nat.le_of_ble_eq_true rfl, Nat.le_of_ble_eq_true rfl⟩ rfl hl.1 rfl (Nat.le_of_ble_eq_true rfl) ⟨Nat.zero_le _, Nat.zero_le _⟩ dX0_isUnder_13 (fun r_17 wr_17 => ?_)
                    have wr_17 : r_17.toInt = 0 := wr_17
                    refine lv_if_eq (tgt := 38) hx hb dX0_isUnder_16 (by decide) (fun c_18 => ?_) (fun c_18 => ?_)
                    ·
                      have kc_18 : r_17.toInt = (0 : Int) := i_eq c_18
                      refine lv_iconst (v := 0) hx hb dX0_isUnder_38 (by decide) ?_
                      have q0_0 : (0 : Int32).toInt = 0 := rfl
                      exact W.zret (v := 0) hx hb hr rfl (fun tt ht hW => ⟨⟨0, (), rfl, (by first | rfl | omega | trivial | assumption | (dsimp only; first | omega | assumption)), by rw [ht]; exact hP, hD⟩, hS.F ht⟩) hS.2.2 dX0_isUnder_39
                    ·
                      have kc_18 : r_17.toInt ≠ (0 : Int) := i_ne c_18
                      exfalso; omega
                ·
                  have kc_14 : (0 : Int) = p2.toInt := i_eq c_14
                  refine lv_iconst (v := 1) hx hb dX0_isUnder_24 (by decide) ?_
                  have q0_1 : (1 : Int32).toInt = 1 := rfl
                  exact W.zret (v := 1) hx hb hr rfl (fun tt ht hW => ⟨⟨1, (), rfl, (by first | rfl | omega | trivial | assumption | (dsimp only; first | omega | assumption)), by rw [ht]; exact hP, hD⟩, hS.F ht⟩) hS.2.2 dX0_isUnder_25
          ·
            have kc_9 : (1 : Int) = p2.toInt := i_eq c_9
            refine lv_iconst (v := 1) hx hb dX0_isUnder_24 (by decide) ?_
            have q0_1 : (1 : Int32).toInt = 1 := rfl
            exact W.zret (v := 1) hx hb hr rfl (fun tt ht hW => ⟨⟨1, (), rfl, (by first | rfl | omega | trivial | assumption | (dsimp only; first | omega | assumption)), by rw [ht]; exact hP, hD⟩, hS.F ht⟩) hS.2.2 dX0_isUnder_25
    ·
      have kc_4 : (4 : Int) = p2.toInt := i_eq c_4
      refine lv_iconst (v := 1) hx hb dX0_isUnder_24 (by decide) ?_
      have q0_1 : (1 : Int32).toInt = 1 := rfl
      exact W.zret (v := 1) hx hb hr rfl (fun tt ht hW => ⟨⟨1, (), rfl, (by first | rfl | omega | trivial | assumption | (dsimp only; first | omega | assumption)), by rw [ht]; exact hP, hD⟩, hS.F ht⟩) hS.2.2 dX0_isUnder_25
set_option maxHeartbeats 4000000 in
set_option maxRecDepth 100000 in
theorem k_U_6 (l : Launch) (D : va_G) (cs : Nat → ClassId) (A : Nat → Prop) (ad fa fq rv : Nat → Nat) (v : Nat → Int32) (a : Nat → Nat → Int32) (w : Nat → Nat → Int64) (fv fp : Nat → Nat → Int32)  (p2 : Int32) (h1 : 0 ≤ p2.toInt) (h2 : p2.toInt ≤ 7) : Met l yX0_isUnder (Cond.code yX0_isUnder cX0_isUnder 4 (some .boolean) :: gw) ({ frames := 1, cells := 0, slots := 0, locals := 20 }) (va_Pc [.int 5, .int p2] (XPre D (TY cs) (CW cs ad fa fq rv v a w fv fp) A)) (va_Qi (fun (r : Int32) (z : Unit) => ((r.toInt = 1 ∧ (p2.toInt = 5 ∨ p2.toInt = 3 ∨ p2.toInt = 2 ∨ p2.toInt = 0)) ∨ (r.toInt = 0 ∧ ¬ ((p2.toInt = 5 ∨ p2.toInt = 3 ∨ p2.toInt = 2 ∨ p2.toInt = 0))))) (XPo D (fun (z : Unit) => CW cs ad fa fq rv v a w fv fp) A) A) 0 0 A := by
  refine Met.ofW (cc := cX0_isUnder) (maxL := 4) (ret := (some .boolean)) (by decide) rfl ?_
  intro p e s m args below meth c s₁ B hml hv
  obtain ⟨rfl, hP, hK, hD, hZ⟩ := hv
  have hx := B.exec
  have hb := B.bytes
  have hr := B.returns
  have hts := atoms_spec (ws := (Cond.code yX0_isUnder cX0_isUnder 4 (some .boolean) :: gw)) B.pre
  have hg : ∀ w ∈ gw, w.before ([.int 5, .int p2] : List Value).toArray s = true := fun w h => hts w (List.mem_cons_of_mem _ h)
  have hown : s.vm.findClass RX0 = some m.cls := findClass_of_methodNamed B.named
  have hlocks := B.notSynchronized
  have hS : va_S A s.heap s.heap [] := va_S.rf
  have hP : va_P D vwCl (CW cs ad fa fq rv v a w fv fp) s.heap := hP
  have hl := lv_entry ([.int 5, .int p2]) (n := 4) (Nat.le_of_ble_eq_true rfl)
  rw [lg_entry_eq]
  generalize (lg_sl ([.int 5, .int p2]) ++ List.replicate (4 - (lg_sl ([.int 5, .int p2])).length) Slot.unset).toArray = ls at hl ⊢
  have hl : lv_has ls 4 [(0, .int 5), (1, .int p2)] := hl
  refine lv_iload_n hx hb dX0_isUnder_0 rfl (lv_at hl 0 rfl) ?_
  refine lv_istore_n (lv' := [(2, .int 5), (0, .int 5), (1, .int p2)]) hx hb dX0_isUnder_1 rfl hl (by decide) rfl (fun ls hl => ?_)
  refine lv_iconst (v := 0) hx hb dX0_isUnder_2 (by decide) ?_
  refine lv_istore_n (lv' := [(3, .int 0), (2, .int 5), (0, .int 5), (1, .int p2)]) hx hb dX0_isUnder_3 rfl hl (by decide) rfl (fun ls hl => ?_)
  refine lv_iload_n hx hb dX0_isUnder_4 rfl (lv_at hl 0 rfl) ?_
  obtain ⟨t0, t1, t2, ⟨a0, b0⟩, ⟨a1, b1⟩, ⟨a2, b2⟩⟩ := id hZ
  refine va_gets hx hb a2 hS hown (hg _ q4_143) (fun _ h9 => h9) dX0_isUnder_5 ?_
  refine va_tlen hx hb b2 hS (v := 8) rfl dX0_isUnder_8 ?_
  refine lv_icmp_ge (tgt := 38) hx hb dX0_isUnder_9 (by decide) (fun c_1 => absurd c_1 (by decide)) (fun c_1 => ?_)
  refine lv_iload_n hx hb dX0_isUnder_12 rfl (lv_at hl 1 rfl) ?_
  refine cS_p (As := [.int 5]) (rest := []) ⟨hx, hb, hml, hown, hg⟩ (k_IK_6 l    ) ca_X0_isKind q4_145 ⟨rfl, rfl⟩ ⟨Nat.le_of_ble_eq_true rfl, Nat.le_of_ble_eq_true rfl⟩ rfl hl.1 rfl (Nat.le_of_ble_eq_true rfl) ⟨Nat.zero_le _, Nat.zero_le _⟩ dX0_isUnder_13 (fun r_2 wr_2 => ?_)
  have wr_2 : r_2.toInt = 1 := wr_2
  refine lv_if_eq (tgt := 38) hx hb dX0_isUnder_16 (by decide) (fun c_3 => ?_) (fun c_3 => ?_)
  ·
    have kc_3 : r_2.toInt = (0 : Int) := i_eq c_3
    exfalso; omega
  ·
    have kc_3 : r_2.toInt ≠ (0 : Int) := i_ne c_3
    refine lv_iload_n hx hb dX0_isUnder_19 rfl (lv_at hl 1 rfl) ?_
    refine lv_iload_n hx hb dX0_isUnder_20 rfl (lv_at hl 3 rfl) ?_
    refine lv_icmp_ne (tgt := 26) hx hb dX0_isUnder_21 (by decide) (fun c_4 => ?_) (fun c_4 => ?_)
    ·
      have kc_4 : (5 : Int) ≠ p2.toInt := i_ne c_4
      obtain ⟨t0, t1, t2, ⟨a0, b0⟩, ⟨a1, b1⟩, ⟨a2, b2⟩⟩ := id hZ
      refine va_gets hx hb a2 hS hown (hg _ q4_143) (fun _ h9 => h9) dX0_isUnder_26 ?_
      refine lv_iload_n hx hb dX0_isUnder_29 rfl (lv_at hl 1 rfl) ?_
      refine va_ti hx hb b2 hS (i_in (by decide) (by decide)) (v := .int 3) rfl dX0_isUnder_30 ?_
      refine lv_istore_n (lv' := [(2, .int 3), (3, .int 0), (0, .int 5), (1, .int p2)]) hx hb dX0_isUnder_31 rfl hl (by decide) rfl (fun ls hl => ?_)
      obtain ⟨x_5, ex_5⟩ : ∃ y : Int32, y = 0 + 1 := ⟨_, rfl⟩
      have fx_5 : x_5.toInt = (0 : Int) + 1 := by rw [ex_5]; exact i_add (by first | omega | (show (_ : Int) ≤ (0 : Int) + 1; omega)) (by first | omega | (show (0 : Int) + 1 ≤ (_ : Int); omega))
      refine lv_iinc (v := x_5) (lv' := [(3, .int x_5), (2, .int 3), (0, .int 5), (1, .int p2)]) hx hb dX0_isUnder_32 hl (k := 1) rfl (by rw [ex_5]; rfl) (by decide) rfl (fun ls hl => ?_)
      refine lv_goto (tgt := 4) hx hb dX0_isUnder_35 (by decide) ?_
      refine lv_iload_n hx hb dX0_isUnder_4 rfl (lv_at hl 0 rfl) ?_
      obtain ⟨t0, t1, t2, ⟨a0, b0⟩, ⟨a1, b1⟩, ⟨a2, b2⟩⟩ := id hZ
      refine va_gets hx hb a2 hS hown (hg _ q4_143) (fun _ h9 => h9) dX0_isUnder_5 ?_
      refine va_tlen hx hb b2 hS (v := 8) rfl dX0_isUnder_8 ?_
      refine lv_icmp_ge (tgt := 38) hx hb dX0_isUnder_9 (by decide) (fun c_6 => ?_) (fun c_6 => ?_)
      ·
        have kc_6 : (8 : Int) ≤ x_5.toInt := i_le c_6
        exfalso; omega
      ·
        have kc_6 : x_5.toInt < (8 : Int) := i_nle c_6
        refine lv_iload_n hx hb dX0_isUnder_12 rfl (lv_at hl 1 rfl) ?_
        refine cS_p (As := [.int 3]) (rest := []) ⟨hx, hb, hml, hown, hg⟩ (k_IK_4 l    ) ca_X0_isKind q4_145 ⟨rfl, rfl⟩ ⟨Nat.le_of_ble_eq_true rfl, Nat.le_of_ble_eq_true rfl⟩ rfl hl.1 rfl (Nat.le_of_ble_eq_true rfl) ⟨Nat.zero_le _, Nat.zero_le _⟩ dX0_isUnder_13 (fun r_7 wr_7 => ?_)
        have wr_7 : r_7.toInt = 1 := wr_7
        refine lv_if_eq (tgt := 38) hx hb dX0_isUnder_16 (by decide) (fun c_8 => ?_) (fun c_8 => ?_)
        ·
          have kc_8 : r_7.toInt = (0 : Int) := i_eq c_8
          exfalso; omega
        ·
          have kc_8 : r_7.toInt ≠ (0 : Int) := i_ne c_8
          refine lv_iload_n hx hb dX0_isUnder_19 rfl (lv_at hl 1 rfl) ?_
          refine lv_iload_n hx hb dX0_isUnder_20 rfl (lv_at hl 3 rfl) ?_
          refine lv_icmp_ne (tgt := 26) hx hb dX0_isUnder_21 (by decide) (fun c_9 => ?_) (fun c_9 => ?_)
          ·
            have kc_9 : (3 : Int) ≠ p2.toInt := i_ne c_9
            obtain ⟨t0, t1, t2, ⟨a0, b0⟩, ⟨a1, b1⟩, ⟨a2, b2⟩⟩ := id hZ
            refine va_gets hx hb a2 hS hown (hg _ q4_143) (fun _ h9 => h9) dX0_isUnder_26 ?_
            refine lv_iload_n hx hb dX0_isUnder_29 rfl (lv_at hl 1 rfl) ?_
            refine va_ti hx hb b2 hS (i_in (by decide) (by decide)) (v := .int 2) rfl dX0_isUnder_30 ?_
            refine lv_istore_n (lv' := [(2, .int 2), (3, .int x_5), (0, .int 5), (1, .int p2)]) hx hb dX0_isUnder_31 rfl hl (by decide) rfl (fun ls hl => ?_)
            obtain ⟨x_10, ex_10⟩ : ∃ y : Int32, y = x_5 + 1 := ⟨_, rfl⟩
            have fx_10 : x_10.toInt = x_5.toInt + 1 := by rw [ex_10]; exact i_add (by first | omega | (show (_ : Int) ≤ x_5.toInt + 1; omega)) (by first | omega | (show x_5.toInt + 1 ≤ (_ : Int); omega))
            refine lv_iinc (v := x_10) (lv' := [(3, .int x_10), (2, .int 2), (0, .int 5), (1, .int p2)]) hx hb dX0_isUnder_32 hl (k := 1) rfl (by rw [ex_10]; rfl) (by decide) rfl (fun ls hl => ?_)
            refine lv_goto (tgt := 4) hx hb dX0_isUnder_35 (by decide) ?_
            refine lv_iload_n hx hb dX0_isUnder_4 rfl (lv_at hl 0 rfl) ?_
            obtain ⟨t0, t1, t2, ⟨a0, b0⟩, ⟨a1, b1⟩, ⟨a2, b2⟩⟩ := id hZ
            refine va_gets hx hb a2 hS hown (hg _ q4_143) (fun _ h9 => h9) dX0_isUnder_5 ?_
            refine va_tlen hx hb b2 hS (v := 8) rfl dX0_isUnder_8 ?_
            refine lv_icmp_ge (tgt := 38) hx hb dX0_isUnder_9 (by decide) (fun c_11 => ?_) (fun c_11 => ?_)
            ·
              have kc_11 : (8 : Int) ≤ x_10.toInt := i_le c_11
              exfalso; omega
            ·
              have kc_11 : x_10.toInt < (8 : Int) := i_nle c_11
              refine lv_iload_n hx hb dX0_isUnder_12 rfl (lv_at hl 1 rfl) ?_
              refine cS_p (As := [.int 2]) (rest := []) ⟨hx, hb, hml, hown, hg⟩ (k_IK_3 l    ) ca_X0_isKind q4_145 ⟨rfl, rfl⟩ ⟨Nat.le_of_ble_eq_true rfl, Nat.le_of_ble_eq_true rfl⟩ rfl hl.1 rfl (Nat.le_of_ble_eq_true rfl) ⟨Nat.zero_le _, Nat.zero_le _⟩ dX0_isUnder_13 (fun r_12 wr_12 => ?_)
              have wr_12 : r_12.toInt = 1 := wr_12
              refine lv_if_eq (tgt := 38) hx hb dX0_isUnder_16 (by decide) (fun c_13 => ?_) (fun c_13 => ?_)
              ·
                have kc_13 : r_12.toInt = (0 : Int) := i_eq c_13
                exfalso; omega
              ·
                have kc_13 : r_12.toInt ≠ (0 : Int) := i_ne c_13
                refine lv_iload_n hx hb dX0_isUnder_19 rfl (lv_at hl 1 rfl) ?_
                refine lv_iload_n hx hb dX0_isUnder_20 rfl (lv_at hl 3 rfl) ?_
                refine lv_icmp_ne (tgt := 26) hx hb dX0_isUnder_21 (by decide) (fun c_14 => ?_) (fun c_14 => ?_)
                ·
                  have kc_14 : (2 : Int) ≠ p2.toInt := i_ne c_14
                  obtain ⟨t0, t1, t2, ⟨a0, b0⟩, ⟨a1, b1⟩, ⟨a2, b2⟩⟩ := id hZ
                  refine va_gets hx hb a2 hS hown (hg _ q4_143) (fun _ h9 => h9) dX0_isUnder_26 ?_
                  refine lv_iload_n hx hb dX0_isUnder_29 rfl (lv_at hl 1 rfl) ?_
                  refine va_ti hx hb b2 hS (i_in (by decide) (by decide)) (v := .int 0) rfl dX0_isUnder_30 ?_
                  refine lv_istore_n (lv' := [(2, .int 0), (3, .int x_10), (0, .int 5), (1, .int p2)]) hx hb dX0_isUnder_31 rfl hl (by decide) rfl (fun ls hl => ?_)
                  obtain ⟨x_15, ex_15⟩ : ∃ y : Int32, y = x_10 + 1 := ⟨_, rfl⟩
                  have fx_15 : x_15.toInt = x_10.toInt + 1 := by rw [ex_15]; exact i_add (by first | omega | (show (_ : Int) ≤ x_10.toInt + 1; omega)) (by first | omega | (show x_10.toInt + 1 ≤ (_ : Int); omega))
                  refine lv_iinc (v := x_15) (lv' := [(3, .int x_15), (2, .int 0), (0, .int 5), (1, .int p2)]) hx hb dX0_isUnder_32 hl (k := 1) rfl (by rw [ex_15]; rfl) (by decide) rfl (fun ls hl => ?_)
                  refine lv_goto (tgt := 4) hx hb dX0_isUnder_35 (by decide) ?_
                  refine lv_iload_n hx hb dX0_isUnder_4 rfl (lv_at hl 0 rfl) ?_
                  obtain ⟨t0, t1, t2, ⟨a0, b0⟩, ⟨a1, b1⟩, ⟨a2, b2⟩⟩ := id hZ
                  refine va_gets hx hb a2 hS hown (hg _ q4_143) (fun _ h9 => h9) dX0_isUnder_5 ?_
                  refine va_tlen hx hb b2 hS (v := 8) rfl dX0_isUnder_8 ?_
                  refine lv_icmp_ge (tgt := 38) hx hb dX0_isUnder_9 (by decide) (fun c_16 => ?_) (fun c_16 => ?_)
                  ·
                    have kc_16 : (8 : Int) ≤ x_15.toInt := i_le c_16
                    exfalso; omega
                  ·
                    have kc_16 : x_15.toInt < (8 : Int) := i_nle c_16
                    refine lv_iload_n hx hb dX0_isUnder_12 rfl (lv_at hl 1 rfl) ?_
                    refine cS_p (As := [.int 0]) (rest := []) ⟨hx, hb, hml, hown, hg⟩ (k_IK_1 l    ) ca_X0_isKind q4_145 ⟨rfl, rfl⟩ ⟨Nat.le_of_ble_eq_true rfl, Nat.le_of_ble_eq_true rfl⟩ rfl hl.1 rfl (Nat.le_of_ble_eq_true rfl) ⟨Nat.zero_le _, Nat.zero_le _⟩ dX0_isUnder_13 (fun r_17 wr_17 => ?_)
                    have wr_17 : r_17.toInt = 1 := wr_17
                    refine lv_if_eq (tgt := 38) hx hb dX0_isUnder_16 (by decide) (fun c_18 => ?_) (fun c_18 => ?_)
                    ·
                      have kc_18 : r_17.toInt = (0 : Int) := i_eq c_18
                      exfalso; omega
                    ·
                      have kc_18 : r_17.toInt ≠ (0 : Int) := i_ne c_18
                      refine lv_iload_n hx hb dX0_isUnder_19 rfl (lv_at hl 1 rfl) ?_
                      refine lv_iload_n hx hb dX0_isUnder_20 rfl (lv_at hl 3 rfl) ?_
                      refine lv_icmp_ne (tgt := 26) hx hb dX0_isUnder_21 (by decide) (fun c_19 => ?_) (fun c_19 => ?_)
                      ·
                        have kc_19 : (0 : Int) ≠ p2.toInt := i_ne c_19
                        obtain ⟨t0, t1, t2, ⟨a0, b0⟩, ⟨a1, b1⟩, ⟨a2, b2⟩⟩ := id hZ
                        refine va_gets hx hb a2 hS hown (hg _ q4_143) (fun _ h9 => h9) dX0_isUnder_26 ?_
                        refine lv_iload_n hx hb dX0_isUnder_29 rfl (lv_at hl 1 rfl) ?_
                        refine va_ti hx hb b2 hS (i_in (by decide) (by decide)) (v := .int (-1)) rfl dX0_isUnder_30 ?_
                        refine lv_istore_n (lv' := [(2, .int (-1)), (3, .int x_15), (0, .int 5), (1, .int p2)]) hx hb dX0_isUnder_31 rfl hl (by decide) rfl (fun ls hl => ?_)
                        obtain ⟨x_20, ex_20⟩ : ∃ y : Int32, y = x_15 + 1 := ⟨_, rfl⟩
                        have fx_20 : x_20.toInt = x_15.toInt + 1 := by rw [ex_20]; exact i_add (by first | omega | (show (_ : Int) ≤ x_15.toInt + 1; omega)) (by first | omega | (show x_15.toInt + 1 ≤ (_ : Int); omega))
                        refine lv_iinc (v := x_20) (lv' := [(3, .int x_20), (2, .int (-1)), (0, .int 5), (1, .int p2)]) hx hb dX0_isUnder_32 hl (k := 1) rfl (by rw [ex_20]; rfl) (by decide) rfl (fun ls hl => ?_)
                        refine lv_goto (tgt := 4) hx hb dX0_isUnder_35 (by decide) ?_
                        refine lv_iload_n hx hb dX0_isUnder_4 rfl (lv_at hl 0 rfl) ?_
                        obtain ⟨t0, t1, t2, ⟨a0, b0⟩, ⟨a1, b1⟩, ⟨a2, b2⟩⟩ := id hZ
                        refine va_gets hx hb a2 hS hown (hg _ q4_143) (fun _ h9 => h9) dX0_isUnder_5 ?_
                        refine va_tlen hx hb b2 hS (v := 8) rfl dX0_isUnder_8 ?_
                        refine lv_icmp_ge (tgt := 38) hx hb dX0_isUnder_9 (by decide) (fun c_21 => ?_) (fun c_21 => ?_)
                        ·
                          have kc_21 : (8 : Int) ≤ x_20.toInt := i_le c_21
                          exfalso; omega
                        ·
                          have kc_21 : x_20.toInt < (8 : Int) := i_nle c_21
                          refine lv_iload_n hx hb dX0_isUnder_12 rfl (lv_at hl 1 rfl) ?_
                          refine cS_p (As := [.int (-1)]) (rest := []) ⟨hx, hb, hml, hown, hg⟩ (k_IK_0 l    ) ca_X0_isKind q4_145 ⟨rfl, rfl⟩ ⟨Nat.le_of_ble_eq_true rfl, Nat.le_of_ble_eq_true rfl⟩ rfl hl.1 rfl (Nat.le_of_ble_eq_true rfl) ⟨Nat.zero_le _, Nat.zero_le _⟩ dX0_isUnder_13 (fun r_22 wr_22 => ?_)
                          have wr_22 : r_22.toInt = 0 := wr_22
                          refine lv_if_eq (tgt := 38) hx hb dX0_isUnder_16 (by decide) (fun c_23 => ?_) (fun c_23 => ?_)
                          ·
                            have kc_23 : r_22.toInt = (0 : Int) := i_eq c_23
                            refine lv_iconst (v := 0) hx hb dX0_isUnder_38 (by decide) ?_
                            have q0_0 : (0 : Int32).toInt = 0 := rfl
                            exact W.zret (v := 0) hx hb hr rfl (fun tt ht hW => ⟨⟨0, (), rfl, (by first | rfl | omega | trivial | assumption | (dsimp only; first | omega | assumption)), by rw [ht]; exact hP, hD⟩, hS.F ht⟩) hS.2.2 dX0_isUnder_39
                          ·
                            have kc_23 : r_22.toInt ≠ (0 : Int) := i_ne c_23
                            exfalso; omega
                      ·
                        have kc_19 : (0 : Int) = p2.toInt := i_eq c_19
                        refine lv_iconst (v := 1) hx hb dX0_isUnder_24 (by decide) ?_
                        have q0_1 : (1 : Int32).toInt = 1 := rfl
                        exact W.zret (v := 1) hx hb hr rfl (fun tt ht hW => ⟨⟨1, (), rfl, (by first | rfl | omega | trivial | assumption | (dsimp only; first | omega | assumption)), by rw [ht]; exact hP, hD⟩, hS.F ht⟩) hS.2.2 dX0_isUnder_25
                ·
                  have kc_14 : (2 : Int) = p2.toInt := i_eq c_14
                  refine lv_iconst (v := 1) hx hb dX0_isUnder_24 (by decide) ?_
                  have q0_1 : (1 : Int32).toInt = 1 := rfl
                  exact W.zret (v := 1) hx hb hr rfl (fun tt ht hW => ⟨⟨1, (), rfl, (by first | rfl | omega | trivial | assumption | (dsimp only; first | omega | assumption)), by rw [ht]; exact hP, hD⟩, hS.F ht⟩) hS.2.2 dX0_isUnder_25
          ·
            have kc_9 : (3 : Int) = p2.toInt := i_eq c_9
            refine lv_iconst (v := 1) hx hb dX0_isUnder_24 (by decide) ?_
            have q0_1 : (1 : Int32).toInt = 1 := rfl
            exact W.zret (v := 1) hx hb hr rfl (fun tt ht hW => ⟨⟨1, (), rfl, (by first | rfl | omega | trivial | assumption | (dsimp only; first | omega | assumption)), by rw [ht]; exact hP, hD⟩, hS.F ht⟩) hS.2.2 dX0_isUnder_25
    ·
      have kc_4 : (5 : Int) = p2.toInt := i_eq c_4
      refine lv_iconst (v := 1) hx hb dX0_isUnder_24 (by decide) ?_
      have q0_1 : (1 : Int32).toInt = 1 := rfl
      exact W.zret (v := 1) hx hb hr rfl (fun tt ht hW => ⟨⟨1, (), rfl, (by first | rfl | omega | trivial | assumption | (dsimp only; first | omega | assumption)), by rw [ht]; exact hP, hD⟩, hS.F ht⟩) hS.2.2 dX0_isUnder_25
set_option maxHeartbeats 4000000 in
set_option maxRecDepth 100000 in
theorem k_U_7 (l : Launch) (D : va_G) (cs : Nat → ClassId) (A : Nat → Prop) (ad fa fq rv : Nat → Nat) (v : Nat → Int32) (a : Nat → Nat → Int32) (w : Nat → Nat → Int64) (fv fp : Nat → Nat → Int32)  (p2 : Int32) (h1 : 0 ≤ p2.toInt) (h2 : p2.toInt ≤ 7) : Met l yX0_isUnder (Cond.code yX0_isUnder cX0_isUnder 4 (some .boolean) :: gw) ({ frames := 1, cells := 0, slots := 0, locals := 20 }) (va_Pc [.int 6, .int p2] (XPre D (TY cs) (CW cs ad fa fq rv v a w fv fp) A)) (va_Qi (fun (r : Int32) (z : Unit) => ((r.toInt = 1 ∧ (p2.toInt = 6 ∨ p2.toInt = 0)) ∨ (r.toInt = 0 ∧ ¬ ((p2.toInt = 6 ∨ p2.toInt = 0))))) (XPo D (fun (z : Unit) => CW cs ad fa fq rv v a w fv fp) A) A) 0 0 A := by
  refine Met.ofW (cc := cX0_isUnder) (maxL := 4) (ret := (some .boolean)) (by decide) rfl ?_
  intro p e s m args below meth c s₁ B hml hv
  obtain ⟨rfl, hP, hK, hD, hZ⟩ := hv
  have hx := B.exec
  have hb := B.bytes
  have hr := B.returns
  have hts := atoms_spec (ws := (Cond.code yX0_isUnder cX0_isUnder 4 (some .boolean) :: gw)) B.pre
  have hg : ∀ w ∈ gw, w.before ([.int 6, .int p2] : List Value).toArray s = true := fun w h => hts w (List.mem_cons_of_mem _ h)
  have hown : s.vm.findClass RX0 = some m.cls := findClass_of_methodNamed B.named
  have hlocks := B.notSynchronized
  have hS : va_S A s.heap s.heap [] := va_S.rf
  have hP : va_P D vwCl (CW cs ad fa fq rv v a w fv fp) s.heap := hP
  have hl := lv_entry ([.int 6, .int p2]) (n := 4) (Nat.le_of_ble_eq_true rfl)
  rw [lg_entry_eq]
  generalize (lg_sl ([.int 6, .int p2]) ++ List.replicate (4 - (lg_sl ([.int 6, .int p2])).length) Slot.unset).toArray = ls at hl ⊢
  have hl : lv_has ls 4 [(0, .int 6), (1, .int p2)] := hl
  refine lv_iload_n hx hb dX0_isUnder_0 rfl (lv_at hl 0 rfl) ?_
  refine lv_istore_n (lv' := [(2, .int 6), (0, .int 6), (1, .int p2)]) hx hb dX0_isUnder_1 rfl hl (by decide) rfl (fun ls hl => ?_)
  refine lv_iconst (v := 0) hx hb dX0_isUnder_2 (by decide) ?_
  refine lv_istore_n (lv' := [(3, .int 0), (2, .int 6), (0, .int 6), (1, .int p2)]) hx hb dX0_isUnder_3 rfl hl (by decide) rfl (fun ls hl => ?_)
  refine lv_iload_n hx hb dX0_isUnder_4 rfl (lv_at hl 0 rfl) ?_
  obtain ⟨t0, t1, t2, ⟨a0, b0⟩, ⟨a1, b1⟩, ⟨a2, b2⟩⟩ := id hZ
  refine va_gets hx hb a2 hS hown (hg _ q4_143) (fun _ h9 => h9) dX0_isUnder_5 ?_
  refine va_tlen hx hb b2 hS (v := 8) rfl dX0_isUnder_8 ?_
  refine lv_icmp_ge (tgt := 38) hx hb dX0_isUnder_9 (by decide) (fun c_1 => absurd c_1 (by decide)) (fun c_1 => ?_)
  refine lv_iload_n hx hb dX0_isUnder_12 rfl (lv_at hl 1 rfl) ?_
  refine cS_p (As := [.int 6]) (rest := []) ⟨hx, hb, hml, hown, hg⟩ (k_IK_7 l    ) ca_X0_isKind q4_145 ⟨rfl, rfl⟩ ⟨Nat.le_of_ble_eq_true rfl, Nat.le_of_ble_eq_true rfl⟩ rfl hl.1 rfl (Nat.le_of_ble_eq_true rfl) ⟨Nat.zero_le _, Nat.zero_le _⟩ dX0_isUnder_13 (fun r_2 wr_2 => ?_)
  have wr_2 : r_2.toInt = 1 := wr_2
  refine lv_if_eq (tgt := 38) hx hb dX0_isUnder_16 (by decide) (fun c_3 => ?_) (fun c_3 => ?_)
  ·
    have kc_3 : r_2.toInt = (0 : Int) := i_eq c_3
    exfalso; omega
  ·
    have kc_3 : r_2.toInt ≠ (0 : Int) := i_ne c_3
    refine lv_iload_n hx hb dX0_isUnder_19 rfl (lv_at hl 1 rfl) ?_
    refine lv_iload_n hx hb dX0_isUnder_20 rfl (lv_at hl 3 rfl) ?_
    refine lv_icmp_ne (tgt := 26) hx hb dX0_isUnder_21 (by decide) (fun c_4 => ?_) (fun c_4 => ?_)
    ·
      have kc_4 : (6 : Int) ≠ p2.toInt := i_ne c_4
      obtain ⟨t0, t1, t2, ⟨a0, b0⟩, ⟨a1, b1⟩, ⟨a2, b2⟩⟩ := id hZ
      refine va_gets hx hb a2 hS hown (hg _ q4_143) (fun _ h9 => h9) dX0_isUnder_26 ?_
      refine lv_iload_n hx hb dX0_isUnder_29 rfl (lv_at hl 1 rfl) ?_
      refine va_ti hx hb b2 hS (i_in (by decide) (by decide)) (v := .int 0) rfl dX0_isUnder_30 ?_
      refine lv_istore_n (lv' := [(2, .int 0), (3, .int 0), (0, .int 6), (1, .int p2)]) hx hb dX0_isUnder_31 rfl hl (by decide) rfl (fun ls hl => ?_)
      obtain ⟨x_5, ex_5⟩ : ∃ y : Int32, y = 0 + 1 := ⟨_, rfl⟩
      have fx_5 : x_5.toInt = (0 : Int) + 1 := by rw [ex_5]; exact i_add (by first | omega | (show (_ : Int) ≤ (0 : Int) + 1; omega)) (by first | omega | (show (0 : Int) + 1 ≤ (_ : Int); omega))
      refine lv_iinc (v := x_5) (lv' := [(3, .int x_5), (2, .int 0), (0, .int 6), (1, .int p2)]) hx hb dX0_isUnder_32 hl (k := 1) rfl (by rw [ex_5]; rfl) (by decide) rfl (fun ls hl => ?_)
      refine lv_goto (tgt := 4) hx hb dX0_isUnder_35 (by decide) ?_
      refine lv_iload_n hx hb dX0_isUnder_4 rfl (lv_at hl 0 rfl) ?_
      obtain ⟨t0, t1, t2, ⟨a0, b0⟩, ⟨a1, b1⟩, ⟨a2, b2⟩⟩ := id hZ
      refine va_gets hx hb a2 hS hown (hg _ q4_143) (fun _ h9 => h9) dX0_isUnder_5 ?_
      refine va_tlen hx hb b2 hS (v := 8) rfl dX0_isUnder_8 ?_
      refine lv_icmp_ge (tgt := 38) hx hb dX0_isUnder_9 (by decide) (fun c_6 => ?_) (fun c_6 => ?_)
      ·
        have kc_6 : (8 : Int) ≤ x_5.toInt := i_le c_6
        exfalso; omega
      ·
        have kc_6 : x_5.toInt < (8 : Int) := i_nle c_6
        refine lv_iload_n hx hb dX0_isUnder_12 rfl (lv_at hl 1 rfl) ?_
        refine cS_p (As := [.int 0]) (rest := []) ⟨hx, hb, hml, hown, hg⟩ (k_IK_1 l    ) ca_X0_isKind q4_145 ⟨rfl, rfl⟩ ⟨Nat.le_of_ble_eq_true rfl, Nat.le_of_ble_eq_true rfl⟩ rfl hl.1 rfl (Nat.le_of_ble_eq_true rfl) ⟨Nat.zero_le _, Nat.zero_le _⟩ dX0_isUnder_13 (fun r_7 wr_7 => ?_)
        have wr_7 : r_7.toInt = 1 := wr_7
        refine lv_if_eq (tgt := 38) hx hb dX0_isUnder_16 (by decide) (fun c_8 => ?_) (fun c_8 => ?_)
        ·
          have kc_8 : r_7.toInt = (0 : Int) := i_eq c_8
          exfalso; omega
        ·
          have kc_8 : r_7.toInt ≠ (0 : Int) := i_ne c_8
          refine lv_iload_n hx hb dX0_isUnder_19 rfl (lv_at hl 1 rfl) ?_
          refine lv_iload_n hx hb dX0_isUnder_20 rfl (lv_at hl 3 rfl) ?_
          refine lv_icmp_ne (tgt := 26) hx hb dX0_isUnder_21 (by decide) (fun c_9 => ?_) (fun c_9 => ?_)
          ·
            have kc_9 : (0 : Int) ≠ p2.toInt := i_ne c_9
            obtain ⟨t0, t1, t2, ⟨a0, b0⟩, ⟨a1, b1⟩, ⟨a2, b2⟩⟩ := id hZ
            refine va_gets hx hb a2 hS hown (hg _ q4_143) (fun _ h9 => h9) dX0_isUnder_26 ?_
            refine lv_iload_n hx hb dX0_isUnder_29 rfl (lv_at hl 1 rfl) ?_
            refine va_ti hx hb b2 hS (i_in (by decide) (by decide)) (v := .int (-1)) rfl dX0_isUnder_30 ?_
            refine lv_istore_n (lv' := [(2, .int (-1)), (3, .int x_5), (0, .int 6), (1, .int p2)]) hx hb dX0_isUnder_31 rfl hl (by decide) rfl (fun ls hl => ?_)
            obtain ⟨x_10, ex_10⟩ : ∃ y : Int32, y = x_5 + 1 := ⟨_, rfl⟩
            have fx_10 : x_10.toInt = x_5.toInt + 1 := by rw [ex_10]; exact i_add (by first | omega | (show (_ : Int) ≤ x_5.toInt + 1; omega)) (by first | omega | (show x_5.toInt + 1 ≤ (_ : Int); omega))
            refine lv_iinc (v := x_10) (lv' := [(3, .int x_10), (2, .int (-1)), (0, .int 6), (1, .int p2)]) hx hb dX0_isUnder_32 hl (k := 1) rfl (by rw [ex_10]; rfl) (by decide) rfl (fun ls hl => ?_)
            refine lv_goto (tgt := 4) hx hb dX0_isUnder_35 (by decide) ?_
            refine lv_iload_n hx hb dX0_isUnder_4 rfl (lv_at hl 0 rfl) ?_
            obtain ⟨t0, t1, t2, ⟨a0, b0⟩, ⟨a1, b1⟩, ⟨a2, b2⟩⟩ := id hZ
            refine va_gets hx hb a2 hS hown (hg _ q4_143) (fun _ h9 => h9) dX0_isUnder_5 ?_
            refine va_tlen hx hb b2 hS (v := 8) rfl dX0_isUnder_8 ?_
            refine lv_icmp_ge (tgt := 38) hx hb dX0_isUnder_9 (by decide) (fun c_11 => ?_) (fun c_11 => ?_)
            ·
              have kc_11 : (8 : Int) ≤ x_10.toInt := i_le c_11
              exfalso; omega
            ·
              have kc_11 : x_10.toInt < (8 : Int) := i_nle c_11
              refine lv_iload_n hx hb dX0_isUnder_12 rfl (lv_at hl 1 rfl) ?_
              refine cS_p (As := [.int (-1)]) (rest := []) ⟨hx, hb, hml, hown, hg⟩ (k_IK_0 l    ) ca_X0_isKind q4_145 ⟨rfl, rfl⟩ ⟨Nat.le_of_ble_eq_true rfl, Nat.le_of_ble_eq_true rfl⟩ rfl hl.1 rfl (Nat.le_of_ble_eq_true rfl) ⟨Nat.zero_le _, Nat.zero_le _⟩ dX0_isUnder_13 (fun r_12 wr_12 => ?_)
              have wr_12 : r_12.toInt = 0 := wr_12
              refine lv_if_eq (tgt := 38) hx hb dX0_isUnder_16 (by decide) (fun c_13 => ?_) (fun c_13 => ?_)
              ·
                have kc_13 : r_12.toInt = (0 : Int) := i_eq c_13
                refine lv_iconst (v := 0) hx hb dX0_isUnder_38 (by decide) ?_
                have q0_0 : (0 : Int32).toInt = 0 := rfl
                exact W.zret (v := 0) hx hb hr rfl (fun tt ht hW => ⟨⟨0, (), rfl, (by first | rfl | omega | trivial | assumption | (dsimp only; first | omega | assumption)), by rw [ht]; exact hP, hD⟩, hS.F ht⟩) hS.2.2 dX0_isUnder_39
              ·
                have kc_13 : r_12.toInt ≠ (0 : Int) := i_ne c_13
                exfalso; omega
          ·
            have kc_9 : (0 : Int) = p2.toInt := i_eq c_9
            refine lv_iconst (v := 1) hx hb dX0_isUnder_24 (by decide) ?_
            have q0_1 : (1 : Int32).toInt = 1 := rfl
            exact W.zret (v := 1) hx hb hr rfl (fun tt ht hW => ⟨⟨1, (), rfl, (by first | rfl | omega | trivial | assumption | (dsimp only; first | omega | assumption)), by rw [ht]; exact hP, hD⟩, hS.F ht⟩) hS.2.2 dX0_isUnder_25
    ·
      have kc_4 : (6 : Int) = p2.toInt := i_eq c_4
      refine lv_iconst (v := 1) hx hb dX0_isUnder_24 (by decide) ?_
      have q0_1 : (1 : Int32).toInt = 1 := rfl
      exact W.zret (v := 1) hx hb hr rfl (fun tt ht hW => ⟨⟨1, (), rfl, (by first | rfl | omega | trivial | assumption | (dsimp only; first | omega | assumption)), by rw [ht]; exact hP, hD⟩, hS.F ht⟩) hS.2.2 dX0_isUnder_25
set_option maxHeartbeats 4000000 in
set_option maxRecDepth 100000 in
theorem k_U_8 (l : Launch) (D : va_G) (cs : Nat → ClassId) (A : Nat → Prop) (ad fa fq rv : Nat → Nat) (v : Nat → Int32) (a : Nat → Nat → Int32) (w : Nat → Nat → Int64) (fv fp : Nat → Nat → Int32)  (p2 : Int32) (h1 : 0 ≤ p2.toInt) (h2 : p2.toInt ≤ 7) : Met l yX0_isUnder (Cond.code yX0_isUnder cX0_isUnder 4 (some .boolean) :: gw) ({ frames := 1, cells := 0, slots := 0, locals := 20 }) (va_Pc [.int 7, .int p2] (XPre D (TY cs) (CW cs ad fa fq rv v a w fv fp) A)) (va_Qi (fun (r : Int32) (z : Unit) => ((r.toInt = 1 ∧ (p2.toInt = 7 ∨ p2.toInt = 6 ∨ p2.toInt = 0)) ∨ (r.toInt = 0 ∧ ¬ ((p2.toInt = 7 ∨ p2.toInt = 6 ∨ p2.toInt = 0))))) (XPo D (fun (z : Unit) => CW cs ad fa fq rv v a w fv fp) A) A) 0 0 A := by
  refine Met.ofW (cc := cX0_isUnder) (maxL := 4) (ret := (some .boolean)) (by decide) rfl ?_
  intro p e s m args below meth c s₁ B hml hv
  obtain ⟨rfl, hP, hK, hD, hZ⟩ := hv
  have hx := B.exec
  have hb := B.bytes
  have hr := B.returns
  have hts := atoms_spec (ws := (Cond.code yX0_isUnder cX0_isUnder 4 (some .boolean) :: gw)) B.pre
  have hg : ∀ w ∈ gw, w.before ([.int 7, .int p2] : List Value).toArray s = true := fun w h => hts w (List.mem_cons_of_mem _ h)
  have hown : s.vm.findClass RX0 = some m.cls := findClass_of_methodNamed B.named
  have hlocks := B.notSynchronized
  have hS : va_S A s.heap s.heap [] := va_S.rf
  have hP : va_P D vwCl (CW cs ad fa fq rv v a w fv fp) s.heap := hP
  have hl := lv_entry ([.int 7, .int p2]) (n := 4) (Nat.le_of_ble_eq_true rfl)
  rw [lg_entry_eq]
  generalize (lg_sl ([.int 7, .int p2]) ++ List.replicate (4 - (lg_sl ([.int 7, .int p2])).length) Slot.unset).toArray = ls at hl ⊢
  have hl : lv_has ls 4 [(0, .int 7), (1, .int p2)] := hl
  refine lv_iload_n hx hb dX0_isUnder_0 rfl (lv_at hl 0 rfl) ?_
  refine lv_istore_n (lv' := [(2, .int 7), (0, .int 7), (1, .int p2)]) hx hb dX0_isUnder_1 rfl hl (by decide) rfl (fun ls hl => ?_)
  refine lv_iconst (v := 0) hx hb dX0_isUnder_2 (by decide) ?_
  refine lv_istore_n (lv' := [(3, .int 0), (2, .int 7), (0, .int 7), (1, .int p2)]) hx hb dX0_isUnder_3 rfl hl (by decide) rfl (fun ls hl => ?_)
  refine lv_iload_n hx hb dX0_isUnder_4 rfl (lv_at hl 0 rfl) ?_
  obtain ⟨t0, t1, t2, ⟨a0, b0⟩, ⟨a1, b1⟩, ⟨a2, b2⟩⟩ := id hZ
  refine va_gets hx hb a2 hS hown (hg _ q4_143) (fun _ h9 => h9) dX0_isUnder_5 ?_
  refine va_tlen hx hb b2 hS (v := 8) rfl dX0_isUnder_8 ?_
  refine lv_icmp_ge (tgt := 38) hx hb dX0_isUnder_9 (by decide) (fun c_1 => absurd c_1 (by decide)) (fun c_1 => ?_)
  refine lv_iload_n hx hb dX0_isUnder_12 rfl (lv_at hl 1 rfl) ?_
  refine cS_p (As := [.int 7]) (rest := []) ⟨hx, hb, hml, hown, hg⟩ (k_IK_8 l    ) ca_X0_isKind q4_145 ⟨rfl, rfl⟩ ⟨Nat.le_of_ble_eq_true rfl, Nat.le_of_ble_eq_true rfl⟩ rfl hl.1 rfl (Nat.le_of_ble_eq_true rfl) ⟨Nat.zero_le _, Nat.zero_le _⟩ dX0_isUnder_13 (fun r_2 wr_2 => ?_)
  have wr_2 : r_2.toInt = 1 := wr_2
  refine lv_if_eq (tgt := 38) hx hb dX0_isUnder_16 (by decide) (fun c_3 => ?_) (fun c_3 => ?_)
  ·
    have kc_3 : r_2.toInt = (0 : Int) := i_eq c_3
    exfalso; omega
  ·
    have kc_3 : r_2.toInt ≠ (0 : Int) := i_ne c_3
    refine lv_iload_n hx hb dX0_isUnder_19 rfl (lv_at hl 1 rfl) ?_
    refine lv_iload_n hx hb dX0_isUnder_20 rfl (lv_at hl 3 rfl) ?_
    refine lv_icmp_ne (tgt := 26) hx hb dX0_isUnder_21 (by decide) (fun c_4 => ?_) (fun c_4 => ?_)
    ·
      have kc_4 : (7 : Int) ≠ p2.toInt := i_ne c_4
      obtain ⟨t0, t1, t2, ⟨a0, b0⟩, ⟨a1, b1⟩, ⟨a2, b2⟩⟩ := id hZ
      refine va_gets hx hb a2 hS hown (hg _ q4_143) (fun _ h9 => h9) dX0_isUnder_26 ?_
      refine lv_iload_n hx hb dX0_isUnder_29 rfl (lv_at hl 1 rfl) ?_
      refine va_ti hx hb b2 hS (i_in (by decide) (by decide)) (v := .int 6) rfl dX0_isUnder_30 ?_
      refine lv_istore_n (lv' := [(2, .int 6), (3, .int 0), (0, .int 7), (1, .int p2)]) hx hb dX0_isUnder_31 rfl hl (by decide) rfl (fun ls hl => ?_)
      obtain ⟨x_5, ex_5⟩ : ∃ y : Int32, y = 0 + 1 := ⟨_, rfl⟩
      have fx_5 : x_5.toInt = (0 : Int) + 1 := by rw [ex_5]; exact i_add (by first | omega | (show (_ : Int) ≤ (0 : Int) + 1; omega)) (by first | omega | (show (0 : Int) + 1 ≤ (_ : Int); omega))
      refine lv_iinc (v := x_5) (lv' := [(3, .int x_5), (2, .int 6), (0, .int 7), (1, .int p2)]) hx hb dX0_isUnder_32 hl (k := 1) rfl (by rw [ex_5]; rfl) (by decide) rfl (fun ls hl => ?_)
      refine lv_goto (tgt := 4) hx hb dX0_isUnder_35 (by decide) ?_
      refine lv_iload_n hx hb dX0_isUnder_4 rfl (lv_at hl 0 rfl) ?_
      obtain ⟨t0, t1, t2, ⟨a0, b0⟩, ⟨a1, b1⟩, ⟨a2, b2⟩⟩ := id hZ
      refine va_gets hx hb a2 hS hown (hg _ q4_143) (fun _ h9 => h9) dX0_isUnder_5 ?_
      refine va_tlen hx hb b2 hS (v := 8) rfl dX0_isUnder_8 ?_
      refine lv_icmp_ge (tgt := 38) hx hb dX0_isUnder_9 (by decide) (fun c_6 => ?_) (fun c_6 => ?_)
      ·
        have kc_6 : (8 : Int) ≤ x_5.toInt := i_le c_6
        exfalso; omega
      ·
        have kc_6 : x_5.toInt < (8 : Int) := i_nle c_6
        refine lv_iload_n hx hb dX0_isUnder_12 rfl (lv_at hl 1 rfl) ?_
        refine cS_p (As := [.int 6]) (rest := []) ⟨hx, hb, hml, hown, hg⟩ (k_IK_7 l    ) ca_X0_isKind q4_145 ⟨rfl, rfl⟩ ⟨Nat.le_of_ble_eq_true rfl, Nat.le_of_ble_eq_true rfl⟩ rfl hl.1 rfl (Nat.le_of_ble_eq_true rfl) ⟨Nat.zero_le _, Nat.zero_le _⟩ dX0_isUnder_13 (fun r_7 wr_7 => ?_)
        have wr_7 : r_7.toInt = 1 := wr_7
        refine lv_if_eq (tgt := 38) hx hb dX0_isUnder_16 (by decide) (fun c_8 => ?_) (fun c_8 => ?_)
        ·
          have kc_8 : r_7.toInt = (0 : Int) := i_eq c_8
          exfalso; omega
        ·
          have kc_8 : r_7.toInt ≠ (0 : Int) := i_ne c_8
          refine lv_iload_n hx hb dX0_isUnder_19 rfl (lv_at hl 1 rfl) ?_
          refine lv_iload_n hx hb dX0_isUnder_20 rfl (lv_at hl 3 rfl) ?_
          refine lv_icmp_ne (tgt := 26) hx hb dX0_isUnder_21 (by decide) (fun c_9 => ?_) (fun c_9 => ?_)
          ·
            have kc_9 : (6 : Int) ≠ p2.toInt := i_ne c_9
            obtain ⟨t0, t1, t2, ⟨a0, b0⟩, ⟨a1, b1⟩, ⟨a2, b2⟩⟩ := id hZ
            refine va_gets hx hb a2 hS hown (hg _ q4_143) (fun _ h9 => h9) dX0_isUnder_26 ?_
            refine lv_iload_n hx hb dX0_isUnder_29 rfl (lv_at hl 1 rfl) ?_
            refine va_ti hx hb b2 hS (i_in (by decide) (by decide)) (v := .int 0) rfl dX0_isUnder_30 ?_
            refine lv_istore_n (lv' := [(2, .int 0), (3, .int x_5), (0, .int 7), (1, .int p2)]) hx hb dX0_isUnder_31 rfl hl (by decide) rfl (fun ls hl => ?_)
            obtain ⟨x_10, ex_10⟩ : ∃ y : Int32, y = x_5 + 1 := ⟨_, rfl⟩
            have fx_10 : x_10.toInt = x_5.toInt + 1 := by rw [ex_10]; exact i_add (by first | omega | (show (_ : Int) ≤ x_5.toInt + 1; omega)) (by first | omega | (show x_5.toInt + 1 ≤ (_ : Int); omega))
            refine lv_iinc (v := x_10) (lv' := [(3, .int x_10), (2, .int 0), (0, .int 7), (1, .int p2)]) hx hb dX0_isUnder_32 hl (k := 1) rfl (by rw [ex_10]; rfl) (by decide) rfl (fun ls hl => ?_)
            refine lv_goto (tgt := 4) hx hb dX0_isUnder_35 (by decide) ?_
            refine lv_iload_n hx hb dX0_isUnder_4 rfl (lv_at hl 0 rfl) ?_
            obtain ⟨t0, t1, t2, ⟨a0, b0⟩, ⟨a1, b1⟩, ⟨a2, b2⟩⟩ := id hZ
            refine va_gets hx hb a2 hS hown (hg _ q4_143) (fun _ h9 => h9) dX0_isUnder_5 ?_
            refine va_tlen hx hb b2 hS (v := 8) rfl dX0_isUnder_8 ?_
            refine lv_icmp_ge (tgt := 38) hx hb dX0_isUnder_9 (by decide) (fun c_11 => ?_) (fun c_11 => ?_)
            ·
              have kc_11 : (8 : Int) ≤ x_10.toInt := i_le c_11
              exfalso; omega
            ·
              have kc_11 : x_10.toInt < (8 : Int) := i_nle c_11
              refine lv_iload_n hx hb dX0_isUnder_12 rfl (lv_at hl 1 rfl) ?_
              refine cS_p (As := [.int 0]) (rest := []) ⟨hx, hb, hml, hown, hg⟩ (k_IK_1 l    ) ca_X0_isKind q4_145 ⟨rfl, rfl⟩ ⟨Nat.le_of_ble_eq_true rfl, Nat.le_of_ble_eq_true rfl⟩ rfl hl.1 rfl (Nat.le_of_ble_eq_true rfl) ⟨Nat.zero_le _, Nat.zero_le _⟩ dX0_isUnder_13 (fun r_12 wr_12 => ?_)
              have wr_12 : r_12.toInt = 1 := wr_12
              refine lv_if_eq (tgt := 38) hx hb dX0_isUnder_16 (by decide) (fun c_13 => ?_) (fun c_13 => ?_)
              ·
                have kc_13 : r_12.toInt = (0 : Int) := i_eq c_13
                exfalso; omega
              ·
                have kc_13 : r_12.toInt ≠ (0 : Int) := i_ne c_13
                refine lv_iload_n hx hb dX0_isUnder_19 rfl (lv_at hl 1 rfl) ?_
                refine lv_iload_n hx hb dX0_isUnder_20 rfl (lv_at hl 3 rfl) ?_
                refine lv_icmp_ne (tgt := 26) hx hb dX0_isUnder_21 (by decide) (fun c_14 => ?_) (fun c_14 => ?_)
                ·
                  have kc_14 : (0 : Int) ≠ p2.toInt := i_ne c_14
                  obtain ⟨t0, t1, t2, ⟨a0, b0⟩, ⟨a1, b1⟩, ⟨a2, b2⟩⟩ := id hZ
                  refine va_gets hx hb a2 hS hown (hg _ q4_143) (fun _ h9 => h9) dX0_isUnder_26 ?_
                  refine lv_iload_n hx hb dX0_isUnder_29 rfl (lv_at hl 1 rfl) ?_
                  refine va_ti hx hb b2 hS (i_in (by decide) (by decide)) (v := .int (-1)) rfl dX0_isUnder_30 ?_
                  refine lv_istore_n (lv' := [(2, .int (-1)), (3, .int x_10), (0, .int 7), (1, .int p2)]) hx hb dX0_isUnder_31 rfl hl (by decide) rfl (fun ls hl => ?_)
                  obtain ⟨x_15, ex_15⟩ : ∃ y : Int32, y = x_10 + 1 := ⟨_, rfl⟩
                  have fx_15 : x_15.toInt = x_10.toInt + 1 := by rw [ex_15]; exact i_add (by first | omega | (show (_ : Int) ≤ x_10.toInt + 1; omega)) (by first | omega | (show x_10.toInt + 1 ≤ (_ : Int); omega))
                  refine lv_iinc (v := x_15) (lv' := [(3, .int x_15), (2, .int (-1)), (0, .int 7), (1, .int p2)]) hx hb dX0_isUnder_32 hl (k := 1) rfl (by rw [ex_15]; rfl) (by decide) rfl (fun ls hl => ?_)
                  refine lv_goto (tgt := 4) hx hb dX0_isUnder_35 (by decide) ?_
                  refine lv_iload_n hx hb dX0_isUnder_4 rfl (lv_at hl 0 rfl) ?_
                  obtain ⟨t0, t1, t2, ⟨a0, b0⟩, ⟨a1, b1⟩, ⟨a2, b2⟩⟩ := id hZ
                  refine va_gets hx hb a2 hS hown (hg _ q4_143) (fun _ h9 => h9) dX0_isUnder_5 ?_
                  refine va_tlen hx hb b2 hS (v := 8) rfl dX0_isUnder_8 ?_
                  refine lv_icmp_ge (tgt := 38) hx hb dX0_isUnder_9 (by decide) (fun c_16 => ?_) (fun c_16 => ?_)
                  ·
                    have kc_16 : (8 : Int) ≤ x_15.toInt := i_le c_16
                    exfalso; omega
                  ·
                    have kc_16 : x_15.toInt < (8 : Int) := i_nle c_16
                    refine lv_iload_n hx hb dX0_isUnder_12 rfl (lv_at hl 1 rfl) ?_
                    refine cS_p (As := [.int (-1)]) (rest := []) ⟨hx, hb, hml, hown, hg⟩ (k_IK_0 l    ) ca_X0_isKind q4_145 ⟨rfl, rfl⟩ ⟨Nat.le_of_ble_eq_true rfl, Nat.le_of_ble_eq_true rfl⟩ rfl hl.1 rfl (Nat.le_of_ble_eq_true rfl) ⟨Nat.zero_le _, Nat.zero_le _⟩ dX0_isUnder_13 (fun r_17 wr_17 => ?_)
                    have wr_17 : r_17.toInt = 0 := wr_17
                    refine lv_if_eq (tgt := 38) hx hb dX0_isUnder_16 (by decide) (fun c_18 => ?_) (fun c_18 => ?_)
                    ·
                      have kc_18 : r_17.toInt = (0 : Int) := i_eq c_18
                      refine lv_iconst (v := 0) hx hb dX0_isUnder_38 (by decide) ?_
                      have q0_0 : (0 : Int32).toInt = 0 := rfl
                      exact W.zret (v := 0) hx hb hr rfl (fun tt ht hW => ⟨⟨0, (), rfl, (by first | rfl | omega | trivial | assumption | (dsimp only; first | omega | assumption)), by rw [ht]; exact hP, hD⟩, hS.F ht⟩) hS.2.2 dX0_isUnder_39
                    ·
                      have kc_18 : r_17.toInt ≠ (0 : Int) := i_ne c_18
                      exfalso; omega
                ·
                  have kc_14 : (0 : Int) = p2.toInt := i_eq c_14
                  refine lv_iconst (v := 1) hx hb dX0_isUnder_24 (by decide) ?_
                  have q0_1 : (1 : Int32).toInt = 1 := rfl
                  exact W.zret (v := 1) hx hb hr rfl (fun tt ht hW => ⟨⟨1, (), rfl, (by first | rfl | omega | trivial | assumption | (dsimp only; first | omega | assumption)), by rw [ht]; exact hP, hD⟩, hS.F ht⟩) hS.2.2 dX0_isUnder_25
          ·
            have kc_9 : (6 : Int) = p2.toInt := i_eq c_9
            refine lv_iconst (v := 1) hx hb dX0_isUnder_24 (by decide) ?_
            have q0_1 : (1 : Int32).toInt = 1 := rfl
            exact W.zret (v := 1) hx hb hr rfl (fun tt ht hW => ⟨⟨1, (), rfl, (by first | rfl | omega | trivial | assumption | (dsimp only; first | omega | assumption)), by rw [ht]; exact hP, hD⟩, hS.F ht⟩) hS.2.2 dX0_isUnder_25
    ·
      have kc_4 : (7 : Int) = p2.toInt := i_eq c_4
      refine lv_iconst (v := 1) hx hb dX0_isUnder_24 (by decide) ?_
      have q0_1 : (1 : Int32).toInt = 1 := rfl
      exact W.zret (v := 1) hx hb hr rfl (fun tt ht hW => ⟨⟨1, (), rfl, (by first | rfl | omega | trivial | assumption | (dsimp only; first | omega | assumption)), by rw [ht]; exact hP, hD⟩, hS.F ht⟩) hS.2.2 dX0_isUnder_25
set_option maxHeartbeats 4000000 in
set_option maxRecDepth 100000 in
theorem k_X11_taken (l : Launch) (D : va_G) (cs : Nat → ClassId) (A : Nat → Prop) (ad fa fq rv : Nat → Nat) (v : Nat → Int32) (a : Nat → Nat → Int32) (w : Nat → Nat → Int64) (fv fp : Nat → Nat → Int32)  (p1 : Int32) (p2 : Int32) (ia28_0 : AB (-1) 5 (a 28)) (ia29_0 : AB (-1) 60 (a 29)) (iv21_0 : 0 ≤ (v 21).toInt) (iv21_1 : (v 21).toInt ≤ 50) (ia37_0 : AB 0 7 (a 37)) : Met l yX11_taken (Cond.code yX11_taken cX11_taken 4 (some .int) :: gw) ({ frames := 2, cells := 0, slots := 0, locals := 43 }) (va_Pc [.ref (ad 0), .int p1, .int p2] (XPre D (TY cs) (CW cs ad fa fq rv v a w fv fp) A)) (va_Qi (fun (r : Int32) (z : Unit) => ((¬ ((0 ≤ p1.toInt ∧ p1.toInt < 6) ∧ 0 ≤ p2.toInt ∧ p2.toInt ≤ 7) ∧ r.toInt = -1) ∨ (((0 ≤ p1.toInt ∧ p1.toInt < 6) ∧ 0 ≤ p2.toInt ∧ p2.toInt ≤ 7) ∧ ((((a 28) p1.toNatClampNeg).toInt = -1 ∧ r.toInt = -11) ∨ (((a 28) p1.toNatClampNeg).toInt = 5 ∧ (0 ≤ ((a 29) p1.toNatClampNeg).toInt ∧ ((a 29) p1.toNatClampNeg).toInt < (v 21).toInt) ∧ (UNDR ((a 37) ((a 29) p1.toNatClampNeg).toNatClampNeg).toInt p2.toInt) ∧ r.toInt = ((a 37) ((a 29) p1.toNatClampNeg).toNatClampNeg).toInt) ∨ (((a 28) p1.toNatClampNeg).toInt = 5 ∧ (0 ≤ ((a 29) p1.toNatClampNeg).toInt ∧ ((a 29) p1.toNatClampNeg).toInt < (v 21).toInt) ∧ ¬ (UNDR ((a 37) ((a 29) p1.toNatClampNeg).toNatClampNeg).toInt p2.toInt) ∧ r.toInt = -12) ∨ (((a 28) p1.toNatClampNeg).toInt ≠ -1 ∧ ¬ (((a 28) p1.toNatClampNeg).toInt = 5 ∧ (0 ≤ ((a 29) p1.toNatClampNeg).toInt ∧ ((a 29) p1.toNatClampNeg).toInt < (v 21).toInt)) ∧ r.toInt = -12))))) (XPo D (fun (z : Unit) => CW cs ad fa fq rv v a w fv fp) A) A) 0 0 A := by
  refine Met.ofW (cc := cX11_taken) (maxL := 4) (ret := (some .int)) (by decide) rfl ?_
  intro p e s m args below meth c s₁ B hml hv
  obtain ⟨rfl, hP, hK, hD, hZ⟩ := hv
  have hx := B.exec
  have hb := B.bytes
  have hr := B.returns
  have hts := atoms_spec (ws := (Cond.code yX11_taken cX11_taken 4 (some .int) :: gw)) B.pre
  have hg : ∀ w ∈ gw, w.before ([.ref (ad 0), .int p1, .int p2] : List Value).toArray s = true := fun w h => hts w (List.mem_cons_of_mem _ h)
  have hown : s.vm.findClass RX11 = some m.cls := findClass_of_methodNamed B.named
  have hlocks := B.notSynchronized
  have hS : va_S A s.heap s.heap [] := va_S.rf
  have hP : va_P D vwCl (CW cs ad fa fq rv v a w fv fp) s.heap := hP
  have hl := lv_entry ([.ref (ad 0), .int p1, .int p2]) (n := 4) (Nat.le_of_ble_eq_true rfl)
  rw [lg_entry_eq]
  generalize (lg_sl ([.ref (ad 0), .int p1, .int p2]) ++ List.replicate (4 - (lg_sl ([.ref (ad 0), .int p1, .int p2])).length) Slot.unset).toArray = ls at hl ⊢
  have hl : lv_has ls 4 [(0, .ref (ad 0)), (1, .int p1), (2, .int p2)] := hl
  refine lv_iload_n hx hb dX11_taken_0 rfl (lv_at hl 1 rfl) ?_
  refine cS_p (As := [.int p1]) (rest := []) ⟨hx, hb, hml, hown, hg⟩ (k_X10_isShelf l   p1 ) ca_X10_isShelf q2_205 ⟨rfl, rfl⟩ ⟨Nat.le_of_ble_eq_true rfl, Nat.le_of_ble_eq_true rfl⟩ rfl hl.1 rfl (Nat.le_of_ble_eq_true rfl) ⟨Nat.zero_le _, Nat.zero_le _⟩ dX11_taken_1 (fun r_1 wr_1 => ?_)
  have wr_1 : (r_1.toInt = 1 ∧ 0 ≤ p1.toInt ∧ p1.toInt < 6) ∨ (r_1.toInt = 0 ∧ ¬ (0 ≤ p1.toInt ∧ p1.toInt < 6)) := wr_1
  refine lv_if_eq (tgt := 14) hx hb dX11_taken_4 (by decide) (fun c_2 => ?_) (fun c_2 => ?_)
  ·
    have kc_2 : r_1.toInt = (0 : Int) := i_eq c_2
    refine lv_iconst (v := (-1)) hx hb dX11_taken_14 (by decide) ?_
    have q0_m1 : ((-1) : Int32).toInt = (-1) := rfl
    exact W.iret (v := (-1)) hx hb hr (fun tt ht hW => ⟨⟨(-1), (), rfl, (Or.inl ⟨by omega, rfl⟩), by rw [ht]; exact hP, hD⟩, hS.F ht⟩) hS.2.2 dX11_taken_15
  ·
    have kc_2 : r_1.toInt ≠ (0 : Int) := i_ne c_2
    refine lv_iload_n hx hb dX11_taken_7 rfl (lv_at hl 2 rfl) ?_
    refine cS_p (As := [.int p2]) (rest := []) ⟨hx, hb, hml, hown, hg⟩ (k_X0_isKind l   p2 ) ca_X0_isKind q4_116 ⟨rfl, rfl⟩ ⟨Nat.le_of_ble_eq_true rfl, Nat.le_of_ble_eq_true rfl⟩ rfl hl.1 rfl (Nat.le_of_ble_eq_true rfl) ⟨Nat.zero_le _, Nat.zero_le _⟩ dX11_taken_8 (fun r_3 wr_3 => ?_)
    have wr_3 : (r_3.toInt = 1 ∧ 0 ≤ p2.toInt ∧ p2.toInt ≤ 7) ∨ (r_3.toInt = 0 ∧ ¬ (0 ≤ p2.toInt ∧ p2.toInt ≤ 7)) := wr_3
    refine lv_if_ne (tgt := 16) hx hb dX11_taken_11 (by decide) (fun c_4 => ?_) (fun c_4 => ?_)
    ·
      have kc_4 : r_3.toInt ≠ (0 : Int) := i_ne c_4
      refine lv_aload_n hx hb dX11_taken_16 rfl (lv_at hl 0 rfl) ?_
      refine gf_main_shelves hx hb hg hown hK hP rfl (hg _ q2_133) dX11_taken_17 ?_
      refine lv_iload_n hx hb dX11_taken_20 rfl (lv_at hl 1 rfl) ?_
      refine cV_ro (As := [.int p1]) (rest := []) ⟨hx, hb, hml, hown, hg⟩ (k_X10_isEmpty l D cs A ad fa fq rv v a w fv fp  p1 (show 0 ≤ p1.toInt by first | omega | decide) (show p1.toInt < 6 by first | omega | decide) ia28_0) ca_X10_isEmpty q2_208 ⟨rfl, rfl⟩ ⟨Nat.le_of_ble_eq_true rfl, Nat.le_of_ble_eq_true rfl⟩ (rc_shelves hK hP) hK hP hD hS hZ rfl hl.1 rfl (Nat.le_of_ble_eq_true rfl) ⟨Nat.zero_le _, Nat.zero_le _⟩ dX11_taken_21 (fun r_5 wr_5 => ?_)
      have wr_5_0 : (r_5.toInt = 1 ∧ ((a 28) p1.toNatClampNeg).toInt = -1) ∨ (r_5.toInt = 0 ∧ ¬ (((a 28) p1.toNatClampNeg).toInt = -1)) := wr_5
      refine lv_if_eq (tgt := 30) hx hb dX11_taken_24 (by decide) (fun c_6 => ?_) (fun c_6 => ?_)
      ·
        have kc_6 : r_5.toInt = (0 : Int) := i_eq c_6
        refine lv_aload_n hx hb dX11_taken_30 rfl (lv_at hl 0 rfl) ?_
        refine gf_main_acts hx hb hg hown hK hP rfl (hg _ q2_134) dX11_taken_31 ?_
        refine lv_aload_n hx hb dX11_taken_34 rfl (lv_at hl 0 rfl) ?_
        refine gf_main_shelves hx hb hg hown hK hP rfl (hg _ q2_133) dX11_taken_35 ?_
        refine lv_iload_n hx hb dX11_taken_38 rfl (lv_at hl 1 rfl) ?_
        refine cV_ro (As := [.int p1]) (rest := [.ref (ad 9)]) ⟨hx, hb, hml, hown, hg⟩ (k_X10_bodyOn l D cs A ad fa fq rv v a w fv fp  p1 (show 0 ≤ p1.toInt by first | omega | decide) (show p1.toInt < 6 by first | omega | decide) ia28_0 ia29_0) ca_X10_bodyOn q4_212 ⟨rfl, rfl⟩ ⟨Nat.le_of_ble_eq_true rfl, Nat.le_of_ble_eq_true rfl⟩ (rc_shelves hK hP) hK hP hD hS hZ rfl hl.1 rfl (Nat.le_of_ble_eq_true rfl) ⟨Nat.zero_le _, Nat.zero_le _⟩ dX11_taken_39 (fun r_7 wr_7 => ?_)
        have wr_7_0 : (((a 28) p1.toNatClampNeg).toInt = 5 ∧ r_7.toInt = ((a 29) p1.toNatClampNeg).toInt) ∨ (((a 28) p1.toNatClampNeg).toInt ≠ 5 ∧ r_7.toInt = -1) := wr_7
        have kb : ((a 28) p1.toNatClampNeg).toInt ≠ 5 ∨ r_7.toNatClampNeg = ((a 29) p1.toNatClampNeg).toNatClampNeg := (Classical.em (((a 28) p1.toNatClampNeg).toInt = 5)).elim (fun q => Or.inr (by rw [show r_7 = (a 29) p1.toNatClampNeg from i_inj (by omega)])) Or.inl
        refine cV_ro (As := [.int r_7]) (rest := []) ⟨hx, hb, hml, hown, hg⟩ (k_X0_kindOf l D cs A ad fa fq rv v a w fv fp  r_7 (show 0 ≤ (v 21).toInt by first | omega | decide) (show (v 21).toInt ≤ 50 by first | omega | decide) ia37_0) ca_X0_kindOf q4_216 ⟨rfl, rfl⟩ ⟨Nat.le_of_ble_eq_true rfl, Nat.le_of_ble_eq_true rfl⟩ (rc_acts hK hP) hK hP hD hS hZ rfl hl.1 rfl (Nat.le_of_ble_eq_true rfl) ⟨Nat.zero_le _, Nat.zero_le _⟩ dX11_taken_42 (fun r_8 wr_8 => ?_)
        obtain ⟨wr_8_0, wr_8_1, wr_8_2⟩ : (((0 ≤ r_7.toInt ∧ r_7.toInt < (v 21).toInt) ∧ r_8.toInt = ((a 37) r_7.toNatClampNeg).toInt) ∨ (¬ (0 ≤ r_7.toInt ∧ r_7.toInt < (v 21).toInt) ∧ r_8.toInt = -1)) ∧ (-1 ≤ r_8.toInt) ∧ (r_8.toInt ≤ 7) := wr_8
        have kk : ((a 28) p1.toNatClampNeg).toInt ≠ 5 ∨ ((a 37) r_7.toNatClampNeg).toInt = ((a 37) ((a 29) p1.toNatClampNeg).toNatClampNeg).toInt := kb.elim Or.inl (fun q => Or.inr (by rw [q]))
        have b37 := ia37_0 r_7.toNatClampNeg
        refine lv_istore_n (lv' := [(3, .int r_8), (0, .ref (ad 0)), (1, .int p1), (2, .int p2)]) hx hb dX11_taken_45 rfl hl (by decide) rfl (fun ls hl => ?_)
        rcases (show r_8 = -1 ∨ r_8 = 0 ∨ r_8 = 1 ∨ r_8 = 2 ∨ r_8 = 3 ∨ r_8 = 4 ∨ r_8 = 5 ∨ r_8 = 6 ∨ r_8 = 7 from i_m17 (by omega) (by omega)) with hkd | hkd | hkd | hkd | hkd | hkd | hkd | hkd | hkd
        ·
          subst hkd
          have hkI : ((-1) : Int32).toInt = (-1) := rfl
          have kS : ¬ (((a 28) p1.toNatClampNeg).toInt = 5 ∧ (0 ≤ ((a 29) p1.toNatClampNeg).toInt ∧ ((a 29) p1.toNatClampNeg).toInt < (v 21).toInt)) := by omega
          refine lv_iload_n hx hb dX11_taken_46 rfl (lv_at hl 0 rfl) ?_
          refine lv_iload_n hx hb dX11_taken_47 rfl (lv_at hl 3 rfl) ?_
          refine cS_i (As := [.int (-1), .int p2]) (rest := []) ⟨hx, hb, hml, hown, hg⟩ (k_U_0 l D cs A ad fa fq rv v a w fv fp  p2 (show 0 ≤ p2.toInt by first | omega | decide) (show p2.toInt ≤ 7 by first | omega | decide)) ca_X0_isUnder q4_220 ⟨rfl, rfl⟩ ⟨Nat.le_of_ble_eq_true rfl, Nat.le_of_ble_eq_true rfl⟩  hK hP hD hS hZ rfl hl.1 rfl (Nat.le_of_ble_eq_true rfl) ⟨Nat.zero_le _, Nat.zero_le _⟩ dX11_taken_48 (fun r_9 z_10 H locs wr_9 hP hD hS => ?_)
          have hP : va_P D vwCl (CW cs ad fa fq rv v a w fv fp) H := hP
          have hD : va_D A (CW cs ad fa fq rv v a w fv fp) := hD
          have wr_9_0 : (r_9.toInt = 1 ∧ (p2.toInt = 100)) ∨ (r_9.toInt = 0 ∧ ¬ ((p2.toInt = 100))) := wr_9
          refine lv_if_eq (tgt := 58) hx hb dX11_taken_51 (by decide) (fun c_11 => ?_) (fun c_11 => ?_)
          ·
            have kc_11 : r_9.toInt = (0 : Int) := i_eq c_11
            refine lv_bipush (v := (-12)) hx hb dX11_taken_58 (by decide) ?_
            have q0_m12 : ((-12) : Int32).toInt = (-12) := rfl
            exact W.iret (v := (-12)) hx hb hr (fun tt ht hW => ⟨⟨(-12), (), rfl, (Or.inr ⟨by omega, Or.inr (Or.inr (Or.inr ⟨by omega, kS, rfl⟩))⟩), by rw [ht]; exact hP, hD⟩, hS.F ht⟩) hS.2.2 dX11_taken_60
          ·
            have kc_11 : r_9.toInt ≠ (0 : Int) := i_ne c_11
            refine lv_iload_n hx hb dX11_taken_54 rfl (lv_at hl 0 rfl) ?_
            refine lv_goto (tgt := 60) hx hb dX11_taken_55 (by decide) ?_
            have q0_m1 : ((-1) : Int32).toInt = (-1) := rfl
            exact W.iret (v := (-1)) hx hb hr (fun tt ht hW => ⟨⟨(-1), (), rfl, (by exfalso; omega), by rw [ht]; exact hP, hD⟩, hS.F ht⟩) hS.2.2 dX11_taken_60
        ·
          subst hkd
          have hkI : (0 : Int32).toInt = 0 := rfl
          have kS : ((a 28) p1.toNatClampNeg).toInt = 5 ∧ (0 ≤ ((a 29) p1.toNatClampNeg).toInt ∧ ((a 29) p1.toNatClampNeg).toInt < (v 21).toInt) ∧ ((a 37) ((a 29) p1.toNatClampNeg).toNatClampNeg).toInt = 0 := by omega
          refine lv_iload_n hx hb dX11_taken_46 rfl (lv_at hl 0 rfl) ?_
          refine lv_iload_n hx hb dX11_taken_47 rfl (lv_at hl 3 rfl) ?_
          refine cS_i (As := [.int 0, .int p2]) (rest := []) ⟨hx, hb, hml, hown, hg⟩ (k_U_1 l D cs A ad fa fq rv v a w fv fp  p2 (show 0 ≤ p2.toInt by first | omega | decide) (show p2.toInt ≤ 7 by first | omega | decide)) ca_X0_isUnder q4_220 ⟨rfl, rfl⟩ ⟨Nat.le_of_ble_eq_true rfl, Nat.le_of_ble_eq_true rfl⟩  hK hP hD hS hZ rfl hl.1 rfl (Nat.le_of_ble_eq_true rfl) ⟨Nat.zero_le _, Nat.zero_le _⟩ dX11_taken_48 (fun r_12 z_13 H locs wr_12 hP hD hS => ?_)
          have hP : va_P D vwCl (CW cs ad fa fq rv v a w fv fp) H := hP
          have hD : va_D A (CW cs ad fa fq rv v a w fv fp) := hD
          have wr_12_0 : (r_12.toInt = 1 ∧ (p2.toInt = 0)) ∨ (r_12.toInt = 0 ∧ ¬ ((p2.toInt = 0))) := wr_12
          refine lv_if_eq (tgt := 58) hx hb dX11_taken_51 (by decide) (fun c_14 => ?_) (fun c_14 => ?_)
          ·
            have kc_14 : r_12.toInt = (0 : Int) := i_eq c_14
            have hU : ¬ (UNDR ((a 37) ((a 29) p1.toNatClampNeg).toNatClampNeg).toInt p2.toInt) := by rw [kS.2.2]; unfold UNDR; omega
            refine lv_bipush (v := (-12)) hx hb dX11_taken_58 (by decide) ?_
            have q0_m12 : ((-12) : Int32).toInt = (-12) := rfl
            exact W.iret (v := (-12)) hx hb hr (fun tt ht hW => ⟨⟨(-12), (), rfl, (Or.inr ⟨by omega, Or.inr (Or.inr (Or.inl ⟨kS.1, kS.2.1, hU, rfl⟩))⟩), by rw [ht]; exact hP, hD⟩, hS.F ht⟩) hS.2.2 dX11_taken_60
          ·
            have kc_14 : r_12.toInt ≠ (0 : Int) := i_ne c_14
            have hU : (UNDR ((a 37) ((a 29) p1.toNatClampNeg).toNatClampNeg).toInt p2.toInt) := by rw [kS.2.2]; unfold UNDR; omega
            refine lv_iload_n hx hb dX11_taken_54 rfl (lv_at hl 0 rfl) ?_
            refine lv_goto (tgt := 60) hx hb dX11_taken_55 (by decide) ?_
            have q0_0 : (0 : Int32).toInt = 0 := rfl
            exact W.iret (v := 0) hx hb hr (fun tt ht hW => ⟨⟨0, (), rfl, (Or.inr ⟨by omega, Or.inr (Or.inl ⟨kS.1, kS.2.1, hU, by omega⟩)⟩), by rw [ht]; exact hP, hD⟩, hS.F ht⟩) hS.2.2 dX11_taken_60
        ·
          subst hkd
          have hkI : (1 : Int32).toInt = 1 := rfl
          have kS : ((a 28) p1.toNatClampNeg).toInt = 5 ∧ (0 ≤ ((a 29) p1.toNatClampNeg).toInt ∧ ((a 29) p1.toNatClampNeg).toInt < (v 21).toInt) ∧ ((a 37) ((a 29) p1.toNatClampNeg).toNatClampNeg).toInt = 1 := by omega
          refine lv_iload_n hx hb dX11_taken_46 rfl (lv_at hl 0 rfl) ?_
          refine lv_iload_n hx hb dX11_taken_47 rfl (lv_at hl 3 rfl) ?_
          refine cS_i (As := [.int 1, .int p2]) (rest := []) ⟨hx, hb, hml, hown, hg⟩ (k_U_2 l D cs A ad fa fq rv v a w fv fp  p2 (show 0 ≤ p2.toInt by first | omega | decide) (show p2.toInt ≤ 7 by first | omega | decide)) ca_X0_isUnder q4_220 ⟨rfl, rfl⟩ ⟨Nat.le_of_ble_eq_true rfl, Nat.le_of_ble_eq_true rfl⟩  hK hP hD hS hZ rfl hl.1 rfl (Nat.le_of_ble_eq_true rfl) ⟨Nat.zero_le _, Nat.zero_le _⟩ dX11_taken_48 (fun r_15 z_16 H locs wr_15 hP hD hS => ?_)
          have hP : va_P D vwCl (CW cs ad fa fq rv v a w fv fp) H := hP
          have hD : va_D A (CW cs ad fa fq rv v a w fv fp) := hD
          have wr_15_0 : (r_15.toInt = 1 ∧ (p2.toInt = 1 ∨ p2.toInt = 0)) ∨ (r_15.toInt = 0 ∧ ¬ ((p2.toInt = 1 ∨ p2.toInt = 0))) := wr_15
          refine lv_if_eq (tgt := 58) hx hb dX11_taken_51 (by decide) (fun c_17 => ?_) (fun c_17 => ?_)
          ·
            have kc_17 : r_15.toInt = (0 : Int) := i_eq c_17
            have hU : ¬ (UNDR ((a 37) ((a 29) p1.toNatClampNeg).toNatClampNeg).toInt p2.toInt) := by rw [kS.2.2]; unfold UNDR; omega
            refine lv_bipush (v := (-12)) hx hb dX11_taken_58 (by decide) ?_
            have q0_m12 : ((-12) : Int32).toInt = (-12) := rfl
            exact W.iret (v := (-12)) hx hb hr (fun tt ht hW => ⟨⟨(-12), (), rfl, (Or.inr ⟨by omega, Or.inr (Or.inr (Or.inl ⟨kS.1, kS.2.1, hU, rfl⟩))⟩), by rw [ht]; exact hP, hD⟩, hS.F ht⟩) hS.2.2 dX11_taken_60
          ·
            have kc_17 : r_15.toInt ≠ (0 : Int) := i_ne c_17
            have hU : (UNDR ((a 37) ((a 29) p1.toNatClampNeg).toNatClampNeg).toInt p2.toInt) := by rw [kS.2.2]; unfold UNDR; omega
            refine lv_iload_n hx hb dX11_taken_54 rfl (lv_at hl 0 rfl) ?_
            refine lv_goto (tgt := 60) hx hb dX11_taken_55 (by decide) ?_
            have q0_1 : (1 : Int32).toInt = 1 := rfl
            exact W.iret (v := 1) hx hb hr (fun tt ht hW => ⟨⟨1, (), rfl, (Or.inr ⟨by omega, Or.inr (Or.inl ⟨kS.1, kS.2.1, hU, by omega⟩)⟩), by rw [ht]; exact hP, hD⟩, hS.F ht⟩) hS.2.2 dX11_taken_60
        ·
          subst hkd
          have hkI : (2 : Int32).toInt = 2 := rfl
          have kS : ((a 28) p1.toNatClampNeg).toInt = 5 ∧ (0 ≤ ((a 29) p1.toNatClampNeg).toInt ∧ ((a 29) p1.toNatClampNeg).toInt < (v 21).toInt) ∧ ((a 37) ((a 29) p1.toNatClampNeg).toNatClampNeg).toInt = 2 := by omega
          refine lv_iload_n hx hb dX11_taken_46 rfl (lv_at hl 0 rfl) ?_
          refine lv_iload_n hx hb dX11_taken_47 rfl (lv_at hl 3 rfl) ?_
          refine cS_i (As := [.int 2, .int p2]) (rest := []) ⟨hx, hb, hml, hown, hg⟩ (k_U_3 l D cs A ad fa fq rv v a w fv fp  p2 (show 0 ≤ p2.toInt by first | omega | decide) (show p2.toInt ≤ 7 by first | omega | decide)) ca_X0_isUnder q4_220 ⟨rfl, rfl⟩ ⟨Nat.le_of_ble_eq_true rfl, Nat.le_of_ble_eq_true rfl⟩  hK hP hD hS hZ rfl hl.1 rfl (Nat.le_of_ble_eq_true rfl) ⟨Nat.zero_le _, Nat.zero_le _⟩ dX11_taken_48 (fun r_18 z_19 H locs wr_18 hP hD hS => ?_)
          have hP : va_P D vwCl (CW cs ad fa fq rv v a w fv fp) H := hP
          have hD : va_D A (CW cs ad fa fq rv v a w fv fp) := hD
          have wr_18_0 : (r_18.toInt = 1 ∧ (p2.toInt = 2 ∨ p2.toInt = 0)) ∨ (r_18.toInt = 0 ∧ ¬ ((p2.toInt = 2 ∨ p2.toInt = 0))) := wr_18
          refine lv_if_eq (tgt := 58) hx hb dX11_taken_51 (by decide) (fun c_20 => ?_) (fun c_20 => ?_)
          ·
            have kc_20 : r_18.toInt = (0 : Int) := i_eq c_20
            have hU : ¬ (UNDR ((a 37) ((a 29) p1.toNatClampNeg).toNatClampNeg).toInt p2.toInt) := by rw [kS.2.2]; unfold UNDR; omega
            refine lv_bipush (v := (-12)) hx hb dX11_taken_58 (by decide) ?_
            have q0_m12 : ((-12) : Int32).toInt = (-12) := rfl
            exact W.iret (v := (-12)) hx hb hr (fun tt ht hW => ⟨⟨(-12), (), rfl, (Or.inr ⟨by omega, Or.inr (Or.inr (Or.inl ⟨kS.1, kS.2.1, hU, rfl⟩))⟩), by rw [ht]; exact hP, hD⟩, hS.F ht⟩) hS.2.2 dX11_taken_60
          ·
            have kc_20 : r_18.toInt ≠ (0 : Int) := i_ne c_20
            have hU : (UNDR ((a 37) ((a 29) p1.toNatClampNeg).toNatClampNeg).toInt p2.toInt) := by rw [kS.2.2]; unfold UNDR; omega
            refine lv_iload_n hx hb dX11_taken_54 rfl (lv_at hl 0 rfl) ?_
            refine lv_goto (tgt := 60) hx hb dX11_taken_55 (by decide) ?_
            have q0_2 : (2 : Int32).toInt = 2 := rfl
            exact W.iret (v := 2) hx hb hr (fun tt ht hW => ⟨⟨2, (), rfl, (Or.inr ⟨by omega, Or.inr (Or.inl ⟨kS.1, kS.2.1, hU, by omega⟩)⟩), by rw [ht]; exact hP, hD⟩, hS.F ht⟩) hS.2.2 dX11_taken_60
        ·
          subst hkd
          have hkI : (3 : Int32).toInt = 3 := rfl
          have kS : ((a 28) p1.toNatClampNeg).toInt = 5 ∧ (0 ≤ ((a 29) p1.toNatClampNeg).toInt ∧ ((a 29) p1.toNatClampNeg).toInt < (v 21).toInt) ∧ ((a 37) ((a 29) p1.toNatClampNeg).toNatClampNeg).toInt = 3 := by omega
          refine lv_iload_n hx hb dX11_taken_46 rfl (lv_at hl 0 rfl) ?_
          refine lv_iload_n hx hb dX11_taken_47 rfl (lv_at hl 3 rfl) ?_
          refine cS_i (As := [.int 3, .int p2]) (rest := []) ⟨hx, hb, hml, hown, hg⟩ (k_U_4 l D cs A ad fa fq rv v a w fv fp  p2 (show 0 ≤ p2.toInt by first | omega | decide) (show p2.toInt ≤ 7 by first | omega | decide)) ca_X0_isUnder q4_220 ⟨rfl, rfl⟩ ⟨Nat.le_of_ble_eq_true rfl, Nat.le_of_ble_eq_true rfl⟩  hK hP hD hS hZ rfl hl.1 rfl (Nat.le_of_ble_eq_true rfl) ⟨Nat.zero_le _, Nat.zero_le _⟩ dX11_taken_48 (fun r_21 z_22 H locs wr_21 hP hD hS => ?_)
          have hP : va_P D vwCl (CW cs ad fa fq rv v a w fv fp) H := hP
          have hD : va_D A (CW cs ad fa fq rv v a w fv fp) := hD
          have wr_21_0 : (r_21.toInt = 1 ∧ (p2.toInt = 3 ∨ p2.toInt = 2 ∨ p2.toInt = 0)) ∨ (r_21.toInt = 0 ∧ ¬ ((p2.toInt = 3 ∨ p2.toInt = 2 ∨ p2.toInt = 0))) := wr_21
          refine lv_if_eq (tgt := 58) hx hb dX11_taken_51 (by decide) (fun c_23 => ?_) (fun c_23 => ?_)
          ·
            have kc_23 : r_21.toInt = (0 : Int) := i_eq c_23
            have hU : ¬ (UNDR ((a 37) ((a 29) p1.toNatClampNeg).toNatClampNeg).toInt p2.toInt) := by rw [kS.2.2]; unfold UNDR; omega
            refine lv_bipush (v := (-12)) hx hb dX11_taken_58 (by decide) ?_
            have q0_m12 : ((-12) : Int32).toInt = (-12) := rfl
            exact W.iret (v := (-12)) hx hb hr (fun tt ht hW => ⟨⟨(-12), (), rfl, (Or.inr ⟨by omega, Or.inr (Or.inr (Or.inl ⟨kS.1, kS.2.1, hU, rfl⟩))⟩), by rw [ht]; exact hP, hD⟩, hS.F ht⟩) hS.2.2 dX11_taken_60
          ·
            have kc_23 : r_21.toInt ≠ (0 : Int) := i_ne c_23
            have hU : (UNDR ((a 37) ((a 29) p1.toNatClampNeg).toNatClampNeg).toInt p2.toInt) := by rw [kS.2.2]; unfold UNDR; omega
            refine lv_iload_n hx hb dX11_taken_54 rfl (lv_at hl 0 rfl) ?_
            refine lv_goto (tgt := 60) hx hb dX11_taken_55 (by decide) ?_
            have q0_3 : (3 : Int32).toInt = 3 := rfl
            exact W.iret (v := 3) hx hb hr (fun tt ht hW => ⟨⟨3, (), rfl, (Or.inr ⟨by omega, Or.inr (Or.inl ⟨kS.1, kS.2.1, hU, by omega⟩)⟩), by rw [ht]; exact hP, hD⟩, hS.F ht⟩) hS.2.2 dX11_taken_60
        ·
          subst hkd
          have hkI : (4 : Int32).toInt = 4 := rfl
          have kS : ((a 28) p1.toNatClampNeg).toInt = 5 ∧ (0 ≤ ((a 29) p1.toNatClampNeg).toInt ∧ ((a 29) p1.toNatClampNeg).toInt < (v 21).toInt) ∧ ((a 37) ((a 29) p1.toNatClampNeg).toNatClampNeg).toInt = 4 := by omega
          refine lv_iload_n hx hb dX11_taken_46 rfl (lv_at hl 0 rfl) ?_
          refine lv_iload_n hx hb dX11_taken_47 rfl (lv_at hl 3 rfl) ?_
          refine cS_i (As := [.int 4, .int p2]) (rest := []) ⟨hx, hb, hml, hown, hg⟩ (k_U_5 l D cs A ad fa fq rv v a w fv fp  p2 (show 0 ≤ p2.toInt by first | omega | decide) (show p2.toInt ≤ 7 by first | omega | decide)) ca_X0_isUnder q4_220 ⟨rfl, rfl⟩ ⟨Nat.le_of_ble_eq_true rfl, Nat.le_of_ble_eq_true rfl⟩  hK hP hD hS hZ rfl hl.1 rfl (Nat.le_of_ble_eq_true rfl) ⟨Nat.zero_le _, Nat.zero_le _⟩ dX11_taken_48 (fun r_24 z_25 H locs wr_24 hP hD hS => ?_)
          have hP : va_P D vwCl (CW cs ad fa fq rv v a w fv fp) H := hP
          have hD : va_D A (CW cs ad fa fq rv v a w fv fp) := hD
          have wr_24_0 : (r_24.toInt = 1 ∧ (p2.toInt = 4 ∨ p2.toInt = 1 ∨ p2.toInt = 0)) ∨ (r_24.toInt = 0 ∧ ¬ ((p2.toInt = 4 ∨ p2.toInt = 1 ∨ p2.toInt = 0))) := wr_24
          refine lv_if_eq (tgt := 58) hx hb dX11_taken_51 (by decide) (fun c_26 => ?_) (fun c_26 => ?_)
          ·
            have kc_26 : r_24.toInt = (0 : Int) := i_eq c_26
            have hU : ¬ (UNDR ((a 37) ((a 29) p1.toNatClampNeg).toNatClampNeg).toInt p2.toInt) := by rw [kS.2.2]; unfold UNDR; omega
            refine lv_bipush (v := (-12)) hx hb dX11_taken_58 (by decide) ?_
            have q0_m12 : ((-12) : Int32).toInt = (-12) := rfl
            exact W.iret (v := (-12)) hx hb hr (fun tt ht hW => ⟨⟨(-12), (), rfl, (Or.inr ⟨by omega, Or.inr (Or.inr (Or.inl ⟨kS.1, kS.2.1, hU, rfl⟩))⟩), by rw [ht]; exact hP, hD⟩, hS.F ht⟩) hS.2.2 dX11_taken_60
          ·
            have kc_26 : r_24.toInt ≠ (0 : Int) := i_ne c_26
            have hU : (UNDR ((a 37) ((a 29) p1.toNatClampNeg).toNatClampNeg).toInt p2.toInt) := by rw [kS.2.2]; unfold UNDR; omega
            refine lv_iload_n hx hb dX11_taken_54 rfl (lv_at hl 0 rfl) ?_
            refine lv_goto (tgt := 60) hx hb dX11_taken_55 (by decide) ?_
            have q0_4 : (4 : Int32).toInt = 4 := rfl
            exact W.iret (v := 4) hx hb hr (fun tt ht hW => ⟨⟨4, (), rfl, (Or.inr ⟨by omega, Or.inr (Or.inl ⟨kS.1, kS.2.1, hU, by omega⟩)⟩), by rw [ht]; exact hP, hD⟩, hS.F ht⟩) hS.2.2 dX11_taken_60
        ·
          subst hkd
          have hkI : (5 : Int32).toInt = 5 := rfl
          have kS : ((a 28) p1.toNatClampNeg).toInt = 5 ∧ (0 ≤ ((a 29) p1.toNatClampNeg).toInt ∧ ((a 29) p1.toNatClampNeg).toInt < (v 21).toInt) ∧ ((a 37) ((a 29) p1.toNatClampNeg).toNatClampNeg).toInt = 5 := by omega
          refine lv_iload_n hx hb dX11_taken_46 rfl (lv_at hl 0 rfl) ?_
          refine lv_iload_n hx hb dX11_taken_47 rfl (lv_at hl 3 rfl) ?_
          refine cS_i (As := [.int 5, .int p2]) (rest := []) ⟨hx, hb, hml, hown, hg⟩ (k_U_6 l D cs A ad fa fq rv v a w fv fp  p2 (show 0 ≤ p2.toInt by first | omega | decide) (show p2.toInt ≤ 7 by first | omega | decide)) ca_X0_isUnder q4_220 ⟨rfl, rfl⟩ ⟨Nat.le_of_ble_eq_true rfl, Nat.le_of_ble_eq_true rfl⟩  hK hP hD hS hZ rfl hl.1 rfl (Nat.le_of_ble_eq_true rfl) ⟨Nat.zero_le _, Nat.zero_le _⟩ dX11_taken_48 (fun r_27 z_28 H locs wr_27 hP hD hS => ?_)
          have hP : va_P D vwCl (CW cs ad fa fq rv v a w fv fp) H := hP
          have hD : va_D A (CW cs ad fa fq rv v a w fv fp) := hD
          have wr_27_0 : (r_27.toInt = 1 ∧ (p2.toInt = 5 ∨ p2.toInt = 3 ∨ p2.toInt = 2 ∨ p2.toInt = 0)) ∨ (r_27.toInt = 0 ∧ ¬ ((p2.toInt = 5 ∨ p2.toInt = 3 ∨ p2.toInt = 2 ∨ p2.toInt = 0))) := wr_27
          refine lv_if_eq (tgt := 58) hx hb dX11_taken_51 (by decide) (fun c_29 => ?_) (fun c_29 => ?_)
          ·
            have kc_29 : r_27.toInt = (0 : Int) := i_eq c_29
            have hU : ¬ (UNDR ((a 37) ((a 29) p1.toNatClampNeg).toNatClampNeg).toInt p2.toInt) := by rw [kS.2.2]; unfold UNDR; omega
            refine lv_bipush (v := (-12)) hx hb dX11_taken_58 (by decide) ?_
            have q0_m12 : ((-12) : Int32).toInt = (-12) := rfl
            exact W.iret (v := (-12)) hx hb hr (fun tt ht hW => ⟨⟨(-12), (), rfl, (Or.inr ⟨by omega, Or.inr (Or.inr (Or.inl ⟨kS.1, kS.2.1, hU, rfl⟩))⟩), by rw [ht]; exact hP, hD⟩, hS.F ht⟩) hS.2.2 dX11_taken_60
          ·
            have kc_29 : r_27.toInt ≠ (0 : Int) := i_ne c_29
            have hU : (UNDR ((a 37) ((a 29) p1.toNatClampNeg).toNatClampNeg).toInt p2.toInt) := by rw [kS.2.2]; unfold UNDR; omega
            refine lv_iload_n hx hb dX11_taken_54 rfl (lv_at hl 0 rfl) ?_
            refine lv_goto (tgt := 60) hx hb dX11_taken_55 (by decide) ?_
            have q0_5 : (5 : Int32).toInt = 5 := rfl
            exact W.iret (v := 5) hx hb hr (fun tt ht hW => ⟨⟨5, (), rfl, (Or.inr ⟨by omega, Or.inr (Or.inl ⟨kS.1, kS.2.1, hU, by omega⟩)⟩), by rw [ht]; exact hP, hD⟩, hS.F ht⟩) hS.2.2 dX11_taken_60
        ·
          subst hkd
          have hkI : (6 : Int32).toInt = 6 := rfl
          have kS : ((a 28) p1.toNatClampNeg).toInt = 5 ∧ (0 ≤ ((a 29) p1.toNatClampNeg).toInt ∧ ((a 29) p1.toNatClampNeg).toInt < (v 21).toInt) ∧ ((a 37) ((a 29) p1.toNatClampNeg).toNatClampNeg).toInt = 6 := by omega
          refine lv_iload_n hx hb dX11_taken_46 rfl (lv_at hl 0 rfl) ?_
          refine lv_iload_n hx hb dX11_taken_47 rfl (lv_at hl 3 rfl) ?_
          refine cS_i (As := [.int 6, .int p2]) (rest := []) ⟨hx, hb, hml, hown, hg⟩ (k_U_7 l D cs A ad fa fq rv v a w fv fp  p2 (show 0 ≤ p2.toInt by first | omega | decide) (show p2.toInt ≤ 7 by first | omega | decide)) ca_X0_isUnder q4_220 ⟨rfl, rfl⟩ ⟨Nat.le_of_ble_eq_true rfl, Nat.le_of_ble_eq_true rfl⟩  hK hP hD hS hZ rfl hl.1 rfl (Nat.le_of_ble_eq_true rfl) ⟨Nat.zero_le _, Nat.zero_le _⟩ dX11_taken_48 (fun r_30 z_31 H locs wr_30 hP hD hS => ?_)
          have hP : va_P D vwCl (CW cs ad fa fq rv v a w fv fp) H := hP
          have hD : va_D A (CW cs ad fa fq rv v a w fv fp) := hD
          have wr_30_0 : (r_30.toInt = 1 ∧ (p2.toInt = 6 ∨ p2.toInt = 0)) ∨ (r_30.toInt = 0 ∧ ¬ ((p2.toInt = 6 ∨ p2.toInt = 0))) := wr_30
          refine lv_if_eq (tgt := 58) hx hb dX11_taken_51 (by decide) (fun c_32 => ?_) (fun c_32 => ?_)
          ·
            have kc_32 : r_30.toInt = (0 : Int) := i_eq c_32
            have hU : ¬ (UNDR ((a 37) ((a 29) p1.toNatClampNeg).toNatClampNeg).toInt p2.toInt) := by rw [kS.2.2]; unfold UNDR; omega
            refine lv_bipush (v := (-12)) hx hb dX11_taken_58 (by decide) ?_
            have q0_m12 : ((-12) : Int32).toInt = (-12) := rfl
            exact W.iret (v := (-12)) hx hb hr (fun tt ht hW => ⟨⟨(-12), (), rfl, (Or.inr ⟨by omega, Or.inr (Or.inr (Or.inl ⟨kS.1, kS.2.1, hU, rfl⟩))⟩), by rw [ht]; exact hP, hD⟩, hS.F ht⟩) hS.2.2 dX11_taken_60
          ·
            have kc_32 : r_30.toInt ≠ (0 : Int) := i_ne c_32
            have hU : (UNDR ((a 37) ((a 29) p1.toNatClampNeg).toNatClampNeg).toInt p2.toInt) := by rw [kS.2.2]; unfold UNDR; omega
            refine lv_iload_n hx hb dX11_taken_54 rfl (lv_at hl 0 rfl) ?_
            refine lv_goto (tgt := 60) hx hb dX11_taken_55 (by decide) ?_
            have q0_6 : (6 : Int32).toInt = 6 := rfl
            exact W.iret (v := 6) hx hb hr (fun tt ht hW => ⟨⟨6, (), rfl, (Or.inr ⟨by omega, Or.inr (Or.inl ⟨kS.1, kS.2.1, hU, by omega⟩)⟩), by rw [ht]; exact hP, hD⟩, hS.F ht⟩) hS.2.2 dX11_taken_60
        ·
          subst hkd
          have hkI : (7 : Int32).toInt = 7 := rfl
          have kS : ((a 28) p1.toNatClampNeg).toInt = 5 ∧ (0 ≤ ((a 29) p1.toNatClampNeg).toInt ∧ ((a 29) p1.toNatClampNeg).toInt < (v 21).toInt) ∧ ((a 37) ((a 29) p1.toNatClampNeg).toNatClampNeg).toInt = 7 := by omega
          refine lv_iload_n hx hb dX11_taken_46 rfl (lv_at hl 0 rfl) ?_
          refine lv_iload_n hx hb dX11_taken_47 rfl (lv_at hl 3 rfl) ?_
          refine cS_i (As := [.int 7, .int p2]) (rest := []) ⟨hx, hb, hml, hown, hg⟩ (k_U_8 l D cs A ad fa fq rv v a w fv fp  p2 (show 0 ≤ p2.toInt by first | omega | decide) (show p2.toInt ≤ 7 by first | omega | decide)) ca_X0_isUnder q4_220 ⟨rfl, rfl⟩ ⟨Nat.le_of_ble_eq_true rfl, Nat.le_of_ble_eq_true rfl⟩  hK hP hD hS hZ rfl hl.1 rfl (Nat.le_of_ble_eq_true rfl) ⟨Nat.zero_le _, Nat.zero_le _⟩ dX11_taken_48 (fun r_33 z_34 H locs wr_33 hP hD hS => ?_)
          have hP : va_P D vwCl (CW cs ad fa fq rv v a w fv fp) H := hP
          have hD : va_D A (CW cs ad fa fq rv v a w fv fp) := hD
          have wr_33_0 : (r_33.toInt = 1 ∧ (p2.toInt = 7 ∨ p2.toInt = 6 ∨ p2.toInt = 0)) ∨ (r_33.toInt = 0 ∧ ¬ ((p2.toInt = 7 ∨ p2.toInt = 6 ∨ p2.toInt = 0))) := wr_33
          refine lv_if_eq (tgt := 58) hx hb dX11_taken_51 (by decide) (fun c_35 => ?_) (fun c_35 => ?_)
          ·
            have kc_35 : r_33.toInt = (0 : Int) := i_eq c_35
            have hU : ¬ (UNDR ((a 37) ((a 29) p1.toNatClampNeg).toNatClampNeg).toInt p2.toInt) := by rw [kS.2.2]; unfold UNDR; omega
            refine lv_bipush (v := (-12)) hx hb dX11_taken_58 (by decide) ?_
            have q0_m12 : ((-12) : Int32).toInt = (-12) := rfl
            exact W.iret (v := (-12)) hx hb hr (fun tt ht hW => ⟨⟨(-12), (), rfl, (Or.inr ⟨by omega, Or.inr (Or.inr (Or.inl ⟨kS.1, kS.2.1, hU, rfl⟩))⟩), by rw [ht]; exact hP, hD⟩, hS.F ht⟩) hS.2.2 dX11_taken_60
          ·
            have kc_35 : r_33.toInt ≠ (0 : Int) := i_ne c_35
            have hU : (UNDR ((a 37) ((a 29) p1.toNatClampNeg).toNatClampNeg).toInt p2.toInt) := by rw [kS.2.2]; unfold UNDR; omega
            refine lv_iload_n hx hb dX11_taken_54 rfl (lv_at hl 0 rfl) ?_
            refine lv_goto (tgt := 60) hx hb dX11_taken_55 (by decide) ?_
            have q0_7 : (7 : Int32).toInt = 7 := rfl
            exact W.iret (v := 7) hx hb hr (fun tt ht hW => ⟨⟨7, (), rfl, (Or.inr ⟨by omega, Or.inr (Or.inl ⟨kS.1, kS.2.1, hU, by omega⟩)⟩), by rw [ht]; exact hP, hD⟩, hS.F ht⟩) hS.2.2 dX11_taken_60
      ·
        have kc_6 : r_5.toInt ≠ (0 : Int) := i_ne c_6
        refine lv_bipush (v := (-11)) hx hb dX11_taken_27 (by decide) ?_
        have q0_m11 : ((-11) : Int32).toInt = (-11) := rfl
        exact W.iret (v := (-11)) hx hb hr (fun tt ht hW => ⟨⟨(-11), (), rfl, (Or.inr ⟨by omega, Or.inl ⟨by omega, rfl⟩⟩), by rw [ht]; exact hP, hD⟩, hS.F ht⟩) hS.2.2 dX11_taken_29
    ·
      have kc_4 : r_3.toInt = (0 : Int) := i_eq c_4
      refine lv_iconst (v := (-1)) hx hb dX11_taken_14 (by decide) ?_
      have q0_m1 : ((-1) : Int32).toInt = (-1) := rfl
      exact W.iret (v := (-1)) hx hb hr (fun tt ht hW => ⟨⟨(-1), (), rfl, (Or.inl ⟨by omega, rfl⟩), by rw [ht]; exact hP, hD⟩, hS.F ht⟩) hS.2.2 dX11_taken_15
