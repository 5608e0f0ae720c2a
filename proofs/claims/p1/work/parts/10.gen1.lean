set_option maxHeartbeats 4000000 in
set_option maxRecDepth 100000 in
theorem k_X10_isShelf (l : Launch)   (p1 : Int32)  : Met l yX10_isShelf (Cond.code yX10_isShelf cX10_isShelf 1 (some .boolean) :: gw) ({ frames := 0, cells := 0, slots := 0, locals := 0 }) (fun v _ => v = ([.int p1] : List Value).toArray) (vp_Si (fun (r : Int32) => (r.toInt = 1 ∧ 0 ≤ p1.toInt ∧ p1.toInt < 6) ∨ (r.toInt = 0 ∧ ¬ (0 ≤ p1.toInt ∧ p1.toInt < 6)))) 0 0 (fun _ => False) := by
  refine Met.ofW (cc := cX10_isShelf) (maxL := 1) (ret := (some .boolean)) (by decide) rfl ?_
  intro p e s m args below meth c s₁ B hml hv
  subst hv
  have hx := B.exec
  have hb := B.bytes
  have hr := B.returns
  have hts := atoms_spec (ws := (Cond.code yX10_isShelf cX10_isShelf 1 (some .boolean) :: gw)) B.pre
  have hg : ∀ w ∈ gw, w.before ([.int p1] : List Value).toArray s = true := fun w h => hts w (List.mem_cons_of_mem _ h)
  have hown : s.vm.findClass RX10 = some m.cls := findClass_of_methodNamed B.named
  have hlocks := B.notSynchronized
  have hl := lv_entry ([.int p1]) (n := 1) (Nat.le_of_ble_eq_true rfl)
  rw [lg_entry_eq]
  generalize (lg_sl ([.int p1]) ++ List.replicate (1 - (lg_sl ([.int p1])).length) Slot.unset).toArray = ls at hl ⊢
  have hl : lv_has ls 1 [(0, .int p1)] := hl
  refine lv_iload_n hx hb dX10_isShelf_0 rfl (lv_at hl 0 rfl) ?_
  refine lv_if_lt (tgt := 14) hx hb dX10_isShelf_1 (by decide) (fun c_1 => ?_) (fun c_1 => ?_)
  ·
    have kc_1 : p1.toInt < (0 : Int) := i_lt c_1
    refine lv_iconst (v := 0) hx hb dX10_isShelf_14 (by decide) ?_
    have q0_0 : (0 : Int32).toInt = 0 := rfl
    exact W.zret (v := 0) hx hb hr rfl (fun tt ht hW => ⟨0, rfl, (by first | rfl | omega | trivial | assumption), ht⟩) (fun _ h => by cases h) dX10_isShelf_15
  ·
    have kc_1 : (0 : Int) ≤ p1.toInt := i_nlt c_1
    refine lv_iload_n hx hb dX10_isShelf_4 rfl (lv_at hl 0 rfl) ?_
    refine lv_bipush (v := 6) hx hb dX10_isShelf_5 (by decide) ?_
    refine lv_icmp_ge (tgt := 14) hx hb dX10_isShelf_7 (by decide) (fun c_2 => ?_) (fun c_2 => ?_)
    ·
      have kc_2 : (6 : Int) ≤ p1.toInt := i_le c_2
      refine lv_iconst (v := 0) hx hb dX10_isShelf_14 (by decide) ?_
      have q0_0 : (0 : Int32).toInt = 0 := rfl
      exact W.zret (v := 0) hx hb hr rfl (fun tt ht hW => ⟨0, rfl, (by first | rfl | omega | trivial | assumption), ht⟩) (fun _ h => by cases h) dX10_isShelf_15
    ·
      have kc_2 : p1.toInt < (6 : Int) := i_nle c_2
      refine lv_iconst (v := 1) hx hb dX10_isShelf_10 (by decide) ?_
      refine lv_goto (tgt := 15) hx hb dX10_isShelf_11 (by decide) ?_
      have q0_1 : (1 : Int32).toInt = 1 := rfl
      exact W.zret (v := 1) hx hb hr rfl (fun tt ht hW => ⟨1, rfl, (by first | rfl | omega | trivial | assumption), ht⟩) (fun _ h => by cases h) dX10_isShelf_15
set_option maxHeartbeats 4000000 in
set_option maxRecDepth 100000 in
theorem k_X0_isKind (l : Launch)   (p1 : Int32)  : Met l yX0_isKind (Cond.code yX0_isKind cX0_isKind 1 (some .boolean) :: gw) ({ frames := 0, cells := 0, slots := 0, locals := 0 }) (fun v _ => v = ([.int p1] : List Value).toArray) (vp_Si (fun (r : Int32) => (r.toInt = 1 ∧ 0 ≤ p1.toInt ∧ p1.toInt ≤ 7) ∨ (r.toInt = 0 ∧ ¬ (0 ≤ p1.toInt ∧ p1.toInt ≤ 7)))) 0 0 (fun _ => False) := by
  refine Met.ofW (cc := cX0_isKind) (maxL := 1) (ret := (some .boolean)) (by decide) rfl ?_
  intro p e s m args below meth c s₁ B hml hv
  subst hv
  have hx := B.exec
  have hb := B.bytes
  have hr := B.returns
  have hts := atoms_spec (ws := (Cond.code yX0_isKind cX0_isKind 1 (some .boolean) :: gw)) B.pre
  have hg : ∀ w ∈ gw, w.before ([.int p1] : List Value).toArray s = true := fun w h => hts w (List.mem_cons_of_mem _ h)
  have hown : s.vm.findClass RX0 = some m.cls := findClass_of_methodNamed B.named
  have hlocks := B.notSynchronized
  have hl := lv_entry ([.int p1]) (n := 1) (Nat.le_of_ble_eq_true rfl)
  rw [lg_entry_eq]
  generalize (lg_sl ([.int p1]) ++ List.replicate (1 - (lg_sl ([.int p1])).length) Slot.unset).toArray = ls at hl ⊢
  have hl : lv_has ls 1 [(0, .int p1)] := hl
  refine lv_iload_n hx hb dX0_isKind_0 rfl (lv_at hl 0 rfl) ?_
  refine lv_if_lt (tgt := 14) hx hb dX0_isKind_1 (by decide) (fun c_1 => ?_) (fun c_1 => ?_)
  ·
    have kc_1 : p1.toInt < (0 : Int) := i_lt c_1
    refine lv_iconst (v := 0) hx hb dX0_isKind_14 (by decide) ?_
    have q0_0 : (0 : Int32).toInt = 0 := rfl
    exact W.zret (v := 0) hx hb hr rfl (fun tt ht hW => ⟨0, rfl, (by first | rfl | omega | trivial | assumption), ht⟩) (fun _ h => by cases h) dX0_isKind_15
  ·
    have kc_1 : (0 : Int) ≤ p1.toInt := i_nlt c_1
    refine lv_iload_n hx hb dX0_isKind_4 rfl (lv_at hl 0 rfl) ?_
    refine lv_bipush (v := 7) hx hb dX0_isKind_5 (by decide) ?_
    refine lv_icmp_gt (tgt := 14) hx hb dX0_isKind_7 (by decide) (fun c_2 => ?_) (fun c_2 => ?_)
    ·
      have kc_2 : (7 : Int) < p1.toInt := i_lt c_2
      refine lv_iconst (v := 0) hx hb dX0_isKind_14 (by decide) ?_
      have q0_0 : (0 : Int32).toInt = 0 := rfl
      exact W.zret (v := 0) hx hb hr rfl (fun tt ht hW => ⟨0, rfl, (by first | rfl | omega | trivial | assumption), ht⟩) (fun _ h => by cases h) dX0_isKind_15
    ·
      have kc_2 : p1.toInt ≤ (7 : Int) := i_nlt c_2
      refine lv_iconst (v := 1) hx hb dX0_isKind_10 (by decide) ?_
      refine lv_goto (tgt := 15) hx hb dX0_isKind_11 (by decide) ?_
      have q0_1 : (1 : Int32).toInt = 1 := rfl
      exact W.zret (v := 1) hx hb hr rfl (fun tt ht hW => ⟨1, rfl, (by first | rfl | omega | trivial | assumption), ht⟩) (fun _ h => by cases h) dX0_isKind_15
set_option maxHeartbeats 4000000 in
set_option maxRecDepth 100000 in
theorem k_X11_isCell (l : Launch)   (p1 : Int32)  : Met l yX11_isCell (Cond.code yX11_isCell cX11_isCell 1 (some .boolean) :: gw) ({ frames := 0, cells := 0, slots := 0, locals := 0 }) (fun v _ => v = ([.int p1] : List Value).toArray) (vp_Si (fun (r : Int32) => (r.toInt = 1 ∧ 0 ≤ p1.toInt ∧ p1.toInt < 256) ∨ (r.toInt = 0 ∧ ¬ (0 ≤ p1.toInt ∧ p1.toInt < 256)))) 0 0 (fun _ => False) := by
  refine Met.ofW (cc := cX11_isCell) (maxL := 1) (ret := (some .boolean)) (by decide) rfl ?_
  intro p e s m args below meth c s₁ B hml hv
  subst hv
  have hx := B.exec
  have hb := B.bytes
  have hr := B.returns
  have hts := atoms_spec (ws := (Cond.code yX11_isCell cX11_isCell 1 (some .boolean) :: gw)) B.pre
  have hg : ∀ w ∈ gw, w.before ([.int p1] : List Value).toArray s = true := fun w h => hts w (List.mem_cons_of_mem _ h)
  have hown : s.vm.findClass RX11 = some m.cls := findClass_of_methodNamed B.named
  have hlocks := B.notSynchronized
  have hl := lv_entry ([.int p1]) (n := 1) (Nat.le_of_ble_eq_true rfl)
  rw [lg_entry_eq]
  generalize (lg_sl ([.int p1]) ++ List.replicate (1 - (lg_sl ([.int p1])).length) Slot.unset).toArray = ls at hl ⊢
  have hl : lv_has ls 1 [(0, .int p1)] := hl
  refine lv_iload_n hx hb dX11_isCell_0 rfl (lv_at hl 0 rfl) ?_
  refine lv_if_lt (tgt := 15) hx hb dX11_isCell_1 (by decide) (fun c_1 => ?_) (fun c_1 => ?_)
  ·
    have kc_1 : p1.toInt < (0 : Int) := i_lt c_1
    refine lv_iconst (v := 0) hx hb dX11_isCell_15 (by decide) ?_
    have q0_0 : (0 : Int32).toInt = 0 := rfl
    exact W.zret (v := 0) hx hb hr rfl (fun tt ht hW => ⟨0, rfl, (by first | rfl | omega | trivial | assumption), ht⟩) (fun _ h => by cases h) dX11_isCell_16
  ·
    have kc_1 : (0 : Int) ≤ p1.toInt := i_nlt c_1
    refine lv_iload_n hx hb dX11_isCell_4 rfl (lv_at hl 0 rfl) ?_
    refine lv_sipush (v := 256) hx hb dX11_isCell_5 (by decide) ?_
    refine lv_icmp_ge (tgt := 15) hx hb dX11_isCell_8 (by decide) (fun c_2 => ?_) (fun c_2 => ?_)
    ·
      have kc_2 : (256 : Int) ≤ p1.toInt := i_le c_2
      refine lv_iconst (v := 0) hx hb dX11_isCell_15 (by decide) ?_
      have q0_0 : (0 : Int32).toInt = 0 := rfl
      exact W.zret (v := 0) hx hb hr rfl (fun tt ht hW => ⟨0, rfl, (by first | rfl | omega | trivial | assumption), ht⟩) (fun _ h => by cases h) dX11_isCell_16
    ·
      have kc_2 : p1.toInt < (256 : Int) := i_nle c_2
      refine lv_iconst (v := 1) hx hb dX11_isCell_11 (by decide) ?_
      refine lv_goto (tgt := 16) hx hb dX11_isCell_12 (by decide) ?_
      have q0_1 : (1 : Int32).toInt = 1 := rfl
      exact W.zret (v := 1) hx hb hr rfl (fun tt ht hW => ⟨1, rfl, (by first | rfl | omega | trivial | assumption), ht⟩) (fun _ h => by cases h) dX11_isCell_16
set_option maxHeartbeats 4000000 in
set_option maxRecDepth 100000 in
theorem k_X9_has (l : Launch) (D : va_G) (cs : Nat → ClassId) (A : Nat → Prop) (ad fa fq rv : Nat → Nat) (v : Nat → Int32) (a : Nat → Nat → Int32) (w : Nat → Nat → Int64) (fv fp : Nat → Nat → Int32)  (p1 : Int32)  : Met l yX9_has (Cond.code yX9_has cX9_has 2 (some .boolean) :: gw) ({ frames := 0, cells := 0, slots := 0, locals := 0 }) (va_Pc [.ref (ad 1), .int p1] (XPre D (TY cs) (CW cs ad fa fq rv v a w fv fp) A)) (vp_Si (fun (r : Int32) => (r.toInt = 1 ∧ 0 ≤ p1.toInt ∧ p1.toInt < (v 1).toInt) ∨ (r.toInt = 0 ∧ ¬ (0 ≤ p1.toInt ∧ p1.toInt < (v 1).toInt)))) 0 0 (fun _ => False) := by
  refine Met.ofW (cc := cX9_has) (maxL := 2) (ret := (some .boolean)) (by decide) rfl ?_
  intro p e s m args below meth c s₁ B hml hv
  obtain ⟨rfl, hP, hK, hD, hZ⟩ := hv
  have hx := B.exec
  have hb := B.bytes
  have hr := B.returns
  have hts := atoms_spec (ws := (Cond.code yX9_has cX9_has 2 (some .boolean) :: gw)) B.pre
  have hg : ∀ w ∈ gw, w.before ([.ref (ad 1), .int p1] : List Value).toArray s = true := fun w h => hts w (List.mem_cons_of_mem _ h)
  have hown : s.vm.findClass RX9 = some m.cls := findClass_of_methodNamed B.named
  have hlocks := B.notSynchronized
  have hS : va_S A s.heap s.heap [] := va_S.rf
  have hl := lv_entry ([.ref (ad 1), .int p1]) (n := 2) (Nat.le_of_ble_eq_true rfl)
  rw [lg_entry_eq]
  generalize (lg_sl ([.ref (ad 1), .int p1]) ++ List.replicate (2 - (lg_sl ([.ref (ad 1), .int p1])).length) Slot.unset).toArray = ls at hl ⊢
  have hl : lv_has ls 2 [(0, .ref (ad 1)), (1, .int p1)] := hl
  refine lv_iload_n hx hb dX9_has_0 rfl (lv_at hl 1 rfl) ?_
  refine lv_if_lt (tgt := 16) hx hb dX9_has_1 (by decide) (fun c_1 => ?_) (fun c_1 => ?_)
  ·
    have kc_1 : p1.toInt < (0 : Int) := i_lt c_1
    refine lv_iconst (v := 0) hx hb dX9_has_16 (by decide) ?_
    have q0_0 : (0 : Int32).toInt = 0 := rfl
    exact W.zret (v := 0) hx hb hr rfl (fun tt ht hW => ⟨0, rfl, (by first | rfl | omega | trivial | assumption), ht⟩) (fun _ h => by cases h) dX9_has_17
  ·
    have kc_1 : (0 : Int) ≤ p1.toInt := i_nlt c_1
    refine lv_iload_n hx hb dX9_has_4 rfl (lv_at hl 1 rfl) ?_
    refine lv_aload_n hx hb dX9_has_5 rfl (lv_at hl 0 rfl) ?_
    refine gf_parish_people hx hb hg hown hK hP (x := (v 1)) rfl (hg _ q1_108) dX9_has_6 ?_
    refine lv_icmp_ge (tgt := 16) hx hb dX9_has_9 (by decide) (fun c_2 => ?_) (fun c_2 => ?_)
    ·
      have kc_2 : (v 1).toInt ≤ p1.toInt := i_le c_2
      refine lv_iconst (v := 0) hx hb dX9_has_16 (by decide) ?_
      have q0_0 : (0 : Int32).toInt = 0 := rfl
      exact W.zret (v := 0) hx hb hr rfl (fun tt ht hW => ⟨0, rfl, (by first | rfl | omega | trivial | assumption), ht⟩) (fun _ h => by cases h) dX9_has_17
    ·
      have kc_2 : p1.toInt < (v 1).toInt := i_nle c_2
      refine lv_iconst (v := 1) hx hb dX9_has_12 (by decide) ?_
      refine lv_goto (tgt := 17) hx hb dX9_has_13 (by decide) ?_
      have q0_1 : (1 : Int32).toInt = 1 := rfl
      exact W.zret (v := 1) hx hb hr rfl (fun tt ht hW => ⟨1, rfl, (by first | rfl | omega | trivial | assumption), ht⟩) (fun _ h => by cases h) dX9_has_17
set_option maxHeartbeats 4000000 in
set_option maxRecDepth 100000 in
theorem k_X9_apart (l : Launch)   (p1 : Int32) (p2 : Int32)  : Met l yX9_apart (Cond.code yX9_apart cX9_apart 4 (some .int) :: gw) ({ frames := 0, cells := 0, slots := 0, locals := 0 }) (fun v _ => v = ([.int p1, .int p2] : List Value).toArray) (vp_Si (fun (r : Int32) => True)) 0 0 (fun _ => False) := by
  refine Met.ofW (cc := cX9_apart) (maxL := 4) (ret := (some .int)) (by decide) rfl ?_
  intro p e s m args below meth c s₁ B hml hv
  subst hv
  have hx := B.exec
  have hb := B.bytes
  have hr := B.returns
  have hts := atoms_spec (ws := (Cond.code yX9_apart cX9_apart 4 (some .int) :: gw)) B.pre
  have hg : ∀ w ∈ gw, w.before ([.int p1, .int p2] : List Value).toArray s = true := fun w h => hts w (List.mem_cons_of_mem _ h)
  have hown : s.vm.findClass RX9 = some m.cls := findClass_of_methodNamed B.named
  have hlocks := B.notSynchronized
  have hl := lv_entry ([.int p1, .int p2]) (n := 4) (Nat.le_of_ble_eq_true rfl)
  rw [lg_entry_eq]
  generalize (lg_sl ([.int p1, .int p2]) ++ List.replicate (4 - (lg_sl ([.int p1, .int p2])).length) Slot.unset).toArray = ls at hl ⊢
  have hl : lv_has ls 4 [(0, .int p1), (1, .int p2)] := hl
  refine lv_iload_n hx hb dX9_apart_0 rfl (lv_at hl 0 rfl) ?_
  refine lv_bipush (v := 15) hx hb dX9_apart_1 (by decide) ?_
  refine lv_iand hx hb dX9_apart_3 ?_
  refine lv_topi (fun x_1 ex_1 => ?_)
  refine lv_iload_n hx hb dX9_apart_4 rfl (lv_at hl 1 rfl) ?_
  refine lv_bipush (v := 15) hx hb dX9_apart_5 (by decide) ?_
  refine lv_iand hx hb dX9_apart_7 ?_
  refine lv_topi (fun x_2 ex_2 => ?_)
  refine lv_isub hx hb dX9_apart_8 ?_
  refine lv_topi (fun x_3 ex_3 => ?_)
  refine lv_istore_n (lv' := [(2, .int x_3), (0, .int p1), (1, .int p2)]) hx hb dX9_apart_9 rfl hl (by decide) rfl (fun ls hl => ?_)
  refine lv_iload_n hx hb dX9_apart_10 rfl (lv_at hl 1 rfl) ?_
  refine lv_iconst (v := 4) hx hb dX9_apart_11 (by decide) ?_
  refine lv_ishr hx hb dX9_apart_12 ?_
  refine lv_topi (fun x_4 ex_4 => ?_)
  refine lv_iload_n hx hb dX9_apart_13 rfl (lv_at hl 2 rfl) ?_
  refine lv_iconst (v := 4) hx hb dX9_apart_14 (by decide) ?_
  refine lv_ishr hx hb dX9_apart_15 ?_
  refine lv_topi (fun x_5 ex_5 => ?_)
  refine lv_isub hx hb dX9_apart_16 ?_
  refine lv_topi (fun x_6 ex_6 => ?_)
  refine lv_istore_n (lv' := [(3, .int x_6), (2, .int x_3), (0, .int p1), (1, .int p2)]) hx hb dX9_apart_17 rfl hl (by decide) rfl (fun ls hl => ?_)
  refine lv_iload_n hx hb dX9_apart_18 rfl (lv_at hl 1 rfl) ?_
  refine lv_if_ge (tgt := 27) hx hb dX9_apart_19 (by decide) (fun c_7 => ?_) (fun c_7 => ?_)
  ·
    have kc_7 : (0 : Int) ≤ x_3.toInt := i_le c_7
    refine lv_iload_n hx hb dX9_apart_27 rfl (lv_at hl 1 rfl) ?_
    refine lv_iload_n hx hb dX9_apart_28 rfl (lv_at hl 0 rfl) ?_
    refine lv_if_ge (tgt := 37) hx hb dX9_apart_29 (by decide) (fun c_8 => ?_) (fun c_8 => ?_)
    ·
      have kc_8 : (0 : Int) ≤ x_6.toInt := i_le c_8
      refine lv_iload_n hx hb dX9_apart_37 rfl (lv_at hl 0 rfl) ?_
      refine lv_iadd hx hb dX9_apart_38 ?_
      refine lv_topi (fun x_9 ex_9 => ?_)
      exact W.iret (v := x_9) hx hb hr (fun tt ht hW => ⟨x_9, rfl, trivial, ht⟩) (fun _ h => by cases h) dX9_apart_39
    ·
      have kc_8 : x_6.toInt < (0 : Int) := i_nle c_8
      refine lv_iload_n hx hb dX9_apart_32 rfl (lv_at hl 0 rfl) ?_
      refine lv_ineg hx hb dX9_apart_33 ?_
      refine lv_topi (fun x_10 ex_10 => ?_)
      refine lv_goto (tgt := 38) hx hb dX9_apart_34 (by decide) ?_
      refine lv_iadd hx hb dX9_apart_38 ?_
      refine lv_topi (fun x_11 ex_11 => ?_)
      exact W.iret (v := x_11) hx hb hr (fun tt ht hW => ⟨x_11, rfl, trivial, ht⟩) (fun _ h => by cases h) dX9_apart_39
  ·
    have kc_7 : x_3.toInt < (0 : Int) := i_nle c_7
    refine lv_iload_n hx hb dX9_apart_22 rfl (lv_at hl 1 rfl) ?_
    refine lv_ineg hx hb dX9_apart_23 ?_
    refine lv_topi (fun x_12 ex_12 => ?_)
    refine lv_goto (tgt := 28) hx hb dX9_apart_24 (by decide) ?_
    refine lv_iload_n hx hb dX9_apart_28 rfl (lv_at hl 0 rfl) ?_
    refine lv_if_ge (tgt := 37) hx hb dX9_apart_29 (by decide) (fun c_13 => ?_) (fun c_13 => ?_)
    ·
      have kc_13 : (0 : Int) ≤ x_6.toInt := i_le c_13
      refine lv_iload_n hx hb dX9_apart_37 rfl (lv_at hl 0 rfl) ?_
      refine lv_iadd hx hb dX9_apart_38 ?_
      refine lv_topi (fun x_14 ex_14 => ?_)
      exact W.iret (v := x_14) hx hb hr (fun tt ht hW => ⟨x_14, rfl, trivial, ht⟩) (fun _ h => by cases h) dX9_apart_39
    ·
      have kc_13 : x_6.toInt < (0 : Int) := i_nle c_13
      refine lv_iload_n hx hb dX9_apart_32 rfl (lv_at hl 0 rfl) ?_
      refine lv_ineg hx hb dX9_apart_33 ?_
      refine lv_topi (fun x_15 ex_15 => ?_)
      refine lv_goto (tgt := 38) hx hb dX9_apart_34 (by decide) ?_
      refine lv_iadd hx hb dX9_apart_38 ?_
      refine lv_topi (fun x_16 ex_16 => ?_)
      exact W.iret (v := x_16) hx hb hr (fun tt ht hW => ⟨x_16, rfl, trivial, ht⟩) (fun _ h => by cases h) dX9_apart_39
set_option maxHeartbeats 4000000 in
set_option maxRecDepth 100000 in
theorem k_J6_bitCount_0f7a4 (l : Launch)   (p1 : Int32)  : Met l yJ6_bitCount_0f7a4 (Cond.code yJ6_bitCount_0f7a4 cJ6_bitCount_0f7a4 1 (some .int) :: gw) ({ frames := 0, cells := 0, slots := 0, locals := 0 }) (fun v _ => v = ([.int p1] : List Value).toArray) (vp_Si (fun (r : Int32) => True)) 0 0 (fun _ => False) := by
  refine Met.ofW (cc := cJ6_bitCount_0f7a4) (maxL := 1) (ret := (some .int)) (by decide) rfl ?_
  intro p e s m args below meth c s₁ B hml hv
  subst hv
  have hx := B.exec
  have hb := B.bytes
  have hr := B.returns
  have hts := atoms_spec (ws := (Cond.code yJ6_bitCount_0f7a4 cJ6_bitCount_0f7a4 1 (some .int) :: gw)) B.pre
  have hg : ∀ w ∈ gw, w.before ([.int p1] : List Value).toArray s = true := fun w h => hts w (List.mem_cons_of_mem _ h)
  have hown : s.vm.findClass RJ6 = some m.cls := findClass_of_methodNamed B.named
  have hlocks := B.notSynchronized
  have hl := lv_entry ([.int p1]) (n := 1) (Nat.le_of_ble_eq_true rfl)
  rw [lg_entry_eq]
  generalize (lg_sl ([.int p1]) ++ List.replicate (1 - (lg_sl ([.int p1])).length) Slot.unset).toArray = ls at hl ⊢
  have hl : lv_has ls 1 [(0, .int p1)] := hl
  refine lv_iload_n hx hb dJ6_bitCount_0f7a4_0 rfl (lv_at hl 0 rfl) ?_
  refine lv_iload_n hx hb dJ6_bitCount_0f7a4_1 rfl (lv_at hl 0 rfl) ?_
  refine lv_iconst (v := 1) hx hb dJ6_bitCount_0f7a4_2 (by decide) ?_
  refine lv_iushr hx hb dJ6_bitCount_0f7a4_3 rfl ?_
  refine lv_topi (fun x_1 ex_1 => ?_)
  refine lv_ldcw hx hb hown (v := 1431655765) (hg _ q2_198) dJ6_bitCount_0f7a4_4 ?_
  refine lv_iand hx hb dJ6_bitCount_0f7a4_7 ?_
  refine lv_topi (fun x_2 ex_2 => ?_)
  refine lv_isub hx hb dJ6_bitCount_0f7a4_8 ?_
  refine lv_topi (fun x_3 ex_3 => ?_)
  refine lv_istore_n (lv' := [(0, .int x_3)]) hx hb dJ6_bitCount_0f7a4_9 rfl hl (by decide) rfl (fun ls hl => ?_)
  refine lv_iload_n hx hb dJ6_bitCount_0f7a4_10 rfl (lv_at hl 0 rfl) ?_
  refine lv_ldcw hx hb hown (v := 858993459) (hg _ q2_199) dJ6_bitCount_0f7a4_11 ?_
  refine lv_iand hx hb dJ6_bitCount_0f7a4_14 ?_
  refine lv_topi (fun x_4 ex_4 => ?_)
  refine lv_iload_n hx hb dJ6_bitCount_0f7a4_15 rfl (lv_at hl 0 rfl) ?_
  refine lv_iconst (v := 2) hx hb dJ6_bitCount_0f7a4_16 (by decide) ?_
  refine lv_iushr hx hb dJ6_bitCount_0f7a4_17 rfl ?_
  refine lv_topi (fun x_5 ex_5 => ?_)
  refine lv_ldcw hx hb hown (v := 858993459) (hg _ q2_199) dJ6_bitCount_0f7a4_18 ?_
  refine lv_iand hx hb dJ6_bitCount_0f7a4_21 ?_
  refine lv_topi (fun x_6 ex_6 => ?_)
  refine lv_iadd hx hb dJ6_bitCount_0f7a4_22 ?_
  refine lv_topi (fun x_7 ex_7 => ?_)
  refine lv_istore_n (lv' := [(0, .int x_7)]) hx hb dJ6_bitCount_0f7a4_23 rfl hl (by decide) rfl (fun ls hl => ?_)
  refine lv_iload_n hx hb dJ6_bitCount_0f7a4_24 rfl (lv_at hl 0 rfl) ?_
  refine lv_iload_n hx hb dJ6_bitCount_0f7a4_25 rfl (lv_at hl 0 rfl) ?_
  refine lv_iconst (v := 4) hx hb dJ6_bitCount_0f7a4_26 (by decide) ?_
  refine lv_iushr hx hb dJ6_bitCount_0f7a4_27 rfl ?_
  refine lv_topi (fun x_8 ex_8 => ?_)
  refine lv_iadd hx hb dJ6_bitCount_0f7a4_28 ?_
  refine lv_topi (fun x_9 ex_9 => ?_)
  refine lv_ldcw hx hb hown (v := 252645135) (hg _ q2_200) dJ6_bitCount_0f7a4_29 ?_
  refine lv_iand hx hb dJ6_bitCount_0f7a4_32 ?_
  refine lv_topi (fun x_10 ex_10 => ?_)
  refine lv_istore_n (lv' := [(0, .int x_10)]) hx hb dJ6_bitCount_0f7a4_33 rfl hl (by decide) rfl (fun ls hl => ?_)
  refine lv_iload_n hx hb dJ6_bitCount_0f7a4_34 rfl (lv_at hl 0 rfl) ?_
  refine lv_iload_n hx hb dJ6_bitCount_0f7a4_35 rfl (lv_at hl 0 rfl) ?_
  refine lv_bipush (v := 8) hx hb dJ6_bitCount_0f7a4_36 (by decide) ?_
  refine lv_iushr hx hb dJ6_bitCount_0f7a4_38 rfl ?_
  refine lv_topi (fun x_11 ex_11 => ?_)
  have fx_11 : 0 ≤ x_11.toInt ∧ x_11.toInt ≤ 16777215 := by rw [ex_11]; exact i_ushr8 _
  refine lv_iadd hx hb dJ6_bitCount_0f7a4_39 ?_
  refine lv_topi (fun x_12 ex_12 => ?_)
  refine lv_istore_n (lv' := [(0, .int x_12)]) hx hb dJ6_bitCount_0f7a4_40 rfl hl (by decide) rfl (fun ls hl => ?_)
  refine lv_iload_n hx hb dJ6_bitCount_0f7a4_41 rfl (lv_at hl 0 rfl) ?_
  refine lv_iload_n hx hb dJ6_bitCount_0f7a4_42 rfl (lv_at hl 0 rfl) ?_
  refine lv_bipush (v := 16) hx hb dJ6_bitCount_0f7a4_43 (by decide) ?_
  refine lv_iushr hx hb dJ6_bitCount_0f7a4_45 rfl ?_
  refine lv_topi (fun x_13 ex_13 => ?_)
  have fx_13 : 0 ≤ x_13.toInt ∧ x_13.toInt ≤ 65535 := by rw [ex_13]; exact i_ushr16 _
  refine lv_iadd hx hb dJ6_bitCount_0f7a4_46 ?_
  refine lv_topi (fun x_14 ex_14 => ?_)
  refine lv_istore_n (lv' := [(0, .int x_14)]) hx hb dJ6_bitCount_0f7a4_47 rfl hl (by decide) rfl (fun ls hl => ?_)
  refine lv_iload_n hx hb dJ6_bitCount_0f7a4_48 rfl (lv_at hl 0 rfl) ?_
  refine lv_bipush (v := 63) hx hb dJ6_bitCount_0f7a4_49 (by decide) ?_
  refine lv_iand hx hb dJ6_bitCount_0f7a4_51 ?_
  refine lv_topi (fun x_15 ex_15 => ?_)
  exact W.iret (v := x_15) hx hb hr (fun tt ht hW => ⟨x_15, rfl, trivial, ht⟩) (fun _ h => by cases h) dJ6_bitCount_0f7a4_52
set_option maxHeartbeats 4000000 in
set_option maxRecDepth 100000 in
theorem k_X9_within (l : Launch) (D : va_G) (cs : Nat → ClassId) (A : Nat → Prop) (ad fa fq rv : Nat → Nat) (v : Nat → Int32) (a : Nat → Nat → Int32) (w : Nat → Nat → Int64) (fv fp : Nat → Nat → Int32)  (p1 : Int32) (hp0 : 0 ≤ (v 1).toInt) (hp8 : (v 1).toInt ≤ 8) : Met l yX9_within (Cond.code yX9_within cX9_within 4 (some .int) :: gw) ({ frames := 1, cells := 0, slots := 0, locals := 23 }) (va_Pc [.ref (ad 1), .int p1] (XPre D (TY cs) (CW cs ad fa fq rv v a w fv fp) A)) (vp_Si (fun (r : Int32) => True)) 0 0 (fun _ => False) := by
  refine Met.ofW (cc := cX9_within) (maxL := 4) (ret := (some .int)) (by decide) rfl ?_
  intro p e s m args below meth c s₁ B hml hv
  obtain ⟨rfl, hP, hK, hD, hZ⟩ := hv
  have hx := B.exec
  have hb := B.bytes
  have hr := B.returns
  have hts := atoms_spec (ws := (Cond.code yX9_within cX9_within 4 (some .int) :: gw)) B.pre
  have hg : ∀ w ∈ gw, w.before ([.ref (ad 1), .int p1] : List Value).toArray s = true := fun w h => hts w (List.mem_cons_of_mem _ h)
  have hown : s.vm.findClass RX9 = some m.cls := findClass_of_methodNamed B.named
  have hlocks := B.notSynchronized
  have hS : va_S A s.heap s.heap [] := va_S.rf
  have hl := lv_entry ([.ref (ad 1), .int p1]) (n := 4) (Nat.le_of_ble_eq_true rfl)
  rw [lg_entry_eq]
  generalize (lg_sl ([.ref (ad 1), .int p1]) ++ List.replicate (4 - (lg_sl ([.ref (ad 1), .int p1])).length) Slot.unset).toArray = ls at hl ⊢
  have hl : lv_has ls 4 [(0, .ref (ad 1)), (1, .int p1)] := hl
  have hcut : ∀ n : Nat, (∀ (x2 : Int32) (x3 : Int32) (i3 : 0 ≤ x3.toInt) (hmu : ((v 1).toInt - x3.toInt).toNat < n) (ls : Array Slot) (hl : lv_has ls 4 [(0, .ref (ad 1)), (1, .int p1), (2, .int x2), (3, .int x3)]), W p l e (headSpec (Cond.code yX9_within cX9_within 4 (some .int) :: gw) ({ frames := 1, cells := 0, slots := 0, locals := 23 })).room s m ([.ref (ad 1), .int p1] : List Value).toArray below meth c s.heap [] 0 0 (MQ below (vp_Si (fun (r : Int32) => True)) ([.ref (ad 1), .int p1] : List Value).toArray s 0 0 (fun _ => False)) (F0 m 4 ls [])) := by
    intro n
    induction n with
    | zero => exact (fun x2 x3 i3 hmu ls hl => absurd hmu (Nat.not_lt_zero _))
    | succ n ih =>
      intro x2 x3 i3 hmu ls hl
      refine lv_iload_n hx hb dX9_within_4 rfl (lv_at hl 3 rfl) ?_
      refine lv_aload_n hx hb dX9_within_5 rfl (lv_at hl 0 rfl) ?_
      refine gf_parish_people hx hb hg hown hK hP (x := (v 1)) rfl (hg _ q1_108) dX9_within_6 ?_
      refine lv_icmp_ge (tgt := 41) hx hb dX9_within_9 (by decide) (fun c_1 => ?_) (fun c_1 => ?_)
      ·
        have kc_1 : (v 1).toInt ≤ x3.toInt := i_le c_1
        refine lv_iload_n hx hb dX9_within_41 rfl (lv_at hl 2 rfl) ?_
        exact W.iret (v := x2) hx hb hr (fun tt ht hW => ⟨x2, rfl, trivial, ht⟩) (fun _ h => by cases h) dX9_within_42
      ·
        have kc_1 : x3.toInt < (v 1).toInt := i_nle c_1
        refine lv_aload_n hx hb dX9_within_12 rfl (lv_at hl 0 rfl) ?_
        refine gf_parish_cell hx hb hg hown hK hP rfl (hg _ q1_116) dX9_within_13 ?_
        refine lv_iload_n hx hb dX9_within_16 rfl (lv_at hl 3 rfl) ?_
        refine ld_Pcell hx hb hK hP (i_in (by omega) (by omega)) dX9_within_17 ?_
        refine lv_topi (fun x_2 ex_2 => ?_)
        have ex_2 : x_2 = (a 11) x3.toNatClampNeg := ex_2
        have hx_2 : x_2.toInt = ((a 11) x3.toNatClampNeg).toInt := by rw [ex_2]
        refine lv_iload_n hx hb dX9_within_18 rfl (lv_at hl 1 rfl) ?_
        refine cS_p (As := [.int x_2, .int p1]) (rest := []) ⟨hx, hb, hml, hown, hg⟩ (k_X9_apart l   x_2 p1 ) ca_X9_apart q2_192 ⟨rfl, rfl⟩ ⟨Nat.le_of_ble_eq_true rfl, Nat.le_of_ble_eq_true rfl⟩ rfl hl.1 rfl (Nat.le_of_ble_eq_true rfl) ⟨Nat.zero_le _, Nat.zero_le _⟩ dX9_within_19 (fun r_3 wr_3 => ?_)
        refine lv_aload_n hx hb dX9_within_22 rfl (lv_at hl 0 rfl) ?_
        refine gf_parish_mile hx hb hg hown hK hP (x := (v 2)) rfl (hg _ q1_110) dX9_within_23 ?_
        refine lv_icmp_gt (tgt := 35) hx hb dX9_within_26 (by decide) (fun c_4 => ?_) (fun c_4 => ?_)
        ·
          have kc_4 : (v 2).toInt < r_3.toInt := i_lt c_4
          obtain ⟨x_5, ex_5⟩ : ∃ y : Int32, y = x3 + 1 := ⟨_, rfl⟩
          have fx_5 : x_5.toInt = x3.toInt + 1 := by rw [ex_5]; exact i_add (by first | omega | (show (_ : Int) ≤ x3.toInt + 1; omega)) (by first | omega | (show x3.toInt + 1 ≤ (_ : Int); omega))
          refine lv_iinc (v := x_5) (lv' := [(3, .int x_5), (0, .ref (ad 1)), (1, .int p1), (2, .int x2)]) hx hb dX9_within_35 hl (k := 3) rfl (by rw [ex_5]; rfl) (by decide) rfl (fun ls hl => ?_)
          refine lv_goto (tgt := 4) hx hb dX9_within_38 (by decide) ?_
          exact ih x2 x_5 (by omega) (by omega) ls (lv_sub hl [1, 2, 3, 0] rfl)
        ·
          have kc_4 : r_3.toInt ≤ (v 2).toInt := i_nlt c_4
          refine lv_iload_n hx hb dX9_within_29 rfl (lv_at hl 2 rfl) ?_
          refine lv_iconst (v := 1) hx hb dX9_within_30 (by decide) ?_
          refine lv_iload_n hx hb dX9_within_31 rfl (lv_at hl 3 rfl) ?_
          refine lv_ishl hx hb dX9_within_32 ?_
          refine lv_topi (fun x_6 ex_6 => ?_)
          refine lv_ior hx hb dX9_within_33 ?_
          refine lv_topi (fun x_7 ex_7 => ?_)
          refine lv_istore_n (lv' := [(2, .int x_7), (0, .ref (ad 1)), (1, .int p1), (3, .int x3)]) hx hb dX9_within_34 rfl hl (by decide) rfl (fun ls hl => ?_)
          obtain ⟨x_8, ex_8⟩ : ∃ y : Int32, y = x3 + 1 := ⟨_, rfl⟩
          have fx_8 : x_8.toInt = x3.toInt + 1 := by rw [ex_8]; exact i_add (by first | omega | (show (_ : Int) ≤ x3.toInt + 1; omega)) (by first | omega | (show x3.toInt + 1 ≤ (_ : Int); omega))
          refine lv_iinc (v := x_8) (lv' := [(3, .int x_8), (2, .int x_7), (0, .ref (ad 1)), (1, .int p1)]) hx hb dX9_within_35 hl (k := 3) rfl (by rw [ex_8]; rfl) (by decide) rfl (fun ls hl => ?_)
          refine lv_goto (tgt := 4) hx hb dX9_within_38 (by decide) ?_
          exact ih x_7 x_8 (by omega) (by omega) ls (lv_sub hl [2, 3, 1, 0] rfl)
  refine lv_iconst (v := 0) hx hb dX9_within_0 (by decide) ?_
  refine lv_istore_n (lv' := [(2, .int 0), (0, .ref (ad 1)), (1, .int p1)]) hx hb dX9_within_1 rfl hl (by decide) rfl (fun ls hl => ?_)
  refine lv_iconst (v := 0) hx hb dX9_within_2 (by decide) ?_
  refine lv_istore_n (lv' := [(3, .int 0), (2, .int 0), (0, .ref (ad 1)), (1, .int p1)]) hx hb dX9_within_3 rfl hl (by decide) rfl (fun ls hl => ?_)
  have q0_0 : (0 : Int32).toInt = 0 := rfl
  exact (hcut ((((v 1).toInt - (0 : Int32).toInt).toNat) + 1)) 0 0 (by omega) (Nat.lt_succ_self _) ls (lv_sub hl [2, 3, 1, 0] rfl)
set_option maxHeartbeats 4000000 in
set_option maxRecDepth 100000 in
theorem k_X9_lookAround (l : Launch) (D : va_G) (cs : Nat → ClassId) (A : Nat → Prop) (ad fa fq rv : Nat → Nat) (v : Nat → Int32) (a : Nat → Nat → Int32) (w : Nat → Nat → Int64) (fv fp : Nat → Nat → Int32)   (hp0 : 0 ≤ (v 1).toInt) (hp8 : (v 1).toInt ≤ 8) : Met l yX9_lookAround (Cond.code yX9_lookAround cX9_lookAround 2 none :: gw) ({ frames := 2, cells := 0, slots := 0, locals := 46 }) (va_Pc [.ref (ad 1)] (XPre D (TY cs) (CW cs ad fa fq rv v a w fv fp) A)) (va_Qv (fun (z : Nat → Int32) => True) (XPo D (fun (z : Nat → Int32) => CW cs ad fa fq rv v (va_up a 14 z) w fv fp) A) A) 0 0 A := by
  refine Met.ofW (cc := cX9_lookAround) (maxL := 2) (ret := none) (by decide) rfl ?_
  intro p e s m args below meth c s₁ B hml hv
  obtain ⟨rfl, hP, hK, hD, hZ⟩ := hv
  have hx := B.exec
  have hb := B.bytes
  have hr := B.returns
  have hts := atoms_spec (ws := (Cond.code yX9_lookAround cX9_lookAround 2 none :: gw)) B.pre
  have hg : ∀ w ∈ gw, w.before ([.ref (ad 1)] : List Value).toArray s = true := fun w h => hts w (List.mem_cons_of_mem _ h)
  have hown : s.vm.findClass RX9 = some m.cls := findClass_of_methodNamed B.named
  have hlocks := B.notSynchronized
  have hS : va_S A s.heap s.heap [] := va_S.rf
  have hP : va_P D vwCl (CW cs ad fa fq rv v a w fv fp) s.heap := hP
  have hl := lv_entry ([.ref (ad 1)]) (n := 2) (Nat.le_of_ble_eq_true rfl)
  rw [lg_entry_eq]
  generalize (lg_sl ([.ref (ad 1)]) ++ List.replicate (2 - (lg_sl ([.ref (ad 1)])).length) Slot.unset).toArray = ls at hl ⊢
  have hl : lv_has ls 2 [(0, .ref (ad 1))] := hl
  have hcut : ∀ n : Nat, (∀ (x1 : Int32) (g : Nat → Int32) (H : Heap) (locs : List Loc) (i1 : 0 ≤ x1.toInt) (hmu : ((v 1).toInt - x1.toInt).toNat < n) (hP : va_P D vwCl (CW cs ad fa fq rv v (va_up a 14 g) w fv fp) H) (hD : va_D A (CW cs ad fa fq rv v (va_up a 14 g) w fv fp)) (hS : va_S A s.heap H locs) (ls : Array Slot) (hl : lv_has ls 2 [(0, .ref (ad 1)), (1, .int x1)]), W p l e (headSpec (Cond.code yX9_lookAround cX9_lookAround 2 none :: gw) ({ frames := 2, cells := 0, slots := 0, locals := 46 })).room s m ([.ref (ad 1)] : List Value).toArray below meth c H locs 0 0 (MQ below (va_Qv (fun (z : Nat → Int32) => True) (XPo D (fun (z : Nat → Int32) => CW cs ad fa fq rv v (va_up a 14 z) w fv fp) A) A) ([.ref (ad 1)] : List Value).toArray s 0 0 A) (F0 m 2 ls [])) := by
    intro n
    induction n with
    | zero => exact (fun x1 g H locs i1 hmu hP hD hS ls hl => absurd hmu (Nat.not_lt_zero _))
    | succ n ih =>
      intro x1 g H locs i1 hmu hP hD hS ls hl
      refine lv_iload_n hx hb dX9_lookAround_2 rfl (lv_at hl 1 rfl) ?_
      refine lv_aload_n hx hb dX9_lookAround_3 rfl (lv_at hl 0 rfl) ?_
      refine gf_parish_people hx hb hg hown hK hP (x := (v 1)) rfl (hg _ q1_108) dX9_lookAround_4 ?_
      refine lv_icmp_ge (tgt := 35) hx hb dX9_lookAround_7 (by decide) (fun c_1 => ?_) (fun c_1 => ?_)
      ·
        have kc_1 : (v 1).toInt ≤ x1.toInt := i_le c_1
        exact W.vret hx hb hr (fun tt ht hW => ⟨⟨g, rfl, trivial, by rw [ht]; exact hP, hD⟩, hS.F ht⟩) hS.2.2 dX9_lookAround_35
      ·
        have kc_1 : x1.toInt < (v 1).toInt := i_nle c_1
        refine lv_aload_n hx hb dX9_lookAround_10 rfl (lv_at hl 0 rfl) ?_
        refine gf_parish_near hx hb hg hown hK hP rfl (hg _ q1_125) dX9_lookAround_11 ?_
        refine lv_iload_n hx hb dX9_lookAround_14 rfl (lv_at hl 1 rfl) ?_
        refine lv_aload_n hx hb dX9_lookAround_15 rfl (lv_at hl 0 rfl) ?_
        refine lv_aload_n hx hb dX9_lookAround_16 rfl (lv_at hl 0 rfl) ?_
        refine gf_parish_cell hx hb hg hown hK hP rfl (hg _ q1_116) dX9_lookAround_17 ?_
        refine lv_iload_n hx hb dX9_lookAround_20 rfl (lv_at hl 1 rfl) ?_
        refine ld_Pcell hx hb hK hP (i_in (by omega) (by omega)) dX9_lookAround_21 ?_
        refine lv_topi (fun x_2 ex_2 => ?_)
        have ex_2 : x_2 = (a 11) x1.toNatClampNeg := ex_2
        have hx_2 : x_2.toInt = ((a 11) x1.toNatClampNeg).toInt := by rw [ex_2]
        refine cV_ro (As := [.int x_2]) (rest := [.int x1, .ref (ad 14)]) ⟨hx, hb, hml, hown, hg⟩ (k_X9_within l D cs A ad fa fq rv v (va_up a 14 g) w fv fp  x_2 (show 0 ≤ (v 1).toInt by first | omega | decide) (show (v 1).toInt ≤ 8 by first | omega | decide)) ca_X9_within q2_188 ⟨rfl, rfl⟩ ⟨Nat.le_of_ble_eq_true rfl, Nat.le_of_ble_eq_true rfl⟩ (rc_parish hK hP) hK hP hD hS hZ rfl hl.1 rfl (Nat.le_of_ble_eq_true rfl) ⟨Nat.zero_le _, Nat.zero_le _⟩ dX9_lookAround_22 (fun r_3 wr_3 => ?_)
        refine cS_p (As := [.int r_3]) (rest := [.int x1, .ref (ad 14)]) ⟨hx, hb, hml, hown, hg⟩ (k_J6_bitCount_0f7a4 l   r_3 ) ca_J6_bitCount_0f7a4 q2_195 ⟨rfl, rfl⟩ ⟨Nat.le_of_ble_eq_true rfl, Nat.le_of_ble_eq_true rfl⟩ rfl hl.1 rfl (Nat.le_of_ble_eq_true rfl) ⟨Nat.zero_le _, Nat.zero_le _⟩ dX9_lookAround_25 (fun r_4 wr_4 => ?_)
        refine st_Pnear hx hb hK hP hD hS (i_in (by omega) (by omega)) dX9_lookAround_28 (fun H locs hP hD hS => ?_)
        obtain ⟨x_5, ex_5⟩ : ∃ y : Int32, y = x1 + 1 := ⟨_, rfl⟩
        have fx_5 : x_5.toInt = x1.toInt + 1 := by rw [ex_5]; exact i_add (by first | omega | (show (_ : Int) ≤ x1.toInt + 1; omega)) (by first | omega | (show x1.toInt + 1 ≤ (_ : Int); omega))
        refine lv_iinc (v := x_5) (lv' := [(1, .int x_5), (0, .ref (ad 1))]) hx hb dX9_lookAround_29 hl (k := 1) rfl (by rw [ex_5]; rfl) (by decide) rfl (fun ls hl => ?_)
        refine lv_goto (tgt := 2) hx hb dX9_lookAround_32 (by decide) ?_
        exact ih x_5 (upd g x1.toNatClampNeg r_4) _ _ (by omega) (by omega) hP hD hS ls (lv_sub hl [1, 0] rfl)
  refine lv_iconst (v := 0) hx hb dX9_lookAround_0 (by decide) ?_
  refine lv_istore_n (lv' := [(1, .int 0), (0, .ref (ad 1))]) hx hb dX9_lookAround_1 rfl hl (by decide) rfl (fun ls hl => ?_)
  have q0_0 : (0 : Int32).toInt = 0 := rfl
  exact (hcut ((((v 1).toInt - (0 : Int32).toInt).toNat) + 1)) 0 (a 14) _ _ (by omega) (Nat.lt_succ_self _) hP hD hS ls (lv_sub hl [1, 0] rfl)
set_option maxHeartbeats 4000000 in
set_option maxRecDepth 100000 in
theorem k_X9_join (l : Launch) (D : va_G) (cs : Nat → ClassId) (A : Nat → Prop) (ad fa fq rv : Nat → Nat) (v : Nat → Int32) (a : Nat → Nat → Int32) (w : Nat → Nat → Int64) (fv fp : Nat → Nat → Int32)  (p1 : Int32) (p2 : Int32) (hp0 : 0 ≤ (v 1).toInt) (hp7 : (v 1).toInt ≤ 7) : Met l yX9_join (Cond.code yX9_join cX9_join 4 (some .int) :: gw) ({ frames := 3, cells := 0, slots := 0, locals := 67 }) (va_Pc [.ref (ad 1), .int p1, .int p2] (XPre D (TY cs) (CW cs ad fa fq rv v a w fv fp) A)) (va_Qi (fun (r : Int32) (z : Int32 × (Nat → Int32) × (Nat → Int32) × (Nat → Int32) × (Nat → Int32)) => (r.toInt = (v 1).toInt) ∧ (z.1.toInt = (v 1).toInt + 1)) (XPo D (fun (z : Int32 × (Nat → Int32) × (Nat → Int32) × (Nat → Int32) × (Nat → Int32)) => CW cs ad fa fq rv (va_up v 1 z.1) (va_up (va_up (va_up (va_up a 11 z.2.1) 12 z.2.2.1) 13 z.2.2.2.1) 14 z.2.2.2.2) w fv fp) A) A) 0 0 A := by
  refine Met.ofW (cc := cX9_join) (maxL := 4) (ret := (some .int)) (by decide) rfl ?_
  intro p e s m args below meth c s₁ B hml hv
  obtain ⟨rfl, hP, hK, hD, hZ⟩ := hv
  have hx := B.exec
  have hb := B.bytes
  have hr := B.returns
  have hts := atoms_spec (ws := (Cond.code yX9_join cX9_join 4 (some .int) :: gw)) B.pre
  have hg : ∀ w ∈ gw, w.before ([.ref (ad 1), .int p1, .int p2] : List Value).toArray s = true := fun w h => hts w (List.mem_cons_of_mem _ h)
  have hown : s.vm.findClass RX9 = some m.cls := findClass_of_methodNamed B.named
  have hlocks := B.notSynchronized
  have hS : va_S A s.heap s.heap [] := va_S.rf
  have hP : va_P D vwCl (CW cs ad fa fq rv v a w fv fp) s.heap := hP
  have hl := lv_entry ([.ref (ad 1), .int p1, .int p2]) (n := 4) (Nat.le_of_ble_eq_true rfl)
  rw [lg_entry_eq]
  generalize (lg_sl ([.ref (ad 1), .int p1, .int p2]) ++ List.replicate (4 - (lg_sl ([.ref (ad 1), .int p1, .int p2])).length) Slot.unset).toArray = ls at hl ⊢
  have hl : lv_has ls 4 [(0, .ref (ad 1)), (1, .int p1), (2, .int p2)] := hl
  refine lv_aload_n hx hb dX9_join_0 rfl (lv_at hl 0 rfl) ?_
  refine gf_parish_people hx hb hg hown hK hP (x := (v 1)) rfl (hg _ q1_108) dX9_join_1 ?_
  refine lv_istore_n (lv' := [(3, .int (v 1)), (0, .ref (ad 1)), (1, .int p1), (2, .int p2)]) hx hb dX9_join_4 rfl hl (by decide) rfl (fun ls hl => ?_)
  refine lv_aload_n hx hb dX9_join_5 rfl (lv_at hl 1 rfl) ?_
  refine lv_dup hx hb dX9_join_6 rfl ?_
  refine gf_parish_people hx hb hg hown hK hP (x := (v 1)) rfl (hg _ q1_108) dX9_join_7 ?_
  refine lv_iconst (v := 1) hx hb dX9_join_10 (by decide) ?_
  refine lv_iadd hx hb dX9_join_11 ?_
  refine lv_topi (fun x_1 ex_1 => ?_)
  have fx_1 : x_1.toInt = (v 1).toInt + (1 : Int) := by rw [ex_1]; exact i_add (by first | omega | (show (_ : Int) ≤ (v 1).toInt + (1 : Int); omega)) (by first | omega | (show (v 1).toInt + (1 : Int) ≤ (_ : Int); omega))
  refine pf_parish_people hx hb hg hown hK hP hD hS (hg _ q1_108) dX9_join_12 (fun H locs hP hD hS => ?_)
  refine lv_aload_n hx hb dX9_join_15 rfl (lv_at hl 1 rfl) ?_
  refine gf_parish_cell hx hb hg hown hK hP rfl (hg _ q1_116) dX9_join_16 ?_
  refine lv_iload_n hx hb dX9_join_19 rfl (lv_at hl 0 rfl) ?_
  refine lv_iload_n hx hb dX9_join_20 rfl (lv_at hl 2 rfl) ?_
  refine st_Pcell hx hb hK hP hD hS (i_in (by omega) (by omega)) dX9_join_21 (fun H locs hP hD hS => ?_)
  refine lv_aload_n hx hb dX9_join_22 rfl (lv_at hl 1 rfl) ?_
  refine gf_parish_cheek hx hb hg hown hK hP rfl (hg _ q1_120) dX9_join_23 ?_
  refine lv_iload_n hx hb dX9_join_26 rfl (lv_at hl 0 rfl) ?_
  refine lv_iload_n hx hb dX9_join_27 rfl (lv_at hl 3 rfl) ?_
  refine st_Pcheek hx hb hK hP hD hS (i_in (by omega) (by omega)) dX9_join_28 (fun H locs hP hD hS => ?_)
  refine lv_aload_n hx hb dX9_join_29 rfl (lv_at hl 1 rfl) ?_
  refine gf_parish_pay hx hb hg hown hK hP rfl (hg _ q1_123) dX9_join_30 ?_
  refine lv_iload_n hx hb dX9_join_33 rfl (lv_at hl 0 rfl) ?_
  refine lv_bipush (v := 10) hx hb dX9_join_34 (by decide) ?_
  refine st_Ppay hx hb hK hP hD hS (i_in (by omega) (by omega)) dX9_join_36 (fun H locs hP hD hS => ?_)
  refine lv_aload_n hx hb dX9_join_37 rfl (lv_at hl 1 rfl) ?_
  refine cV_v (As := []) (rest := []) ⟨hx, hb, hml, hown, hg⟩ (k_X9_lookAround l D cs A ad fa fq rv (va_up v 1 x_1) (va_up (va_up (va_up a 11 (upd (a 11) (v 1).toNatClampNeg p1)) 12 (upd (a 12) (v 1).toNatClampNeg p2)) 13 (upd (a 13) (v 1).toNatClampNeg 10)) w fv fp   (show 0 ≤ x_1.toInt by first | omega | decide) (show x_1.toInt ≤ 8 by first | omega | decide)) ca_X9_lookAround q2_184 ⟨rfl, rfl⟩ ⟨Nat.le_of_ble_eq_true rfl, Nat.le_of_ble_eq_true rfl⟩ (rc_parish hK hP) hK hP hD hS hZ rfl hl.1 rfl (Nat.le_of_ble_eq_true rfl) ⟨Nat.zero_le _, Nat.zero_le _⟩ dX9_join_38 (fun gnear_3 H locs wr_2 hP hD hS => ?_)
  have hP : va_P D vwCl (CW cs ad fa fq rv (va_up v 1 x_1) (va_up (va_up (va_up (va_up a 11 (upd (a 11) (v 1).toNatClampNeg p1)) 12 (upd (a 12) (v 1).toNatClampNeg p2)) 13 (upd (a 13) (v 1).toNatClampNeg 10)) 14 gnear_3) w fv fp) H := hP
  have hD : va_D A (CW cs ad fa fq rv (va_up v 1 x_1) (va_up (va_up (va_up (va_up a 11 (upd (a 11) (v 1).toNatClampNeg p1)) 12 (upd (a 12) (v 1).toNatClampNeg p2)) 13 (upd (a 13) (v 1).toNatClampNeg 10)) 14 gnear_3) w fv fp) := hD
  refine lv_iload_n hx hb dX9_join_41 rfl (lv_at hl 0 rfl) ?_
  exact W.iret (v := (v 1)) hx hb hr (fun tt ht hW => ⟨⟨(v 1), ⟨x_1, (upd (a 11) (v 1).toNatClampNeg p1), (upd (a 12) (v 1).toNatClampNeg p2), (upd (a 13) (v 1).toNatClampNeg 10), gnear_3⟩, rfl, ⟨(by first | rfl | omega | trivial | assumption), (by first | rfl | omega | trivial | assumption)⟩, by rw [ht]; exact hP, hD⟩, hS.F ht⟩) hS.2.2 dX9_join_42
set_option maxHeartbeats 4000000 in
set_option maxRecDepth 100000 in
theorem k_X11_join (l : Launch) (D : va_G) (cs : Nat → ClassId) (A : Nat → Prop) (ad fa fq rv : Nat → Nat) (v : Nat → Int32) (a : Nat → Nat → Int32) (w : Nat → Nat → Int64) (fv fp : Nat → Nat → Int32)  (p1 : Int32) (p2 : Int32) (p3 : Int32) (hp0 : 0 ≤ (v 1).toInt) (hp7 : (v 1).toInt ≤ 7) : Met l yX11_join (Cond.code yX11_join cX11_join 5 (some .int) :: gw) ({ frames := 4, cells := 0, slots := 0, locals := 90 }) (va_Pc [.ref (ad 0), .int p1, .int p2, .int p3] (XPre D (TY cs) (CW cs ad fa fq rv v a w fv fp) A)) (va_Qi (fun (r : Int32) (z : Int32 × (Nat → Int32) × (Nat → Int32) × (Nat → Int32) × (Nat → Int32) × (Nat → Int32)) => (r.toInt = (v 1).toInt) ∧ (z.1.toInt = (v 1).toInt + 1)) (XPo D (fun (z : Int32 × (Nat → Int32) × (Nat → Int32) × (Nat → Int32) × (Nat → Int32) × (Nat → Int32)) => CW cs ad fa fq rv (va_up v 1 z.1) (va_up (va_up (va_up (va_up a 11 z.2.1) 12 z.2.2.1) 13 z.2.2.2.1) 14 z.2.2.2.2.1) w fv (va_up fp 14 z.2.2.2.2.2)) A) A) 0 0 A := by
  refine Met.ofW (cc := cX11_join) (maxL := 5) (ret := (some .int)) (by decide) rfl ?_
  intro p e s m args below meth c s₁ B hml hv
  obtain ⟨rfl, hP, hK, hD, hZ⟩ := hv
  have hx := B.exec
  have hb := B.bytes
  have hr := B.returns
  have hts := atoms_spec (ws := (Cond.code yX11_join cX11_join 5 (some .int) :: gw)) B.pre
  have hg : ∀ w ∈ gw, w.before ([.ref (ad 0), .int p1, .int p2, .int p3] : List Value).toArray s = true := fun w h => hts w (List.mem_cons_of_mem _ h)
  have hown : s.vm.findClass RX11 = some m.cls := findClass_of_methodNamed B.named
  have hlocks := B.notSynchronized
  have hS : va_S A s.heap s.heap [] := va_S.rf
  have hP : va_P D vwCl (CW cs ad fa fq rv v a w fv fp) s.heap := hP
  have hl := lv_entry ([.ref (ad 0), .int p1, .int p2, .int p3]) (n := 5) (Nat.le_of_ble_eq_true rfl)
  rw [lg_entry_eq]
  generalize (lg_sl ([.ref (ad 0), .int p1, .int p2, .int p3]) ++ List.replicate (5 - (lg_sl ([.ref (ad 0), .int p1, .int p2, .int p3])).length) Slot.unset).toArray = ls at hl ⊢
  have hl : lv_has ls 5 [(0, .ref (ad 0)), (1, .int p1), (2, .int p2), (3, .int p3)] := hl
  refine lv_aload_n hx hb dX11_join_0 rfl (lv_at hl 0 rfl) ?_
  refine gf_main_parish hx hb hg hown hK hP rfl (hg _ q2_123) dX11_join_1 ?_
  refine lv_iload_n hx hb dX11_join_4 rfl (lv_at hl 1 rfl) ?_
  refine lv_iload_n hx hb dX11_join_5 rfl (lv_at hl 2 rfl) ?_
  refine cV_i (As := [.int p1, .int p2]) (rest := []) ⟨hx, hb, hml, hown, hg⟩ (k_X9_join l D cs A ad fa fq rv v a w fv fp  p1 p2 (show 0 ≤ (v 1).toInt by first | omega | decide) (show (v 1).toInt ≤ 7 by first | omega | decide)) ca_X9_join q2_180 ⟨rfl, rfl⟩ ⟨Nat.le_of_ble_eq_true rfl, Nat.le_of_ble_eq_true rfl⟩ (rc_parish hK hP) hK hP hD hS hZ rfl hl.1 rfl (Nat.le_of_ble_eq_true rfl) ⟨Nat.zero_le _, Nat.zero_le _⟩ dX11_join_6 (fun r_1 z_7 H locs wr_1 hP hD hS => ?_)
  obtain ⟨pn_2, gcell_3, gcheek_4, gpay_5, gnear_6⟩ := z_7
  have hP : va_P D vwCl (CW cs ad fa fq rv (va_up v 1 pn_2) (va_up (va_up (va_up (va_up a 11 gcell_3) 12 gcheek_4) 13 gpay_5) 14 gnear_6) w fv fp) H := hP
  have hD : va_D A (CW cs ad fa fq rv (va_up v 1 pn_2) (va_up (va_up (va_up (va_up a 11 gcell_3) 12 gcheek_4) 13 gpay_5) 14 gnear_6) w fv fp) := hD
  obtain ⟨wr_1_0, wr_1_1⟩ : (r_1.toInt = (v 1).toInt) ∧ (pn_2.toInt = (v 1).toInt + 1) := wr_1
  refine lv_istore (lv' := [(4, .int r_1), (0, .ref (ad 0)), (1, .int p1), (2, .int p2), (3, .int p3)]) hx hb dX11_join_9 hl (by decide) rfl (fun ls hl => ?_)
  refine lv_aload_n hx hb dX11_join_11 rfl (lv_at hl 1 rfl) ?_
  refine gf_main_deed hx hb hg hown hK hP rfl (hg _ q2_125) dX11_join_12 ?_
  refine gf_fl_pads (f := 14) (by decide) hx hb hg hown hK hP (hg _ q1_226) dX11_join_15 ?_
  refine lv_iload hx hb dX11_join_18 (lv_at hl 0 rfl) ?_
  refine lv_iload_n hx hb dX11_join_20 rfl (lv_at hl 4 rfl) ?_
  refine st_pads (f := 14) (by decide) hx hb hK hP hD hS (i_in (by omega) (by omega)) dX11_join_21 (fun H locs hP hD hS => ?_)
  refine lv_iload hx hb dX11_join_22 (lv_at hl 0 rfl) ?_
  exact W.iret (v := r_1) hx hb hr (fun tt ht hW => ⟨⟨r_1, ⟨pn_2, gcell_3, gcheek_4, gpay_5, gnear_6, (upd (fp 14) r_1.toNatClampNeg p3)⟩, rfl, ⟨(by first | rfl | omega | trivial | assumption), (by first | rfl | omega | trivial | assumption)⟩, by rw [ht]; exact hP, hD⟩, hS.F ht⟩) hS.2.2 dX11_join_24
set_option maxHeartbeats 4000000 in
set_option maxRecDepth 100000 in
theorem k_X9_place (l : Launch) (D : va_G) (cs : Nat → ClassId) (A : Nat → Prop) (ad fa fq rv : Nat → Nat) (v : Nat → Int32) (a : Nat → Nat → Int32) (w : Nat → Nat → Int64) (fv fp : Nat → Nat → Int32)  (p1 : Int32) (p2 : Int32) (hp0 : 0 ≤ (v 1).toInt) (hp8 : (v 1).toInt ≤ 8) (h1 : 0 ≤ p1.toInt) (h2 : p1.toInt < 8) : Met l yX9_place (Cond.code yX9_place cX9_place 3 none :: gw) ({ frames := 3, cells := 0, slots := 0, locals := 67 }) (va_Pc [.ref (ad 1), .int p1, .int p2] (XPre D (TY cs) (CW cs ad fa fq rv v a w fv fp) A)) (va_Qv (fun (z : (Nat → Int32) × (Nat → Int32)) => True) (XPo D (fun (z : (Nat → Int32) × (Nat → Int32)) => CW cs ad fa fq rv v (va_up (va_up a 11 z.1) 14 z.2) w fv fp) A) A) 0 0 A := by
  refine Met.ofW (cc := cX9_place) (maxL := 3) (ret := none) (by decide) rfl ?_
  intro p e s m args below meth c s₁ B hml hv
  obtain ⟨rfl, hP, hK, hD, hZ⟩ := hv
  have hx := B.exec
  have hb := B.bytes
  have hr := B.returns
  have hts := atoms_spec (ws := (Cond.code yX9_place cX9_place 3 none :: gw)) B.pre
  have hg : ∀ w ∈ gw, w.before ([.ref (ad 1), .int p1, .int p2] : List Value).toArray s = true := fun w h => hts w (List.mem_cons_of_mem _ h)
  have hown : s.vm.findClass RX9 = some m.cls := findClass_of_methodNamed B.named
  have hlocks := B.notSynchronized
  have hS : va_S A s.heap s.heap [] := va_S.rf
  have hP : va_P D vwCl (CW cs ad fa fq rv v a w fv fp) s.heap := hP
  have hl := lv_entry ([.ref (ad 1), .int p1, .int p2]) (n := 3) (Nat.le_of_ble_eq_true rfl)
  rw [lg_entry_eq]
  generalize (lg_sl ([.ref (ad 1), .int p1, .int p2]) ++ List.replicate (3 - (lg_sl ([.ref (ad 1), .int p1, .int p2])).length) Slot.unset).toArray = ls at hl ⊢
  have hl : lv_has ls 3 [(0, .ref (ad 1)), (1, .int p1), (2, .int p2)] := hl
  refine lv_aload_n hx hb dX9_place_0 rfl (lv_at hl 0 rfl) ?_
  refine gf_parish_cell hx hb hg hown hK hP rfl (hg _ q1_116) dX9_place_1 ?_
  refine lv_iload_n hx hb dX9_place_4 rfl (lv_at hl 1 rfl) ?_
  refine lv_iload_n hx hb dX9_place_5 rfl (lv_at hl 2 rfl) ?_
  refine st_Pcell hx hb hK hP hD hS (i_in (by omega) (by omega)) dX9_place_6 (fun H locs hP hD hS => ?_)
  refine lv_aload_n hx hb dX9_place_7 rfl (lv_at hl 0 rfl) ?_
  refine cV_v (As := []) (rest := []) ⟨hx, hb, hml, hown, hg⟩ (k_X9_lookAround l D cs A ad fa fq rv v (va_up a 11 (upd (a 11) p1.toNatClampNeg p2)) w fv fp   (show 0 ≤ (v 1).toInt by first | omega | decide) (show (v 1).toInt ≤ 8 by first | omega | decide)) ca_X9_lookAround q2_184 ⟨rfl, rfl⟩ ⟨Nat.le_of_ble_eq_true rfl, Nat.le_of_ble_eq_true rfl⟩ (rc_parish hK hP) hK hP hD hS hZ rfl hl.1 rfl (Nat.le_of_ble_eq_true rfl) ⟨Nat.zero_le _, Nat.zero_le _⟩ dX9_place_8 (fun gnear_2 H locs wr_1 hP hD hS => ?_)
  have hP : va_P D vwCl (CW cs ad fa fq rv v (va_up (va_up a 11 (upd (a 11) p1.toNatClampNeg p2)) 14 gnear_2) w fv fp) H := hP
  have hD : va_D A (CW cs ad fa fq rv v (va_up (va_up a 11 (upd (a 11) p1.toNatClampNeg p2)) 14 gnear_2) w fv fp) := hD
  exact W.vret hx hb hr (fun tt ht hW => ⟨⟨⟨(upd (a 11) p1.toNatClampNeg p2), gnear_2⟩, rfl, trivial, by rw [ht]; exact hP, hD⟩, hS.F ht⟩) hS.2.2 dX9_place_11
set_option maxHeartbeats 4000000 in
set_option maxRecDepth 100000 in
theorem k_X9_setMile (l : Launch) (D : va_G) (cs : Nat → ClassId) (A : Nat → Prop) (ad fa fq rv : Nat → Nat) (v : Nat → Int32) (a : Nat → Nat → Int32) (w : Nat → Nat → Int64) (fv fp : Nat → Nat → Int32)  (p1 : Int32) (hp0 : 0 ≤ (v 1).toInt) (hp8 : (v 1).toInt ≤ 8) : Met l yX9_setMile (Cond.code yX9_setMile cX9_setMile 2 none :: gw) ({ frames := 3, cells := 0, slots := 0, locals := 67 }) (va_Pc [.ref (ad 1), .int p1] (XPre D (TY cs) (CW cs ad fa fq rv v a w fv fp) A)) (va_Qv (fun (z : Int32 × (Nat → Int32)) => (z.1 = p1)) (XPo D (fun (z : Int32 × (Nat → Int32)) => CW cs ad fa fq rv (va_up v 2 z.1) (va_up a 14 z.2) w fv fp) A) A) 0 0 A := by
  refine Met.ofW (cc := cX9_setMile) (maxL := 2) (ret := none) (by decide) rfl ?_
  intro p e s m args below meth c s₁ B hml hv
  obtain ⟨rfl, hP, hK, hD, hZ⟩ := hv
  have hx := B.exec
  have hb := B.bytes
  have hr := B.returns
  have hts := atoms_spec (ws := (Cond.code yX9_setMile cX9_setMile 2 none :: gw)) B.pre
  have hg : ∀ w ∈ gw, w.before ([.ref (ad 1), .int p1] : List Value).toArray s = true := fun w h => hts w (List.mem_cons_of_mem _ h)
  have hown : s.vm.findClass RX9 = some m.cls := findClass_of_methodNamed B.named
  have hlocks := B.notSynchronized
  have hS : va_S A s.heap s.heap [] := va_S.rf
  have hP : va_P D vwCl (CW cs ad fa fq rv v a w fv fp) s.heap := hP
  have hl := lv_entry ([.ref (ad 1), .int p1]) (n := 2) (Nat.le_of_ble_eq_true rfl)
  rw [lg_entry_eq]
  generalize (lg_sl ([.ref (ad 1), .int p1]) ++ List.replicate (2 - (lg_sl ([.ref (ad 1), .int p1])).length) Slot.unset).toArray = ls at hl ⊢
  have hl : lv_has ls 2 [(0, .ref (ad 1)), (1, .int p1)] := hl
  refine lv_aload_n hx hb dX9_setMile_0 rfl (lv_at hl 0 rfl) ?_
  refine lv_iload_n hx hb dX9_setMile_1 rfl (lv_at hl 1 rfl) ?_
  refine pf_parish_mile hx hb hg hown hK hP hD hS (hg _ q1_110) dX9_setMile_2 (fun H locs hP hD hS => ?_)
  refine lv_aload_n hx hb dX9_setMile_5 rfl (lv_at hl 0 rfl) ?_
  refine cV_v (As := []) (rest := []) ⟨hx, hb, hml, hown, hg⟩ (k_X9_lookAround l D cs A ad fa fq rv (va_up v 2 p1) a w fv fp   (show 0 ≤ (v 1).toInt by first | omega | decide) (show (v 1).toInt ≤ 8 by first | omega | decide)) ca_X9_lookAround q2_184 ⟨rfl, rfl⟩ ⟨Nat.le_of_ble_eq_true rfl, Nat.le_of_ble_eq_true rfl⟩ (rc_parish hK hP) hK hP hD hS hZ rfl hl.1 rfl (Nat.le_of_ble_eq_true rfl) ⟨Nat.zero_le _, Nat.zero_le _⟩ dX9_setMile_6 (fun gnear_2 H locs wr_1 hP hD hS => ?_)
  have hP : va_P D vwCl (CW cs ad fa fq rv (va_up v 2 p1) (va_up a 14 gnear_2) w fv fp) H := hP
  have hD : va_D A (CW cs ad fa fq rv (va_up v 2 p1) (va_up a 14 gnear_2) w fv fp) := hD
  exact W.vret hx hb hr (fun tt ht hW => ⟨⟨⟨p1, gnear_2⟩, rfl, (by first | rfl | omega | trivial | assumption), by rw [ht]; exact hP, hD⟩, hS.F ht⟩) hS.2.2 dX9_setMile_9
set_option maxHeartbeats 4000000 in
set_option maxRecDepth 100000 in
theorem k_X10_isEmpty (l : Launch) (D : va_G) (cs : Nat → ClassId) (A : Nat → Prop) (ad fa fq rv : Nat → Nat) (v : Nat → Int32) (a : Nat → Nat → Int32) (w : Nat → Nat → Int64) (fv fp : Nat → Nat → Int32)  (p1 : Int32) (h1 : 0 ≤ p1.toInt) (h2 : p1.toInt < 6) : Met l yX10_isEmpty (Cond.code yX10_isEmpty cX10_isEmpty 2 (some .boolean) :: gw) ({ frames := 0, cells := 0, slots := 0, locals := 0 }) (va_Pc [.ref (ad 8), .int p1] (XPre D (TY cs) (CW cs ad fa fq rv v a w fv fp) A)) (vp_Si (fun (r : Int32) => (r.toInt = 1 ∧ ((a 28) p1.toNatClampNeg).toInt = -1) ∨ (r.toInt = 0 ∧ ¬ (((a 28) p1.toNatClampNeg).toInt = -1)))) 0 0 (fun _ => False) := by
  refine Met.ofW (cc := cX10_isEmpty) (maxL := 2) (ret := (some .boolean)) (by decide) rfl ?_
  intro p e s m args below meth c s₁ B hml hv
  obtain ⟨rfl, hP, hK, hD, hZ⟩ := hv
  have hx := B.exec
  have hb := B.bytes
  have hr := B.returns
  have hts := atoms_spec (ws := (Cond.code yX10_isEmpty cX10_isEmpty 2 (some .boolean) :: gw)) B.pre
  have hg : ∀ w ∈ gw, w.before ([.ref (ad 8), .int p1] : List Value).toArray s = true := fun w h => hts w (List.mem_cons_of_mem _ h)
  have hown : s.vm.findClass RX10 = some m.cls := findClass_of_methodNamed B.named
  have hlocks := B.notSynchronized
  have hS : va_S A s.heap s.heap [] := va_S.rf
  have hl := lv_entry ([.ref (ad 8), .int p1]) (n := 2) (Nat.le_of_ble_eq_true rfl)
  rw [lg_entry_eq]
  generalize (lg_sl ([.ref (ad 8), .int p1]) ++ List.replicate (2 - (lg_sl ([.ref (ad 8), .int p1])).length) Slot.unset).toArray = ls at hl ⊢
  have hl : lv_has ls 2 [(0, .ref (ad 8)), (1, .int p1)] := hl
  refine lv_aload_n hx hb dX10_isEmpty_0 rfl (lv_at hl 0 rfl) ?_
  refine gf_shelves_sort hx hb hg hown hK hP rfl (hg _ q1_66) dX10_isEmpty_1 ?_
  refine lv_iload_n hx hb dX10_isEmpty_4 rfl (lv_at hl 1 rfl) ?_
  refine ld_Ssort hx hb hK hP (i_in (by omega) (by omega)) dX10_isEmpty_5 ?_
  refine lv_topi (fun x_1 ex_1 => ?_)
  have ex_1 : x_1 = (a 28) p1.toNatClampNeg := ex_1
  have hx_1 : x_1.toInt = ((a 28) p1.toNatClampNeg).toInt := by rw [ex_1]
  refine lv_iconst (v := (-1)) hx hb dX10_isEmpty_6 (by decide) ?_
  refine lv_icmp_ne (tgt := 14) hx hb dX10_isEmpty_7 (by decide) (fun c_2 => ?_) (fun c_2 => ?_)
  ·
    have kc_2 : x_1.toInt ≠ (-1 : Int) := i_ne c_2
    refine lv_iconst (v := 0) hx hb dX10_isEmpty_14 (by decide) ?_
    have q0_0 : (0 : Int32).toInt = 0 := rfl
    exact W.zret (v := 0) hx hb hr rfl (fun tt ht hW => ⟨0, rfl, (by first | rfl | omega | trivial | assumption), ht⟩) (fun _ h => by cases h) dX10_isEmpty_15
  ·
    have kc_2 : x_1.toInt = (-1 : Int) := i_eq c_2
    refine lv_iconst (v := 1) hx hb dX10_isEmpty_10 (by decide) ?_
    refine lv_goto (tgt := 15) hx hb dX10_isEmpty_11 (by decide) ?_
    have q0_1 : (1 : Int32).toInt = 1 := rfl
    exact W.zret (v := 1) hx hb hr rfl (fun tt ht hW => ⟨1, rfl, (by first | rfl | omega | trivial | assumption), ht⟩) (fun _ h => by cases h) dX10_isEmpty_15
set_option maxHeartbeats 4000000 in
set_option maxRecDepth 100000 in
theorem k_X3_follow (l : Launch) (D : va_G) (cs : Nat → ClassId) (A : Nat → Prop) (ad fa fq rv : Nat → Nat) (v : Nat → Int32) (a : Nat → Nat → Int32) (w : Nat → Nat → Int64) (fv fp : Nat → Nat → Int32) (f : Nat) (o : Nat) (p2 : Int32) (hf : f < 18) (ho : o < 18) (hne : o ≠ f) (h2 : 0 ≤ p2.toInt) (h3 : p2.toInt ≤ 8) : Met l yX3_follow (Cond.code yX3_follow cX3_follow 3 none :: gw) ({ frames := 1, cells := 0, slots := 0, locals := 60 }) (va_Pc [.ref (fa f), .ref (fa o), .int p2] (XPre D (TY cs) (CW cs ad fa fq rv v a w fv fp) A)) (va_Qv (fun (z : (Nat → Int32) × (Nat → Int32)) => (z.1 0 = (fv o 0)) ∧ (z.1 1 = (fv o 1)) ∧ (z.1 2 = (fv o 2)) ∧ (z.1 3 = (fv o 3)) ∧ (z.1 4 = (fv o 4)) ∧ (z.1 5 = (fv o 5)) ∧ (z.1 6 = (fv o 6)) ∧ (z.1 7 = (fv o 7))) (XPo D (fun (z : (Nat → Int32) × (Nat → Int32)) => CW cs ad fa fq rv v a w (va_up fv f z.1) (va_up fp f z.2)) A) A) 0 0 A := by
  refine Met.ofW (cc := cX3_follow) (maxL := 3) (ret := none) (by decide) rfl ?_
  intro p e s m args below meth c s₁ B hml hv
  obtain ⟨rfl, hP, hK, hD, hZ⟩ := hv
  have hx := B.exec
  have hb := B.bytes
  have hr := B.returns
  have hts := atoms_spec (ws := (Cond.code yX3_follow cX3_follow 3 none :: gw)) B.pre
  have hg : ∀ w ∈ gw, w.before ([.ref (fa f), .ref (fa o), .int p2] : List Value).toArray s = true := fun w h => hts w (List.mem_cons_of_mem _ h)
  have hown : s.vm.findClass RX3 = some m.cls := findClass_of_methodNamed B.named
  have hlocks := B.notSynchronized
  have hS : va_S A s.heap s.heap [] := va_S.rf
  have hP : va_P D vwCl (CW cs ad fa fq rv v a w fv fp) s.heap := hP
  have hl := lv_entry ([.ref (fa f), .ref (fa o), .int p2]) (n := 3) (Nat.le_of_ble_eq_true rfl)
  rw [lg_entry_eq]
  generalize (lg_sl ([.ref (fa f), .ref (fa o), .int p2]) ++ List.replicate (3 - (lg_sl ([.ref (fa f), .ref (fa o), .int p2])).length) Slot.unset).toArray = ls at hl ⊢
  have hl : lv_has ls 3 [(0, .ref (fa f)), (1, .ref (fa o)), (2, .int p2)] := hl
  refine lv_aload_n hx hb dX3_follow_0 rfl (lv_at hl 1 rfl) ?_
  refine gf_fl_pads (f := o) ho hx hb hg hown hK hP (hg _ q1_224) dX3_follow_1 ?_
  refine lv_iconst (v := 0) hx hb dX3_follow_4 (by decide) ?_
  refine lv_aload_n hx hb dX3_follow_5 rfl (lv_at hl 0 rfl) ?_
  refine gf_fl_pads (f := f) hf hx hb hg hown hK hP (hg _ q1_224) dX3_follow_6 ?_
  refine lv_iconst (v := 0) hx hb dX3_follow_9 (by decide) ?_
  refine lv_iload_n hx hb dX3_follow_10 rfl (lv_at hl 2 rfl) ?_
  refine lv_bipush (v := 8) hx hb dX3_follow_11 (by decide) ?_
  refine va_mmin hx hb (hml.trans hl.1.symm) hown (hg _ q3_125) (hg _ q3_61) (hg _ q1_16) (hg _ q3_62) (Nat.le_of_ble_eq_true rfl) (Nat.le_of_ble_eq_true rfl) (Nat.zero_le _) (Nat.zero_le _) dX3_follow_13 ?_
  refine lv_topi (fun x_1 ex_1 => ?_)
  have fx_1 := i_min ex_1
  have fx_1 : ((8 : Int) ≤ p2.toInt ∧ x_1.toInt = (8 : Int)) ∨ (p2.toInt ≤ (8 : Int) ∧ x_1.toInt = p2.toInt) := fx_1
  refine va_copyi hx hb (hml.trans hl.1.symm) hown (hg _ q3_126) (hg _ q3_23) (hg _ q3_22) (hg _ q1_15) hK hP hD hS (42 + 2 * o) (42 + 2 * f) 0 0 (fl_p ho) (fl_p hf) rfl rfl rfl (fun q => absurd q (by decide)) (fun q => absurd q (by decide)) (fun q => by have q0 : x_1.toInt < 0 := i_lt q; omega) (by show 0 + x_1.toInt.toNat ≤ 8; omega) (by show 0 + x_1.toInt.toNat ≤ 8; omega) (fun _ _ => rfl) (Nat.le_of_ble_eq_true rfl) (Nat.le_of_ble_eq_true rfl) dX3_follow_16 (fun H locs hP hD hS => ?_)
  rw [fl_sp hf] at hP hD
  have hP : va_P D vwCl (CW cs ad fa fq rv v a w fv (va_up fp f (va_cpy (fp o) (fp f) (0 : Int32).toNatClampNeg (0 : Int32).toNatClampNeg x_1.toNatClampNeg))) H := hP
  have hD : va_D A (CW cs ad fa fq rv v a w fv (va_up fp f (va_cpy (fp o) (fp f) (0 : Int32).toNatClampNeg (0 : Int32).toNatClampNeg x_1.toNatClampNeg))) := hD
  refine lv_aload_n hx hb dX3_follow_19 rfl (lv_at hl 0 rfl) ?_
  refine lv_aload_n hx hb dX3_follow_20 rfl (lv_at hl 1 rfl) ?_
  refine gf_fl_hour (f := o) ho hx hb hg hown hK hP (x := (fv o 0)) rfl (hg _ q1_227) dX3_follow_21 ?_
  refine pf_fl_hour (f := f) hf hx hb hg hown hK hP hD hS (hg _ q1_227) dX3_follow_24 (fun H locs hP hD hS => ?_)
  refine lv_aload_n hx hb dX3_follow_27 rfl (lv_at hl 0 rfl) ?_
  refine lv_aload_n hx hb dX3_follow_28 rfl (lv_at hl 1 rfl) ?_
  refine gf_fl_swarm (f := o) ho hx hb hg hown hK hP (x := (fv o 1)) (by rw [va_up_ne _ _ hne]) (hg _ q1_230) dX3_follow_29 ?_
  refine pg_fl_swarm (f := f) hf hx hb hg hown hK hP hD hS (hg _ q1_230) dX3_follow_32 (fun H locs hP hD hS => ?_)
  refine lv_aload_n hx hb dX3_follow_35 rfl (lv_at hl 0 rfl) ?_
  refine lv_aload_n hx hb dX3_follow_36 rfl (lv_at hl 1 rfl) ?_
  refine gf_fl_liar (f := o) ho hx hb hg hown hK hP (x := (fv o 2)) (by rw [va_up_ne _ _ hne]) (hg _ q1_234) dX3_follow_37 ?_
  refine pg_fl_liar (f := f) hf hx hb hg hown hK hP hD hS (hg _ q1_234) dX3_follow_40 (fun H locs hP hD hS => ?_)
  refine lv_aload_n hx hb dX3_follow_43 rfl (lv_at hl 0 rfl) ?_
  refine lv_aload_n hx hb dX3_follow_44 rfl (lv_at hl 1 rfl) ?_
  refine gf_fl_sayings (f := o) ho hx hb hg hown hK hP (x := (fv o 3)) (by rw [va_up_ne _ _ hne]) (hg _ q1_236) dX3_follow_45 ?_
  refine pg_fl_sayings (f := f) hf hx hb hg hown hK hP hD hS (hg _ q1_236) dX3_follow_48 (fun H locs hP hD hS => ?_)
  refine lv_aload_n hx hb dX3_follow_51 rfl (lv_at hl 0 rfl) ?_
  refine lv_aload_n hx hb dX3_follow_52 rfl (lv_at hl 1 rfl) ?_
  refine gf_fl_lies (f := o) ho hx hb hg hown hK hP (x := (fv o 4)) (by rw [va_up_ne _ _ hne]) (hg _ q1_238) dX3_follow_53 ?_
  refine pg_fl_lies (f := f) hf hx hb hg hown hK hP hD hS (hg _ q1_238) dX3_follow_56 (fun H locs hP hD hS => ?_)
  refine lv_aload_n hx hb dX3_follow_59 rfl (lv_at hl 0 rfl) ?_
  refine lv_aload_n hx hb dX3_follow_60 rfl (lv_at hl 1 rfl) ?_
  refine gf_fl_louds (f := o) ho hx hb hg hown hK hP (x := (fv o 5)) (by rw [va_up_ne _ _ hne]) (hg _ q2_1) dX3_follow_61 ?_
  refine pg_fl_louds (f := f) hf hx hb hg hown hK hP hD hS (hg _ q2_1) dX3_follow_64 (fun H locs hP hD hS => ?_)
  refine lv_aload_n hx hb dX3_follow_67 rfl (lv_at hl 0 rfl) ?_
  refine lv_aload_n hx hb dX3_follow_68 rfl (lv_at hl 1 rfl) ?_
  refine gf_fl_stings (f := o) ho hx hb hg hown hK hP (x := (fv o 6)) (by rw [va_up_ne _ _ hne]) (hg _ q2_3) dX3_follow_69 ?_
  refine pg_fl_stings (f := f) hf hx hb hg hown hK hP hD hS (hg _ q2_3) dX3_follow_72 (fun H locs hP hD hS => ?_)
  refine lv_aload_n hx hb dX3_follow_75 rfl (lv_at hl 0 rfl) ?_
  refine lv_aload_n hx hb dX3_follow_76 rfl (lv_at hl 1 rfl) ?_
  refine gf_fl_hurts (f := o) ho hx hb hg hown hK hP (x := (fv o 7)) (by rw [va_up_ne _ _ hne]) (hg _ q2_5) dX3_follow_77 ?_
  refine pg_fl_hurts (f := f) hf hx hb hg hown hK hP hD hS (hg _ q2_5) dX3_follow_80 (fun H locs hP hD hS => ?_)
  exact W.vret hx hb hr (fun tt ht hW => ⟨⟨⟨(va_up (va_up (va_up (va_up (va_up (va_up (va_up (va_up (fv f) 0 (fv o 0)) 1 (fv o 1)) 2 (fv o 2)) 3 (fv o 3)) 4 (fv o 4)) 5 (fv o 5)) 6 (fv o 6)) 7 (fv o 7)), (va_cpy (fp o) (fp f) (0 : Int32).toNatClampNeg (0 : Int32).toNatClampNeg x_1.toNatClampNeg)⟩, rfl, ⟨(by first | rfl | omega | trivial | assumption), (by first | rfl | omega | trivial | assumption), (by first | rfl | omega | trivial | assumption), (by first | rfl | omega | trivial | assumption), (by first | rfl | omega | trivial | assumption), (by first | rfl | omega | trivial | assumption), (by first | rfl | omega | trivial | assumption), (by first | rfl | omega | trivial | assumption)⟩, by rw [ht]; exact hP, hD⟩, hS.F ht⟩) hS.2.2 dX3_follow_83
set_option maxHeartbeats 4000000 in
set_option maxRecDepth 100000 in
theorem k_X3_begin (l : Launch) (D : va_G) (cs : Nat → ClassId) (A : Nat → Prop) (ad fa fq rv : Nat → Nat) (v : Nat → Int32) (a : Nat → Nat → Int32) (w : Nat → Nat → Int64) (fv fp : Nat → Nat → Int32) (f : Nat) (o : Nat)  (hf : f < 18) (ho : o < 18) (hne : o ≠ f) : Met l yX3_begin (Cond.code yX3_begin cX3_begin 2 none :: gw) ({ frames := 2, cells := 0, slots := 0, locals := 82 }) (va_Pc [.ref (fa f), .ref (fa o)] (XPre D (TY cs) (CW cs ad fa fq rv v a w fv fp) A)) (va_Qv (fun (z : (Nat → Int32) × (Nat → Int32)) => (z.1 0 = (fv o 0)) ∧ (z.1 1 = (fv o 1)) ∧ (z.1 2 = (fv o 2)) ∧ (z.1 3 = 0) ∧ (z.1 4 = 0) ∧ (z.1 5 = 0) ∧ (z.1 6 = 0) ∧ (z.1 7 = 0)) (XPo D (fun (z : (Nat → Int32) × (Nat → Int32)) => CW cs ad fa fq rv v a w (va_up fv f z.1) (va_up fp f z.2)) A) A) 0 0 A := by
  refine Met.ofW (cc := cX3_begin) (maxL := 2) (ret := none) (by decide) rfl ?_
  intro p e s m args below meth c s₁ B hml hv
  obtain ⟨rfl, hP, hK, hD, hZ⟩ := hv
  have hx := B.exec
  have hb := B.bytes
  have hr := B.returns
  have hts := atoms_spec (ws := (Cond.code yX3_begin cX3_begin 2 none :: gw)) B.pre
  have hg : ∀ w ∈ gw, w.before ([.ref (fa f), .ref (fa o)] : List Value).toArray s = true := fun w h => hts w (List.mem_cons_of_mem _ h)
  have hown : s.vm.findClass RX3 = some m.cls := findClass_of_methodNamed B.named
  have hlocks := B.notSynchronized
  have hS : va_S A s.heap s.heap [] := va_S.rf
  have hP : va_P D vwCl (CW cs ad fa fq rv v a w fv fp) s.heap := hP
  have hl := lv_entry ([.ref (fa f), .ref (fa o)]) (n := 2) (Nat.le_of_ble_eq_true rfl)
  rw [lg_entry_eq]
  generalize (lg_sl ([.ref (fa f), .ref (fa o)]) ++ List.replicate (2 - (lg_sl ([.ref (fa f), .ref (fa o)])).length) Slot.unset).toArray = ls at hl ⊢
  have hl : lv_has ls 2 [(0, .ref (fa f)), (1, .ref (fa o))] := hl
  refine lv_aload_n hx hb dX3_begin_0 rfl (lv_at hl 0 rfl) ?_
  refine lv_aload_n hx hb dX3_begin_1 rfl (lv_at hl 1 rfl) ?_
  refine lv_bipush (v := 8) hx hb dX3_begin_2 (by decide) ?_
  refine cV_v (As := [.ref (fa o), .int 8]) (rest := []) ⟨hx, hb, hml, hown, hg⟩ (k_X3_follow l D cs A ad fa fq rv v a w fv fp f o 8 (by omega) (by omega) (by omega) (show 0 ≤ (8 : Int) by first | omega | decide) (show (8 : Int) ≤ 8 by first | omega | decide)) ca_X3_follow q3_121 ⟨rfl, rfl⟩ ⟨Nat.le_of_ble_eq_true rfl, Nat.le_of_ble_eq_true rfl⟩ (rc_fl (f := f) hf hK hP) hK hP hD hS hZ rfl hl.1 rfl (Nat.le_of_ble_eq_true rfl) ⟨Nat.zero_le _, Nat.zero_le _⟩ dX3_begin_4 (fun z_4 H locs wr_1 hP hD hS => ?_)
  obtain ⟨g_2, h_3⟩ := z_4
  have hP : va_P D vwCl (CW cs ad fa fq rv v a w (va_up fv f g_2) (va_up fp f h_3)) H := hP
  have hD : va_D A (CW cs ad fa fq rv v a w (va_up fv f g_2) (va_up fp f h_3)) := hD
  obtain ⟨wr_1_0, wr_1_1, wr_1_2, wr_1_3, wr_1_4, wr_1_5, wr_1_6, wr_1_7⟩ : (g_2 0 = (fv o 0)) ∧ (g_2 1 = (fv o 1)) ∧ (g_2 2 = (fv o 2)) ∧ (g_2 3 = (fv o 3)) ∧ (g_2 4 = (fv o 4)) ∧ (g_2 5 = (fv o 5)) ∧ (g_2 6 = (fv o 6)) ∧ (g_2 7 = (fv o 7)) := wr_1
  refine lv_aload_n hx hb dX3_begin_7 rfl (lv_at hl 0 rfl) ?_
  refine lv_iconst (v := 0) hx hb dX3_begin_8 (by decide) ?_
  refine pg_fl_sayings (f := f) hf hx hb hg hown hK hP hD hS (hg _ q1_236) dX3_begin_9 (fun H locs hP hD hS => ?_)
  refine lv_aload_n hx hb dX3_begin_12 rfl (lv_at hl 0 rfl) ?_
  refine lv_iconst (v := 0) hx hb dX3_begin_13 (by decide) ?_
  refine pg_fl_lies (f := f) hf hx hb hg hown hK hP hD hS (hg _ q1_238) dX3_begin_14 (fun H locs hP hD hS => ?_)
  refine lv_aload_n hx hb dX3_begin_17 rfl (lv_at hl 0 rfl) ?_
  refine lv_iconst (v := 0) hx hb dX3_begin_18 (by decide) ?_
  refine pg_fl_louds (f := f) hf hx hb hg hown hK hP hD hS (hg _ q2_1) dX3_begin_19 (fun H locs hP hD hS => ?_)
  refine lv_aload_n hx hb dX3_begin_22 rfl (lv_at hl 0 rfl) ?_
  refine lv_iconst (v := 0) hx hb dX3_begin_23 (by decide) ?_
  refine pg_fl_stings (f := f) hf hx hb hg hown hK hP hD hS (hg _ q2_3) dX3_begin_24 (fun H locs hP hD hS => ?_)
  refine lv_aload_n hx hb dX3_begin_27 rfl (lv_at hl 0 rfl) ?_
  refine lv_iconst (v := 0) hx hb dX3_begin_28 (by decide) ?_
  refine pg_fl_hurts (f := f) hf hx hb hg hown hK hP hD hS (hg _ q2_5) dX3_begin_29 (fun H locs hP hD hS => ?_)
  exact W.vret hx hb hr (fun tt ht hW => ⟨⟨⟨(va_up (va_up (va_up (va_up (va_up g_2 3 0) 4 0) 5 0) 6 0) 7 0), h_3⟩, rfl, ⟨(by first | assumption | rfl), (by first | assumption | rfl), (by first | assumption | rfl), (by first | assumption | rfl), (by first | assumption | rfl), (by first | assumption | rfl), (by first | assumption | rfl), (by first | assumption | rfl)⟩, by rw [ht]; exact hP, hD⟩, hS.F ht⟩) hS.2.2 dX3_begin_32
set_option maxHeartbeats 4000000 in
set_option maxRecDepth 100000 in
theorem k_J7_fill_d0a16 (l : Launch) (D : va_G) (cs : Nat → ClassId) (A : Nat → Prop) (ad fa fq rv : Nat → Nat) (v : Nat → Int32) (a : Nat → Nat → Int32) (w : Nat → Nat → Int64) (fv fp : Nat → Nat → Int32) (rr : Nat) (p2 : Int64) (hrr : rr < 6) : Met l yJ7_fill_d0a16 (Cond.code yJ7_fill_d0a16 cJ7_fill_d0a16 5 none :: gw) ({ frames := 0, cells := 0, slots := 0, locals := 0 }) (va_Pc [.ref (ad (31 + rr)), .long p2] (XPre D (TY cs) (CW cs ad fa fq rv v a w fv fp) A)) (va_Qv (fun (z : Nat → Int64) => (∀ j, j < 60 → z j = p2)) (XPo D (fun (z : Nat → Int64) => CW cs ad fa fq rv v a (va_up w rr z) fv fp) A) A) 0 0 A := by
  refine Met.ofW (cc := cJ7_fill_d0a16) (maxL := 5) (ret := none) (by decide) rfl ?_
  intro p e s m args below meth c s₁ B hml hv
  obtain ⟨rfl, hP, hK, hD, hZ⟩ := hv
  have hx := B.exec
  have hb := B.bytes
  have hr := B.returns
  have hts := atoms_spec (ws := (Cond.code yJ7_fill_d0a16 cJ7_fill_d0a16 5 none :: gw)) B.pre
  have hg : ∀ w ∈ gw, w.before ([.ref (ad (31 + rr)), .long p2] : List Value).toArray s = true := fun w h => hts w (List.mem_cons_of_mem _ h)
  have hown : s.vm.findClass RJ7 = some m.cls := findClass_of_methodNamed B.named
  have hlocks := B.notSynchronized
  have hS : va_S A s.heap s.heap [] := va_S.rf
  have hP : va_P D vwCl (CW cs ad fa fq rv v a w fv fp) s.heap := hP
  have hl := lv_entry ([.ref (ad (31 + rr)), .long p2]) (n := 5) (Nat.le_of_ble_eq_true rfl)
  rw [lg_entry_eq]
  generalize (lg_sl ([.ref (ad (31 + rr)), .long p2]) ++ List.replicate (5 - (lg_sl ([.ref (ad (31 + rr)), .long p2])).length) Slot.unset).toArray = ls at hl ⊢
  have hl : lv_has ls 5 [(0, .ref (ad (31 + rr))), (1, .long p2)] := hl
  have hcut : ∀ n : Nat, (∀ (x3 : Int32) (g : Nat → Int64) (H : Heap) (locs : List Loc) (i3 : 0 ≤ x3.toInt) (i60 : x3.toInt ≤ 60) (hz : ∀ j, j < x3.toInt.toNat → g j = p2) (hmu : (60 - x3.toInt).toNat < n) (hP : va_P D vwCl (CW cs ad fa fq rv v a (va_up w rr g) fv fp) H) (hD : va_D A (CW cs ad fa fq rv v a (va_up w rr g) fv fp)) (hS : va_S A s.heap H locs) (ls : Array Slot) (hl : lv_has ls 5 [(0, .ref (ad (31 + rr))), (1, .long p2), (3, .int x3), (4, .int 60)]), W p l e (headSpec (Cond.code yJ7_fill_d0a16 cJ7_fill_d0a16 5 none :: gw) ({ frames := 0, cells := 0, slots := 0, locals := 0 })).room s m ([.ref (ad (31 + rr)), .long p2] : List Value).toArray below meth c H locs 0 0 (MQ below (va_Qv (fun (z : Nat → Int64) => (∀ j, j < 60 → z j = p2)) (XPo D (fun (z : Nat → Int64) => CW cs ad fa fq rv v a (va_up w rr z) fv fp) A) A) ([.ref (ad (31 + rr)), .long p2] : List Value).toArray s 0 0 A) (F0 m 6 ls [])) := by
    intro n
    induction n with
    | zero => exact (fun x3 g H locs i3 i60 hz hmu hP hD hS ls hl => absurd hmu (Nat.not_lt_zero _))
    | succ n ih =>
      intro x3 g H locs i3 i60 hz hmu hP hD hS ls hl
      refine lv_iload_n hx hb dJ7_fill_d0a16_6 rfl (lv_at hl 2 rfl) ?_
      refine lv_iload hx hb dJ7_fill_d0a16_7 (lv_at hl 3 rfl) ?_
      refine lv_icmp_ge (tgt := 22) hx hb dJ7_fill_d0a16_9 (by decide) (fun c_1 => ?_) (fun c_1 => ?_)
      ·
        have kc_1 : (60 : Int) ≤ x3.toInt := i_le c_1
        exact W.vret hx hb hr (fun tt ht hW => ⟨⟨g, rfl, (fun j hj => hz j (by omega)), by rw [ht]; exact hP, hD⟩, hS.F ht⟩) hS.2.2 dJ7_fill_d0a16_22
      ·
        have kc_1 : x3.toInt < (60 : Int) := i_nle c_1
        refine lv_aload_n hx hb dJ7_fill_d0a16_12 rfl (lv_at hl 0 rfl) ?_
        refine lv_iload_n hx hb dJ7_fill_d0a16_13 rfl (lv_at hl 2 rfl) ?_
        refine lv_lload_n hx hb dJ7_fill_d0a16_14 rfl (lv_at hl 1 rfl) ?_
        refine st2_row hrr hx hb hK hP hD hS (i_in (by omega) (by omega)) dJ7_fill_d0a16_15 (fun H locs hP hD hS => ?_)
        obtain ⟨x_2, ex_2⟩ : ∃ y : Int32, y = x3 + 1 := ⟨_, rfl⟩
        have fx_2 : x_2.toInt = x3.toInt + 1 := by rw [ex_2]; exact i_add (by first | omega | (show (_ : Int) ≤ x3.toInt + 1; omega)) (by first | omega | (show x3.toInt + 1 ≤ (_ : Int); omega))
        refine lv_iinc (v := x_2) (lv' := [(3, .int x_2), (0, .ref (ad (31 + rr))), (1, .long p2), (4, .int 60)]) hx hb dJ7_fill_d0a16_16 hl (k := 2) rfl (by rw [ex_2]; rfl) (by decide) rfl (fun ls hl => ?_)
        refine lv_goto (tgt := 6) hx hb dJ7_fill_d0a16_19 (by decide) ?_
        have q0_60 : (60 : Int32).toInt = 60 := rfl
        exact ih x_2 (vp_updL g x3.toNatClampNeg p2) _ _ (by omega) (by omega) (fun j hj => (Classical.em (j = x3.toNatClampNeg)).elim (fun q => by show (if _ then _ else _) = _; rw [if_pos q]) (fun q => by show (if _ then _ else _) = _; rw [if_neg q]; exact hz j (by have q2 : x3.toNatClampNeg = x3.toInt.toNat := rfl; omega))) (by omega) hP hD hS ls (lv_sub hl [1, 2, 0, 3] rfl)
  refine lv_iconst (v := 0) hx hb dJ7_fill_d0a16_0 (by decide) ?_
  refine lv_istore_n (lv' := [(3, .int 0), (0, .ref (ad (31 + rr))), (1, .long p2)]) hx hb dJ7_fill_d0a16_1 rfl hl (by decide) rfl (fun ls hl => ?_)
  refine lv_aload_n hx hb dJ7_fill_d0a16_2 rfl (lv_at hl 1 rfl) ?_
  refine al_row hrr hx hb hK hP dJ7_fill_d0a16_3 ?_
  refine lv_istore (lv' := [(4, .int 60), (3, .int 0), (0, .ref (ad (31 + rr))), (1, .long p2)]) hx hb dJ7_fill_d0a16_4 hl (by decide) rfl (fun ls hl => ?_)
  rw [show w = va_up w rr (w rr) from (va_up_id _ _).symm] at hP hD
  have q0_60 : (60 : Int32).toInt = 60 := rfl
  have q0_0 : (0 : Int32).toInt = 0 := rfl
  exact (hcut (((60 - (0 : Int32).toInt).toNat) + 1)) 0 (w rr) _ _ (by omega) (by omega) (fun j hj => by have q : (0 : Int32).toInt = 0 := rfl; omega) (Nat.lt_succ_self _) hP hD hS ls (lv_sub hl [2, 3, 1, 0] rfl)
set_option maxHeartbeats 4000000 in
set_option maxRecDepth 100000 in
theorem k_X10_lay (l : Launch) (D : va_G) (cs : Nat → ClassId) (A : Nat → Prop) (ad fa fq rv : Nat → Nat) (v : Nat → Int32) (a : Nat → Nat → Int32) (w : Nat → Nat → Int64) (fv fp : Nat → Nat → Int32)  (p1 : Int32) (p2 : Int32) (p3 : Int32) (h1 : 0 ≤ p1.toInt) (h2 : p1.toInt < 6) : Met l yX10_lay (Cond.code yX10_lay cX10_lay 4 none :: gw) ({ frames := 1, cells := 0, slots := 0, locals := 24 }) (va_Pc [.ref (ad 8), .int p1, .int p2, .int p3] (XPre D (TY cs) (CW cs ad fa fq rv v a w fv fp) A)) (va_Qv (fun (z : (Nat → Int32) × (Nat → Int32) × (Nat → Int64)) => (z.1 = upd (a 28) p1.toNatClampNeg p2) ∧ (z.2.1 = upd (a 29) p1.toNatClampNeg p3) ∧ (∀ j, j < 60 → z.2.2 j = 0)) (XPo D (fun (z : (Nat → Int32) × (Nat → Int32) × (Nat → Int64)) => CW cs ad fa fq rv v (va_up (va_up a 28 z.1) 29 z.2.1) (va_up w p1.toNatClampNeg z.2.2) fv fp) A) A) 0 0 A := by
  refine Met.ofW (cc := cX10_lay) (maxL := 4) (ret := none) (by decide) rfl ?_
  intro p e s m args below meth c s₁ B hml hv
  obtain ⟨rfl, hP, hK, hD, hZ⟩ := hv
  have hx := B.exec
  have hb := B.bytes
  have hr := B.returns
  have hts := atoms_spec (ws := (Cond.code yX10_lay cX10_lay 4 none :: gw)) B.pre
  have hg : ∀ w ∈ gw, w.before ([.ref (ad 8), .int p1, .int p2, .int p3] : List Value).toArray s = true := fun w h => hts w (List.mem_cons_of_mem _ h)
  have hown : s.vm.findClass RX10 = some m.cls := findClass_of_methodNamed B.named
  have hlocks := B.notSynchronized
  have hS : va_S A s.heap s.heap [] := va_S.rf
  have hP : va_P D vwCl (CW cs ad fa fq rv v a w fv fp) s.heap := hP
  have hl := lv_entry ([.ref (ad 8), .int p1, .int p2, .int p3]) (n := 4) (Nat.le_of_ble_eq_true rfl)
  rw [lg_entry_eq]
  generalize (lg_sl ([.ref (ad 8), .int p1, .int p2, .int p3]) ++ List.replicate (4 - (lg_sl ([.ref (ad 8), .int p1, .int p2, .int p3])).length) Slot.unset).toArray = ls at hl ⊢
  have hl : lv_has ls 4 [(0, .ref (ad 8)), (1, .int p1), (2, .int p2), (3, .int p3)] := hl
  refine lv_aload_n hx hb dX10_lay_0 rfl (lv_at hl 0 rfl) ?_
  refine gf_shelves_sort hx hb hg hown hK hP rfl (hg _ q1_66) dX10_lay_1 ?_
  refine lv_iload_n hx hb dX10_lay_4 rfl (lv_at hl 1 rfl) ?_
  refine lv_iload_n hx hb dX10_lay_5 rfl (lv_at hl 2 rfl) ?_
  refine st_Ssort hx hb hK hP hD hS (i_in (by omega) (by omega)) dX10_lay_6 (fun H locs hP hD hS => ?_)
  refine lv_aload_n hx hb dX10_lay_7 rfl (lv_at hl 0 rfl) ?_
  refine gf_shelves_size hx hb hg hown hK hP rfl (hg _ q1_67) dX10_lay_8 ?_
  refine lv_iload_n hx hb dX10_lay_11 rfl (lv_at hl 1 rfl) ?_
  refine lv_iload_n hx hb dX10_lay_12 rfl (lv_at hl 3 rfl) ?_
  refine st_Ssize hx hb hK hP hD hS (i_in (by omega) (by omega)) dX10_lay_13 (fun H locs hP hD hS => ?_)
  refine lv_aload_n hx hb dX10_lay_14 rfl (lv_at hl 0 rfl) ?_
  refine gf_shelves_rows hx hb hg hown hK hP rfl (hg _ q1_68) dX10_lay_15 ?_
  refine lv_iload_n hx hb dX10_lay_18 rfl (lv_at hl 1 rfl) ?_
  refine ld_rows hx hb hK hP rfl (i_in (by omega) (by omega)) dX10_lay_19 ?_
  refine lv_lconst (v := 0) hx hb dX10_lay_20 (by decide) ?_
  refine cS_v (As := [.ref (ad (31 + p1.toNatClampNeg)), .long 0]) (rest := []) ⟨hx, hb, hml, hown, hg⟩ (k_J7_fill_d0a16 l D cs A ad fa fq rv v (va_up (va_up a 28 (upd (a 28) p1.toNatClampNeg p2)) 29 (upd (a 29) p1.toNatClampNeg p3)) w fv fp p1.toNatClampNeg (0 : Int64) (by show p1.toInt.toNat < 6; omega)) ca_J7_fill_d0a16 q4_171 ⟨rfl, rfl⟩ ⟨Nat.le_of_ble_eq_true rfl, Nat.le_of_ble_eq_true rfl⟩  hK hP hD hS hZ rfl hl.1 rfl (Nat.le_of_ble_eq_true rfl) ⟨Nat.zero_le _, Nat.zero_le _⟩ dX10_lay_21 (fun grow_2 H locs wr_1 hP hD hS => ?_)
  have hP : va_P D vwCl (CW cs ad fa fq rv v (va_up (va_up a 28 (upd (a 28) p1.toNatClampNeg p2)) 29 (upd (a 29) p1.toNatClampNeg p3)) (va_up w p1.toNatClampNeg grow_2) fv fp) H := hP
  have hD : va_D A (CW cs ad fa fq rv v (va_up (va_up a 28 (upd (a 28) p1.toNatClampNeg p2)) 29 (upd (a 29) p1.toNatClampNeg p3)) (va_up w p1.toNatClampNeg grow_2) fv fp) := hD
  have wr_1_0 : ∀ j, j < 60 → grow_2 j = (0 : Int64) := wr_1
  exact W.vret hx hb hr (fun tt ht hW => ⟨⟨⟨(upd (a 28) p1.toNatClampNeg p2), (upd (a 29) p1.toNatClampNeg p3), grow_2⟩, rfl, ⟨(by first | rfl | omega | trivial | assumption), (by first | rfl | omega | trivial | assumption), (by assumption)⟩, by rw [ht]; exact hP, hD⟩, hS.F ht⟩) hS.2.2 dX10_lay_24
set_option maxHeartbeats 4000000 in
set_option maxRecDepth 100000 in
theorem k_X0_has (l : Launch) (D : va_G) (cs : Nat → ClassId) (A : Nat → Prop) (ad fa fq rv : Nat → Nat) (v : Nat → Int32) (a : Nat → Nat → Int32) (w : Nat → Nat → Int64) (fv fp : Nat → Nat → Int32)  (p1 : Int32)  : Met l yX0_has (Cond.code yX0_has cX0_has 2 (some .boolean) :: gw) ({ frames := 0, cells := 0, slots := 0, locals := 0 }) (va_Pc [.ref (ad 9), .int p1] (XPre D (TY cs) (CW cs ad fa fq rv v a w fv fp) A)) (vp_Si (fun (r : Int32) => (r.toInt = 1 ∧ 0 ≤ p1.toInt ∧ p1.toInt < (v 21).toInt) ∨ (r.toInt = 0 ∧ ¬ (0 ≤ p1.toInt ∧ p1.toInt < (v 21).toInt)))) 0 0 (fun _ => False) := by
  refine Met.ofW (cc := cX0_has) (maxL := 2) (ret := (some .boolean)) (by decide) rfl ?_
  intro p e s m args below meth c s₁ B hml hv
  obtain ⟨rfl, hP, hK, hD, hZ⟩ := hv
  have hx := B.exec
  have hb := B.bytes
  have hr := B.returns
  have hts := atoms_spec (ws := (Cond.code yX0_has cX0_has 2 (some .boolean) :: gw)) B.pre
  have hg : ∀ w ∈ gw, w.before ([.ref (ad 9), .int p1] : List Value).toArray s = true := fun w h => hts w (List.mem_cons_of_mem _ h)
  have hown : s.vm.findClass RX0 = some m.cls := findClass_of_methodNamed B.named
  have hlocks := B.notSynchronized
  have hS : va_S A s.heap s.heap [] := va_S.rf
  have hl := lv_entry ([.ref (ad 9), .int p1]) (n := 2) (Nat.le_of_ble_eq_true rfl)
  rw [lg_entry_eq]
  generalize (lg_sl ([.ref (ad 9), .int p1]) ++ List.replicate (2 - (lg_sl ([.ref (ad 9), .int p1])).length) Slot.unset).toArray = ls at hl ⊢
  have hl : lv_has ls 2 [(0, .ref (ad 9)), (1, .int p1)] := hl
  refine lv_iload_n hx hb dX0_has_0 rfl (lv_at hl 1 rfl) ?_
  refine lv_if_lt (tgt := 16) hx hb dX0_has_1 (by decide) (fun c_1 => ?_) (fun c_1 => ?_)
  ·
    have kc_1 : p1.toInt < (0 : Int) := i_lt c_1
    refine lv_iconst (v := 0) hx hb dX0_has_16 (by decide) ?_
    have q0_0 : (0 : Int32).toInt = 0 := rfl
    exact W.zret (v := 0) hx hb hr rfl (fun tt ht hW => ⟨0, rfl, (by first | rfl | omega | trivial | assumption), ht⟩) (fun _ h => by cases h) dX0_has_17
  ·
    have kc_1 : (0 : Int) ≤ p1.toInt := i_nlt c_1
    refine lv_iload_n hx hb dX0_has_4 rfl (lv_at hl 1 rfl) ?_
    refine lv_aload_n hx hb dX0_has_5 rfl (lv_at hl 0 rfl) ?_
    refine gf_acts_made hx hb hg hown hK hP (x := (v 21)) rfl (hg _ q1_84) dX0_has_6 ?_
    refine lv_icmp_ge (tgt := 16) hx hb dX0_has_9 (by decide) (fun c_2 => ?_) (fun c_2 => ?_)
    ·
      have kc_2 : (v 21).toInt ≤ p1.toInt := i_le c_2
      refine lv_iconst (v := 0) hx hb dX0_has_16 (by decide) ?_
      have q0_0 : (0 : Int32).toInt = 0 := rfl
      exact W.zret (v := 0) hx hb hr rfl (fun tt ht hW => ⟨0, rfl, (by first | rfl | omega | trivial | assumption), ht⟩) (fun _ h => by cases h) dX0_has_17
    ·
      have kc_2 : p1.toInt < (v 21).toInt := i_nle c_2
      refine lv_iconst (v := 1) hx hb dX0_has_12 (by decide) ?_
      refine lv_goto (tgt := 17) hx hb dX0_has_13 (by decide) ?_
      have q0_1 : (1 : Int32).toInt = 1 := rfl
      exact W.zret (v := 1) hx hb hr rfl (fun tt ht hW => ⟨1, rfl, (by first | rfl | omega | trivial | assumption), ht⟩) (fun _ h => by cases h) dX0_has_17
set_option maxHeartbeats 4000000 in
set_option maxRecDepth 100000 in
theorem k_X11_isTold (l : Launch) (D : va_G) (cs : Nat → ClassId) (A : Nat → Prop) (ad fa fq rv : Nat → Nat) (v : Nat → Int32) (a : Nat → Nat → Int32) (w : Nat → Nat → Int64) (fv fp : Nat → Nat → Int32)  (p1 : Int32) (p2 : Int32)  : Met l yX11_isTold (Cond.code yX11_isTold cX11_isTold 3 (some .boolean) :: gw) ({ frames := 1, cells := 0, slots := 0, locals := 21 }) (va_Pc [.ref (ad 0), .int p1, .int p2] (XPre D (TY cs) (CW cs ad fa fq rv v a w fv fp) A)) (vp_Si (fun (r : Int32) => (r.toInt = 1 ∧ ((0 ≤ p2.toInt ∧ p2.toInt ≤ 3 ∧ 0 ≤ p1.toInt ∧ p1.toInt < (v 1).toInt) ∨ (4 ≤ p2.toInt ∧ p2.toInt ≤ 7 ∧ p1.toInt = 0))) ∨ (r.toInt = 0 ∧ ¬ (((0 ≤ p2.toInt ∧ p2.toInt ≤ 3 ∧ 0 ≤ p1.toInt ∧ p1.toInt < (v 1).toInt) ∨ (4 ≤ p2.toInt ∧ p2.toInt ≤ 7 ∧ p1.toInt = 0)))))) 0 0 (fun _ => False) := by
  refine Met.ofW (cc := cX11_isTold) (maxL := 3) (ret := (some .boolean)) (by decide) rfl ?_
  intro p e s m args below meth c s₁ B hml hv
  obtain ⟨rfl, hP, hK, hD, hZ⟩ := hv
  have hx := B.exec
  have hb := B.bytes
  have hr := B.returns
  have hts := atoms_spec (ws := (Cond.code yX11_isTold cX11_isTold 3 (some .boolean) :: gw)) B.pre
  have hg : ∀ w ∈ gw, w.before ([.ref (ad 0), .int p1, .int p2] : List Value).toArray s = true := fun w h => hts w (List.mem_cons_of_mem _ h)
  have hown : s.vm.findClass RX11 = some m.cls := findClass_of_methodNamed B.named
  have hlocks := B.notSynchronized
  have hS : va_S A s.heap s.heap [] := va_S.rf
  have hl := lv_entry ([.ref (ad 0), .int p1, .int p2]) (n := 3) (Nat.le_of_ble_eq_true rfl)
  rw [lg_entry_eq]
  generalize (lg_sl ([.ref (ad 0), .int p1, .int p2]) ++ List.replicate (3 - (lg_sl ([.ref (ad 0), .int p1, .int p2])).length) Slot.unset).toArray = ls at hl ⊢
  have hl : lv_has ls 3 [(0, .ref (ad 0)), (1, .int p1), (2, .int p2)] := hl
  refine lv_iload_n hx hb dX11_isTold_0 rfl (lv_at hl 2 rfl) ?_
  refine lv_if_lt (tgt := 18) hx hb dX11_isTold_1 (by decide) (fun c_1 => ?_) (fun c_1 => ?_)
  ·
    have kc_1 : p2.toInt < (0 : Int) := i_lt c_1
    refine lv_iload_n hx hb dX11_isTold_18 rfl (lv_at hl 2 rfl) ?_
    refine lv_iconst (v := 4) hx hb dX11_isTold_19 (by decide) ?_
    refine lv_icmp_lt (tgt := 37) hx hb dX11_isTold_20 (by decide) (fun c_2 => ?_) (fun c_2 => ?_)
    ·
      have kc_2 : p2.toInt < (4 : Int) := i_lt c_2
      refine lv_iconst (v := 0) hx hb dX11_isTold_37 (by decide) ?_
      have q0_0 : (0 : Int32).toInt = 0 := rfl
      exact W.zret (v := 0) hx hb hr rfl (fun tt ht hW => ⟨0, rfl, (by first | rfl | omega | trivial | assumption), ht⟩) (fun _ h => by cases h) dX11_isTold_38
    ·
      have kc_2 : (4 : Int) ≤ p2.toInt := i_nlt c_2
      exfalso; omega
  ·
    have kc_1 : (0 : Int) ≤ p2.toInt := i_nlt c_1
    refine lv_iload_n hx hb dX11_isTold_4 rfl (lv_at hl 2 rfl) ?_
    refine lv_iconst (v := 3) hx hb dX11_isTold_5 (by decide) ?_
    refine lv_icmp_gt (tgt := 18) hx hb dX11_isTold_6 (by decide) (fun c_3 => ?_) (fun c_3 => ?_)
    ·
      have kc_3 : (3 : Int) < p2.toInt := i_lt c_3
      refine lv_iload_n hx hb dX11_isTold_18 rfl (lv_at hl 2 rfl) ?_
      refine lv_iconst (v := 4) hx hb dX11_isTold_19 (by decide) ?_
      refine lv_icmp_lt (tgt := 37) hx hb dX11_isTold_20 (by decide) (fun c_4 => ?_) (fun c_4 => ?_)
      ·
        have kc_4 : p2.toInt < (4 : Int) := i_lt c_4
        exfalso; omega
      ·
        have kc_4 : (4 : Int) ≤ p2.toInt := i_nlt c_4
        refine lv_iload_n hx hb dX11_isTold_23 rfl (lv_at hl 2 rfl) ?_
        refine lv_bipush (v := 7) hx hb dX11_isTold_24 (by decide) ?_
        refine lv_icmp_gt (tgt := 37) hx hb dX11_isTold_26 (by decide) (fun c_5 => ?_) (fun c_5 => ?_)
        ·
          have kc_5 : (7 : Int) < p2.toInt := i_lt c_5
          refine lv_iconst (v := 0) hx hb dX11_isTold_37 (by decide) ?_
          have q0_0 : (0 : Int32).toInt = 0 := rfl
          exact W.zret (v := 0) hx hb hr rfl (fun tt ht hW => ⟨0, rfl, (by first | rfl | omega | trivial | assumption), ht⟩) (fun _ h => by cases h) dX11_isTold_38
        ·
          have kc_5 : p2.toInt ≤ (7 : Int) := i_nlt c_5
          refine lv_iload_n hx hb dX11_isTold_29 rfl (lv_at hl 1 rfl) ?_
          refine lv_if_ne (tgt := 37) hx hb dX11_isTold_30 (by decide) (fun c_6 => ?_) (fun c_6 => ?_)
          ·
            have kc_6 : p1.toInt ≠ (0 : Int) := i_ne c_6
            refine lv_iconst (v := 0) hx hb dX11_isTold_37 (by decide) ?_
            have q0_0 : (0 : Int32).toInt = 0 := rfl
            exact W.zret (v := 0) hx hb hr rfl (fun tt ht hW => ⟨0, rfl, (by first | rfl | omega | trivial | assumption), ht⟩) (fun _ h => by cases h) dX11_isTold_38
          ·
            have kc_6 : p1.toInt = (0 : Int) := i_eq c_6
            refine lv_iconst (v := 1) hx hb dX11_isTold_33 (by decide) ?_
            refine lv_goto (tgt := 38) hx hb dX11_isTold_34 (by decide) ?_
            have q0_1 : (1 : Int32).toInt = 1 := rfl
            exact W.zret (v := 1) hx hb hr rfl (fun tt ht hW => ⟨1, rfl, (by first | rfl | omega | trivial | assumption), ht⟩) (fun _ h => by cases h) dX11_isTold_38
    ·
      have kc_3 : p2.toInt ≤ (3 : Int) := i_nlt c_3
      refine lv_aload_n hx hb dX11_isTold_9 rfl (lv_at hl 0 rfl) ?_
      refine gf_main_parish hx hb hg hown hK hP rfl (hg _ q2_123) dX11_isTold_10 ?_
      refine lv_iload_n hx hb dX11_isTold_13 rfl (lv_at hl 1 rfl) ?_
      refine cV_ro (As := [.int p1]) (rest := []) ⟨hx, hb, hml, hown, hg⟩ (k_X9_has l D cs A ad fa fq rv v a w fv fp  p1 ) ca_X9_has q3_4 ⟨rfl, rfl⟩ ⟨Nat.le_of_ble_eq_true rfl, Nat.le_of_ble_eq_true rfl⟩ (rc_parish hK hP) hK hP hD hS hZ rfl hl.1 rfl (Nat.le_of_ble_eq_true rfl) ⟨Nat.zero_le _, Nat.zero_le _⟩ dX11_isTold_14 (fun r_7 wr_7 => ?_)
      have wr_7 : (r_7.toInt = 1 ∧ 0 ≤ p1.toInt ∧ p1.toInt < (v 1).toInt) ∨ (r_7.toInt = 0 ∧ ¬ (0 ≤ p1.toInt ∧ p1.toInt < (v 1).toInt)) := wr_7
      exact W.zret (v := r_7) hx hb hr (i_nb (by omega) (by omega)) (fun tt ht hW => ⟨r_7, rfl, (by first | rfl | omega | trivial | assumption), ht⟩) (fun _ h => by cases h) dX11_isTold_17
