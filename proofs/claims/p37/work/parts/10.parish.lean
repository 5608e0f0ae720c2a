set_option maxHeartbeats 4000000 in
set_option maxRecDepth 100000 in
theorem k_X10_isShelf (l : Launch)   (p1 : Int32)  : Met l yX10_isShelf (Cond.code yX10_isShelf cX10_isShelf 1 (some .boolean) :: gw) ({ frames := 0, cells := 0, slots := 0, locals := 0 }) (fun v _ => v = ([.int p1] : List Value).toArray) (vp_Si (fun (r : Int32) => (r.toInt = 1 ∧ 0 ≤ p1.toInt ∧ p1.toInt < 6) ∨ (r.toInt = 0 ∧ ¬ (0 ≤ p1.toInt ∧ p1.toInt < 6)))) 0 0 (fun _ => False) := by
  refine Met.ofW (cc := cX10_isShelf) (maxL := 1) (ret := (some .boolean)) (by decide) rfl ?_
  intro p e s m args below meth c s₁ B hml hv
  subst hv
  have hx := B.exec
  have hb := B.bytes
  have hr := B.returns
  have hts := atoms_spec (ws := (Cond.code yX10_isShelf cX10_isShelf 1 (some .boolean) :: gw)) B.pre
  have hg : ∀ w ∈ gw, w.before ([.int p1] : List Value).toArray s = true := fun w h => hts w (List.mem_cons_of_mem _ h)
  have hown : s.vm.findClass RX10 = some m.cls := findClass_of_methodNamed B.named
  have hlocks := B.notSynchronized
  have hl := lv_entry ([.int p1]) (n := 1) (Nat.le_of_ble_eq_true rfl)
  rw [lg_entry_eq]
  generalize (lg_sl ([.int p1]) ++ List.replicate (1 - (lg_sl ([.int p1])).length) Slot.unset).toArray = ls at hl ⊢
  have hl : lv_has ls 1 [(0, .int p1)] := hl
  refine lv_iload_n hx hb dX10_isShelf_0 rfl (lv_at hl 0 rfl) ?_
  refine lv_if_lt (tgt := 14) hx hb dX10_isShelf_1 (by decide) (fun c_1 => ?_) (fun c_1 => ?_)
  ·
    have kc_1 : p1.toInt < (0 : Int) := i_lt c_1
    refine lv_iconst (v := 0) hx hb dX10_isShelf_14 (by decide) ?_
    have q0_0 : (0 : Int32).toInt = 0 := rfl
    exact W.zret (v := 0) hx hb hr rfl (fun tt ht hW => ⟨0, rfl, (by first | rfl | omega | trivial | assumption | (dsimp only; first | omega | assumption)), ht⟩) (fun _ h => by cases h) dX10_isShelf_15
  ·
    have kc_1 : (0 : Int) ≤ p1.toInt := i_nlt c_1
    refine lv_iload_n hx hb dX10_isShelf_4 rfl (lv_at hl 0 rfl) ?_
    refine lv_bipush (v := 6) hx hb dX10_isShelf_5 (by decide) ?_
    refine lv_icmp_ge (tgt := 14) hx hb dX10_isShelf_7 (by decide) (fun c_2 => ?_) (fun c_2 => ?_)
    ·
      have kc_2 : (6 : Int) ≤ p1.toInt := i_le c_2
      refine lv_iconst (v := 0) hx hb dX10_isShelf_14 (by decide) ?_
      have q0_0 : (0 : Int32).toInt = 0 := rfl
      exact W.zret (v := 0) hx hb hr rfl (fun tt ht hW => ⟨0, rfl, (by first | rfl | omega | trivial | assumption | (dsimp only; first | omega | assumption)), ht⟩) (fun _ h => by cases h) dX10_isShelf_15
    ·
      have kc_2 : p1.toInt < (6 : Int) := i_nle c_2
      refine lv_iconst (v := 1) hx hb dX10_isShelf_10 (by decide) ?_
      refine lv_goto (tgt := 15) hx hb dX10_isShelf_11 (by decide) ?_
      have q0_1 : (1 : Int32).toInt = 1 := rfl
      exact W.zret (v := 1) hx hb hr rfl (fun tt ht hW => ⟨1, rfl, (by first | rfl | omega | trivial | assumption | (dsimp only; first | omega | assumption)), ht⟩) (fun _ h => by cases h) dX10_isShelf_15
set_option maxHeartbeats 4000000 in
set_option maxRecDepth 100000 in
theorem k_X0_isKind (l : Launch)   (p1 : Int32)  : Met l yX0_isKind (Cond.code yX0_isKind cX0_isKind 1 (some .boolean) :: gw) ({ frames := 0, cells := 0, slots := 0, locals := 0 }) (fun v _ => v = ([.int p1] : List Value).toArray) (vp_Si (fun (r : Int32) => (r.toInt = 1 ∧ 0 ≤ p1.toInt ∧ p1.toInt ≤ 7) ∨ (r.toInt = 0 ∧ ¬ (0 ≤ p1.toInt ∧ p1.toInt ≤ 7)))) 0 0 (fun _ => False) := by
  refine Met.ofW (cc := cX0_isKind) (maxL := 1) (ret := (some .boolean)) (by decide) rfl ?_
  intro p e s m args below meth c s₁ B hml hv
  subst hv
  have hx := B.exec
  have hb := B.bytes
  have hr := B.returns
  have hts := atoms_spec (ws := (Cond.code yX0_isKind cX0_isKind 1 (some .boolean) :: gw)) B.pre
  have hg : ∀ w ∈ gw, w.before ([.int p1] : List Value).toArray s = true := fun w h => hts w (List.mem_cons_of_mem _ h)
  have hown : s.vm.findClass RX0 = some m.cls := findClass_of_methodNamed B.named
  have hlocks := B.notSynchronized
  have hl := lv_entry ([.int p1]) (n := 1) (Nat.le_of_ble_eq_true rfl)
  rw [lg_entry_eq]
  generalize (lg_sl ([.int p1]) ++ List.replicate (1 - (lg_sl ([.int p1])).length) Slot.unset).toArray = ls at hl ⊢
  have hl : lv_has ls 1 [(0, .int p1)] := hl
  refine lv_iload_n hx hb dX0_isKind_0 rfl (lv_at hl 0 rfl) ?_
  refine lv_if_lt (tgt := 14) hx hb dX0_isKind_1 (by decide) (fun c_1 => ?_) (fun c_1 => ?_)
  ·
    have kc_1 : p1.toInt < (0 : Int) := i_lt c_1
    refine lv_iconst (v := 0) hx hb dX0_isKind_14 (by decide) ?_
    have q0_0 : (0 : Int32).toInt = 0 := rfl
    exact W.zret (v := 0) hx hb hr rfl (fun tt ht hW => ⟨0, rfl, (by first | rfl | omega | trivial | assumption | (dsimp only; first | omega | assumption)), ht⟩) (fun _ h => by cases h) dX0_isKind_15
  ·
    have kc_1 : (0 : Int) ≤ p1.toInt := i_nlt c_1
    refine lv_iload_n hx hb dX0_isKind_4 rfl (lv_at hl 0 rfl) ?_
    refine lv_bipush (v := 7) hx hb dX0_isKind_5 (by decide) ?_
    refine lv_icmp_gt (tgt := 14) hx hb dX0_isKind_7 (by decide) (fun c_2 => ?_) (fun c_2 => ?_)
    ·
      have kc_2 : (7 : Int) < p1.toInt := i_lt c_2
      refine lv_iconst (v := 0) hx hb dX0_isKind_14 (by decide) ?_
      have q0_0 : (0 : Int32).toInt = 0 := rfl
      exact W.zret (v := 0) hx hb hr rfl (fun tt ht hW => ⟨0, rfl, (by first | rfl | omega | trivial | assumption | (dsimp only; first | omega | assumption)), ht⟩) (fun _ h => by cases h) dX0_isKind_15
    ·
      have kc_2 : p1.toInt ≤ (7 : Int) := i_nlt c_2
      refine lv_iconst (v := 1) hx hb dX0_isKind_10 (by decide) ?_
      refine lv_goto (tgt := 15) hx hb dX0_isKind_11 (by decide) ?_
      have q0_1 : (1 : Int32).toInt = 1 := rfl
      exact W.zret (v := 1) hx hb hr rfl (fun tt ht hW => ⟨1, rfl, (by first | rfl | omega | trivial | assumption | (dsimp only; first | omega | assumption)), ht⟩) (fun _ h => by cases h) dX0_isKind_15
set_option maxHeartbeats 4000000 in
set_option maxRecDepth 100000 in
theorem k_X11_isCell (l : Launch)   (p1 : Int32)  : Met l yX11_isCell (Cond.code yX11_isCell cX11_isCell 1 (some .boolean) :: gw) ({ frames := 0, cells := 0, slots := 0, locals := 0 }) (fun v _ => v = ([.int p1] : List Value).toArray) (vp_Si (fun (r : Int32) => (r.toInt = 1 ∧ 0 ≤ p1.toInt ∧ p1.toInt < 256) ∨ (r.toInt = 0 ∧ ¬ (0 ≤ p1.toInt ∧ p1.toInt < 256)))) 0 0 (fun _ => False) := by
  refine Met.ofW (cc := cX11_isCell) (maxL := 1) (ret := (some .boolean)) (by decide) rfl ?_
  intro p e s m args below meth c s₁ B hml hv
  subst hv
  have hx := B.exec
  have hb := B.bytes
  have hr := B.returns
  have hts := atoms_spec (ws := (Cond.code yX11_isCell cX11_isCell 1 (some .boolean) :: gw)) B.pre
  have hg : ∀ w ∈ gw, w.before ([.int p1] : List Value).toArray s = true := fun w h => hts w (List.mem_cons_of_mem _ h)
  have hown : s.vm.findClass RX11 = some m.cls := findClass_of_methodNamed B.named
  have hlocks := B.notSynchronized
  have hl := lv_entry ([.int p1]) (n := 1) (Nat.le_of_ble_eq_true rfl)
  rw [lg_entry_eq]
  generalize (lg_sl ([.int p1]) ++ List.replicate (1 - (lg_sl ([.int p1])).length) Slot.unset).toArray = ls at hl ⊢
  have hl : lv_has ls 1 [(0, .int p1)] := hl
  refine lv_iload_n hx hb dX11_isCell_0 rfl (lv_at hl 0 rfl) ?_
  refine lv_if_lt (tgt := 15) hx hb dX11_isCell_1 (by decide) (fun c_1 => ?_) (fun c_1 => ?_)
  ·
    have kc_1 : p1.toInt < (0 : Int) := i_lt c_1
    refine lv_iconst (v := 0) hx hb dX11_isCell_15 (by decide) ?_
    have q0_0 : (0 : Int32).toInt = 0 := rfl
    exact W.zret (v := 0) hx hb hr rfl (fun tt ht hW => ⟨0, rfl, (by first | rfl | omega | trivial | assumption | (dsimp only; first | omega | assumption)), ht⟩) (fun _ h => by cases h) dX11_isCell_16
  ·
    have kc_1 : (0 : Int) ≤ p1.toInt := i_nlt c_1
    refine lv_iload_n hx hb dX11_isCell_4 rfl (lv_at hl 0 rfl) ?_
    refine lv_sipush (v := 256) hx hb dX11_isCell_5 (by decide) ?_
    refine lv_icmp_ge (tgt := 15) hx hb dX11_isCell_8 (by decide) (fun c_2 => ?_) (fun c_2 => ?_)
    ·
      have kc_2 : (256 : Int) ≤ p1.toInt := i_le c_2
      refine lv_iconst (v := 0) hx hb dX11_isCell_15 (by decide) ?_
      have q0_0 : (0 : Int32).toInt = 0 := rfl
      exact W.zret (v := 0) hx hb hr rfl (fun tt ht hW => ⟨0, rfl, (by first | rfl | omega | trivial | assumption | (dsimp only; first | omega | assumption)), ht⟩) (fun _ h => by cases h) dX11_isCell_16
    ·
      have kc_2 : p1.toInt < (256 : Int) := i_nle c_2
      refine lv_iconst (v := 1) hx hb dX11_isCell_11 (by decide) ?_
      refine lv_goto (tgt := 16) hx hb dX11_isCell_12 (by decide) ?_
      have q0_1 : (1 : Int32).toInt = 1 := rfl
      exact W.zret (v := 1) hx hb hr rfl (fun tt ht hW => ⟨1, rfl, (by first | rfl | omega | trivial | assumption | (dsimp only; first | omega | assumption)), ht⟩) (fun _ h => by cases h) dX11_isCell_16
set_option maxHeartbeats 4000000 in
set_option maxRecDepth 100000 in
theorem k_X9_apart (l : Launch)   (p1 : Int32) (p2 : Int32)  : Met l yX9_apart (Cond.code yX9_apart cX9_apart 4 (some .int) :: gw) ({ frames := 0, cells := 0, slots := 0, locals := 0 }) (fun v _ => v = ([.int p1, .int p2] : List Value).toArray) (vp_Si (fun (r : Int32) => True)) 0 0 (fun _ => False) := by
  refine Met.ofW (cc := cX9_apart) (maxL := 4) (ret := (some .int)) (by decide) rfl ?_
  intro p e s m args below meth c s₁ B hml hv
  subst hv
  have hx := B.exec
  have hb := B.bytes
  have hr := B.returns
  have hts := atoms_spec (ws := (Cond.code yX9_apart cX9_apart 4 (some .int) :: gw)) B.pre
  have hg : ∀ w ∈ gw, w.before ([.int p1, .int p2] : List Value).toArray s = true := fun w h => hts w (List.mem_cons_of_mem _ h)
  have hown : s.vm.findClass RX9 = some m.cls := findClass_of_methodNamed B.named
  have hlocks := B.notSynchronized
  have hl := lv_entry ([.int p1, .int p2]) (n := 4) (Nat.le_of_ble_eq_true rfl)
  rw [lg_entry_eq]
  generalize (lg_sl ([.int p1, .int p2]) ++ List.replicate (4 - (lg_sl ([.int p1, .int p2])).length) Slot.unset).toArray = ls at hl ⊢
  have hl : lv_has ls 4 [(0, .int p1), (1, .int p2)] := hl
  refine lv_iload_n hx hb dX9_apart_0 rfl (lv_at hl 0 rfl) ?_
  refine lv_bipush (v := 15) hx hb dX9_apart_1 (by decide) ?_
  refine lv_iand hx hb dX9_apart_3 ?_
  refine lv_topi (fun x_1 ex_1 => ?_)
  refine lv_iload_n hx hb dX9_apart_4 rfl (lv_at hl 1 rfl) ?_
  refine lv_bipush (v := 15) hx hb dX9_apart_5 (by decide) ?_
  refine lv_iand hx hb dX9_apart_7 ?_
  refine lv_topi (fun x_2 ex_2 => ?_)
  refine lv_isub hx hb dX9_apart_8 ?_
  refine lv_topi (fun x_3 ex_3 => ?_)
  refine lv_istore_n (lv' := [(2, .int x_3), (0, .int p1), (1, .int p2)]) hx hb dX9_apart_9 rfl hl (by decide) rfl (fun ls hl => ?_)
  refine lv_iload_n hx hb dX9_apart_10 rfl (lv_at hl 1 rfl) ?_
  refine lv_iconst (v := 4) hx hb dX9_apart_11 (by decide) ?_
  refine lv_ishr hx hb dX9_apart_12 ?_
  refine lv_topi (fun x_4 ex_4 => ?_)
  refine lv_iload_n hx hb dX9_apart_13 rfl (lv_at hl 2 rfl) ?_
  refine lv_iconst (v := 4) hx hb dX9_apart_14 (by decide) ?_
  refine lv_ishr hx hb dX9_apart_15 ?_
  refine lv_topi (fun x_5 ex_5 => ?_)
  refine lv_isub hx hb dX9_apart_16 ?_
  refine lv_topi (fun x_6 ex_6 => ?_)
  refine lv_istore_n (lv' := [(3, .int x_6), (2, .int x_3), (0, .int p1), (1, .int p2)]) hx hb dX9_apart_17 rfl hl (by decide) rfl (fun ls hl => ?_)
  refine lv_iload_n hx hb dX9_apart_18 rfl (lv_at hl 1 rfl) ?_
  refine lv_if_ge (tgt := 27) hx hb dX9_apart_19 (by decide) (fun c_7 => ?_) (fun c_7 => ?_)
  ·
    have kc_7 : (0 : Int) ≤ x_3.toInt := i_le c_7
    refine lv_iload_n hx hb dX9_apart_27 rfl (lv_at hl 1 rfl) ?_
    refine lv_iload_n hx hb dX9_apart_28 rfl (lv_at hl 0 rfl) ?_
    refine lv_if_ge (tgt := 37) hx hb dX9_apart_29 (by decide) (fun c_8 => ?_) (fun c_8 => ?_)
    ·
      have kc_8 : (0 : Int) ≤ x_6.toInt := i_le c_8
      refine lv_iload_n hx hb dX9_apart_37 rfl (lv_at hl 0 rfl) ?_
      refine lv_iadd hx hb dX9_apart_38 ?_
      refine lv_topi (fun x_9 ex_9 => ?_)
      exact W.iret (v := x_9) hx hb hr (fun tt ht hW => ⟨x_9, rfl, trivial, ht⟩) (fun _ h => by cases h) dX9_apart_39
    ·
      have kc_8 : x_6.toInt < (0 : Int) := i_nle c_8
      refine lv_iload_n hx hb dX9_apart_32 rfl (lv_at hl 0 rfl) ?_
      refine lv_ineg hx hb dX9_apart_33 ?_
      refine lv_topi (fun x_10 ex_10 => ?_)
      refine lv_goto (tgt := 38) hx hb dX9_apart_34 (by decide) ?_
      refine lv_iadd hx hb dX9_apart_38 ?_
      refine lv_topi (fun x_11 ex_11 => ?_)
      exact W.iret (v := x_11) hx hb hr (fun tt ht hW => ⟨x_11, rfl, trivial, ht⟩) (fun _ h => by cases h) dX9_apart_39
  ·
    have kc_7 : x_3.toInt < (0 : Int) := i_nle c_7
    refine lv_iload_n hx hb dX9_apart_22 rfl (lv_at hl 1 rfl) ?_
    refine lv_ineg hx hb dX9_apart_23 ?_
    refine lv_topi (fun x_12 ex_12 => ?_)
    refine lv_goto (tgt := 28) hx hb dX9_apart_24 (by decide) ?_
    refine lv_iload_n hx hb dX9_apart_28 rfl (lv_at hl 0 rfl) ?_
    refine lv_if_ge (tgt := 37) hx hb dX9_apart_29 (by decide) (fun c_13 => ?_) (fun c_13 => ?_)
    ·
      have kc_13 : (0 : Int) ≤ x_6.toInt := i_le c_13
      refine lv_iload_n hx hb dX9_apart_37 rfl (lv_at hl 0 rfl) ?_
      refine lv_iadd hx hb dX9_apart_38 ?_
      refine lv_topi (fun x_14 ex_14 => ?_)
      exact W.iret (v := x_14) hx hb hr (fun tt ht hW => ⟨x_14, rfl, trivial, ht⟩) (fun _ h => by cases h) dX9_apart_39
    ·
      have kc_13 : x_6.toInt < (0 : Int) := i_nle c_13
      refine lv_iload_n hx hb dX9_apart_32 rfl (lv_at hl 0 rfl) ?_
      refine lv_ineg hx hb dX9_apart_33 ?_
      refine lv_topi (fun x_15 ex_15 => ?_)
      refine lv_goto (tgt := 38) hx hb dX9_apart_34 (by decide) ?_
      refine lv_iadd hx hb dX9_apart_38 ?_
      refine lv_topi (fun x_16 ex_16 => ?_)
      exact W.iret (v := x_16) hx hb hr (fun tt ht hW => ⟨x_16, rfl, trivial, ht⟩) (fun _ h => by cases h) dX9_apart_39
set_option maxHeartbeats 4000000 in
set_option maxRecDepth 100000 in
theorem k_J6_bitCount_0f7a4 (l : Launch)   (p1 : Int32)  : Met l yJ6_bitCount_0f7a4 (Cond.code yJ6_bitCount_0f7a4 cJ6_bitCount_0f7a4 1 (some .int) :: gw) ({ frames := 0, cells := 0, slots := 0, locals := 0 }) (fun v _ => v = ([.int p1] : List Value).toArray) (vp_Si (fun (r : Int32) => True)) 0 0 (fun _ => False) := by
  refine Met.ofW (cc := cJ6_bitCount_0f7a4) (maxL := 1) (ret := (some .int)) (by decide) rfl ?_
  intro p e s m args below meth c s₁ B hml hv
  subst hv
  have hx := B.exec
  have hb := B.bytes
  have hr := B.returns
  have hts := atoms_spec (ws := (Cond.code yJ6_bitCount_0f7a4 cJ6_bitCount_0f7a4 1 (some .int) :: gw)) B.pre
  have hg : ∀ w ∈ gw, w.before ([.int p1] : List Value).toArray s = true := fun w h => hts w (List.mem_cons_of_mem _ h)
  have hown : s.vm.findClass RJ6 = some m.cls := findClass_of_methodNamed B.named
  have hlocks := B.notSynchronized
  have hl := lv_entry ([.int p1]) (n := 1) (Nat.le_of_ble_eq_true rfl)
  rw [lg_entry_eq]
  generalize (lg_sl ([.int p1]) ++ List.replicate (1 - (lg_sl ([.int p1])).length) Slot.unset).toArray = ls at hl ⊢
  have hl : lv_has ls 1 [(0, .int p1)] := hl
  refine lv_iload_n hx hb dJ6_bitCount_0f7a4_0 rfl (lv_at hl 0 rfl) ?_
  refine lv_iload_n hx hb dJ6_bitCount_0f7a4_1 rfl (lv_at hl 0 rfl) ?_
  refine lv_iconst (v := 1) hx hb dJ6_bitCount_0f7a4_2 (by decide) ?_
  refine lv_iushr hx hb dJ6_bitCount_0f7a4_3 rfl ?_
  refine lv_topi (fun x_1 ex_1 => ?_)
  refine lv_ldcw hx hb hown (v := 1431655765) (hg _ q2_198) dJ6_bitCount_0f7a4_4 ?_
  refine lv_iand hx hb dJ6_bitCount_0f7a4_7 ?_
  refine lv_topi (fun x_2 ex_2 => ?_)
  refine lv_isub hx hb dJ6_bitCount_0f7a4_8 ?_
  refine lv_topi (fun x_3 ex_3 => ?_)
  refine lv_istore_n (lv' := [(0, .int x_3)]) hx hb dJ6_bitCount_0f7a4_9 rfl hl (by decide) rfl (fun ls hl => ?_)
  refine lv_iload_n hx hb dJ6_bitCount_0f7a4_10 rfl (lv_at hl 0 rfl) ?_
  refine lv_ldcw hx hb hown (v := 858993459) (hg _ q2_199) dJ6_bitCount_0f7a4_11 ?_
  refine lv_iand hx hb dJ6_bitCount_0f7a4_14 ?_
  refine lv_topi (fun x_4 ex_4 => ?_)
  refine lv_iload_n hx hb dJ6_bitCount_0f7a4_15 rfl (lv_at hl 0 rfl) ?_
  refine lv_iconst (v := 2) hx hb dJ6_bitCount_0f7a4_16 (by decide) ?_
  refine lv_iushr hx hb dJ6_bitCount_0f7a4_17 rfl ?_
  refine lv_topi (fun x_5 ex_5 => ?_)
  refine lv_ldcw hx hb hown (v := 858993459) (hg _ q2_199) dJ6_bitCount_0f7a4_18 ?_
  refine lv_iand hx hb dJ6_bitCount_0f7a4_21 ?_
  refine lv_topi (fun x_6 ex_6 => ?_)
  refine lv_iadd hx hb dJ6_bitCount_0f7a4_22 ?_
  refine lv_topi (fun x_7 ex_7 => ?_)
  refine lv_istore_n (lv' := [(0, .int x_7)]) hx hb dJ6_bitCount_0f7a4_23 rfl hl (by decide) rfl (fun ls hl => ?_)
  refine lv_iload_n hx hb dJ6_bitCount_0f7a4_24 rfl (lv_at hl 0 rfl) ?_
  refine lv_iload_n hx hb dJ6_bitCount_0f7a4_25 rfl (lv_at hl 0 rfl) ?_
  refine lv_iconst (v := 4) hx hb dJ6_bitCount_0f7a4_26 (by decide) ?_
  refine lv_iushr hx hb dJ6_bitCount_0f7a4_27 rfl ?_
  refine lv_topi (fun x_8 ex_8 => ?_)
  refine lv_iadd hx hb dJ6_bitCount_0f7a4_28 ?_
  refine lv_topi (fun x_9 ex_9 => ?_)
  refine lv_ldcw hx hb hown (v := 252645135) (hg _ q2_200) dJ6_bitCount_0f7a4_29 ?_
  refine lv_iand hx hb dJ6_bitCount_0f7a4_32 ?_
  refine lv_topi (fun x_10 ex_10 => ?_)
  refine lv_istore_n (lv' := [(0, .int x_10)]) hx hb dJ6_bitCount_0f7a4_33 rfl hl (by decide) rfl (fun ls hl => ?_)
  refine lv_iload_n hx hb dJ6_bitCount_0f7a4_34 rfl (lv_at hl 0 rfl) ?_
  refine lv_iload_n hx hb dJ6_bitCount_0f7a4_35 rfl (lv_at hl 0 rfl) ?_
  refine lv_bipush (v := 8) hx hb dJ6_bitCount_0f7a4_36 (by decide) ?_
  refine lv_iushr hx hb dJ6_bitCount_0f7a4_38 rfl ?_
  refine lv_topi (fun x_11 ex_11 => ?_)
  have fx_11 : 0 ≤ x_11.toInt ∧ x_11.toInt ≤ 16777215 := by rw [ex_11]; exact i_ushr8 _
  refine lv_iadd hx hb dJ6_bitCount_0f7a4_39 ?_
  refine lv_topi (fun x_12 ex_12 => ?_)
  refine lv_istore_n (lv' := [(0, .int x_12)]) hx hb dJ6_bitCount_0f7a4_40 rfl hl (by decide) rfl (fun ls hl => ?_)
  refine lv_iload_n hx hb dJ6_bitCount_0f7a4_41 rfl (lv_at hl 0 rfl) ?_
  refine lv_iload_n hx hb dJ6_bitCount_0f7a4_42 rfl (lv_at hl 0 rfl) ?_
  refine lv_bipush (v := 16) hx hb dJ6_bitCount_0f7a4_43 (by decide) ?_
  refine lv_iushr hx hb dJ6_bitCount_0f7a4_45 rfl ?_
  refine lv_topi (fun x_13 ex_13 => ?_)
  have fx_13 : 0 ≤ x_13.toInt ∧ x_13.toInt ≤ 65535 := by rw [ex_13]; exact i_ushr16 _
  refine lv_iadd hx hb dJ6_bitCount_0f7a4_46 ?_
  refine lv_topi (fun x_14 ex_14 => ?_)
  refine lv_istore_n (lv' := [(0, .int x_14)]) hx hb dJ6_bitCount_0f7a4_47 rfl hl (by decide) rfl (fun ls hl => ?_)
  refine lv_iload_n hx hb dJ6_bitCount_0f7a4_48 rfl (lv_at hl 0 rfl) ?_
  refine lv_bipush (v := 63) hx hb dJ6_bitCount_0f7a4_49 (by decide) ?_
  refine lv_iand hx hb dJ6_bitCount_0f7a4_51 ?_
  refine lv_topi (fun x_15 ex_15 => ?_)
  exact W.iret (v := x_15) hx hb hr (fun tt ht hW => ⟨x_15, rfl, trivial, ht⟩) (fun _ h => by cases h) dJ6_bitCount_0f7a4_52
set_option maxHeartbeats 4000000 in
set_option maxRecDepth 100000 in
theorem k_X3_nearer (l : Launch)   (p1 : Int32) (p2 : Int32) (p3 : Int32)  : Met l yX3_nearer (Cond.code yX3_nearer cX3_nearer 3 (some .int) :: gw) ({ frames := 0, cells := 0, slots := 0, locals := 0 }) (fun v _ => v = ([.int p1, .int p2, .int p3] : List Value).toArray) (vp_Si (fun (r : Int32) => True)) 0 0 (fun _ => False) := by
  refine Met.ofW (cc := cX3_nearer) (maxL := 3) (ret := (some .int)) (by decide) rfl ?_
  intro p e s m args below meth c s₁ B hml hv
  subst hv
  have hx := B.exec
  have hb := B.bytes
  have hr := B.returns
  have hts := atoms_spec (ws := (Cond.code yX3_nearer cX3_nearer 3 (some .int) :: gw)) B.pre
  have hg : ∀ w ∈ gw, w.before ([.int p1, .int p2, .int p3] : List Value).toArray s = true := fun w h => hts w (List.mem_cons_of_mem _ h)
  have hown : s.vm.findClass RX3 = some m.cls := findClass_of_methodNamed B.named
  have hlocks := B.notSynchronized
  have hl := lv_entry ([.int p1, .int p2, .int p3]) (n := 3) (Nat.le_of_ble_eq_true rfl)
  rw [lg_entry_eq]
  generalize (lg_sl ([.int p1, .int p2, .int p3]) ++ List.replicate (3 - (lg_sl ([.int p1, .int p2, .int p3])).length) Slot.unset).toArray = ls at hl ⊢
  have hl : lv_has ls 3 [(0, .int p1), (1, .int p2), (2, .int p3)] := hl
  refine lv_iload_n hx hb dX3_nearer_0 rfl (lv_at hl 1 rfl) ?_
  refine lv_iload_n hx hb dX3_nearer_1 rfl (lv_at hl 0 rfl) ?_
  refine lv_icmp_le (tgt := 20) hx hb dX3_nearer_2 (by decide) (fun c_1 => ?_) (fun c_1 => ?_)
  ·
    have kc_1 : p2.toInt ≤ p1.toInt := i_le c_1
    refine lv_iload_n hx hb dX3_nearer_20 rfl (lv_at hl 0 rfl) ?_
    refine lv_iload_n hx hb dX3_nearer_21 rfl (lv_at hl 2 rfl) ?_
    refine lv_isub hx hb dX3_nearer_22 ?_
    refine lv_topi (fun x_2 ex_2 => ?_)
    refine lv_iload_n hx hb dX3_nearer_23 rfl (lv_at hl 1 rfl) ?_
    refine lv_icmp_le (tgt := 33) hx hb dX3_nearer_24 (by decide) (fun c_3 => ?_) (fun c_3 => ?_)
    ·
      have kc_3 : x_2.toInt ≤ p2.toInt := i_le c_3
      refine lv_iload_n hx hb dX3_nearer_33 rfl (lv_at hl 1 rfl) ?_
      exact W.iret (v := p2) hx hb hr (fun tt ht hW => ⟨p2, rfl, trivial, ht⟩) (fun _ h => by cases h) dX3_nearer_34
    ·
      have kc_3 : p2.toInt < x_2.toInt := i_nle c_3
      refine lv_iload_n hx hb dX3_nearer_27 rfl (lv_at hl 0 rfl) ?_
      refine lv_iload_n hx hb dX3_nearer_28 rfl (lv_at hl 2 rfl) ?_
      refine lv_isub hx hb dX3_nearer_29 ?_
      refine lv_topi (fun x_4 ex_4 => ?_)
      refine lv_goto (tgt := 34) hx hb dX3_nearer_30 (by decide) ?_
      exact W.iret (v := x_4) hx hb hr (fun tt ht hW => ⟨x_4, rfl, trivial, ht⟩) (fun _ h => by cases h) dX3_nearer_34
  ·
    have kc_1 : p1.toInt < p2.toInt := i_nle c_1
    refine lv_iload_n hx hb dX3_nearer_5 rfl (lv_at hl 0 rfl) ?_
    refine lv_iload_n hx hb dX3_nearer_6 rfl (lv_at hl 2 rfl) ?_
    refine lv_iadd hx hb dX3_nearer_7 ?_
    refine lv_topi (fun x_5 ex_5 => ?_)
    refine lv_iload_n hx hb dX3_nearer_8 rfl (lv_at hl 1 rfl) ?_
    refine lv_icmp_ge (tgt := 18) hx hb dX3_nearer_9 (by decide) (fun c_6 => ?_) (fun c_6 => ?_)
    ·
      have kc_6 : p2.toInt ≤ x_5.toInt := i_le c_6
      refine lv_iload_n hx hb dX3_nearer_18 rfl (lv_at hl 1 rfl) ?_
      exact W.iret (v := p2) hx hb hr (fun tt ht hW => ⟨p2, rfl, trivial, ht⟩) (fun _ h => by cases h) dX3_nearer_19
    ·
      have kc_6 : x_5.toInt < p2.toInt := i_nle c_6
      refine lv_iload_n hx hb dX3_nearer_12 rfl (lv_at hl 0 rfl) ?_
      refine lv_iload_n hx hb dX3_nearer_13 rfl (lv_at hl 2 rfl) ?_
      refine lv_iadd hx hb dX3_nearer_14 ?_
      refine lv_topi (fun x_7 ex_7 => ?_)
      refine lv_goto (tgt := 19) hx hb dX3_nearer_15 (by decide) ?_
      exact W.iret (v := x_7) hx hb hr (fun tt ht hW => ⟨x_7, rfl, trivial, ht⟩) (fun _ h => by cases h) dX3_nearer_19
set_option maxHeartbeats 4000000 in
set_option maxRecDepth 100000 in
theorem k_X3_flown (l : Launch)   (p1 : Int32) (p2 : Int32) (p3 : Int32)  : Met l yX3_flown (Cond.code yX3_flown cX3_flown 5 (some .int) :: gw) ({ frames := 1, cells := 0, slots := 0, locals := 23 }) (fun v _ => v = ([.int p1, .int p2, .int p3] : List Value).toArray) (vp_Si (fun (r : Int32) => True)) 0 0 (fun _ => False) := by
  refine Met.ofW (cc := cX3_flown) (maxL := 5) (ret := (some .int)) (by decide) rfl ?_
  intro p e s m args below meth c s₁ B hml hv
  subst hv
  have hx := B.exec
  have hb := B.bytes
  have hr := B.returns
  have hts := atoms_spec (ws := (Cond.code yX3_flown cX3_flown 5 (some .int) :: gw)) B.pre
  have hg : ∀ w ∈ gw, w.before ([.int p1, .int p2, .int p3] : List Value).toArray s = true := fun w h => hts w (List.mem_cons_of_mem _ h)
  have hown : s.vm.findClass RX3 = some m.cls := findClass_of_methodNamed B.named
  have hlocks := B.notSynchronized
  have hl := lv_entry ([.int p1, .int p2, .int p3]) (n := 5) (Nat.le_of_ble_eq_true rfl)
  rw [lg_entry_eq]
  generalize (lg_sl ([.int p1, .int p2, .int p3]) ++ List.replicate (5 - (lg_sl ([.int p1, .int p2, .int p3])).length) Slot.unset).toArray = ls at hl ⊢
  have hl : lv_has ls 5 [(0, .int p1), (1, .int p2), (2, .int p3)] := hl
  refine lv_iload_n hx hb dX3_flown_0 rfl (lv_at hl 0 rfl) ?_
  refine lv_bipush (v := 15) hx hb dX3_flown_1 (by decide) ?_
  refine lv_iand hx hb dX3_flown_3 ?_
  refine lv_topi (fun x_1 ex_1 => ?_)
  refine lv_iload_n hx hb dX3_flown_4 rfl (lv_at hl 1 rfl) ?_
  refine lv_bipush (v := 15) hx hb dX3_flown_5 (by decide) ?_
  refine lv_iand hx hb dX3_flown_7 ?_
  refine lv_topi (fun x_2 ex_2 => ?_)
  refine lv_iload_n hx hb dX3_flown_8 rfl (lv_at hl 2 rfl) ?_
  refine cS_p (As := [.int x_1, .int x_2, .int p3]) (rest := []) ⟨hx, hb, hml, hown, hg⟩ (k_X3_nearer l   x_1 x_2 p3 ) ca_X3_nearer q3_189 ⟨rfl, rfl⟩ ⟨Nat.le_of_ble_eq_true rfl, Nat.le_of_ble_eq_true rfl⟩ rfl hl.1 rfl (Nat.le_of_ble_eq_true rfl) ⟨Nat.zero_le _, Nat.zero_le _⟩ dX3_flown_9 (fun r_3 wr_3 => ?_)
  refine lv_istore_n (lv' := [(3, .int r_3), (0, .int p1), (1, .int p2), (2, .int p3)]) hx hb dX3_flown_12 rfl hl (by decide) rfl (fun ls hl => ?_)
  refine lv_iload_n hx hb dX3_flown_13 rfl (lv_at hl 3 rfl) ?_
  refine lv_iload_n hx hb dX3_flown_14 rfl (lv_at hl 1 rfl) ?_
  refine lv_bipush (v := 15) hx hb dX3_flown_15 (by decide) ?_
  refine lv_iand hx hb dX3_flown_17 ?_
  refine lv_topi (fun x_4 ex_4 => ?_)
  refine lv_iload_n hx hb dX3_flown_18 rfl (lv_at hl 0 rfl) ?_
  refine cS_p (As := [.int x_4, .int r_3]) (rest := [.int p3]) ⟨hx, hb, hml, hown, hg⟩ (k_X9_apart l   x_4 r_3 ) ca_X9_apart q3_185 ⟨rfl, rfl⟩ ⟨Nat.le_of_ble_eq_true rfl, Nat.le_of_ble_eq_true rfl⟩ rfl hl.1 rfl (Nat.le_of_ble_eq_true rfl) ⟨Nat.zero_le _, Nat.zero_le _⟩ dX3_flown_19 (fun r_5 wr_5 => ?_)
  refine lv_isub hx hb dX3_flown_22 ?_
  refine lv_topi (fun x_6 ex_6 => ?_)
  refine lv_istore (lv' := [(4, .int x_6), (3, .int r_3), (0, .int p1), (1, .int p2), (2, .int p3)]) hx hb dX3_flown_23 hl (by decide) rfl (fun ls hl => ?_)
  refine lv_iload_n hx hb dX3_flown_25 rfl (lv_at hl 2 rfl) ?_
  refine lv_iconst (v := 4) hx hb dX3_flown_26 (by decide) ?_
  refine lv_ishr hx hb dX3_flown_27 ?_
  refine lv_topi (fun x_7 ex_7 => ?_)
  refine lv_iload_n hx hb dX3_flown_28 rfl (lv_at hl 3 rfl) ?_
  refine lv_iconst (v := 4) hx hb dX3_flown_29 (by decide) ?_
  refine lv_ishr hx hb dX3_flown_30 ?_
  refine lv_topi (fun x_8 ex_8 => ?_)
  refine lv_iload hx hb dX3_flown_31 (lv_at hl 0 rfl) ?_
  refine cS_p (As := [.int x_7, .int x_8, .int x_6]) (rest := []) ⟨hx, hb, hml, hown, hg⟩ (k_X3_nearer l   x_7 x_8 x_6 ) ca_X3_nearer q3_189 ⟨rfl, rfl⟩ ⟨Nat.le_of_ble_eq_true rfl, Nat.le_of_ble_eq_true rfl⟩ rfl hl.1 rfl (Nat.le_of_ble_eq_true rfl) ⟨Nat.zero_le _, Nat.zero_le _⟩ dX3_flown_33 (fun r_9 wr_9 => ?_)
  refine lv_bipush (v := 16) hx hb dX3_flown_36 (by decide) ?_
  refine lv_imul hx hb dX3_flown_38 ?_
  refine lv_topi (fun x_10 ex_10 => ?_)
  refine lv_iload_n hx hb dX3_flown_39 rfl (lv_at hl 1 rfl) ?_
  refine lv_iadd hx hb dX3_flown_40 ?_
  refine lv_topi (fun x_11 ex_11 => ?_)
  exact W.iret (v := x_11) hx hb hr (fun tt ht hW => ⟨x_11, rfl, trivial, ht⟩) (fun _ h => by cases h) dX3_flown_41
set_option maxHeartbeats 4000000 in
set_option maxRecDepth 100000 in
theorem k_X6_joined (l : Launch)   (p1 : Int32) (p2 : Int32) (p3 : Int32)  : Met l yX6_joined (Cond.code yX6_joined cX6_joined 3 (some .int) :: gw) ({ frames := 0, cells := 0, slots := 0, locals := 0 }) (fun v _ => v = ([.int p1, .int p2, .int p3] : List Value).toArray) (vp_Si (fun (r : Int32) => True)) 0 0 (fun _ => False) := by
  refine Met.ofW (cc := cX6_joined) (maxL := 3) (ret := (some .int)) (by decide) rfl ?_
  intro p e s m args below meth c s₁ B hml hv
  subst hv
  have hx := B.exec
  have hb := B.bytes
  have hr := B.returns
  have hts := atoms_spec (ws := (Cond.code yX6_joined cX6_joined 3 (some .int) :: gw)) B.pre
  have hg : ∀ w ∈ gw, w.before ([.int p1, .int p2, .int p3] : List Value).toArray s = true := fun w h => hts w (List.mem_cons_of_mem _ h)
  have hown : s.vm.findClass RX6 = some m.cls := findClass_of_methodNamed B.named
  have hlocks := B.notSynchronized
  have hl := lv_entry ([.int p1, .int p2, .int p3]) (n := 3) (Nat.le_of_ble_eq_true rfl)
  rw [lg_entry_eq]
  generalize (lg_sl ([.int p1, .int p2, .int p3]) ++ List.replicate (3 - (lg_sl ([.int p1, .int p2, .int p3])).length) Slot.unset).toArray = ls at hl ⊢
  have hl : lv_has ls 3 [(0, .int p1), (1, .int p2), (2, .int p3)] := hl
  refine lv_iload_n hx hb dX6_joined_0 rfl (lv_at hl 0 rfl) ?_
  rcases (show p1.toInt = 38 ∨ p1.toInt = 42 ∨ p1.toInt = 43 ∨ p1.toInt = 45 ∨ p1.toInt = 47 ∨ p1.toInt = 60 ∨ p1.toInt = 61 ∨ p1.toInt = 62 ∨ p1.toInt = 124 ∨ (p1.toInt ≠ 38 ∧ p1.toInt ≠ 42 ∧ p1.toInt ≠ 43 ∧ p1.toInt ≠ 45 ∧ p1.toInt ≠ 47 ∧ p1.toInt ≠ 60 ∧ p1.toInt ≠ 61 ∧ p1.toInt ≠ 62 ∧ p1.toInt ≠ 124) by omega) with kc_1 | kc_1 | kc_1 | kc_1 | kc_1 | kc_1 | kc_1 | kc_1 | kc_1 | kc_1
  ·
    refine lv_lookup (tgt := 98) hx hb dX6_joined_1 (by decide) (off := 97) (by rw [kc_1]; rfl) (by decide) ?_
    refine lv_iload_n hx hb dX6_joined_98 rfl (lv_at hl 1 rfl) ?_
    refine lv_if_eq (tgt := 110) hx hb dX6_joined_99 (by decide) (fun c_2 => ?_) (fun c_2 => ?_)
    ·
      have kc_2 : p2.toInt = (0 : Int) := i_eq c_2
      refine lv_iconst (v := 0) hx hb dX6_joined_110 (by decide) ?_
      have q0_0 : (0 : Int32).toInt = 0 := rfl
      exact W.iret (v := 0) hx hb hr (fun tt ht hW => ⟨0, rfl, trivial, ht⟩) (fun _ h => by cases h) dX6_joined_111
    ·
      have kc_2 : p2.toInt ≠ (0 : Int) := i_ne c_2
      refine lv_iload_n hx hb dX6_joined_102 rfl (lv_at hl 2 rfl) ?_
      refine lv_if_eq (tgt := 110) hx hb dX6_joined_103 (by decide) (fun c_3 => ?_) (fun c_3 => ?_)
      ·
        have kc_3 : p3.toInt = (0 : Int) := i_eq c_3
        refine lv_iconst (v := 0) hx hb dX6_joined_110 (by decide) ?_
        have q0_0 : (0 : Int32).toInt = 0 := rfl
        exact W.iret (v := 0) hx hb hr (fun tt ht hW => ⟨0, rfl, trivial, ht⟩) (fun _ h => by cases h) dX6_joined_111
      ·
        have kc_3 : p3.toInt ≠ (0 : Int) := i_ne c_3
        refine lv_iconst (v := 1) hx hb dX6_joined_106 (by decide) ?_
        refine lv_goto (tgt := 111) hx hb dX6_joined_107 (by decide) ?_
        have q0_1 : (1 : Int32).toInt = 1 := rfl
        exact W.iret (v := 1) hx hb hr (fun tt ht hW => ⟨1, rfl, trivial, ht⟩) (fun _ h => by cases h) dX6_joined_111
  ·
    refine lv_lookup (tgt := 153) hx hb dX6_joined_1 (by decide) (off := 152) (by rw [kc_1]; rfl) (by decide) ?_
    refine lv_iload_n hx hb dX6_joined_153 rfl (lv_at hl 1 rfl) ?_
    refine lv_iload_n hx hb dX6_joined_154 rfl (lv_at hl 2 rfl) ?_
    refine lv_imul hx hb dX6_joined_155 ?_
    refine lv_topi (fun x_4 ex_4 => ?_)
    exact W.iret (v := x_4) hx hb hr (fun tt ht hW => ⟨x_4, rfl, trivial, ht⟩) (fun _ h => by cases h) dX6_joined_156
  ·
    refine lv_lookup (tgt := 145) hx hb dX6_joined_1 (by decide) (off := 144) (by rw [kc_1]; rfl) (by decide) ?_
    refine lv_iload_n hx hb dX6_joined_145 rfl (lv_at hl 1 rfl) ?_
    refine lv_iload_n hx hb dX6_joined_146 rfl (lv_at hl 2 rfl) ?_
    refine lv_iadd hx hb dX6_joined_147 ?_
    refine lv_topi (fun x_5 ex_5 => ?_)
    exact W.iret (v := x_5) hx hb hr (fun tt ht hW => ⟨x_5, rfl, trivial, ht⟩) (fun _ h => by cases h) dX6_joined_148
  ·
    refine lv_lookup (tgt := 149) hx hb dX6_joined_1 (by decide) (off := 148) (by rw [kc_1]; rfl) (by decide) ?_
    refine lv_iload_n hx hb dX6_joined_149 rfl (lv_at hl 1 rfl) ?_
    refine lv_iload_n hx hb dX6_joined_150 rfl (lv_at hl 2 rfl) ?_
    refine lv_isub hx hb dX6_joined_151 ?_
    refine lv_topi (fun x_6 ex_6 => ?_)
    exact W.iret (v := x_6) hx hb hr (fun tt ht hW => ⟨x_6, rfl, trivial, ht⟩) (fun _ h => by cases h) dX6_joined_152
  ·
    refine lv_lookup (tgt := 157) hx hb dX6_joined_1 (by decide) (off := 156) (by rw [kc_1]; rfl) (by decide) ?_
    refine lv_iload_n hx hb dX6_joined_157 rfl (lv_at hl 2 rfl) ?_
    refine lv_if_ne (tgt := 165) hx hb dX6_joined_158 (by decide) (fun c_7 => ?_) (fun c_7 => ?_)
    ·
      have kc_7 : p3.toInt ≠ (0 : Int) := i_ne c_7
      refine lv_iload_n hx hb dX6_joined_165 rfl (lv_at hl 1 rfl) ?_
      refine lv_iload_n hx hb dX6_joined_166 rfl (lv_at hl 2 rfl) ?_
      refine lv_idiv hx hb dX6_joined_167 (fun q => by have q0 : p3.toInt = 0 := i_eq q; omega) ?_
      refine lv_topi (fun x_8 ex_8 => ?_)
      exact W.iret (v := x_8) hx hb hr (fun tt ht hW => ⟨x_8, rfl, trivial, ht⟩) (fun _ h => by cases h) dX6_joined_168
    ·
      have kc_7 : p3.toInt = (0 : Int) := i_eq c_7
      refine lv_iconst (v := 0) hx hb dX6_joined_161 (by decide) ?_
      refine lv_goto (tgt := 168) hx hb dX6_joined_162 (by decide) ?_
      have q0_0 : (0 : Int32).toInt = 0 := rfl
      exact W.iret (v := 0) hx hb hr (fun tt ht hW => ⟨0, rfl, trivial, ht⟩) (fun _ h => by cases h) dX6_joined_168
  ·
    refine lv_lookup (tgt := 112) hx hb dX6_joined_1 (by decide) (off := 111) (by rw [kc_1]; rfl) (by decide) ?_
    refine lv_iload_n hx hb dX6_joined_112 rfl (lv_at hl 1 rfl) ?_
    refine lv_iload_n hx hb dX6_joined_113 rfl (lv_at hl 2 rfl) ?_
    refine lv_icmp_ge (tgt := 121) hx hb dX6_joined_114 (by decide) (fun c_9 => ?_) (fun c_9 => ?_)
    ·
      have kc_9 : p3.toInt ≤ p2.toInt := i_le c_9
      refine lv_iconst (v := 0) hx hb dX6_joined_121 (by decide) ?_
      have q0_0 : (0 : Int32).toInt = 0 := rfl
      exact W.iret (v := 0) hx hb hr (fun tt ht hW => ⟨0, rfl, trivial, ht⟩) (fun _ h => by cases h) dX6_joined_122
    ·
      have kc_9 : p2.toInt < p3.toInt := i_nle c_9
      refine lv_iconst (v := 1) hx hb dX6_joined_117 (by decide) ?_
      refine lv_goto (tgt := 122) hx hb dX6_joined_118 (by decide) ?_
      have q0_1 : (1 : Int32).toInt = 1 := rfl
      exact W.iret (v := 1) hx hb hr (fun tt ht hW => ⟨1, rfl, trivial, ht⟩) (fun _ h => by cases h) dX6_joined_122
  ·
    refine lv_lookup (tgt := 123) hx hb dX6_joined_1 (by decide) (off := 122) (by rw [kc_1]; rfl) (by decide) ?_
    refine lv_iload_n hx hb dX6_joined_123 rfl (lv_at hl 1 rfl) ?_
    refine lv_iload_n hx hb dX6_joined_124 rfl (lv_at hl 2 rfl) ?_
    refine lv_icmp_ne (tgt := 132) hx hb dX6_joined_125 (by decide) (fun c_10 => ?_) (fun c_10 => ?_)
    ·
      have kc_10 : p2.toInt ≠ p3.toInt := i_ne c_10
      refine lv_iconst (v := 0) hx hb dX6_joined_132 (by decide) ?_
      have q0_0 : (0 : Int32).toInt = 0 := rfl
      exact W.iret (v := 0) hx hb hr (fun tt ht hW => ⟨0, rfl, trivial, ht⟩) (fun _ h => by cases h) dX6_joined_133
    ·
      have kc_10 : p2.toInt = p3.toInt := i_eq c_10
      refine lv_iconst (v := 1) hx hb dX6_joined_128 (by decide) ?_
      refine lv_goto (tgt := 133) hx hb dX6_joined_129 (by decide) ?_
      have q0_1 : (1 : Int32).toInt = 1 := rfl
      exact W.iret (v := 1) hx hb hr (fun tt ht hW => ⟨1, rfl, trivial, ht⟩) (fun _ h => by cases h) dX6_joined_133
  ·
    refine lv_lookup (tgt := 134) hx hb dX6_joined_1 (by decide) (off := 133) (by rw [kc_1]; rfl) (by decide) ?_
    refine lv_iload_n hx hb dX6_joined_134 rfl (lv_at hl 1 rfl) ?_
    refine lv_iload_n hx hb dX6_joined_135 rfl (lv_at hl 2 rfl) ?_
    refine lv_icmp_le (tgt := 143) hx hb dX6_joined_136 (by decide) (fun c_11 => ?_) (fun c_11 => ?_)
    ·
      have kc_11 : p2.toInt ≤ p3.toInt := i_le c_11
      refine lv_iconst (v := 0) hx hb dX6_joined_143 (by decide) ?_
      have q0_0 : (0 : Int32).toInt = 0 := rfl
      exact W.iret (v := 0) hx hb hr (fun tt ht hW => ⟨0, rfl, trivial, ht⟩) (fun _ h => by cases h) dX6_joined_144
    ·
      have kc_11 : p3.toInt < p2.toInt := i_nle c_11
      refine lv_iconst (v := 1) hx hb dX6_joined_139 (by decide) ?_
      refine lv_goto (tgt := 144) hx hb dX6_joined_140 (by decide) ?_
      have q0_1 : (1 : Int32).toInt = 1 := rfl
      exact W.iret (v := 1) hx hb hr (fun tt ht hW => ⟨1, rfl, trivial, ht⟩) (fun _ h => by cases h) dX6_joined_144
  ·
    refine lv_lookup (tgt := 84) hx hb dX6_joined_1 (by decide) (off := 83) (by rw [kc_1]; rfl) (by decide) ?_
    refine lv_iload_n hx hb dX6_joined_84 rfl (lv_at hl 1 rfl) ?_
    refine lv_if_ne (tgt := 92) hx hb dX6_joined_85 (by decide) (fun c_12 => ?_) (fun c_12 => ?_)
    ·
      have kc_12 : p2.toInt ≠ (0 : Int) := i_ne c_12
      refine lv_iconst (v := 1) hx hb dX6_joined_92 (by decide) ?_
      refine lv_goto (tgt := 97) hx hb dX6_joined_93 (by decide) ?_
      have q0_1 : (1 : Int32).toInt = 1 := rfl
      exact W.iret (v := 1) hx hb hr (fun tt ht hW => ⟨1, rfl, trivial, ht⟩) (fun _ h => by cases h) dX6_joined_97
    ·
      have kc_12 : p2.toInt = (0 : Int) := i_eq c_12
      refine lv_iload_n hx hb dX6_joined_88 rfl (lv_at hl 2 rfl) ?_
      refine lv_if_eq (tgt := 96) hx hb dX6_joined_89 (by decide) (fun c_13 => ?_) (fun c_13 => ?_)
      ·
        have kc_13 : p3.toInt = (0 : Int) := i_eq c_13
        refine lv_iconst (v := 0) hx hb dX6_joined_96 (by decide) ?_
        have q0_0 : (0 : Int32).toInt = 0 := rfl
        exact W.iret (v := 0) hx hb hr (fun tt ht hW => ⟨0, rfl, trivial, ht⟩) (fun _ h => by cases h) dX6_joined_97
      ·
        have kc_13 : p3.toInt ≠ (0 : Int) := i_ne c_13
        refine lv_iconst (v := 1) hx hb dX6_joined_92 (by decide) ?_
        refine lv_goto (tgt := 97) hx hb dX6_joined_93 (by decide) ?_
        have q0_1 : (1 : Int32).toInt = 1 := rfl
        exact W.iret (v := 1) hx hb hr (fun tt ht hW => ⟨1, rfl, trivial, ht⟩) (fun _ h => by cases h) dX6_joined_97
  ·
    refine lv_lookup (tgt := 169) hx hb dX6_joined_1 (by decide) (off := 168) (by show Op.lookupswitch.offset ([(38, 97), (42, 152), (43, 144), (45, 148), (47, 156), (60, 111), (61, 122), (62, 133), (124, 83)] : List (Int × Int)) 168 p1.toInt = 168; rw [Op.lookupswitch.offset_cons, if_neg (by omega)]; rw [Op.lookupswitch.offset_cons, if_neg (by omega)]; rw [Op.lookupswitch.offset_cons, if_neg (by omega)]; rw [Op.lookupswitch.offset_cons, if_neg (by omega)]; rw [Op.lookupswitch.offset_cons, if_neg (by omega)]; rw [Op.lookupswitch.offset_cons, if_neg (by omega)]; rw [Op.lookupswitch.offset_cons, if_neg (by omega)]; rw [Op.lookupswitch.offset_cons, if_neg (by omega)]; rw [Op.lookupswitch.offset_cons, if_neg (by omega)]; rfl) (by decide) ?_
    refine lv_iload_n hx hb dX6_joined_169 rfl (lv_at hl 2 rfl) ?_
    refine lv_if_ne (tgt := 177) hx hb dX6_joined_170 (by decide) (fun c_14 => ?_) (fun c_14 => ?_)
    ·
      have kc_14 : p3.toInt ≠ (0 : Int) := i_ne c_14
      refine lv_iload_n hx hb dX6_joined_177 rfl (lv_at hl 1 rfl) ?_
      refine lv_iload_n hx hb dX6_joined_178 rfl (lv_at hl 2 rfl) ?_
      refine lv_irem hx hb dX6_joined_179 (fun q => by have q0 : p3.toInt = 0 := i_eq q; omega) ?_
      refine lv_topi (fun x_15 ex_15 => ?_)
      exact W.iret (v := x_15) hx hb hr (fun tt ht hW => ⟨x_15, rfl, trivial, ht⟩) (fun _ h => by cases h) dX6_joined_180
    ·
      have kc_14 : p3.toInt = (0 : Int) := i_eq c_14
      refine lv_iconst (v := 0) hx hb dX6_joined_173 (by decide) ?_
      refine lv_goto (tgt := 180) hx hb dX6_joined_174 (by decide) ?_
      have q0_0 : (0 : Int32).toInt = 0 := rfl
      exact W.iret (v := 0) hx hb hr (fun tt ht hW => ⟨0, rfl, trivial, ht⟩) (fun _ h => by cases h) dX6_joined_180
set_option maxHeartbeats 4000000 in
set_option maxRecDepth 100000 in
theorem k_X5_liking (l : Launch)   (p1 : Int32) (p2 : Int32)  : Met l yX5_liking (Cond.code yX5_liking cX5_liking 4 (some .int) :: gw) ({ frames := 0, cells := 0, slots := 0, locals := 0 }) (fun v _ => v = ([.int p1, .int p2] : List Value).toArray) (vp_Si (fun (r : Int32) => True)) 0 0 (fun _ => False) := by
  refine Met.ofW (cc := cX5_liking) (maxL := 4) (ret := (some .int)) (by decide) rfl ?_
  intro p e s m args below meth c s₁ B hml hv
  subst hv
  have hx := B.exec
  have hb := B.bytes
  have hr := B.returns
  have hts := atoms_spec (ws := (Cond.code yX5_liking cX5_liking 4 (some .int) :: gw)) B.pre
  have hg : ∀ w ∈ gw, w.before ([.int p1, .int p2] : List Value).toArray s = true := fun w h => hts w (List.mem_cons_of_mem _ h)
  have hown : s.vm.findClass RX5 = some m.cls := findClass_of_methodNamed B.named
  have hlocks := B.notSynchronized
  have hl := lv_entry ([.int p1, .int p2]) (n := 4) (Nat.le_of_ble_eq_true rfl)
  rw [lg_entry_eq]
  generalize (lg_sl ([.int p1, .int p2]) ++ List.replicate (4 - (lg_sl ([.int p1, .int p2])).length) Slot.unset).toArray = ls at hl ⊢
  have hl : lv_has ls 4 [(0, .int p1), (1, .int p2)] := hl
  refine lv_iload_n hx hb dX5_liking_0 rfl (lv_at hl 1 rfl) ?_
  refine lv_if_eq (tgt := 10) hx hb dX5_liking_1 (by decide) (fun c_1 => ?_) (fun c_1 => ?_)
  ·
    have kc_1 : p2.toInt = (0 : Int) := i_eq c_1
    refine lv_iload_n hx hb dX5_liking_10 rfl (lv_at hl 0 rfl) ?_
    refine lv_iconst (v := 1) hx hb dX5_liking_11 (by decide) ?_
    refine lv_ishr hx hb dX5_liking_12 ?_
    refine lv_topi (fun x_2 ex_2 => ?_)
    refine lv_istore_n (lv' := [(2, .int x_2), (0, .int p1), (1, .int p2)]) hx hb dX5_liking_13 rfl hl (by decide) rfl (fun ls hl => ?_)
    refine lv_iload_n hx hb dX5_liking_14 rfl (lv_at hl 2 rfl) ?_
    refine lv_if_eq (tgt := 24) hx hb dX5_liking_15 (by decide) (fun c_3 => ?_) (fun c_3 => ?_)
    ·
      have kc_3 : p2.toInt = (0 : Int) := i_eq c_3
      refine lv_iload_n hx hb dX5_liking_24 rfl (lv_at hl 1 rfl) ?_
      refine lv_iconst (v := 1) hx hb dX5_liking_25 (by decide) ?_
      refine lv_iand hx hb dX5_liking_26 ?_
      refine lv_topi (fun x_4 ex_4 => ?_)
      refine lv_istore_n (lv' := [(3, .int x_4), (2, .int x_2), (0, .int p1), (1, .int p2)]) hx hb dX5_liking_27 rfl hl (by decide) rfl (fun ls hl => ?_)
      refine lv_iload_n hx hb dX5_liking_28 rfl (lv_at hl 1 rfl) ?_
      refine lv_if_ne (tgt := 36) hx hb dX5_liking_29 (by decide) (fun c_5 => ?_) (fun c_5 => ?_)
      ·
        have kc_5 : x_2.toInt ≠ (0 : Int) := i_ne c_5
        refine lv_iconst (v := 0) hx hb dX5_liking_36 (by decide) ?_
        refine lv_iload_n hx hb dX5_liking_37 rfl (lv_at hl 0 rfl) ?_
        refine lv_iadd hx hb dX5_liking_38 ?_
        refine lv_topi (fun x_6 ex_6 => ?_)
        exact W.iret (v := x_6) hx hb hr (fun tt ht hW => ⟨x_6, rfl, trivial, ht⟩) (fun _ h => by cases h) dX5_liking_39
      ·
        have kc_5 : x_2.toInt = (0 : Int) := i_eq c_5
        refine lv_iconst (v := 2) hx hb dX5_liking_32 (by decide) ?_
        refine lv_goto (tgt := 37) hx hb dX5_liking_33 (by decide) ?_
        refine lv_iload_n hx hb dX5_liking_37 rfl (lv_at hl 0 rfl) ?_
        refine lv_iadd hx hb dX5_liking_38 ?_
        refine lv_topi (fun x_7 ex_7 => ?_)
        exact W.iret (v := x_7) hx hb hr (fun tt ht hW => ⟨x_7, rfl, trivial, ht⟩) (fun _ h => by cases h) dX5_liking_39
    ·
      have kc_3 : p2.toInt ≠ (0 : Int) := i_ne c_3
      exfalso; omega
  ·
    have kc_1 : p2.toInt ≠ (0 : Int) := i_ne c_1
    refine lv_iload_n hx hb dX5_liking_4 rfl (lv_at hl 0 rfl) ?_
    refine lv_iconst (v := 1) hx hb dX5_liking_5 (by decide) ?_
    refine lv_iand hx hb dX5_liking_6 ?_
    refine lv_topi (fun x_8 ex_8 => ?_)
    refine lv_goto (tgt := 13) hx hb dX5_liking_7 (by decide) ?_
    refine lv_istore_n (lv' := [(2, .int x_8), (0, .int p1), (1, .int p2)]) hx hb dX5_liking_13 rfl hl (by decide) rfl (fun ls hl => ?_)
    refine lv_iload_n hx hb dX5_liking_14 rfl (lv_at hl 2 rfl) ?_
    refine lv_if_eq (tgt := 24) hx hb dX5_liking_15 (by decide) (fun c_9 => ?_) (fun c_9 => ?_)
    ·
      have kc_9 : p2.toInt = (0 : Int) := i_eq c_9
      exfalso; omega
    ·
      have kc_9 : p2.toInt ≠ (0 : Int) := i_ne c_9
      refine lv_iload_n hx hb dX5_liking_18 rfl (lv_at hl 1 rfl) ?_
      refine lv_iconst (v := 1) hx hb dX5_liking_19 (by decide) ?_
      refine lv_ishr hx hb dX5_liking_20 ?_
      refine lv_topi (fun x_10 ex_10 => ?_)
      refine lv_goto (tgt := 27) hx hb dX5_liking_21 (by decide) ?_
      refine lv_istore_n (lv' := [(3, .int x_10), (2, .int x_8), (0, .int p1), (1, .int p2)]) hx hb dX5_liking_27 rfl hl (by decide) rfl (fun ls hl => ?_)
      refine lv_iload_n hx hb dX5_liking_28 rfl (lv_at hl 1 rfl) ?_
      refine lv_if_ne (tgt := 36) hx hb dX5_liking_29 (by decide) (fun c_11 => ?_) (fun c_11 => ?_)
      ·
        have kc_11 : x_8.toInt ≠ (0 : Int) := i_ne c_11
        refine lv_iconst (v := 0) hx hb dX5_liking_36 (by decide) ?_
        refine lv_iload_n hx hb dX5_liking_37 rfl (lv_at hl 0 rfl) ?_
        refine lv_iadd hx hb dX5_liking_38 ?_
        refine lv_topi (fun x_12 ex_12 => ?_)
        exact W.iret (v := x_12) hx hb hr (fun tt ht hW => ⟨x_12, rfl, trivial, ht⟩) (fun _ h => by cases h) dX5_liking_39
      ·
        have kc_11 : x_8.toInt = (0 : Int) := i_eq c_11
        refine lv_iconst (v := 2) hx hb dX5_liking_32 (by decide) ?_
        refine lv_goto (tgt := 37) hx hb dX5_liking_33 (by decide) ?_
        refine lv_iload_n hx hb dX5_liking_37 rfl (lv_at hl 0 rfl) ?_
        refine lv_iadd hx hb dX5_liking_38 ?_
        refine lv_topi (fun x_13 ex_13 => ?_)
        exact W.iret (v := x_13) hx hb hr (fun tt ht hW => ⟨x_13, rfl, trivial, ht⟩) (fun _ h => by cases h) dX5_liking_39
set_option maxHeartbeats 4000000 in
set_option maxRecDepth 100000 in
theorem k_X9_has (l : Launch) (D : va_G) (cs : Nat → ClassId) (A : Nat → Prop) (ad fa fq rv : Nat → Nat) (v : Nat → Int32) (a : Nat → Nat → Int32) (w : Nat → Nat → Int64) (fv fp : Nat → Nat → Int32)  (p1 : Int32) (iv1_0 : 0 ≤ (v 1).toInt) (iv1_1 : (v 1).toInt ≤ 8) : Met l yX9_has (Cond.code yX9_has cX9_has 2 (some .boolean) :: gw) ({ frames := 0, cells := 0, slots := 0, locals := 0 }) (va_Pc [.ref (ad 1), .int p1] (XPre D (TY cs) (CW cs ad fa fq rv v a w fv fp) A)) (vp_Si (fun (r : Int32) => ((r.toInt = 1 ∧ 0 ≤ p1.toInt ∧ p1.toInt < (v 1).toInt) ∨ (r.toInt = 0 ∧ ¬ (0 ≤ p1.toInt ∧ p1.toInt < (v 1).toInt))))) 0 0 (fun _ => False) := by
  refine Met.ofW (cc := cX9_has) (maxL := 2) (ret := (some .boolean)) (by decide) rfl ?_
  intro p e s m args below meth c s₁ B hml hv
  obtain ⟨rfl, hP, hK, hD, hZ⟩ := hv
  have hx := B.exec
  have hb := B.bytes
  have hr := B.returns
  have hts := atoms_spec (ws := (Cond.code yX9_has cX9_has 2 (some .boolean) :: gw)) B.pre
  have hg : ∀ w ∈ gw, w.before ([.ref (ad 1), .int p1] : List Value).toArray s = true := fun w h => hts w (List.mem_cons_of_mem _ h)
  have hown : s.vm.findClass RX9 = some m.cls := findClass_of_methodNamed B.named
  have hlocks := B.notSynchronized
  have hS : va_S A s.heap s.heap [] := va_S.rf
  have hl := lv_entry ([.ref (ad 1), .int p1]) (n := 2) (Nat.le_of_ble_eq_true rfl)
  rw [lg_entry_eq]
  generalize (lg_sl ([.ref (ad 1), .int p1]) ++ List.replicate (2 - (lg_sl ([.ref (ad 1), .int p1])).length) Slot.unset).toArray = ls at hl ⊢
  have hl : lv_has ls 2 [(0, .ref (ad 1)), (1, .int p1)] := hl
  refine lv_iload_n hx hb dX9_has_0 rfl (lv_at hl 1 rfl) ?_
  refine lv_if_lt (tgt := 16) hx hb dX9_has_1 (by decide) (fun c_1 => ?_) (fun c_1 => ?_)
  ·
    have kc_1 : p1.toInt < (0 : Int) := i_lt c_1
    refine lv_iconst (v := 0) hx hb dX9_has_16 (by decide) ?_
    have q0_0 : (0 : Int32).toInt = 0 := rfl
    exact W.zret (v := 0) hx hb hr rfl (fun tt ht hW => ⟨0, rfl, (by first | rfl | omega | trivial | assumption | (dsimp only; first | omega | assumption)), ht⟩) (fun _ h => by cases h) dX9_has_17
  ·
    have kc_1 : (0 : Int) ≤ p1.toInt := i_nlt c_1
    refine lv_iload_n hx hb dX9_has_4 rfl (lv_at hl 1 rfl) ?_
    refine lv_aload_n hx hb dX9_has_5 rfl (lv_at hl 0 rfl) ?_
    refine gf_parish_people hx hb hg hown hK hP (x := (v 1)) rfl (hg _ q1_108) dX9_has_6 ?_
    refine lv_icmp_ge (tgt := 16) hx hb dX9_has_9 (by decide) (fun c_2 => ?_) (fun c_2 => ?_)
    ·
      have kc_2 : (v 1).toInt ≤ p1.toInt := i_le c_2
      refine lv_iconst (v := 0) hx hb dX9_has_16 (by decide) ?_
      have q0_0 : (0 : Int32).toInt = 0 := rfl
      exact W.zret (v := 0) hx hb hr rfl (fun tt ht hW => ⟨0, rfl, (by first | rfl | omega | trivial | assumption | (dsimp only; first | omega | assumption)), ht⟩) (fun _ h => by cases h) dX9_has_17
    ·
      have kc_2 : p1.toInt < (v 1).toInt := i_nle c_2
      refine lv_iconst (v := 1) hx hb dX9_has_12 (by decide) ?_
      refine lv_goto (tgt := 17) hx hb dX9_has_13 (by decide) ?_
      have q0_1 : (1 : Int32).toInt = 1 := rfl
      exact W.zret (v := 1) hx hb hr rfl (fun tt ht hW => ⟨1, rfl, (by first | rfl | omega | trivial | assumption | (dsimp only; first | omega | assumption)), ht⟩) (fun _ h => by cases h) dX9_has_17
set_option maxHeartbeats 4000000 in
set_option maxRecDepth 100000 in
theorem k_X9_within (l : Launch) (D : va_G) (cs : Nat → ClassId) (A : Nat → Prop) (ad fa fq rv : Nat → Nat) (v : Nat → Int32) (a : Nat → Nat → Int32) (w : Nat → Nat → Int64) (fv fp : Nat → Nat → Int32)  (p1 : Int32) (iv1_0 : 0 ≤ (v 1).toInt) (iv1_1 : (v 1).toInt ≤ 8) : Met l yX9_within (Cond.code yX9_within cX9_within 4 (some .int) :: gw) ({ frames := 1, cells := 0, slots := 0, locals := 23 }) (va_Pc [.ref (ad 1), .int p1] (XPre D (TY cs) (CW cs ad fa fq rv v a w fv fp) A)) (vp_Si (fun (r : Int32) => True)) 0 0 (fun _ => False) := by
  refine Met.ofW (cc := cX9_within) (maxL := 4) (ret := (some .int)) (by decide) rfl ?_
  intro p e s m args below meth c s₁ B hml hv
  obtain ⟨rfl, hP, hK, hD, hZ⟩ := hv
  have hx := B.exec
  have hb := B.bytes
  have hr := B.returns
  have hts := atoms_spec (ws := (Cond.code yX9_within cX9_within 4 (some .int) :: gw)) B.pre
  have hg : ∀ w ∈ gw, w.before ([.ref (ad 1), .int p1] : List Value).toArray s = true := fun w h => hts w (List.mem_cons_of_mem _ h)
  have hown : s.vm.findClass RX9 = some m.cls := findClass_of_methodNamed B.named
  have hlocks := B.notSynchronized
  have hS : va_S A s.heap s.heap [] := va_S.rf
  have hl := lv_entry ([.ref (ad 1), .int p1]) (n := 4) (Nat.le_of_ble_eq_true rfl)
  rw [lg_entry_eq]
  generalize (lg_sl ([.ref (ad 1), .int p1]) ++ List.replicate (4 - (lg_sl ([.ref (ad 1), .int p1])).length) Slot.unset).toArray = ls at hl ⊢
  have hl : lv_has ls 4 [(0, .ref (ad 1)), (1, .int p1)] := hl
  have hcut : ∀ nk : Nat, (∀ (x2 : Int32) (x3 : Int32) (i3 : 0 ≤ x3.toInt) (hmu : ((v 1).toInt - x3.toInt).toNat < nk) (ls : Array Slot) (hl : lv_has ls 4 [(0, .ref (ad 1)), (1, .int p1), (2, .int x2), (3, .int x3)]), W p l e (headSpec (Cond.code yX9_within cX9_within 4 (some .int) :: gw) ({ frames := 1, cells := 0, slots := 0, locals := 23 })).room s m ([.ref (ad 1), .int p1] : List Value).toArray below meth c s.heap [] 0 0 (MQ below (vp_Si (fun (r : Int32) => True)) ([.ref (ad 1), .int p1] : List Value).toArray s 0 0 (fun _ => False)) (F0 m 4 ls [])) := by
    intro nk
    induction nk with
    | zero => exact (fun x2 x3 i3 hmu ls hl => absurd hmu (Nat.not_lt_zero _))
    | succ nk ih =>
      intro x2 x3 i3 hmu ls hl
      refine lv_iload_n hx hb dX9_within_4 rfl (lv_at hl 3 rfl) ?_
      refine lv_aload_n hx hb dX9_within_5 rfl (lv_at hl 0 rfl) ?_
      refine gf_parish_people hx hb hg hown hK hP (x := (v 1)) rfl (hg _ q1_108) dX9_within_6 ?_
      refine lv_icmp_ge (tgt := 41) hx hb dX9_within_9 (by decide) (fun c_1 => ?_) (fun c_1 => ?_)
      ·
        have kc_1 : (v 1).toInt ≤ x3.toInt := i_le c_1
        refine lv_iload_n hx hb dX9_within_41 rfl (lv_at hl 2 rfl) ?_
        exact W.iret (v := x2) hx hb hr (fun tt ht hW => ⟨x2, rfl, trivial, ht⟩) (fun _ h => by cases h) dX9_within_42
      ·
        have kc_1 : x3.toInt < (v 1).toInt := i_nle c_1
        refine lv_aload_n hx hb dX9_within_12 rfl (lv_at hl 0 rfl) ?_
        refine gf_parish_cell hx hb hg hown hK hP rfl (hg _ q1_116) dX9_within_13 ?_
        refine lv_iload_n hx hb dX9_within_16 rfl (lv_at hl 3 rfl) ?_
        refine ld_Pcell hx hb hK hP (i_in (by omega) (by omega)) dX9_within_17 ?_
        refine lv_topi (fun x_2 ex_2 => ?_)
        have ex_2 : x_2 = (a 11) x3.toNatClampNeg := ex_2
        have hx_2 : x_2.toInt = ((a 11) x3.toNatClampNeg).toInt := by rw [ex_2]
        refine lv_iload_n hx hb dX9_within_18 rfl (lv_at hl 1 rfl) ?_
        refine cS_p (As := [.int x_2, .int p1]) (rest := []) ⟨hx, hb, hml, hown, hg⟩ (k_X9_apart l   x_2 p1 ) ca_X9_apart q2_192 ⟨rfl, rfl⟩ ⟨Nat.le_of_ble_eq_true rfl, Nat.le_of_ble_eq_true rfl⟩ rfl hl.1 rfl (Nat.le_of_ble_eq_true rfl) ⟨Nat.zero_le _, Nat.zero_le _⟩ dX9_within_19 (fun r_3 wr_3 => ?_)
        refine lv_aload_n hx hb dX9_within_22 rfl (lv_at hl 0 rfl) ?_
        refine gf_parish_mile hx hb hg hown hK hP (x := (v 2)) rfl (hg _ q1_110) dX9_within_23 ?_
        refine lv_icmp_gt (tgt := 35) hx hb dX9_within_26 (by decide) (fun c_4 => ?_) (fun c_4 => ?_)
        ·
          have kc_4 : (v 2).toInt < r_3.toInt := i_lt c_4
          obtain ⟨x_5, ex_5⟩ : ∃ y : Int32, y = x3 + 1 := ⟨_, rfl⟩
          have fx_5 : x_5.toInt = x3.toInt + 1 := by rw [ex_5]; exact i_add (by first | omega | (show (_ : Int) ≤ x3.toInt + 1; omega)) (by first | omega | (show x3.toInt + 1 ≤ (_ : Int); omega))
          refine lv_iinc (v := x_5) (lv' := [(3, .int x_5), (0, .ref (ad 1)), (1, .int p1), (2, .int x2)]) hx hb dX9_within_35 hl (k := 3) rfl (by rw [ex_5]; rfl) (by decide) rfl (fun ls hl => ?_)
          refine lv_goto (tgt := 4) hx hb dX9_within_38 (by decide) ?_
          exact ih x2 x_5 (by omega) (by omega) ls (lv_sub hl [1, 2, 3, 0] rfl)
        ·
          have kc_4 : r_3.toInt ≤ (v 2).toInt := i_nlt c_4
          refine lv_iload_n hx hb dX9_within_29 rfl (lv_at hl 2 rfl) ?_
          refine lv_iconst (v := 1) hx hb dX9_within_30 (by decide) ?_
          refine lv_iload_n hx hb dX9_within_31 rfl (lv_at hl 3 rfl) ?_
          refine lv_ishl hx hb dX9_within_32 ?_
          refine lv_topi (fun x_6 ex_6 => ?_)
          refine lv_ior hx hb dX9_within_33 ?_
          refine lv_topi (fun x_7 ex_7 => ?_)
          refine lv_istore_n (lv' := [(2, .int x_7), (0, .ref (ad 1)), (1, .int p1), (3, .int x3)]) hx hb dX9_within_34 rfl hl (by decide) rfl (fun ls hl => ?_)
          obtain ⟨x_8, ex_8⟩ : ∃ y : Int32, y = x3 + 1 := ⟨_, rfl⟩
          have fx_8 : x_8.toInt = x3.toInt + 1 := by rw [ex_8]; exact i_add (by first | omega | (show (_ : Int) ≤ x3.toInt + 1; omega)) (by first | omega | (show x3.toInt + 1 ≤ (_ : Int); omega))
          refine lv_iinc (v := x_8) (lv' := [(3, .int x_8), (2, .int x_7), (0, .ref (ad 1)), (1, .int p1)]) hx hb dX9_within_35 hl (k := 3) rfl (by rw [ex_8]; rfl) (by decide) rfl (fun ls hl => ?_)
          refine lv_goto (tgt := 4) hx hb dX9_within_38 (by decide) ?_
          exact ih x_7 x_8 (by omega) (by omega) ls (lv_sub hl [2, 3, 1, 0] rfl)
  refine lv_iconst (v := 0) hx hb dX9_within_0 (by decide) ?_
  refine lv_istore_n (lv' := [(2, .int 0), (0, .ref (ad 1)), (1, .int p1)]) hx hb dX9_within_1 rfl hl (by decide) rfl (fun ls hl => ?_)
  refine lv_iconst (v := 0) hx hb dX9_within_2 (by decide) ?_
  refine lv_istore_n (lv' := [(3, .int 0), (2, .int 0), (0, .ref (ad 1)), (1, .int p1)]) hx hb dX9_within_3 rfl hl (by decide) rfl (fun ls hl => ?_)
  have q0_0 : (0 : Int32).toInt = 0 := rfl
  exact (hcut ((((v 1).toInt - (0 : Int32).toInt).toNat) + 1)) 0 0 (by omega) (Nat.lt_succ_self _) ls (lv_sub hl [2, 3, 1, 0] rfl)
set_option maxHeartbeats 4000000 in
set_option maxRecDepth 100000 in
theorem k_X9_lookAround (l : Launch) (D : va_G) (cs : Nat → ClassId) (A : Nat → Prop) (ad fa fq rv : Nat → Nat) (v : Nat → Int32) (a : Nat → Nat → Int32) (w : Nat → Nat → Int64) (fv fp : Nat → Nat → Int32)   (iv1_0 : 0 ≤ (v 1).toInt) (iv1_1 : (v 1).toInt ≤ 8) : Met l yX9_lookAround (Cond.code yX9_lookAround cX9_lookAround 2 none :: gw) ({ frames := 2, cells := 0, slots := 0, locals := 46 }) (va_Pc [.ref (ad 1)] (XPre D (TY cs) (CW cs ad fa fq rv v a w fv fp) A)) (va_Qv (fun (z : Nat → Int32) => True) (XPo D (fun (z : Nat → Int32) => CW cs ad fa fq rv v (va_up a 14 z) w fv fp) A) A) 0 0 A := by
  refine Met.ofW (cc := cX9_lookAround) (maxL := 2) (ret := none) (by decide) rfl ?_
  intro p e s m args below meth c s₁ B hml hv
  obtain ⟨rfl, hP, hK, hD, hZ⟩ := hv
  have hx := B.exec
  have hb := B.bytes
  have hr := B.returns
  have hts := atoms_spec (ws := (Cond.code yX9_lookAround cX9_lookAround 2 none :: gw)) B.pre
  have hg : ∀ w ∈ gw, w.before ([.ref (ad 1)] : List Value).toArray s = true := fun w h => hts w (List.mem_cons_of_mem _ h)
  have hown : s.vm.findClass RX9 = some m.cls := findClass_of_methodNamed B.named
  have hlocks := B.notSynchronized
  have hS : va_S A s.heap s.heap [] := va_S.rf
  have hP : va_P D vwCl (CW cs ad fa fq rv v a w fv fp) s.heap := hP
  have hl := lv_entry ([.ref (ad 1)]) (n := 2) (Nat.le_of_ble_eq_true rfl)
  rw [lg_entry_eq]
  generalize (lg_sl ([.ref (ad 1)]) ++ List.replicate (2 - (lg_sl ([.ref (ad 1)])).length) Slot.unset).toArray = ls at hl ⊢
  have hl : lv_has ls 2 [(0, .ref (ad 1))] := hl
  have hcut : ∀ nk : Nat, (∀ (x1 : Int32) (c2_a14 : Nat → Int32) (H : Heap) (locs : List Loc) (i1 : 0 ≤ x1.toInt) (hmu : ((v 1).toInt - x1.toInt).toNat < nk) (hP : va_P D vwCl (CW cs ad fa fq rv v (va_up a 14 c2_a14) w fv fp) H) (hD : va_D A (CW cs ad fa fq rv v (va_up a 14 c2_a14) w fv fp)) (hS : va_S A s.heap H locs) (ls : Array Slot) (hl : lv_has ls 2 [(0, .ref (ad 1)), (1, .int x1)]), W p l e (headSpec (Cond.code yX9_lookAround cX9_lookAround 2 none :: gw) ({ frames := 2, cells := 0, slots := 0, locals := 46 })).room s m ([.ref (ad 1)] : List Value).toArray below meth c H locs 0 0 (MQ below (va_Qv (fun (z : Nat → Int32) => True) (XPo D (fun (z : Nat → Int32) => CW cs ad fa fq rv v (va_up a 14 z) w fv fp) A) A) ([.ref (ad 1)] : List Value).toArray s 0 0 A) (F0 m 2 ls [])) := by
    intro nk
    induction nk with
    | zero => exact (fun x1 c2_a14 H locs i1 hmu hP hD hS ls hl => absurd hmu (Nat.not_lt_zero _))
    | succ nk ih =>
      intro x1 c2_a14 H locs i1 hmu hP hD hS ls hl
      refine lv_iload_n hx hb dX9_lookAround_2 rfl (lv_at hl 1 rfl) ?_
      refine lv_aload_n hx hb dX9_lookAround_3 rfl (lv_at hl 0 rfl) ?_
      refine gf_parish_people hx hb hg hown hK hP (x := (v 1)) rfl (hg _ q1_108) dX9_lookAround_4 ?_
      refine lv_icmp_ge (tgt := 35) hx hb dX9_lookAround_7 (by decide) (fun c_1 => ?_) (fun c_1 => ?_)
      ·
        have kc_1 : (v 1).toInt ≤ x1.toInt := i_le c_1
        exact W.vret hx hb hr (fun tt ht hW => ⟨⟨c2_a14, rfl, trivial, by rw [ht]; exact hP, hD⟩, hS.F ht⟩) hS.2.2 dX9_lookAround_35
      ·
        have kc_1 : x1.toInt < (v 1).toInt := i_nle c_1
        refine lv_aload_n hx hb dX9_lookAround_10 rfl (lv_at hl 0 rfl) ?_
        refine gf_parish_near hx hb hg hown hK hP rfl (hg _ q1_125) dX9_lookAround_11 ?_
        refine lv_iload_n hx hb dX9_lookAround_14 rfl (lv_at hl 1 rfl) ?_
        refine lv_aload_n hx hb dX9_lookAround_15 rfl (lv_at hl 0 rfl) ?_
        refine lv_aload_n hx hb dX9_lookAround_16 rfl (lv_at hl 0 rfl) ?_
        refine gf_parish_cell hx hb hg hown hK hP rfl (hg _ q1_116) dX9_lookAround_17 ?_
        refine lv_iload_n hx hb dX9_lookAround_20 rfl (lv_at hl 1 rfl) ?_
        refine ld_Pcell hx hb hK hP (i_in (by omega) (by omega)) dX9_lookAround_21 ?_
        refine lv_topi (fun x_2 ex_2 => ?_)
        have ex_2 : x_2 = (a 11) x1.toNatClampNeg := ex_2
        have hx_2 : x_2.toInt = ((a 11) x1.toNatClampNeg).toInt := by rw [ex_2]
        refine cV_ro (As := [.int x_2]) (rest := [.int x1, .ref (ad 14)]) ⟨hx, hb, hml, hown, hg⟩ (k_X9_within l D cs A ad fa fq rv v (va_up a 14 c2_a14) w fv fp  x_2 (show 0 ≤ (v 1).toInt by first | omega | decide) (show (v 1).toInt ≤ 8 by first | omega | decide)) ca_X9_within q2_188 ⟨rfl, rfl⟩ ⟨Nat.le_of_ble_eq_true rfl, Nat.le_of_ble_eq_true rfl⟩ (rc_parish hK hP) hK hP hD hS hZ rfl hl.1 rfl (Nat.le_of_ble_eq_true rfl) ⟨Nat.zero_le _, Nat.zero_le _⟩ dX9_lookAround_22 (fun r_3 wr_3 => ?_)
        have wr_3_0 : True := wr_3
        refine cS_p (As := [.int r_3]) (rest := [.int x1, .ref (ad 14)]) ⟨hx, hb, hml, hown, hg⟩ (k_J6_bitCount_0f7a4 l   r_3 ) ca_J6_bitCount_0f7a4 q2_195 ⟨rfl, rfl⟩ ⟨Nat.le_of_ble_eq_true rfl, Nat.le_of_ble_eq_true rfl⟩ rfl hl.1 rfl (Nat.le_of_ble_eq_true rfl) ⟨Nat.zero_le _, Nat.zero_le _⟩ dX9_lookAround_25 (fun r_4 wr_4 => ?_)
        refine st_Pnear hx hb hK hP hD hS (i_in (by omega) (by omega)) dX9_lookAround_28 (fun H locs hP hD hS => ?_)
        obtain ⟨x_5, ex_5⟩ : ∃ y : Int32, y = x1 + 1 := ⟨_, rfl⟩
        have fx_5 : x_5.toInt = x1.toInt + 1 := by rw [ex_5]; exact i_add (by first | omega | (show (_ : Int) ≤ x1.toInt + 1; omega)) (by first | omega | (show x1.toInt + 1 ≤ (_ : Int); omega))
        refine lv_iinc (v := x_5) (lv' := [(1, .int x_5), (0, .ref (ad 1))]) hx hb dX9_lookAround_29 hl (k := 1) rfl (by rw [ex_5]; rfl) (by decide) rfl (fun ls hl => ?_)
        refine lv_goto (tgt := 2) hx hb dX9_lookAround_32 (by decide) ?_
        exact ih x_5 (upd c2_a14 x1.toNatClampNeg r_4) _ _ (by omega) (by omega) hP hD hS ls (lv_sub hl [1, 0] rfl)
  refine lv_iconst (v := 0) hx hb dX9_lookAround_0 (by decide) ?_
  refine lv_istore_n (lv' := [(1, .int 0), (0, .ref (ad 1))]) hx hb dX9_lookAround_1 rfl hl (by decide) rfl (fun ls hl => ?_)
  have q0_0 : (0 : Int32).toInt = 0 := rfl
  exact (hcut ((((v 1).toInt - (0 : Int32).toInt).toNat) + 1)) 0 (a 14) _ _ (by omega) (Nat.lt_succ_self _) hP hD hS ls (lv_sub hl [1, 0] rfl)
set_option maxHeartbeats 4000000 in
set_option maxRecDepth 100000 in
theorem k_X9_join (l : Launch) (D : va_G) (cs : Nat → ClassId) (A : Nat → Prop) (ad fa fq rv : Nat → Nat) (v : Nat → Int32) (a : Nat → Nat → Int32) (w : Nat → Nat → Int64) (fv fp : Nat → Nat → Int32)  (p1 : Int32) (p2 : Int32) (hp7 : (v 1).toInt ≤ 7) (iv1_0 : 0 ≤ (v 1).toInt) (iv1_1 : (v 1).toInt ≤ 8) : Met l yX9_join (Cond.code yX9_join cX9_join 4 (some .int) :: gw) ({ frames := 3, cells := 0, slots := 0, locals := 67 }) (va_Pc [.ref (ad 1), .int p1, .int p2] (XPre D (TY cs) (CW cs ad fa fq rv v a w fv fp) A)) (va_Qi (fun (r : Int32) (z : Int32 × (Nat → Int32) × (Nat → Int32) × (Nat → Int32) × (Nat → Int32)) => (r.toInt = (v 1).toInt) ∧ (z.1.toInt = (v 1).toInt + 1) ∧ (0 ≤ z.1.toInt) ∧ (z.1.toInt ≤ 8)) (XPo D (fun (z : Int32 × (Nat → Int32) × (Nat → Int32) × (Nat → Int32) × (Nat → Int32)) => CW cs ad fa fq rv (va_up v 1 z.1) (va_up (va_up (va_up (va_up a 11 z.2.1) 12 z.2.2.1) 13 z.2.2.2.1) 14 z.2.2.2.2) w fv fp) A) A) 0 0 A := by
  refine Met.ofW (cc := cX9_join) (maxL := 4) (ret := (some .int)) (by decide) rfl ?_
  intro p e s m args below meth c s₁ B hml hv
  obtain ⟨rfl, hP, hK, hD, hZ⟩ := hv
  have hx := B.exec
  have hb := B.bytes
  have hr := B.returns
  have hts := atoms_spec (ws := (Cond.code yX9_join cX9_join 4 (some .int) :: gw)) B.pre
  have hg : ∀ w ∈ gw, w.before ([.ref (ad 1), .int p1, .int p2] : List Value).toArray s = true := fun w h => hts w (List.mem_cons_of_mem _ h)
  have hown : s.vm.findClass RX9 = some m.cls := findClass_of_methodNamed B.named
  have hlocks := B.notSynchronized
  have hS : va_S A s.heap s.heap [] := va_S.rf
  have hP : va_P D vwCl (CW cs ad fa fq rv v a w fv fp) s.heap := hP
  have hl := lv_entry ([.ref (ad 1), .int p1, .int p2]) (n := 4) (Nat.le_of_ble_eq_true rfl)
  rw [lg_entry_eq]
  generalize (lg_sl ([.ref (ad 1), .int p1, .int p2]) ++ List.replicate (4 - (lg_sl ([.ref (ad 1), .int p1, .int p2])).length) Slot.unset).toArray = ls at hl ⊢
  have hl : lv_has ls 4 [(0, .ref (ad 1)), (1, .int p1), (2, .int p2)] := hl
  refine lv_aload_n hx hb dX9_join_0 rfl (lv_at hl 0 rfl) ?_
  refine gf_parish_people hx hb hg hown hK hP (x := (v 1)) rfl (hg _ q1_108) dX9_join_1 ?_
  refine lv_istore_n (lv' := [(3, .int (v 1)), (0, .ref (ad 1)), (1, .int p1), (2, .int p2)]) hx hb dX9_join_4 rfl hl (by decide) rfl (fun ls hl => ?_)
  refine lv_aload_n hx hb dX9_join_5 rfl (lv_at hl 1 rfl) ?_
  refine lv_dup hx hb dX9_join_6 rfl ?_
  refine gf_parish_people hx hb hg hown hK hP (x := (v 1)) rfl (hg _ q1_108) dX9_join_7 ?_
  refine lv_iconst (v := 1) hx hb dX9_join_10 (by decide) ?_
  refine lv_iadd hx hb dX9_join_11 ?_
  refine lv_topi (fun x_1 ex_1 => ?_)
  have fx_1 : x_1.toInt = (v 1).toInt + (1 : Int) := by rw [ex_1]; exact i_add (by first | omega | (show (_ : Int) ≤ (v 1).toInt + (1 : Int); omega)) (by first | omega | (show (v 1).toInt + (1 : Int) ≤ (_ : Int); omega))
  refine pf_parish_people hx hb hg hown hK hP hD hS (hg _ q1_108) dX9_join_12 (fun H locs hP hD hS => ?_)
  refine lv_aload_n hx hb dX9_join_15 rfl (lv_at hl 1 rfl) ?_
  refine gf_parish_cell hx hb hg hown hK hP rfl (hg _ q1_116) dX9_join_16 ?_
  refine lv_iload_n hx hb dX9_join_19 rfl (lv_at hl 0 rfl) ?_
  refine lv_iload_n hx hb dX9_join_20 rfl (lv_at hl 2 rfl) ?_
  refine st_Pcell hx hb hK hP hD hS (i_in (by omega) (by omega)) dX9_join_21 (fun H locs hP hD hS => ?_)
  refine lv_aload_n hx hb dX9_join_22 rfl (lv_at hl 1 rfl) ?_
  refine gf_parish_cheek hx hb hg hown hK hP rfl (hg _ q1_120) dX9_join_23 ?_
  refine lv_iload_n hx hb dX9_join_26 rfl (lv_at hl 0 rfl) ?_
  refine lv_iload_n hx hb dX9_join_27 rfl (lv_at hl 3 rfl) ?_
  refine st_Pcheek hx hb hK hP hD hS (i_in (by omega) (by omega)) dX9_join_28 (fun H locs hP hD hS => ?_)
  refine lv_aload_n hx hb dX9_join_29 rfl (lv_at hl 1 rfl) ?_
  refine gf_parish_pay hx hb hg hown hK hP rfl (hg _ q1_123) dX9_join_30 ?_
  refine lv_iload_n hx hb dX9_join_33 rfl (lv_at hl 0 rfl) ?_
  refine lv_bipush (v := 10) hx hb dX9_join_34 (by decide) ?_
  refine st_Ppay hx hb hK hP hD hS (i_in (by omega) (by omega)) dX9_join_36 (fun H locs hP hD hS => ?_)
  refine lv_aload_n hx hb dX9_join_37 rfl (lv_at hl 1 rfl) ?_
  refine cV_v (As := []) (rest := []) ⟨hx, hb, hml, hown, hg⟩ (k_X9_lookAround l D cs A ad fa fq rv (va_up v 1 x_1) (va_up (va_up (va_up a 11 (upd (a 11) (v 1).toNatClampNeg p1)) 12 (upd (a 12) (v 1).toNatClampNeg p2)) 13 (upd (a 13) (v 1).toNatClampNeg 10)) w fv fp   (show 0 ≤ x_1.toInt by first | omega | decide) (show x_1.toInt ≤ 8 by first | omega | decide)) ca_X9_lookAround q2_184 ⟨rfl, rfl⟩ ⟨Nat.le_of_ble_eq_true rfl, Nat.le_of_ble_eq_true rfl⟩ (rc_parish hK hP) hK hP hD hS hZ rfl hl.1 rfl (Nat.le_of_ble_eq_true rfl) ⟨Nat.zero_le _, Nat.zero_le _⟩ dX9_join_38 (fun o_a14_3 H locs wr_2 hP hD hS => ?_)
  have hP : va_P D vwCl (CW cs ad fa fq rv (va_up v 1 x_1) (va_up (va_up (va_up (va_up a 11 (upd (a 11) (v 1).toNatClampNeg p1)) 12 (upd (a 12) (v 1).toNatClampNeg p2)) 13 (upd (a 13) (v 1).toNatClampNeg 10)) 14 o_a14_3) w fv fp) H := hP
  have hD : va_D A (CW cs ad fa fq rv (va_up v 1 x_1) (va_up (va_up (va_up (va_up a 11 (upd (a 11) (v 1).toNatClampNeg p1)) 12 (upd (a 12) (v 1).toNatClampNeg p2)) 13 (upd (a 13) (v 1).toNatClampNeg 10)) 14 o_a14_3) w fv fp) := hD
  have wr_2_0 : True := wr_2
  refine lv_iload_n hx hb dX9_join_41 rfl (lv_at hl 0 rfl) ?_
  exact W.iret (v := (v 1)) hx hb hr (fun tt ht hW => ⟨⟨(v 1), ⟨x_1, (upd (a 11) (v 1).toNatClampNeg p1), (upd (a 12) (v 1).toNatClampNeg p2), (upd (a 13) (v 1).toNatClampNeg 10), o_a14_3⟩, rfl, ⟨(by first | rfl | omega | trivial | assumption | (dsimp only; first | omega | assumption)), (by first | rfl | omega | trivial | assumption | (dsimp only; first | omega | assumption)), (show 0 ≤ x_1.toInt by first | omega | assumption), (show x_1.toInt ≤ 8 by first | omega | assumption)⟩, by rw [ht]; exact hP, hD⟩, hS.F ht⟩) hS.2.2 dX9_join_42
set_option maxHeartbeats 4000000 in
set_option maxRecDepth 100000 in
theorem k_X11_join (l : Launch) (D : va_G) (cs : Nat → ClassId) (A : Nat → Prop) (ad fa fq rv : Nat → Nat) (v : Nat → Int32) (a : Nat → Nat → Int32) (w : Nat → Nat → Int64) (fv fp : Nat → Nat → Int32)  (p1 : Int32) (p2 : Int32) (p3 : Int32) (hp7 : (v 1).toInt ≤ 7) (iv1_0 : 0 ≤ (v 1).toInt) (iv1_1 : (v 1).toInt ≤ 8) : Met l yX11_join (Cond.code yX11_join cX11_join 5 (some .int) :: gw) ({ frames := 4, cells := 0, slots := 0, locals := 90 }) (va_Pc [.ref (ad 0), .int p1, .int p2, .int p3] (XPre D (TY cs) (CW cs ad fa fq rv v a w fv fp) A)) (va_Qi (fun (r : Int32) (z : Int32 × (Nat → Int32) × (Nat → Int32) × (Nat → Int32) × (Nat → Int32) × (Nat → Int32)) => (r.toInt = (v 1).toInt) ∧ (z.1.toInt = (v 1).toInt + 1) ∧ (0 ≤ z.1.toInt) ∧ (z.1.toInt ≤ 8)) (XPo D (fun (z : Int32 × (Nat → Int32) × (Nat → Int32) × (Nat → Int32) × (Nat → Int32) × (Nat → Int32)) => CW cs ad fa fq rv (va_up v 1 z.1) (va_up (va_up (va_up (va_up a 11 z.2.1) 12 z.2.2.1) 13 z.2.2.2.1) 14 z.2.2.2.2.1) w fv (va_up fp 14 z.2.2.2.2.2)) A) A) 0 0 A := by
  refine Met.ofW (cc := cX11_join) (maxL := 5) (ret := (some .int)) (by decide) rfl ?_
  intro p e s m args below meth c s₁ B hml hv
  obtain ⟨rfl, hP, hK, hD, hZ⟩ := hv
  have hx := B.exec
  have hb := B.bytes
  have hr := B.returns
  have hts := atoms_spec (ws := (Cond.code yX11_join cX11_join 5 (some .int) :: gw)) B.pre
  have hg : ∀ w ∈ gw, w.before ([.ref (ad 0), .int p1, .int p2, .int p3] : List Value).toArray s = true := fun w h => hts w (List.mem_cons_of_mem _ h)
  have hown : s.vm.findClass RX11 = some m.cls := findClass_of_methodNamed B.named
  have hlocks := B.notSynchronized
  have hS : va_S A s.heap s.heap [] := va_S.rf
  have hP : va_P D vwCl (CW cs ad fa fq rv v a w fv fp) s.heap := hP
  have hl := lv_entry ([.ref (ad 0), .int p1, .int p2, .int p3]) (n := 5) (Nat.le_of_ble_eq_true rfl)
  rw [lg_entry_eq]
  generalize (lg_sl ([.ref (ad 0), .int p1, .int p2, .int p3]) ++ List.replicate (5 - (lg_sl ([.ref (ad 0), .int p1, .int p2, .int p3])).length) Slot.unset).toArray = ls at hl ⊢
  have hl : lv_has ls 5 [(0, .ref (ad 0)), (1, .int p1), (2, .int p2), (3, .int p3)] := hl
  refine lv_aload_n hx hb dX11_join_0 rfl (lv_at hl 0 rfl) ?_
  refine gf_main_parish hx hb hg hown hK hP rfl (hg _ q2_123) dX11_join_1 ?_
  refine lv_iload_n hx hb dX11_join_4 rfl (lv_at hl 1 rfl) ?_
  refine lv_iload_n hx hb dX11_join_5 rfl (lv_at hl 2 rfl) ?_
  refine cV_i (As := [.int p1, .int p2]) (rest := []) ⟨hx, hb, hml, hown, hg⟩ (k_X9_join l D cs A ad fa fq rv v a w fv fp  p1 p2 (show (v 1).toInt ≤ 7 by first | omega | decide) (show 0 ≤ (v 1).toInt by first | omega | decide) (show (v 1).toInt ≤ 8 by first | omega | decide)) ca_X9_join q2_180 ⟨rfl, rfl⟩ ⟨Nat.le_of_ble_eq_true rfl, Nat.le_of_ble_eq_true rfl⟩ (rc_parish hK hP) hK hP hD hS hZ rfl hl.1 rfl (Nat.le_of_ble_eq_true rfl) ⟨Nat.zero_le _, Nat.zero_le _⟩ dX11_join_6 (fun r_1 z_7 H locs wr_1 hP hD hS => ?_)
  obtain ⟨o_v1_2, o_a11_3, o_a12_4, o_a13_5, o_a14_6⟩ := z_7
  have hP : va_P D vwCl (CW cs ad fa fq rv (va_up v 1 o_v1_2) (va_up (va_up (va_up (va_up a 11 o_a11_3) 12 o_a12_4) 13 o_a13_5) 14 o_a14_6) w fv fp) H := hP
  have hD : va_D A (CW cs ad fa fq rv (va_up v 1 o_v1_2) (va_up (va_up (va_up (va_up a 11 o_a11_3) 12 o_a12_4) 13 o_a13_5) 14 o_a14_6) w fv fp) := hD
  obtain ⟨wr_1_0, wr_1_1, wr_1_2, wr_1_3⟩ : (r_1.toInt = (v 1).toInt) ∧ (o_v1_2.toInt = (v 1).toInt + 1) ∧ (0 ≤ o_v1_2.toInt) ∧ (o_v1_2.toInt ≤ 8) := wr_1
  refine lv_istore (lv' := [(4, .int r_1), (0, .ref (ad 0)), (1, .int p1), (2, .int p2), (3, .int p3)]) hx hb dX11_join_9 hl (by decide) rfl (fun ls hl => ?_)
  refine lv_aload_n hx hb dX11_join_11 rfl (lv_at hl 1 rfl) ?_
  refine gf_main_deed hx hb hg hown hK hP rfl (hg _ q2_125) dX11_join_12 ?_
  refine gf_fl_pads (f := 14) (by decide) hx hb hg hown hK hP (hg _ q1_226) dX11_join_15 ?_
  refine lv_iload hx hb dX11_join_18 (lv_at hl 0 rfl) ?_
  refine lv_iload_n hx hb dX11_join_20 rfl (lv_at hl 4 rfl) ?_
  refine st_pads (f := 14) (by decide) hx hb hK hP hD hS (i_in (by omega) (by omega)) dX11_join_21 (fun H locs hP hD hS => ?_)
  refine lv_iload hx hb dX11_join_22 (lv_at hl 0 rfl) ?_
  exact W.iret (v := r_1) hx hb hr (fun tt ht hW => ⟨⟨r_1, ⟨o_v1_2, o_a11_3, o_a12_4, o_a13_5, o_a14_6, (upd (fp 14) r_1.toNatClampNeg p3)⟩, rfl, ⟨(by first | rfl | omega | trivial | assumption | (dsimp only; first | omega | assumption)), (by first | rfl | omega | trivial | assumption | (dsimp only; first | omega | assumption)), (show 0 ≤ o_v1_2.toInt by first | omega | assumption), (show o_v1_2.toInt ≤ 8 by first | omega | assumption)⟩, by rw [ht]; exact hP, hD⟩, hS.F ht⟩) hS.2.2 dX11_join_24
set_option maxHeartbeats 4000000 in
set_option maxRecDepth 100000 in
theorem k_X9_place (l : Launch) (D : va_G) (cs : Nat → ClassId) (A : Nat → Prop) (ad fa fq rv : Nat → Nat) (v : Nat → Int32) (a : Nat → Nat → Int32) (w : Nat → Nat → Int64) (fv fp : Nat → Nat → Int32)  (p1 : Int32) (p2 : Int32) (h1 : 0 ≤ p1.toInt) (h2 : p1.toInt < 8) (iv1_0 : 0 ≤ (v 1).toInt) (iv1_1 : (v 1).toInt ≤ 8) : Met l yX9_place (Cond.code yX9_place cX9_place 3 none :: gw) ({ frames := 3, cells := 0, slots := 0, locals := 67 }) (va_Pc [.ref (ad 1), .int p1, .int p2] (XPre D (TY cs) (CW cs ad fa fq rv v a w fv fp) A)) (va_Qv (fun (z : (Nat → Int32) × (Nat → Int32)) => True) (XPo D (fun (z : (Nat → Int32) × (Nat → Int32)) => CW cs ad fa fq rv v (va_up (va_up a 11 z.1) 14 z.2) w fv fp) A) A) 0 0 A := by
  refine Met.ofW (cc := cX9_place) (maxL := 3) (ret := none) (by decide) rfl ?_
  intro p e s m args below meth c s₁ B hml hv
  obtain ⟨rfl, hP, hK, hD, hZ⟩ := hv
  have hx := B.exec
  have hb := B.bytes
  have hr := B.returns
  have hts := atoms_spec (ws := (Cond.code yX9_place cX9_place 3 none :: gw)) B.pre
  have hg : ∀ w ∈ gw, w.before ([.ref (ad 1), .int p1, .int p2] : List Value).toArray s = true := fun w h => hts w (List.mem_cons_of_mem _ h)
  have hown : s.vm.findClass RX9 = some m.cls := findClass_of_methodNamed B.named
  have hlocks := B.notSynchronized
  have hS : va_S A s.heap s.heap [] := va_S.rf
  have hP : va_P D vwCl (CW cs ad fa fq rv v a w fv fp) s.heap := hP
  have hl := lv_entry ([.ref (ad 1), .int p1, .int p2]) (n := 3) (Nat.le_of_ble_eq_true rfl)
  rw [lg_entry_eq]
  generalize (lg_sl ([.ref (ad 1), .int p1, .int p2]) ++ List.replicate (3 - (lg_sl ([.ref (ad 1), .int p1, .int p2])).length) Slot.unset).toArray = ls at hl ⊢
  have hl : lv_has ls 3 [(0, .ref (ad 1)), (1, .int p1), (2, .int p2)] := hl
  refine lv_aload_n hx hb dX9_place_0 rfl (lv_at hl 0 rfl) ?_
  refine gf_parish_cell hx hb hg hown hK hP rfl (hg _ q1_116) dX9_place_1 ?_
  refine lv_iload_n hx hb dX9_place_4 rfl (lv_at hl 1 rfl) ?_
  refine lv_iload_n hx hb dX9_place_5 rfl (lv_at hl 2 rfl) ?_
  refine st_Pcell hx hb hK hP hD hS (i_in (by omega) (by omega)) dX9_place_6 (fun H locs hP hD hS => ?_)
  refine lv_aload_n hx hb dX9_place_7 rfl (lv_at hl 0 rfl) ?_
  refine cV_v (As := []) (rest := []) ⟨hx, hb, hml, hown, hg⟩ (k_X9_lookAround l D cs A ad fa fq rv v (va_up a 11 (upd (a 11) p1.toNatClampNeg p2)) w fv fp   (show 0 ≤ (v 1).toInt by first | omega | decide) (show (v 1).toInt ≤ 8 by first | omega | decide)) ca_X9_lookAround q2_184 ⟨rfl, rfl⟩ ⟨Nat.le_of_ble_eq_true rfl, Nat.le_of_ble_eq_true rfl⟩ (rc_parish hK hP) hK hP hD hS hZ rfl hl.1 rfl (Nat.le_of_ble_eq_true rfl) ⟨Nat.zero_le _, Nat.zero_le _⟩ dX9_place_8 (fun o_a14_2 H locs wr_1 hP hD hS => ?_)
  have hP : va_P D vwCl (CW cs ad fa fq rv v (va_up (va_up a 11 (upd (a 11) p1.toNatClampNeg p2)) 14 o_a14_2) w fv fp) H := hP
  have hD : va_D A (CW cs ad fa fq rv v (va_up (va_up a 11 (upd (a 11) p1.toNatClampNeg p2)) 14 o_a14_2) w fv fp) := hD
  have wr_1_0 : True := wr_1
  exact W.vret hx hb hr (fun tt ht hW => ⟨⟨⟨(upd (a 11) p1.toNatClampNeg p2), o_a14_2⟩, rfl, trivial, by rw [ht]; exact hP, hD⟩, hS.F ht⟩) hS.2.2 dX9_place_11
set_option maxHeartbeats 4000000 in
set_option maxRecDepth 100000 in
theorem k_X9_setMile (l : Launch) (D : va_G) (cs : Nat → ClassId) (A : Nat → Prop) (ad fa fq rv : Nat → Nat) (v : Nat → Int32) (a : Nat → Nat → Int32) (w : Nat → Nat → Int64) (fv fp : Nat → Nat → Int32)  (p1 : Int32) (iv1_0 : 0 ≤ (v 1).toInt) (iv1_1 : (v 1).toInt ≤ 8) : Met l yX9_setMile (Cond.code yX9_setMile cX9_setMile 2 none :: gw) ({ frames := 3, cells := 0, slots := 0, locals := 67 }) (va_Pc [.ref (ad 1), .int p1] (XPre D (TY cs) (CW cs ad fa fq rv v a w fv fp) A)) (va_Qv (fun (z : Int32 × (Nat → Int32)) => True) (XPo D (fun (z : Int32 × (Nat → Int32)) => CW cs ad fa fq rv (va_up v 2 z.1) (va_up a 14 z.2) w fv fp) A) A) 0 0 A := by
  refine Met.ofW (cc := cX9_setMile) (maxL := 2) (ret := none) (by decide) rfl ?_
  intro p e s m args below meth c s₁ B hml hv
  obtain ⟨rfl, hP, hK, hD, hZ⟩ := hv
  have hx := B.exec
  have hb := B.bytes
  have hr := B.returns
  have hts := atoms_spec (ws := (Cond.code yX9_setMile cX9_setMile 2 none :: gw)) B.pre
  have hg : ∀ w ∈ gw, w.before ([.ref (ad 1), .int p1] : List Value).toArray s = true := fun w h => hts w (List.mem_cons_of_mem _ h)
  have hown : s.vm.findClass RX9 = some m.cls := findClass_of_methodNamed B.named
  have hlocks := B.notSynchronized
  have hS : va_S A s.heap s.heap [] := va_S.rf
  have hP : va_P D vwCl (CW cs ad fa fq rv v a w fv fp) s.heap := hP
  have hl := lv_entry ([.ref (ad 1), .int p1]) (n := 2) (Nat.le_of_ble_eq_true rfl)
  rw [lg_entry_eq]
  generalize (lg_sl ([.ref (ad 1), .int p1]) ++ List.replicate (2 - (lg_sl ([.ref (ad 1), .int p1])).length) Slot.unset).toArray = ls at hl ⊢
  have hl : lv_has ls 2 [(0, .ref (ad 1)), (1, .int p1)] := hl
  refine lv_aload_n hx hb dX9_setMile_0 rfl (lv_at hl 0 rfl) ?_
  refine lv_iload_n hx hb dX9_setMile_1 rfl (lv_at hl 1 rfl) ?_
  refine pf_parish_mile hx hb hg hown hK hP hD hS (hg _ q1_110) dX9_setMile_2 (fun H locs hP hD hS => ?_)
  refine lv_aload_n hx hb dX9_setMile_5 rfl (lv_at hl 0 rfl) ?_
  refine cV_v (As := []) (rest := []) ⟨hx, hb, hml, hown, hg⟩ (k_X9_lookAround l D cs A ad fa fq rv (va_up v 2 p1) a w fv fp   (show 0 ≤ (v 1).toInt by first | omega | decide) (show (v 1).toInt ≤ 8 by first | omega | decide)) ca_X9_lookAround q2_184 ⟨rfl, rfl⟩ ⟨Nat.le_of_ble_eq_true rfl, Nat.le_of_ble_eq_true rfl⟩ (rc_parish hK hP) hK hP hD hS hZ rfl hl.1 rfl (Nat.le_of_ble_eq_true rfl) ⟨Nat.zero_le _, Nat.zero_le _⟩ dX9_setMile_6 (fun o_a14_2 H locs wr_1 hP hD hS => ?_)
  have hP : va_P D vwCl (CW cs ad fa fq rv (va_up v 2 p1) (va_up a 14 o_a14_2) w fv fp) H := hP
  have hD : va_D A (CW cs ad fa fq rv (va_up v 2 p1) (va_up a 14 o_a14_2) w fv fp) := hD
  have wr_1_0 : True := wr_1
  exact W.vret hx hb hr (fun tt ht hW => ⟨⟨⟨p1, o_a14_2⟩, rfl, trivial, by rw [ht]; exact hP, hD⟩, hS.F ht⟩) hS.2.2 dX9_setMile_9
set_option maxHeartbeats 4000000 in
set_option maxRecDepth 100000 in
theorem k_X9_isNearer (l : Launch) (D : va_G) (cs : Nat → ClassId) (A : Nat → Prop) (ad fa fq rv : Nat → Nat) (v : Nat → Int32) (a : Nat → Nat → Int32) (w : Nat → Nat → Int64) (fv fp : Nat → Nat → Int32)  (p1 : Int32) (p2 : Int32) (p3 : Int32) (h1 : 0 ≤ p1.toInt) (h2 : p1.toInt < 8) (h3 : 0 ≤ p2.toInt) (h4 : p2.toInt < 8) (h5 : 0 ≤ p3.toInt) (h6 : p3.toInt < 8) : Met l yX9_isNearer (Cond.code yX9_isNearer cX9_isNearer 6 (some .boolean) :: gw) ({ frames := 1, cells := 0, slots := 0, locals := 23 }) (va_Pc [.ref (ad 1), .int p1, .int p2, .int p3] (XPre D (TY cs) (CW cs ad fa fq rv v a w fv fp) A)) (vp_Si (fun (r : Int32) => (0 ≤ r.toInt) ∧ (r.toInt ≤ 1))) 0 0 (fun _ => False) := by
  refine Met.ofW (cc := cX9_isNearer) (maxL := 6) (ret := (some .boolean)) (by decide) rfl ?_
  intro p e s m args below meth c s₁ B hml hv
  obtain ⟨rfl, hP, hK, hD, hZ⟩ := hv
  have hx := B.exec
  have hb := B.bytes
  have hr := B.returns
  have hts := atoms_spec (ws := (Cond.code yX9_isNearer cX9_isNearer 6 (some .boolean) :: gw)) B.pre
  have hg : ∀ w ∈ gw, w.before ([.ref (ad 1), .int p1, .int p2, .int p3] : List Value).toArray s = true := fun w h => hts w (List.mem_cons_of_mem _ h)
  have hown : s.vm.findClass RX9 = some m.cls := findClass_of_methodNamed B.named
  have hlocks := B.notSynchronized
  have hS : va_S A s.heap s.heap [] := va_S.rf
  have hl := lv_entry ([.ref (ad 1), .int p1, .int p2, .int p3]) (n := 6) (Nat.le_of_ble_eq_true rfl)
  rw [lg_entry_eq]
  generalize (lg_sl ([.ref (ad 1), .int p1, .int p2, .int p3]) ++ List.replicate (6 - (lg_sl ([.ref (ad 1), .int p1, .int p2, .int p3])).length) Slot.unset).toArray = ls at hl ⊢
  have hl : lv_has ls 6 [(0, .ref (ad 1)), (1, .int p1), (2, .int p2), (3, .int p3)] := hl
  refine lv_aload_n hx hb dX9_isNearer_0 rfl (lv_at hl 0 rfl) ?_
  refine gf_parish_cell hx hb hg hown hK hP rfl (hg _ q1_116) dX9_isNearer_1 ?_
  refine lv_iload_n hx hb dX9_isNearer_4 rfl (lv_at hl 1 rfl) ?_
  refine ld_Pcell hx hb hK hP (i_in (by omega) (by omega)) dX9_isNearer_5 ?_
  refine lv_topi (fun x_1 ex_1 => ?_)
  have ex_1 : x_1 = (a 11) p1.toNatClampNeg := ex_1
  have hx_1 : x_1.toInt = ((a 11) p1.toNatClampNeg).toInt := by rw [ex_1]
  refine lv_aload_n hx hb dX9_isNearer_6 rfl (lv_at hl 0 rfl) ?_
  refine gf_parish_cell hx hb hg hown hK hP rfl (hg _ q1_116) dX9_isNearer_7 ?_
  refine lv_iload_n hx hb dX9_isNearer_10 rfl (lv_at hl 2 rfl) ?_
  refine ld_Pcell hx hb hK hP (i_in (by omega) (by omega)) dX9_isNearer_11 ?_
  refine lv_topi (fun x_2 ex_2 => ?_)
  have ex_2 : x_2 = (a 11) p2.toNatClampNeg := ex_2
  have hx_2 : x_2.toInt = ((a 11) p2.toNatClampNeg).toInt := by rw [ex_2]
  refine cS_p (As := [.int x_1, .int x_2]) (rest := []) ⟨hx, hb, hml, hown, hg⟩ (k_X9_apart l   x_1 x_2 ) ca_X9_apart q2_192 ⟨rfl, rfl⟩ ⟨Nat.le_of_ble_eq_true rfl, Nat.le_of_ble_eq_true rfl⟩ rfl hl.1 rfl (Nat.le_of_ble_eq_true rfl) ⟨Nat.zero_le _, Nat.zero_le _⟩ dX9_isNearer_12 (fun r_3 wr_3 => ?_)
  refine lv_istore (lv' := [(4, .int r_3), (0, .ref (ad 1)), (1, .int p1), (2, .int p2), (3, .int p3)]) hx hb dX9_isNearer_15 hl (by decide) rfl (fun ls hl => ?_)
  refine lv_aload_n hx hb dX9_isNearer_17 rfl (lv_at hl 1 rfl) ?_
  refine gf_parish_cell hx hb hg hown hK hP rfl (hg _ q1_116) dX9_isNearer_18 ?_
  refine lv_iload_n hx hb dX9_isNearer_21 rfl (lv_at hl 2 rfl) ?_
  refine ld_Pcell hx hb hK hP (i_in (by omega) (by omega)) dX9_isNearer_22 ?_
  refine lv_topi (fun x_4 ex_4 => ?_)
  have ex_4 : x_4 = (a 11) p1.toNatClampNeg := ex_4
  have hx_4 : x_4.toInt = ((a 11) p1.toNatClampNeg).toInt := by rw [ex_4]
  refine lv_aload_n hx hb dX9_isNearer_23 rfl (lv_at hl 1 rfl) ?_
  refine gf_parish_cell hx hb hg hown hK hP rfl (hg _ q1_116) dX9_isNearer_24 ?_
  refine lv_iload_n hx hb dX9_isNearer_27 rfl (lv_at hl 4 rfl) ?_
  refine ld_Pcell hx hb hK hP (i_in (by omega) (by omega)) dX9_isNearer_28 ?_
  refine lv_topi (fun x_5 ex_5 => ?_)
  have ex_5 : x_5 = (a 11) p3.toNatClampNeg := ex_5
  have hx_5 : x_5.toInt = ((a 11) p3.toNatClampNeg).toInt := by rw [ex_5]
  refine cS_p (As := [.int x_4, .int x_5]) (rest := []) ⟨hx, hb, hml, hown, hg⟩ (k_X9_apart l   x_4 x_5 ) ca_X9_apart q2_192 ⟨rfl, rfl⟩ ⟨Nat.le_of_ble_eq_true rfl, Nat.le_of_ble_eq_true rfl⟩ rfl hl.1 rfl (Nat.le_of_ble_eq_true rfl) ⟨Nat.zero_le _, Nat.zero_le _⟩ dX9_isNearer_29 (fun r_6 wr_6 => ?_)
  refine lv_istore (lv' := [(5, .int r_6), (4, .int r_3), (0, .ref (ad 1)), (1, .int p1), (2, .int p2), (3, .int p3)]) hx hb dX9_isNearer_32 hl (by decide) rfl (fun ls hl => ?_)
  refine lv_iload hx hb dX9_isNearer_34 (lv_at hl 1 rfl) ?_
  refine lv_iload hx hb dX9_isNearer_36 (lv_at hl 0 rfl) ?_
  refine lv_icmp_lt (tgt := 63) hx hb dX9_isNearer_38 (by decide) (fun c_7 => ?_) (fun c_7 => ?_)
  ·
    have kc_7 : r_3.toInt < r_6.toInt := i_lt c_7
    refine lv_iconst (v := 1) hx hb dX9_isNearer_63 (by decide) ?_
    refine lv_goto (tgt := 68) hx hb dX9_isNearer_64 (by decide) ?_
    have q0_1 : (1 : Int32).toInt = 1 := rfl
    exact W.zret (v := 1) hx hb hr rfl (fun tt ht hW => ⟨1, rfl, ⟨(by first | rfl | omega | trivial | assumption | (dsimp only; first | omega | assumption)), (by first | rfl | omega | trivial | assumption | (dsimp only; first | omega | assumption))⟩, ht⟩) (fun _ h => by cases h) dX9_isNearer_68
  ·
    have kc_7 : r_6.toInt ≤ r_3.toInt := i_nlt c_7
    refine lv_iload hx hb dX9_isNearer_41 (lv_at hl 1 rfl) ?_
    refine lv_iload hx hb dX9_isNearer_43 (lv_at hl 0 rfl) ?_
    refine lv_icmp_ne (tgt := 67) hx hb dX9_isNearer_45 (by decide) (fun c_8 => ?_) (fun c_8 => ?_)
    ·
      have kc_8 : r_3.toInt ≠ r_6.toInt := i_ne c_8
      refine lv_iconst (v := 0) hx hb dX9_isNearer_67 (by decide) ?_
      have q0_0 : (0 : Int32).toInt = 0 := rfl
      exact W.zret (v := 0) hx hb hr rfl (fun tt ht hW => ⟨0, rfl, ⟨(by first | rfl | omega | trivial | assumption | (dsimp only; first | omega | assumption)), (by first | rfl | omega | trivial | assumption | (dsimp only; first | omega | assumption))⟩, ht⟩) (fun _ h => by cases h) dX9_isNearer_68
    ·
      have kc_8 : r_3.toInt = r_6.toInt := i_eq c_8
      refine lv_aload_n hx hb dX9_isNearer_48 rfl (lv_at hl 2 rfl) ?_
      refine gf_parish_cheek hx hb hg hown hK hP rfl (hg _ q1_120) dX9_isNearer_49 ?_
      refine lv_iload_n hx hb dX9_isNearer_52 rfl (lv_at hl 4 rfl) ?_
      refine ld_Pcheek hx hb hK hP (i_in (by omega) (by omega)) dX9_isNearer_53 ?_
      refine lv_topi (fun x_9 ex_9 => ?_)
      have ex_9 : x_9 = (a 12) p2.toNatClampNeg := ex_9
      have hx_9 : x_9.toInt = ((a 12) p2.toNatClampNeg).toInt := by rw [ex_9]
      refine lv_aload_n hx hb dX9_isNearer_54 rfl (lv_at hl 2 rfl) ?_
      refine gf_parish_cheek hx hb hg hown hK hP rfl (hg _ q1_120) dX9_isNearer_55 ?_
      refine lv_iload_n hx hb dX9_isNearer_58 rfl (lv_at hl 5 rfl) ?_
      refine ld_Pcheek hx hb hK hP (i_in (by omega) (by omega)) dX9_isNearer_59 ?_
      refine lv_topi (fun x_10 ex_10 => ?_)
      have ex_10 : x_10 = (a 12) p3.toNatClampNeg := ex_10
      have hx_10 : x_10.toInt = ((a 12) p3.toNatClampNeg).toInt := by rw [ex_10]
      refine lv_icmp_ge (tgt := 67) hx hb dX9_isNearer_60 (by decide) (fun c_11 => ?_) (fun c_11 => ?_)
      ·
        have kc_11 : x_10.toInt ≤ x_9.toInt := i_le c_11
        refine lv_iconst (v := 0) hx hb dX9_isNearer_67 (by decide) ?_
        have q0_0 : (0 : Int32).toInt = 0 := rfl
        exact W.zret (v := 0) hx hb hr rfl (fun tt ht hW => ⟨0, rfl, ⟨(by first | rfl | omega | trivial | assumption | (dsimp only; first | omega | assumption)), (by first | rfl | omega | trivial | assumption | (dsimp only; first | omega | assumption))⟩, ht⟩) (fun _ h => by cases h) dX9_isNearer_68
      ·
        have kc_11 : x_9.toInt < x_10.toInt := i_nle c_11
        refine lv_iconst (v := 1) hx hb dX9_isNearer_63 (by decide) ?_
        refine lv_goto (tgt := 68) hx hb dX9_isNearer_64 (by decide) ?_
        have q0_1 : (1 : Int32).toInt = 1 := rfl
        exact W.zret (v := 1) hx hb hr rfl (fun tt ht hW => ⟨1, rfl, ⟨(by first | rfl | omega | trivial | assumption | (dsimp only; first | omega | assumption)), (by first | rfl | omega | trivial | assumption | (dsimp only; first | omega | assumption))⟩, ht⟩) (fun _ h => by cases h) dX9_isNearer_68
set_option maxHeartbeats 4000000 in
set_option maxRecDepth 100000 in
theorem k_X9_whoseCell (l : Launch) (D : va_G) (cs : Nat → ClassId) (A : Nat → Prop) (ad fa fq rv : Nat → Nat) (v : Nat → Int32) (a : Nat → Nat → Int32) (w : Nat → Nat → Int64) (fv fp : Nat → Nat → Int32)  (p1 : Int32) (iv1_0 : 0 ≤ (v 1).toInt) (iv1_1 : (v 1).toInt ≤ 8) : Met l yX9_whoseCell (Cond.code yX9_whoseCell cX9_whoseCell 3 (some .int) :: gw) ({ frames := 0, cells := 0, slots := 0, locals := 0 }) (va_Pc [.ref (ad 1), .int p1] (XPre D (TY cs) (CW cs ad fa fq rv v a w fv fp) A)) (vp_Si (fun (r : Int32) => True)) 0 0 (fun _ => False) := by
  refine Met.ofW (cc := cX9_whoseCell) (maxL := 3) (ret := (some .int)) (by decide) rfl ?_
  intro p e s m args below meth c s₁ B hml hv
  obtain ⟨rfl, hP, hK, hD, hZ⟩ := hv
  have hx := B.exec
  have hb := B.bytes
  have hr := B.returns
  have hts := atoms_spec (ws := (Cond.code yX9_whoseCell cX9_whoseCell 3 (some .int) :: gw)) B.pre
  have hg : ∀ w ∈ gw, w.before ([.ref (ad 1), .int p1] : List Value).toArray s = true := fun w h => hts w (List.mem_cons_of_mem _ h)
  have hown : s.vm.findClass RX9 = some m.cls := findClass_of_methodNamed B.named
  have hlocks := B.notSynchronized
  have hS : va_S A s.heap s.heap [] := va_S.rf
  have hl := lv_entry ([.ref (ad 1), .int p1]) (n := 3) (Nat.le_of_ble_eq_true rfl)
  rw [lg_entry_eq]
  generalize (lg_sl ([.ref (ad 1), .int p1]) ++ List.replicate (3 - (lg_sl ([.ref (ad 1), .int p1])).length) Slot.unset).toArray = ls at hl ⊢
  have hl : lv_has ls 3 [(0, .ref (ad 1)), (1, .int p1)] := hl
  have hcut : ∀ nk : Nat, (∀ (x2 : Int32) (i2 : 0 ≤ x2.toInt) (hmu : ((v 1).toInt - x2.toInt).toNat < nk) (ls : Array Slot) (hl : lv_has ls 3 [(0, .ref (ad 1)), (1, .int p1), (2, .int x2)]), W p l e (headSpec (Cond.code yX9_whoseCell cX9_whoseCell 3 (some .int) :: gw) ({ frames := 0, cells := 0, slots := 0, locals := 0 })).room s m ([.ref (ad 1), .int p1] : List Value).toArray below meth c s.heap [] 0 0 (MQ below (vp_Si (fun (r : Int32) => True)) ([.ref (ad 1), .int p1] : List Value).toArray s 0 0 (fun _ => False)) (F0 m 2 ls [])) := by
    intro nk
    induction nk with
    | zero => exact (fun x2 i2 hmu ls hl => absurd hmu (Nat.not_lt_zero _))
    | succ nk ih =>
      intro x2 i2 hmu ls hl
      refine lv_iload_n hx hb dX9_whoseCell_2 rfl (lv_at hl 2 rfl) ?_
      refine lv_aload_n hx hb dX9_whoseCell_3 rfl (lv_at hl 0 rfl) ?_
      refine gf_parish_people hx hb hg hown hK hP (x := (v 1)) rfl (hg _ q1_108) dX9_whoseCell_4 ?_
      refine lv_icmp_ge (tgt := 28) hx hb dX9_whoseCell_7 (by decide) (fun c_1 => ?_) (fun c_1 => ?_)
      ·
        have kc_1 : (v 1).toInt ≤ x2.toInt := i_le c_1
        refine lv_bipush (v := 8) hx hb dX9_whoseCell_28 (by decide) ?_
        have q0_8 : (8 : Int32).toInt = 8 := rfl
        exact W.iret (v := 8) hx hb hr (fun tt ht hW => ⟨8, rfl, trivial, ht⟩) (fun _ h => by cases h) dX9_whoseCell_30
      ·
        have kc_1 : x2.toInt < (v 1).toInt := i_nle c_1
        refine lv_aload_n hx hb dX9_whoseCell_10 rfl (lv_at hl 0 rfl) ?_
        refine gf_parish_cell hx hb hg hown hK hP rfl (hg _ q1_116) dX9_whoseCell_11 ?_
        refine lv_iload_n hx hb dX9_whoseCell_14 rfl (lv_at hl 2 rfl) ?_
        refine ld_Pcell hx hb hK hP (i_in (by omega) (by omega)) dX9_whoseCell_15 ?_
        refine lv_topi (fun x_2 ex_2 => ?_)
        have ex_2 : x_2 = (a 11) x2.toNatClampNeg := ex_2
        have hx_2 : x_2.toInt = ((a 11) x2.toNatClampNeg).toInt := by rw [ex_2]
        refine lv_iload_n hx hb dX9_whoseCell_16 rfl (lv_at hl 1 rfl) ?_
        refine lv_icmp_ne (tgt := 22) hx hb dX9_whoseCell_17 (by decide) (fun c_3 => ?_) (fun c_3 => ?_)
        ·
          have kc_3 : x_2.toInt ≠ p1.toInt := i_ne c_3
          obtain ⟨x_4, ex_4⟩ : ∃ y : Int32, y = x2 + 1 := ⟨_, rfl⟩
          have fx_4 : x_4.toInt = x2.toInt + 1 := by rw [ex_4]; exact i_add (by first | omega | (show (_ : Int) ≤ x2.toInt + 1; omega)) (by first | omega | (show x2.toInt + 1 ≤ (_ : Int); omega))
          refine lv_iinc (v := x_4) (lv' := [(2, .int x_4), (0, .ref (ad 1)), (1, .int p1)]) hx hb dX9_whoseCell_22 hl (k := 2) rfl (by rw [ex_4]; rfl) (by decide) rfl (fun ls hl => ?_)
          refine lv_goto (tgt := 2) hx hb dX9_whoseCell_25 (by decide) ?_
          exact ih x_4 (by omega) (by omega) ls (lv_sub hl [1, 2, 0] rfl)
        ·
          have kc_3 : x_2.toInt = p1.toInt := i_eq c_3
          refine lv_iload_n hx hb dX9_whoseCell_20 rfl (lv_at hl 2 rfl) ?_
          exact W.iret (v := x2) hx hb hr (fun tt ht hW => ⟨x2, rfl, trivial, ht⟩) (fun _ h => by cases h) dX9_whoseCell_21
  refine lv_iconst (v := 0) hx hb dX9_whoseCell_0 (by decide) ?_
  refine lv_istore_n (lv' := [(2, .int 0), (0, .ref (ad 1)), (1, .int p1)]) hx hb dX9_whoseCell_1 rfl hl (by decide) rfl (fun ls hl => ?_)
  have q0_0 : (0 : Int32).toInt = 0 := rfl
  exact (hcut ((((v 1).toInt - (0 : Int32).toInt).toNat) + 1)) 0 (by omega) (Nat.lt_succ_self _) ls (lv_sub hl [1, 2, 0] rfl)
set_option maxHeartbeats 4000000 in
set_option maxRecDepth 100000 in
theorem k_X10_isEmpty (l : Launch) (D : va_G) (cs : Nat → ClassId) (A : Nat → Prop) (ad fa fq rv : Nat → Nat) (v : Nat → Int32) (a : Nat → Nat → Int32) (w : Nat → Nat → Int64) (fv fp : Nat → Nat → Int32)  (p1 : Int32) (h1 : 0 ≤ p1.toInt) (h2 : p1.toInt < 6) (ia28_0 : AB (-1) 5 (a 28)) : Met l yX10_isEmpty (Cond.code yX10_isEmpty cX10_isEmpty 2 (some .boolean) :: gw) ({ frames := 0, cells := 0, slots := 0, locals := 0 }) (va_Pc [.ref (ad 8), .int p1] (XPre D (TY cs) (CW cs ad fa fq rv v a w fv fp) A)) (vp_Si (fun (r : Int32) => ((r.toInt = 1 ∧ ((a 28) p1.toNatClampNeg).toInt = -1) ∨ (r.toInt = 0 ∧ ¬ (((a 28) p1.toNatClampNeg).toInt = -1))))) 0 0 (fun _ => False) := by
  refine Met.ofW (cc := cX10_isEmpty) (maxL := 2) (ret := (some .boolean)) (by decide) rfl ?_
  intro p e s m args below meth c s₁ B hml hv
  obtain ⟨rfl, hP, hK, hD, hZ⟩ := hv
  have hx := B.exec
  have hb := B.bytes
  have hr := B.returns
  have hts := atoms_spec (ws := (Cond.code yX10_isEmpty cX10_isEmpty 2 (some .boolean) :: gw)) B.pre
  have hg : ∀ w ∈ gw, w.before ([.ref (ad 8), .int p1] : List Value).toArray s = true := fun w h => hts w (List.mem_cons_of_mem _ h)
  have hown : s.vm.findClass RX10 = some m.cls := findClass_of_methodNamed B.named
  have hlocks := B.notSynchronized
  have hS : va_S A s.heap s.heap [] := va_S.rf
  have hl := lv_entry ([.ref (ad 8), .int p1]) (n := 2) (Nat.le_of_ble_eq_true rfl)
  rw [lg_entry_eq]
  generalize (lg_sl ([.ref (ad 8), .int p1]) ++ List.replicate (2 - (lg_sl ([.ref (ad 8), .int p1])).length) Slot.unset).toArray = ls at hl ⊢
  have hl : lv_has ls 2 [(0, .ref (ad 8)), (1, .int p1)] := hl
  refine lv_aload_n hx hb dX10_isEmpty_0 rfl (lv_at hl 0 rfl) ?_
  refine gf_shelves_sort hx hb hg hown hK hP rfl (hg _ q1_66) dX10_isEmpty_1 ?_
  refine lv_iload_n hx hb dX10_isEmpty_4 rfl (lv_at hl 1 rfl) ?_
  refine ld_Ssort hx hb hK hP (i_in (by omega) (by omega)) dX10_isEmpty_5 ?_
  refine lv_topi (fun x_1 ex_1 => ?_)
  have ex_1 : x_1 = (a 28) p1.toNatClampNeg := ex_1
  have hx_1 : x_1.toInt = ((a 28) p1.toNatClampNeg).toInt := by rw [ex_1]
  have bx_1 := ia28_0 p1.toNatClampNeg
  rw [← ex_1] at bx_1
  refine lv_iconst (v := (-1)) hx hb dX10_isEmpty_6 (by decide) ?_
  refine lv_icmp_ne (tgt := 14) hx hb dX10_isEmpty_7 (by decide) (fun c_2 => ?_) (fun c_2 => ?_)
  ·
    have kc_2 : x_1.toInt ≠ (-1 : Int) := i_ne c_2
    refine lv_iconst (v := 0) hx hb dX10_isEmpty_14 (by decide) ?_
    have q0_0 : (0 : Int32).toInt = 0 := rfl
    exact W.zret (v := 0) hx hb hr rfl (fun tt ht hW => ⟨0, rfl, (by first | rfl | omega | trivial | assumption | (dsimp only; first | omega | assumption)), ht⟩) (fun _ h => by cases h) dX10_isEmpty_15
  ·
    have kc_2 : x_1.toInt = (-1 : Int) := i_eq c_2
    refine lv_iconst (v := 1) hx hb dX10_isEmpty_10 (by decide) ?_
    refine lv_goto (tgt := 15) hx hb dX10_isEmpty_11 (by decide) ?_
    have q0_1 : (1 : Int32).toInt = 1 := rfl
    exact W.zret (v := 1) hx hb hr rfl (fun tt ht hW => ⟨1, rfl, (by first | rfl | omega | trivial | assumption | (dsimp only; first | omega | assumption)), ht⟩) (fun _ h => by cases h) dX10_isEmpty_15
set_option maxHeartbeats 4000000 in
set_option maxRecDepth 100000 in
theorem k_X10_holdsRow (l : Launch) (D : va_G) (cs : Nat → ClassId) (A : Nat → Prop) (ad fa fq rv : Nat → Nat) (v : Nat → Int32) (a : Nat → Nat → Int32) (w : Nat → Nat → Int64) (fv fp : Nat → Nat → Int32)  (p1 : Int32) (p2 : Int32) (h1 : 0 ≤ p1.toInt) (h2 : p1.toInt < 6) (ia28_0 : AB (-1) 5 (a 28)) : Met l yX10_holdsRow (Cond.code yX10_holdsRow cX10_holdsRow 3 (some .boolean) :: gw) ({ frames := 0, cells := 0, slots := 0, locals := 0 }) (va_Pc [.ref (ad 8), .int p1, .int p2] (XPre D (TY cs) (CW cs ad fa fq rv v a w fv fp) A)) (vp_Si (fun (r : Int32) => ((r.toInt = 1 ∧ ((a 28) p1.toNatClampNeg).toInt = p2.toInt) ∨ (r.toInt = 0 ∧ ¬ (((a 28) p1.toNatClampNeg).toInt = p2.toInt))))) 0 0 (fun _ => False) := by
  refine Met.ofW (cc := cX10_holdsRow) (maxL := 3) (ret := (some .boolean)) (by decide) rfl ?_
  intro p e s m args below meth c s₁ B hml hv
  obtain ⟨rfl, hP, hK, hD, hZ⟩ := hv
  have hx := B.exec
  have hb := B.bytes
  have hr := B.returns
  have hts := atoms_spec (ws := (Cond.code yX10_holdsRow cX10_holdsRow 3 (some .boolean) :: gw)) B.pre
  have hg : ∀ w ∈ gw, w.before ([.ref (ad 8), .int p1, .int p2] : List Value).toArray s = true := fun w h => hts w (List.mem_cons_of_mem _ h)
  have hown : s.vm.findClass RX10 = some m.cls := findClass_of_methodNamed B.named
  have hlocks := B.notSynchronized
  have hS : va_S A s.heap s.heap [] := va_S.rf
  have hl := lv_entry ([.ref (ad 8), .int p1, .int p2]) (n := 3) (Nat.le_of_ble_eq_true rfl)
  rw [lg_entry_eq]
  generalize (lg_sl ([.ref (ad 8), .int p1, .int p2]) ++ List.replicate (3 - (lg_sl ([.ref (ad 8), .int p1, .int p2])).length) Slot.unset).toArray = ls at hl ⊢
  have hl : lv_has ls 3 [(0, .ref (ad 8)), (1, .int p1), (2, .int p2)] := hl
  refine lv_aload_n hx hb dX10_holdsRow_0 rfl (lv_at hl 0 rfl) ?_
  refine gf_shelves_sort hx hb hg hown hK hP rfl (hg _ q1_66) dX10_holdsRow_1 ?_
  refine lv_iload_n hx hb dX10_holdsRow_4 rfl (lv_at hl 1 rfl) ?_
  refine ld_Ssort hx hb hK hP (i_in (by omega) (by omega)) dX10_holdsRow_5 ?_
  refine lv_topi (fun x_1 ex_1 => ?_)
  have ex_1 : x_1 = (a 28) p1.toNatClampNeg := ex_1
  have hx_1 : x_1.toInt = ((a 28) p1.toNatClampNeg).toInt := by rw [ex_1]
  have bx_1 := ia28_0 p1.toNatClampNeg
  rw [← ex_1] at bx_1
  refine lv_iload_n hx hb dX10_holdsRow_6 rfl (lv_at hl 2 rfl) ?_
  refine lv_icmp_ne (tgt := 14) hx hb dX10_holdsRow_7 (by decide) (fun c_2 => ?_) (fun c_2 => ?_)
  ·
    have kc_2 : x_1.toInt ≠ p2.toInt := i_ne c_2
    refine lv_iconst (v := 0) hx hb dX10_holdsRow_14 (by decide) ?_
    have q0_0 : (0 : Int32).toInt = 0 := rfl
    exact W.zret (v := 0) hx hb hr rfl (fun tt ht hW => ⟨0, rfl, (by first | rfl | omega | trivial | assumption | (dsimp only; first | omega | assumption)), ht⟩) (fun _ h => by cases h) dX10_holdsRow_15
  ·
    have kc_2 : x_1.toInt = p2.toInt := i_eq c_2
    refine lv_iconst (v := 1) hx hb dX10_holdsRow_10 (by decide) ?_
    refine lv_goto (tgt := 15) hx hb dX10_holdsRow_11 (by decide) ?_
    have q0_1 : (1 : Int32).toInt = 1 := rfl
    exact W.zret (v := 1) hx hb hr rfl (fun tt ht hW => ⟨1, rfl, (by first | rfl | omega | trivial | assumption | (dsimp only; first | omega | assumption)), ht⟩) (fun _ h => by cases h) dX10_holdsRow_15
set_option maxHeartbeats 4000000 in
set_option maxRecDepth 100000 in
theorem k_X10_isRow (l : Launch) (D : va_G) (cs : Nat → ClassId) (A : Nat → Prop) (ad fa fq rv : Nat → Nat) (v : Nat → Int32) (a : Nat → Nat → Int32) (w : Nat → Nat → Int64) (fv fp : Nat → Nat → Int32)  (p1 : Int32) (h1 : 0 ≤ p1.toInt) (h2 : p1.toInt < 6) (ia28_0 : AB (-1) 5 (a 28)) : Met l yX10_isRow (Cond.code yX10_isRow cX10_isRow 2 (some .boolean) :: gw) ({ frames := 0, cells := 0, slots := 0, locals := 0 }) (va_Pc [.ref (ad 8), .int p1] (XPre D (TY cs) (CW cs ad fa fq rv v a w fv fp) A)) (vp_Si (fun (r : Int32) => ((r.toInt = 1 ∧ (((a 28) p1.toNatClampNeg).toInt ≠ -1 ∧ ((a 28) p1.toNatClampNeg).toInt ≠ 5)) ∨ (r.toInt = 0 ∧ ¬ ((((a 28) p1.toNatClampNeg).toInt ≠ -1 ∧ ((a 28) p1.toNatClampNeg).toInt ≠ 5)))))) 0 0 (fun _ => False) := by
  refine Met.ofW (cc := cX10_isRow) (maxL := 2) (ret := (some .boolean)) (by decide) rfl ?_
  intro p e s m args below meth c s₁ B hml hv
  obtain ⟨rfl, hP, hK, hD, hZ⟩ := hv
  have hx := B.exec
  have hb := B.bytes
  have hr := B.returns
  have hts := atoms_spec (ws := (Cond.code yX10_isRow cX10_isRow 2 (some .boolean) :: gw)) B.pre
  have hg : ∀ w ∈ gw, w.before ([.ref (ad 8), .int p1] : List Value).toArray s = true := fun w h => hts w (List.mem_cons_of_mem _ h)
  have hown : s.vm.findClass RX10 = some m.cls := findClass_of_methodNamed B.named
  have hlocks := B.notSynchronized
  have hS : va_S A s.heap s.heap [] := va_S.rf
  have hl := lv_entry ([.ref (ad 8), .int p1]) (n := 2) (Nat.le_of_ble_eq_true rfl)
  rw [lg_entry_eq]
  generalize (lg_sl ([.ref (ad 8), .int p1]) ++ List.replicate (2 - (lg_sl ([.ref (ad 8), .int p1])).length) Slot.unset).toArray = ls at hl ⊢
  have hl : lv_has ls 2 [(0, .ref (ad 8)), (1, .int p1)] := hl
  refine lv_aload_n hx hb dX10_isRow_0 rfl (lv_at hl 0 rfl) ?_
  refine gf_shelves_sort hx hb hg hown hK hP rfl (hg _ q1_66) dX10_isRow_1 ?_
  refine lv_iload_n hx hb dX10_isRow_4 rfl (lv_at hl 1 rfl) ?_
  refine ld_Ssort hx hb hK hP (i_in (by omega) (by omega)) dX10_isRow_5 ?_
  refine lv_topi (fun x_1 ex_1 => ?_)
  have ex_1 : x_1 = (a 28) p1.toNatClampNeg := ex_1
  have hx_1 : x_1.toInt = ((a 28) p1.toNatClampNeg).toInt := by rw [ex_1]
  have bx_1 := ia28_0 p1.toNatClampNeg
  rw [← ex_1] at bx_1
  refine lv_iconst (v := (-1)) hx hb dX10_isRow_6 (by decide) ?_
  refine lv_icmp_eq (tgt := 24) hx hb dX10_isRow_7 (by decide) (fun c_2 => ?_) (fun c_2 => ?_)
  ·
    have kc_2 : x_1.toInt = (-1 : Int) := i_eq c_2
    refine lv_iconst (v := 0) hx hb dX10_isRow_24 (by decide) ?_
    have q0_0 : (0 : Int32).toInt = 0 := rfl
    exact W.zret (v := 0) hx hb hr rfl (fun tt ht hW => ⟨0, rfl, (by first | rfl | omega | trivial | assumption | (dsimp only; first | omega | assumption)), ht⟩) (fun _ h => by cases h) dX10_isRow_25
  ·
    have kc_2 : x_1.toInt ≠ (-1 : Int) := i_ne c_2
    refine lv_aload_n hx hb dX10_isRow_10 rfl (lv_at hl 0 rfl) ?_
    refine gf_shelves_sort hx hb hg hown hK hP rfl (hg _ q1_66) dX10_isRow_11 ?_
    refine lv_iload_n hx hb dX10_isRow_14 rfl (lv_at hl 1 rfl) ?_
    refine ld_Ssort hx hb hK hP (i_in (by omega) (by omega)) dX10_isRow_15 ?_
    refine lv_topi (fun x_3 ex_3 => ?_)
    have ex_3 : x_3 = (a 28) p1.toNatClampNeg := ex_3
    have hx_3 : x_3.toInt = ((a 28) p1.toNatClampNeg).toInt := by rw [ex_3]
    have bx_3 := ia28_0 p1.toNatClampNeg
    rw [← ex_3] at bx_3
    refine lv_iconst (v := 5) hx hb dX10_isRow_16 (by decide) ?_
    refine lv_icmp_eq (tgt := 24) hx hb dX10_isRow_17 (by decide) (fun c_4 => ?_) (fun c_4 => ?_)
    ·
      have kc_4 : x_3.toInt = (5 : Int) := i_eq c_4
      refine lv_iconst (v := 0) hx hb dX10_isRow_24 (by decide) ?_
      have q0_0 : (0 : Int32).toInt = 0 := rfl
      exact W.zret (v := 0) hx hb hr rfl (fun tt ht hW => ⟨0, rfl, (by first | rfl | omega | trivial | assumption | (dsimp only; first | omega | assumption)), ht⟩) (fun _ h => by cases h) dX10_isRow_25
    ·
      have kc_4 : x_3.toInt ≠ (5 : Int) := i_ne c_4
      refine lv_iconst (v := 1) hx hb dX10_isRow_20 (by decide) ?_
      refine lv_goto (tgt := 25) hx hb dX10_isRow_21 (by decide) ?_
      have q0_1 : (1 : Int32).toInt = 1 := rfl
      exact W.zret (v := 1) hx hb hr rfl (fun tt ht hW => ⟨1, rfl, (by first | rfl | omega | trivial | assumption | (dsimp only; first | omega | assumption)), ht⟩) (fun _ h => by cases h) dX10_isRow_25
set_option maxHeartbeats 4000000 in
set_option maxRecDepth 100000 in
theorem k_X10_sizeOf (l : Launch) (D : va_G) (cs : Nat → ClassId) (A : Nat → Prop) (ad fa fq rv : Nat → Nat) (v : Nat → Int32) (a : Nat → Nat → Int32) (w : Nat → Nat → Int64) (fv fp : Nat → Nat → Int32)  (p1 : Int32) (h1 : 0 ≤ p1.toInt) (h2 : p1.toInt < 6) (ia28_0 : AB (-1) 5 (a 28)) (ia29_0 : AB (-1) 60 (a 29)) : Met l yX10_sizeOf (Cond.code yX10_sizeOf cX10_sizeOf 2 (some .int) :: gw) ({ frames := 1, cells := 0, slots := 0, locals := 21 }) (va_Pc [.ref (ad 8), .int p1] (XPre D (TY cs) (CW cs ad fa fq rv v a w fv fp) A)) (vp_Si (fun (r : Int32) => (((((a 28) p1.toNatClampNeg).toInt ≠ -1 ∧ ((a 28) p1.toNatClampNeg).toInt ≠ 5) ∧ r.toInt = ((a 29) p1.toNatClampNeg).toInt) ∨ (¬ (((a 28) p1.toNatClampNeg).toInt ≠ -1 ∧ ((a 28) p1.toNatClampNeg).toInt ≠ 5) ∧ r.toInt = 0)) ∧ (-1 ≤ r.toInt) ∧ (r.toInt ≤ 60))) 0 0 (fun _ => False) := by
  refine Met.ofW (cc := cX10_sizeOf) (maxL := 2) (ret := (some .int)) (by decide) rfl ?_
  intro p e s m args below meth c s₁ B hml hv
  obtain ⟨rfl, hP, hK, hD, hZ⟩ := hv
  have hx := B.exec
  have hb := B.bytes
  have hr := B.returns
  have hts := atoms_spec (ws := (Cond.code yX10_sizeOf cX10_sizeOf 2 (some .int) :: gw)) B.pre
  have hg : ∀ w ∈ gw, w.before ([.ref (ad 8), .int p1] : List Value).toArray s = true := fun w h => hts w (List.mem_cons_of_mem _ h)
  have hown : s.vm.findClass RX10 = some m.cls := findClass_of_methodNamed B.named
  have hlocks := B.notSynchronized
  have hS : va_S A s.heap s.heap [] := va_S.rf
  have hl := lv_entry ([.ref (ad 8), .int p1]) (n := 2) (Nat.le_of_ble_eq_true rfl)
  rw [lg_entry_eq]
  generalize (lg_sl ([.ref (ad 8), .int p1]) ++ List.replicate (2 - (lg_sl ([.ref (ad 8), .int p1])).length) Slot.unset).toArray = ls at hl ⊢
  have hl : lv_has ls 2 [(0, .ref (ad 8)), (1, .int p1)] := hl
  refine lv_aload_n hx hb dX10_sizeOf_0 rfl (lv_at hl 0 rfl) ?_
  refine lv_iload_n hx hb dX10_sizeOf_1 rfl (lv_at hl 1 rfl) ?_
  refine cV_ro (As := [.int p1]) (rest := []) ⟨hx, hb, hml, hown, hg⟩ (k_X10_isRow l D cs A ad fa fq rv v a w fv fp  p1 (show 0 ≤ p1.toInt by first | omega | decide) (show p1.toInt < 6 by first | omega | decide) ia28_0) ca_X10_isRow q2_226 ⟨rfl, rfl⟩ ⟨Nat.le_of_ble_eq_true rfl, Nat.le_of_ble_eq_true rfl⟩ (rc_shelves hK hP) hK hP hD hS hZ rfl hl.1 rfl (Nat.le_of_ble_eq_true rfl) ⟨Nat.zero_le _, Nat.zero_le _⟩ dX10_sizeOf_2 (fun r_1 wr_1 => ?_)
  have wr_1_0 : (r_1.toInt = 1 ∧ (((a 28) p1.toNatClampNeg).toInt ≠ -1 ∧ ((a 28) p1.toNatClampNeg).toInt ≠ 5)) ∨ (r_1.toInt = 0 ∧ ¬ ((((a 28) p1.toNatClampNeg).toInt ≠ -1 ∧ ((a 28) p1.toNatClampNeg).toInt ≠ 5))) := wr_1
  refine lv_if_eq (tgt := 17) hx hb dX10_sizeOf_5 (by decide) (fun c_2 => ?_) (fun c_2 => ?_)
  ·
    have kc_2 : r_1.toInt = (0 : Int) := i_eq c_2
    refine lv_iconst (v := 0) hx hb dX10_sizeOf_17 (by decide) ?_
    have q0_0 : (0 : Int32).toInt = 0 := rfl
    exact W.iret (v := 0) hx hb hr (fun tt ht hW => ⟨0, rfl, ⟨(by first | rfl | omega | trivial | assumption | (dsimp only; first | omega | assumption)), (by first | rfl | omega | trivial | assumption | (dsimp only; first | omega | assumption)), (by first | rfl | omega | trivial | assumption | (dsimp only; first | omega | assumption))⟩, ht⟩) (fun _ h => by cases h) dX10_sizeOf_18
  ·
    have kc_2 : r_1.toInt ≠ (0 : Int) := i_ne c_2
    refine lv_aload_n hx hb dX10_sizeOf_8 rfl (lv_at hl 0 rfl) ?_
    refine gf_shelves_size hx hb hg hown hK hP rfl (hg _ q1_67) dX10_sizeOf_9 ?_
    refine lv_iload_n hx hb dX10_sizeOf_12 rfl (lv_at hl 1 rfl) ?_
    refine ld_Ssize hx hb hK hP (i_in (by omega) (by omega)) dX10_sizeOf_13 ?_
    refine lv_topi (fun x_3 ex_3 => ?_)
    have ex_3 : x_3 = (a 29) p1.toNatClampNeg := ex_3
    have hx_3 : x_3.toInt = ((a 29) p1.toNatClampNeg).toInt := by rw [ex_3]
    have bx_3 := ia29_0 p1.toNatClampNeg
    rw [← ex_3] at bx_3
    refine lv_goto (tgt := 18) hx hb dX10_sizeOf_14 (by decide) ?_
    exact W.iret (v := x_3) hx hb hr (fun tt ht hW => ⟨x_3, rfl, ⟨(by first | rfl | omega | trivial | assumption | (dsimp only; first | omega | assumption)), (by first | rfl | omega | trivial | assumption | (dsimp only; first | omega | assumption)), (by first | rfl | omega | trivial | assumption | (dsimp only; first | omega | assumption))⟩, ht⟩) (fun _ h => by cases h) dX10_sizeOf_18
set_option maxHeartbeats 4000000 in
set_option maxRecDepth 100000 in
theorem k_X10_bodyOn (l : Launch) (D : va_G) (cs : Nat → ClassId) (A : Nat → Prop) (ad fa fq rv : Nat → Nat) (v : Nat → Int32) (a : Nat → Nat → Int32) (w : Nat → Nat → Int64) (fv fp : Nat → Nat → Int32)  (p1 : Int32) (h1 : 0 ≤ p1.toInt) (h2 : p1.toInt < 6) (ia28_0 : AB (-1) 5 (a 28)) (ia29_0 : AB (-1) 60 (a 29)) : Met l yX10_bodyOn (Cond.code yX10_bodyOn cX10_bodyOn 2 (some .int) :: gw) ({ frames := 0, cells := 0, slots := 0, locals := 0 }) (va_Pc [.ref (ad 8), .int p1] (XPre D (TY cs) (CW cs ad fa fq rv v a w fv fp) A)) (vp_Si (fun (r : Int32) => ((((a 28) p1.toNatClampNeg).toInt = 5 ∧ r.toInt = ((a 29) p1.toNatClampNeg).toInt) ∨ (((a 28) p1.toNatClampNeg).toInt ≠ 5 ∧ r.toInt = -1)))) 0 0 (fun _ => False) := by
  refine Met.ofW (cc := cX10_bodyOn) (maxL := 2) (ret := (some .int)) (by decide) rfl ?_
  intro p e s m args below meth c s₁ B hml hv
  obtain ⟨rfl, hP, hK, hD, hZ⟩ := hv
  have hx := B.exec
  have hb := B.bytes
  have hr := B.returns
  have hts := atoms_spec (ws := (Cond.code yX10_bodyOn cX10_bodyOn 2 (some .int) :: gw)) B.pre
  have hg : ∀ w ∈ gw, w.before ([.ref (ad 8), .int p1] : List Value).toArray s = true := fun w h => hts w (List.mem_cons_of_mem _ h)
  have hown : s.vm.findClass RX10 = some m.cls := findClass_of_methodNamed B.named
  have hlocks := B.notSynchronized
  have hS : va_S A s.heap s.heap [] := va_S.rf
  have hl := lv_entry ([.ref (ad 8), .int p1]) (n := 2) (Nat.le_of_ble_eq_true rfl)
  rw [lg_entry_eq]
  generalize (lg_sl ([.ref (ad 8), .int p1]) ++ List.replicate (2 - (lg_sl ([.ref (ad 8), .int p1])).length) Slot.unset).toArray = ls at hl ⊢
  have hl : lv_has ls 2 [(0, .ref (ad 8)), (1, .int p1)] := hl
  refine lv_aload_n hx hb dX10_bodyOn_0 rfl (lv_at hl 0 rfl) ?_
  refine gf_shelves_sort hx hb hg hown hK hP rfl (hg _ q1_66) dX10_bodyOn_1 ?_
  refine lv_iload_n hx hb dX10_bodyOn_4 rfl (lv_at hl 1 rfl) ?_
  refine ld_Ssort hx hb hK hP (i_in (by omega) (by omega)) dX10_bodyOn_5 ?_
  refine lv_topi (fun x_1 ex_1 => ?_)
  have ex_1 : x_1 = (a 28) p1.toNatClampNeg := ex_1
  have hx_1 : x_1.toInt = ((a 28) p1.toNatClampNeg).toInt := by rw [ex_1]
  have bx_1 := ia28_0 p1.toNatClampNeg
  rw [← ex_1] at bx_1
  refine lv_iconst (v := 5) hx hb dX10_bodyOn_6 (by decide) ?_
  refine lv_icmp_ne (tgt := 19) hx hb dX10_bodyOn_7 (by decide) (fun c_2 => ?_) (fun c_2 => ?_)
  ·
    have kc_2 : x_1.toInt ≠ (5 : Int) := i_ne c_2
    refine lv_iconst (v := (-1)) hx hb dX10_bodyOn_19 (by decide) ?_
    have q0_m1 : ((-1) : Int32).toInt = (-1) := rfl
    exact W.iret (v := (-1)) hx hb hr (fun tt ht hW => ⟨(-1), rfl, (by first | rfl | omega | trivial | assumption | (dsimp only; first | omega | assumption)), ht⟩) (fun _ h => by cases h) dX10_bodyOn_20
  ·
    have kc_2 : x_1.toInt = (5 : Int) := i_eq c_2
    refine lv_aload_n hx hb dX10_bodyOn_10 rfl (lv_at hl 0 rfl) ?_
    refine gf_shelves_size hx hb hg hown hK hP rfl (hg _ q1_67) dX10_bodyOn_11 ?_
    refine lv_iload_n hx hb dX10_bodyOn_14 rfl (lv_at hl 1 rfl) ?_
    refine ld_Ssize hx hb hK hP (i_in (by omega) (by omega)) dX10_bodyOn_15 ?_
    refine lv_topi (fun x_3 ex_3 => ?_)
    have ex_3 : x_3 = (a 29) p1.toNatClampNeg := ex_3
    have hx_3 : x_3.toInt = ((a 29) p1.toNatClampNeg).toInt := by rw [ex_3]
    have bx_3 := ia29_0 p1.toNatClampNeg
    rw [← ex_3] at bx_3
    refine lv_goto (tgt := 20) hx hb dX10_bodyOn_16 (by decide) ?_
    exact W.iret (v := x_3) hx hb hr (fun tt ht hW => ⟨x_3, rfl, (by first | rfl | omega | trivial | assumption | (dsimp only; first | omega | assumption)), ht⟩) (fun _ h => by cases h) dX10_bodyOn_20
set_option maxHeartbeats 4000000 in
set_option maxRecDepth 100000 in
theorem k_X10_faultOfBytes (l : Launch) (D : va_G) (cs : Nat → ClassId) (A : Nat → Prop) (ad fa fq rv : Nat → Nat) (v : Nat → Int32) (a : Nat → Nat → Int32) (w : Nat → Nat → Int64) (fv fp : Nat → Nat → Int32)  (p1 : Int32) (p2 : Int32) (h1 : 0 ≤ p1.toInt) (h2 : p1.toInt < 6) (h3 : 0 ≤ p2.toInt) (h4 : p2.toInt < 6) (ia28_0 : AB (-1) 5 (a 28)) : Met l yX10_faultOfBytes (Cond.code yX10_faultOfBytes cX10_faultOfBytes 3 (some .int) :: gw) ({ frames := 1, cells := 0, slots := 0, locals := 22 }) (va_Pc [.ref (ad 8), .int p1, .int p2] (XPre D (TY cs) (CW cs ad fa fq rv v a w fv fp) A)) (vp_Si (fun (r : Int32) => (r.toInt = 0 ∨ r.toInt = -11 ∨ r.toInt = -12))) 0 0 (fun _ => False) := by
  refine Met.ofW (cc := cX10_faultOfBytes) (maxL := 3) (ret := (some .int)) (by decide) rfl ?_
  intro p e s m args below meth c s₁ B hml hv
  obtain ⟨rfl, hP, hK, hD, hZ⟩ := hv
  have hx := B.exec
  have hb := B.bytes
  have hr := B.returns
  have hts := atoms_spec (ws := (Cond.code yX10_faultOfBytes cX10_faultOfBytes 3 (some .int) :: gw)) B.pre
  have hg : ∀ w ∈ gw, w.before ([.ref (ad 8), .int p1, .int p2] : List Value).toArray s = true := fun w h => hts w (List.mem_cons_of_mem _ h)
  have hown : s.vm.findClass RX10 = some m.cls := findClass_of_methodNamed B.named
  have hlocks := B.notSynchronized
  have hS : va_S A s.heap s.heap [] := va_S.rf
  have hl := lv_entry ([.ref (ad 8), .int p1, .int p2]) (n := 3) (Nat.le_of_ble_eq_true rfl)
  rw [lg_entry_eq]
  generalize (lg_sl ([.ref (ad 8), .int p1, .int p2]) ++ List.replicate (3 - (lg_sl ([.ref (ad 8), .int p1, .int p2])).length) Slot.unset).toArray = ls at hl ⊢
  have hl : lv_has ls 3 [(0, .ref (ad 8)), (1, .int p1), (2, .int p2)] := hl
  refine lv_aload_n hx hb dX10_faultOfBytes_0 rfl (lv_at hl 0 rfl) ?_
  refine lv_iload_n hx hb dX10_faultOfBytes_1 rfl (lv_at hl 1 rfl) ?_
  refine cV_ro (As := [.int p1]) (rest := []) ⟨hx, hb, hml, hown, hg⟩ (k_X10_isEmpty l D cs A ad fa fq rv v a w fv fp  p1 (show 0 ≤ p1.toInt by first | omega | decide) (show p1.toInt < 6 by first | omega | decide) ia28_0) ca_X10_isEmpty q3_155 ⟨rfl, rfl⟩ ⟨Nat.le_of_ble_eq_true rfl, Nat.le_of_ble_eq_true rfl⟩ (rc_shelves hK hP) hK hP hD hS hZ rfl hl.1 rfl (Nat.le_of_ble_eq_true rfl) ⟨Nat.zero_le _, Nat.zero_le _⟩ dX10_faultOfBytes_2 (fun r_1 wr_1 => ?_)
  have wr_1_0 : (r_1.toInt = 1 ∧ ((a 28) p1.toNatClampNeg).toInt = -1) ∨ (r_1.toInt = 0 ∧ ¬ (((a 28) p1.toNatClampNeg).toInt = -1)) := wr_1
  refine lv_if_ne (tgt := 16) hx hb dX10_faultOfBytes_5 (by decide) (fun c_2 => ?_) (fun c_2 => ?_)
  ·
    have kc_2 : r_1.toInt ≠ (0 : Int) := i_ne c_2
    refine lv_bipush (v := (-11)) hx hb dX10_faultOfBytes_16 (by decide) ?_
    have q0_m11 : ((-11) : Int32).toInt = (-11) := rfl
    exact W.iret (v := (-11)) hx hb hr (fun tt ht hW => ⟨(-11), rfl, (by first | rfl | omega | trivial | assumption | (dsimp only; first | omega | assumption)), ht⟩) (fun _ h => by cases h) dX10_faultOfBytes_18
  ·
    have kc_2 : r_1.toInt = (0 : Int) := i_eq c_2
    refine lv_aload_n hx hb dX10_faultOfBytes_8 rfl (lv_at hl 0 rfl) ?_
    refine lv_iload_n hx hb dX10_faultOfBytes_9 rfl (lv_at hl 2 rfl) ?_
    refine cV_ro (As := [.int p2]) (rest := []) ⟨hx, hb, hml, hown, hg⟩ (k_X10_isEmpty l D cs A ad fa fq rv v a w fv fp  p2 (show 0 ≤ p2.toInt by first | omega | decide) (show p2.toInt < 6 by first | omega | decide) ia28_0) ca_X10_isEmpty q3_155 ⟨rfl, rfl⟩ ⟨Nat.le_of_ble_eq_true rfl, Nat.le_of_ble_eq_true rfl⟩ (rc_shelves hK hP) hK hP hD hS hZ rfl hl.1 rfl (Nat.le_of_ble_eq_true rfl) ⟨Nat.zero_le _, Nat.zero_le _⟩ dX10_faultOfBytes_10 (fun r_3 wr_3 => ?_)
    have wr_3_0 : (r_3.toInt = 1 ∧ ((a 28) p2.toNatClampNeg).toInt = -1) ∨ (r_3.toInt = 0 ∧ ¬ (((a 28) p2.toNatClampNeg).toInt = -1)) := wr_3
    refine lv_if_eq (tgt := 19) hx hb dX10_faultOfBytes_13 (by decide) (fun c_4 => ?_) (fun c_4 => ?_)
    ·
      have kc_4 : r_3.toInt = (0 : Int) := i_eq c_4
      refine lv_aload_n hx hb dX10_faultOfBytes_19 rfl (lv_at hl 0 rfl) ?_
      refine lv_iload_n hx hb dX10_faultOfBytes_20 rfl (lv_at hl 1 rfl) ?_
      refine lv_iconst (v := 0) hx hb dX10_faultOfBytes_21 (by decide) ?_
      refine cV_ro (As := [.int p1, .int 0]) (rest := []) ⟨hx, hb, hml, hown, hg⟩ (k_X10_holdsRow l D cs A ad fa fq rv v a w fv fp  p1 0 (show 0 ≤ p1.toInt by first | omega | decide) (show p1.toInt < 6 by first | omega | decide) ia28_0) ca_X10_holdsRow q3_156 ⟨rfl, rfl⟩ ⟨Nat.le_of_ble_eq_true rfl, Nat.le_of_ble_eq_true rfl⟩ (rc_shelves hK hP) hK hP hD hS hZ rfl hl.1 rfl (Nat.le_of_ble_eq_true rfl) ⟨Nat.zero_le _, Nat.zero_le _⟩ dX10_faultOfBytes_22 (fun r_5 wr_5 => ?_)
      have wr_5_0 : (r_5.toInt = 1 ∧ ((a 28) p1.toNatClampNeg).toInt = (0 : Int)) ∨ (r_5.toInt = 0 ∧ ¬ (((a 28) p1.toNatClampNeg).toInt = (0 : Int))) := wr_5
      refine lv_if_eq (tgt := 41) hx hb dX10_faultOfBytes_25 (by decide) (fun c_6 => ?_) (fun c_6 => ?_)
      ·
        have kc_6 : r_5.toInt = (0 : Int) := i_eq c_6
        refine lv_bipush (v := (-12)) hx hb dX10_faultOfBytes_41 (by decide) ?_
        have q0_m12 : ((-12) : Int32).toInt = (-12) := rfl
        exact W.iret (v := (-12)) hx hb hr (fun tt ht hW => ⟨(-12), rfl, (by first | rfl | omega | trivial | assumption | (dsimp only; first | omega | assumption)), ht⟩) (fun _ h => by cases h) dX10_faultOfBytes_43
      ·
        have kc_6 : r_5.toInt ≠ (0 : Int) := i_ne c_6
        refine lv_aload_n hx hb dX10_faultOfBytes_28 rfl (lv_at hl 0 rfl) ?_
        refine lv_iload_n hx hb dX10_faultOfBytes_29 rfl (lv_at hl 2 rfl) ?_
        refine lv_iconst (v := 0) hx hb dX10_faultOfBytes_30 (by decide) ?_
        refine cV_ro (As := [.int p2, .int 0]) (rest := []) ⟨hx, hb, hml, hown, hg⟩ (k_X10_holdsRow l D cs A ad fa fq rv v a w fv fp  p2 0 (show 0 ≤ p2.toInt by first | omega | decide) (show p2.toInt < 6 by first | omega | decide) ia28_0) ca_X10_holdsRow q3_156 ⟨rfl, rfl⟩ ⟨Nat.le_of_ble_eq_true rfl, Nat.le_of_ble_eq_true rfl⟩ (rc_shelves hK hP) hK hP hD hS hZ rfl hl.1 rfl (Nat.le_of_ble_eq_true rfl) ⟨Nat.zero_le _, Nat.zero_le _⟩ dX10_faultOfBytes_31 (fun r_7 wr_7 => ?_)
        have wr_7_0 : (r_7.toInt = 1 ∧ ((a 28) p2.toNatClampNeg).toInt = (0 : Int)) ∨ (r_7.toInt = 0 ∧ ¬ (((a 28) p2.toNatClampNeg).toInt = (0 : Int))) := wr_7
        refine lv_if_eq (tgt := 41) hx hb dX10_faultOfBytes_34 (by decide) (fun c_8 => ?_) (fun c_8 => ?_)
        ·
          have kc_8 : r_7.toInt = (0 : Int) := i_eq c_8
          refine lv_bipush (v := (-12)) hx hb dX10_faultOfBytes_41 (by decide) ?_
          have q0_m12 : ((-12) : Int32).toInt = (-12) := rfl
          exact W.iret (v := (-12)) hx hb hr (fun tt ht hW => ⟨(-12), rfl, (by first | rfl | omega | trivial | assumption | (dsimp only; first | omega | assumption)), ht⟩) (fun _ h => by cases h) dX10_faultOfBytes_43
        ·
          have kc_8 : r_7.toInt ≠ (0 : Int) := i_ne c_8
          refine lv_iconst (v := 0) hx hb dX10_faultOfBytes_37 (by decide) ?_
          refine lv_goto (tgt := 43) hx hb dX10_faultOfBytes_38 (by decide) ?_
          have q0_0 : (0 : Int32).toInt = 0 := rfl
          exact W.iret (v := 0) hx hb hr (fun tt ht hW => ⟨0, rfl, (by first | rfl | omega | trivial | assumption | (dsimp only; first | omega | assumption)), ht⟩) (fun _ h => by cases h) dX10_faultOfBytes_43
    ·
      have kc_4 : r_3.toInt ≠ (0 : Int) := i_ne c_4
      refine lv_bipush (v := (-11)) hx hb dX10_faultOfBytes_16 (by decide) ?_
      have q0_m11 : ((-11) : Int32).toInt = (-11) := rfl
      exact W.iret (v := (-11)) hx hb hr (fun tt ht hW => ⟨(-11), rfl, (by first | rfl | omega | trivial | assumption | (dsimp only; first | omega | assumption)), ht⟩) (fun _ h => by cases h) dX10_faultOfBytes_18
set_option maxHeartbeats 4000000 in
set_option maxRecDepth 100000 in
theorem k_X10_faultOfPlace (l : Launch) (D : va_G) (cs : Nat → ClassId) (A : Nat → Prop) (ad fa fq rv : Nat → Nat) (v : Nat → Int32) (a : Nat → Nat → Int32) (w : Nat → Nat → Int64) (fv fp : Nat → Nat → Int32)  (p1 : Int32) (p2 : Int32) (ia28_0 : AB (-1) 5 (a 28)) (ia29_0 : AB (-1) 60 (a 29)) : Met l yX10_faultOfPlace (Cond.code yX10_faultOfPlace cX10_faultOfPlace 3 (some .int) :: gw) ({ frames := 1, cells := 0, slots := 0, locals := 21 }) (va_Pc [.ref (ad 8), .int p1, .int p2] (XPre D (TY cs) (CW cs ad fa fq rv v a w fv fp) A)) (vp_Si (fun (r : Int32) => ((¬ (0 ≤ p1.toInt ∧ p1.toInt < 6) ∧ r.toInt = -1) ∨ ((0 ≤ p1.toInt ∧ p1.toInt < 6) ∧ ((((a 28) p1.toNatClampNeg).toInt = -1 ∧ r.toInt = -11) ∨ (((a 28) p1.toNatClampNeg).toInt = 5 ∧ r.toInt = -12) ∨ ((((a 28) p1.toNatClampNeg).toInt ≠ -1 ∧ ((a 28) p1.toNatClampNeg).toInt ≠ 5) ∧ (0 ≤ p2.toInt ∧ p2.toInt < ((a 29) p1.toNatClampNeg).toInt) ∧ r.toInt = 0) ∨ ((((a 28) p1.toNatClampNeg).toInt ≠ -1 ∧ ((a 28) p1.toNatClampNeg).toInt ≠ 5) ∧ ¬ (0 ≤ p2.toInt ∧ p2.toInt < ((a 29) p1.toNatClampNeg).toInt) ∧ r.toInt = -13)))) ∧ (r.toInt = 0 → p2.toInt < 60))) 0 0 (fun _ => False) := by
  refine Met.ofW (cc := cX10_faultOfPlace) (maxL := 3) (ret := (some .int)) (by decide) rfl ?_
  intro p e s m args below meth c s₁ B hml hv
  obtain ⟨rfl, hP, hK, hD, hZ⟩ := hv
  have hx := B.exec
  have hb := B.bytes
  have hr := B.returns
  have hts := atoms_spec (ws := (Cond.code yX10_faultOfPlace cX10_faultOfPlace 3 (some .int) :: gw)) B.pre
  have hg : ∀ w ∈ gw, w.before ([.ref (ad 8), .int p1, .int p2] : List Value).toArray s = true := fun w h => hts w (List.mem_cons_of_mem _ h)
  have hown : s.vm.findClass RX10 = some m.cls := findClass_of_methodNamed B.named
  have hlocks := B.notSynchronized
  have hS : va_S A s.heap s.heap [] := va_S.rf
  have hl := lv_entry ([.ref (ad 8), .int p1, .int p2]) (n := 3) (Nat.le_of_ble_eq_true rfl)
  rw [lg_entry_eq]
  generalize (lg_sl ([.ref (ad 8), .int p1, .int p2]) ++ List.replicate (3 - (lg_sl ([.ref (ad 8), .int p1, .int p2])).length) Slot.unset).toArray = ls at hl ⊢
  have hl : lv_has ls 3 [(0, .ref (ad 8)), (1, .int p1), (2, .int p2)] := hl
  refine lv_iload_n hx hb dX10_faultOfPlace_0 rfl (lv_at hl 1 rfl) ?_
  refine cS_p (As := [.int p1]) (rest := []) ⟨hx, hb, hml, hown, hg⟩ (k_X10_isShelf l   p1 ) ca_X10_isShelf q4_186 ⟨rfl, rfl⟩ ⟨Nat.le_of_ble_eq_true rfl, Nat.le_of_ble_eq_true rfl⟩ rfl hl.1 rfl (Nat.le_of_ble_eq_true rfl) ⟨Nat.zero_le _, Nat.zero_le _⟩ dX10_faultOfPlace_1 (fun r_1 wr_1 => ?_)
  have wr_1 : (r_1.toInt = 1 ∧ 0 ≤ p1.toInt ∧ p1.toInt < 6) ∨ (r_1.toInt = 0 ∧ ¬ (0 ≤ p1.toInt ∧ p1.toInt < 6)) := wr_1
  refine lv_if_ne (tgt := 9) hx hb dX10_faultOfPlace_4 (by decide) (fun c_2 => ?_) (fun c_2 => ?_)
  ·
    have kc_2 : r_1.toInt ≠ (0 : Int) := i_ne c_2
    refine lv_aload_n hx hb dX10_faultOfPlace_9 rfl (lv_at hl 0 rfl) ?_
    refine lv_iload_n hx hb dX10_faultOfPlace_10 rfl (lv_at hl 1 rfl) ?_
    refine cV_ro (As := [.int p1]) (rest := []) ⟨hx, hb, hml, hown, hg⟩ (k_X10_isEmpty l D cs A ad fa fq rv v a w fv fp  p1 (show 0 ≤ p1.toInt by first | omega | decide) (show p1.toInt < 6 by first | omega | decide) ia28_0) ca_X10_isEmpty q3_155 ⟨rfl, rfl⟩ ⟨Nat.le_of_ble_eq_true rfl, Nat.le_of_ble_eq_true rfl⟩ (rc_shelves hK hP) hK hP hD hS hZ rfl hl.1 rfl (Nat.le_of_ble_eq_true rfl) ⟨Nat.zero_le _, Nat.zero_le _⟩ dX10_faultOfPlace_11 (fun r_3 wr_3 => ?_)
    have wr_3_0 : (r_3.toInt = 1 ∧ ((a 28) p1.toNatClampNeg).toInt = -1) ∨ (r_3.toInt = 0 ∧ ¬ (((a 28) p1.toNatClampNeg).toInt = -1)) := wr_3
    refine lv_if_eq (tgt := 20) hx hb dX10_faultOfPlace_14 (by decide) (fun c_4 => ?_) (fun c_4 => ?_)
    ·
      have kc_4 : r_3.toInt = (0 : Int) := i_eq c_4
      refine lv_aload_n hx hb dX10_faultOfPlace_20 rfl (lv_at hl 0 rfl) ?_
      refine lv_iload_n hx hb dX10_faultOfPlace_21 rfl (lv_at hl 1 rfl) ?_
      refine cV_ro (As := [.int p1]) (rest := []) ⟨hx, hb, hml, hown, hg⟩ (k_X10_isRow l D cs A ad fa fq rv v a w fv fp  p1 (show 0 ≤ p1.toInt by first | omega | decide) (show p1.toInt < 6 by first | omega | decide) ia28_0) ca_X10_isRow q2_226 ⟨rfl, rfl⟩ ⟨Nat.le_of_ble_eq_true rfl, Nat.le_of_ble_eq_true rfl⟩ (rc_shelves hK hP) hK hP hD hS hZ rfl hl.1 rfl (Nat.le_of_ble_eq_true rfl) ⟨Nat.zero_le _, Nat.zero_le _⟩ dX10_faultOfPlace_22 (fun r_5 wr_5 => ?_)
      have wr_5_0 : (r_5.toInt = 1 ∧ (((a 28) p1.toNatClampNeg).toInt ≠ -1 ∧ ((a 28) p1.toNatClampNeg).toInt ≠ 5)) ∨ (r_5.toInt = 0 ∧ ¬ ((((a 28) p1.toNatClampNeg).toInt ≠ -1 ∧ ((a 28) p1.toNatClampNeg).toInt ≠ 5))) := wr_5
      refine lv_if_ne (tgt := 31) hx hb dX10_faultOfPlace_25 (by decide) (fun c_6 => ?_) (fun c_6 => ?_)
      ·
        have kc_6 : r_5.toInt ≠ (0 : Int) := i_ne c_6
        refine lv_iload_n hx hb dX10_faultOfPlace_31 rfl (lv_at hl 2 rfl) ?_
        refine lv_if_lt (tgt := 49) hx hb dX10_faultOfPlace_32 (by decide) (fun c_7 => ?_) (fun c_7 => ?_)
        ·
          have kc_7 : p2.toInt < (0 : Int) := i_lt c_7
          refine lv_bipush (v := (-13)) hx hb dX10_faultOfPlace_49 (by decide) ?_
          have q0_m13 : ((-13) : Int32).toInt = (-13) := rfl
          exact W.iret (v := (-13)) hx hb hr (fun tt ht hW => ⟨(-13), rfl, ⟨(by first | rfl | omega | trivial | assumption | (dsimp only; first | omega | assumption)), (by first | rfl | omega | trivial | assumption | (dsimp only; first | omega | assumption))⟩, ht⟩) (fun _ h => by cases h) dX10_faultOfPlace_51
        ·
          have kc_7 : (0 : Int) ≤ p2.toInt := i_nlt c_7
          refine lv_iload_n hx hb dX10_faultOfPlace_35 rfl (lv_at hl 2 rfl) ?_
          refine lv_aload_n hx hb dX10_faultOfPlace_36 rfl (lv_at hl 0 rfl) ?_
          refine gf_shelves_size hx hb hg hown hK hP rfl (hg _ q1_67) dX10_faultOfPlace_37 ?_
          refine lv_iload_n hx hb dX10_faultOfPlace_40 rfl (lv_at hl 1 rfl) ?_
          refine ld_Ssize hx hb hK hP (i_in (by omega) (by omega)) dX10_faultOfPlace_41 ?_
          refine lv_topi (fun x_8 ex_8 => ?_)
          have ex_8 : x_8 = (a 29) p1.toNatClampNeg := ex_8
          have hx_8 : x_8.toInt = ((a 29) p1.toNatClampNeg).toInt := by rw [ex_8]
          have bx_8 := ia29_0 p1.toNatClampNeg
          rw [← ex_8] at bx_8
          refine lv_icmp_ge (tgt := 49) hx hb dX10_faultOfPlace_42 (by decide) (fun c_9 => ?_) (fun c_9 => ?_)
          ·
            have kc_9 : x_8.toInt ≤ p2.toInt := i_le c_9
            refine lv_bipush (v := (-13)) hx hb dX10_faultOfPlace_49 (by decide) ?_
            have q0_m13 : ((-13) : Int32).toInt = (-13) := rfl
            exact W.iret (v := (-13)) hx hb hr (fun tt ht hW => ⟨(-13), rfl, ⟨(by first | rfl | omega | trivial | assumption | (dsimp only; first | omega | assumption)), (by first | rfl | omega | trivial | assumption | (dsimp only; first | omega | assumption))⟩, ht⟩) (fun _ h => by cases h) dX10_faultOfPlace_51
          ·
            have kc_9 : p2.toInt < x_8.toInt := i_nle c_9
            refine lv_iconst (v := 0) hx hb dX10_faultOfPlace_45 (by decide) ?_
            refine lv_goto (tgt := 51) hx hb dX10_faultOfPlace_46 (by decide) ?_
            have q0_0 : (0 : Int32).toInt = 0 := rfl
            exact W.iret (v := 0) hx hb hr (fun tt ht hW => ⟨0, rfl, ⟨(by first | rfl | omega | trivial | assumption | (dsimp only; first | omega | assumption)), (by first | rfl | omega | trivial | assumption | (dsimp only; first | omega | assumption))⟩, ht⟩) (fun _ h => by cases h) dX10_faultOfPlace_51
      ·
        have kc_6 : r_5.toInt = (0 : Int) := i_eq c_6
        refine lv_bipush (v := (-12)) hx hb dX10_faultOfPlace_28 (by decide) ?_
        have q0_m12 : ((-12) : Int32).toInt = (-12) := rfl
        exact W.iret (v := (-12)) hx hb hr (fun tt ht hW => ⟨(-12), rfl, ⟨(by first | rfl | omega | trivial | assumption | (dsimp only; first | omega | assumption)), (by first | rfl | omega | trivial | assumption | (dsimp only; first | omega | assumption))⟩, ht⟩) (fun _ h => by cases h) dX10_faultOfPlace_30
    ·
      have kc_4 : r_3.toInt ≠ (0 : Int) := i_ne c_4
      refine lv_bipush (v := (-11)) hx hb dX10_faultOfPlace_17 (by decide) ?_
      have q0_m11 : ((-11) : Int32).toInt = (-11) := rfl
      exact W.iret (v := (-11)) hx hb hr (fun tt ht hW => ⟨(-11), rfl, ⟨(by first | rfl | omega | trivial | assumption | (dsimp only; first | omega | assumption)), (by first | rfl | omega | trivial | assumption | (dsimp only; first | omega | assumption))⟩, ht⟩) (fun _ h => by cases h) dX10_faultOfPlace_19
  ·
    have kc_2 : r_1.toInt = (0 : Int) := i_eq c_2
    refine lv_iconst (v := (-1)) hx hb dX10_faultOfPlace_7 (by decide) ?_
    have q0_m1 : ((-1) : Int32).toInt = (-1) := rfl
    exact W.iret (v := (-1)) hx hb hr (fun tt ht hW => ⟨(-1), rfl, ⟨(by first | rfl | omega | trivial | assumption | (dsimp only; first | omega | assumption)), (by first | rfl | omega | trivial | assumption | (dsimp only; first | omega | assumption))⟩, ht⟩) (fun _ h => by cases h) dX10_faultOfPlace_8
set_option maxHeartbeats 4000000 in
set_option maxRecDepth 100000 in
theorem k_X10_lowest (l : Launch)   (p1 : Int32) (p2 : Int64) (h1 : 0 ≤ p1.toInt) (h2 : p1.toInt ≤ 4) : Met l yX10_lowest (Cond.code yX10_lowest cX10_lowest 3 (some .long) :: gw) ({ frames := 0, cells := 0, slots := 0, locals := 0 }) (fun v _ => v = ([.int p1, .long p2] : List Value).toArray) (vp_Sl (fun (r : Int64) => (r = LOWV p1.toInt p2))) 0 0 (fun _ => False) := by
  refine Met.ofW (cc := cX10_lowest) (maxL := 3) (ret := (some .long)) (by decide) rfl ?_
  intro p e s m args below meth c s₁ B hml hv
  subst hv
  have hx := B.exec
  have hb := B.bytes
  have hr := B.returns
  have hts := atoms_spec (ws := (Cond.code yX10_lowest cX10_lowest 3 (some .long) :: gw)) B.pre
  have hg : ∀ w ∈ gw, w.before ([.int p1, .long p2] : List Value).toArray s = true := fun w h => hts w (List.mem_cons_of_mem _ h)
  have hown : s.vm.findClass RX10 = some m.cls := findClass_of_methodNamed B.named
  have hlocks := B.notSynchronized
  have hl := lv_entry ([.int p1, .long p2]) (n := 3) (Nat.le_of_ble_eq_true rfl)
  rw [lg_entry_eq]
  generalize (lg_sl ([.int p1, .long p2]) ++ List.replicate (3 - (lg_sl ([.int p1, .long p2])).length) Slot.unset).toArray = ls at hl ⊢
  have hl : lv_has ls 3 [(0, .int p1), (1, .long p2)] := hl
  refine lv_iload_n hx hb dX10_lowest_0 rfl (lv_at hl 0 rfl) ?_
  rcases (show p1.toInt = 0 ∨ p1.toInt = 1 ∨ p1.toInt = 2 ∨ p1.toInt = 3 ∨ p1.toInt = 4 ∨ (p1.toInt < 0 ∨ 4 < p1.toInt) by omega) with kc_1 | kc_1 | kc_1 | kc_1 | kc_1 | kc_1
  ·
    refine lv_tableIn (tgt := 36) hx hb dX10_lowest_1 (by omega) (by omega) (off := 35) (by rw [kc_1]; rfl) (by decide) ?_
    refine lv_lload_n hx hb dX10_lowest_36 rfl (lv_at hl 1 rfl) ?_
    refine lv_l2i hx hb dX10_lowest_37 rfl ?_
    refine lv_topi (fun x_2 ex_2 => ?_)
    refine lv_i2b hx hb dX10_lowest_38 rfl ?_
    refine lv_topi (fun x_3 ex_3 => ?_)
    refine lv_i2l hx hb dX10_lowest_39 rfl ?_
    refine lv_topl (fun x_4 ex_4 => ?_)
    have fx_4 : x_4.toInt = x_3.toInt := by rw [ex_4]; exact l_i2l x_3
    have gx_4 := i_bd x_3
    exact W.lret (v := x_4) hx hb hr (fun tt ht hW => ⟨x_4, rfl, (by rw [LOWV_0 (by omega)]; simp only [ex_4, ex_3, ex_2]), ht⟩) (fun _ h => by cases h) dX10_lowest_40
  ·
    refine lv_tableIn (tgt := 41) hx hb dX10_lowest_1 (by omega) (by omega) (off := 40) (by rw [kc_1]; rfl) (by decide) ?_
    refine lv_lload_n hx hb dX10_lowest_41 rfl (lv_at hl 1 rfl) ?_
    refine lv_l2i hx hb dX10_lowest_42 rfl ?_
    refine lv_topi (fun x_5 ex_5 => ?_)
    refine lv_i2s hx hb dX10_lowest_43 rfl ?_
    refine lv_topi (fun x_6 ex_6 => ?_)
    refine lv_i2l hx hb dX10_lowest_44 rfl ?_
    refine lv_topl (fun x_7 ex_7 => ?_)
    have fx_7 : x_7.toInt = x_6.toInt := by rw [ex_7]; exact l_i2l x_6
    have gx_7 := i_bd x_6
    exact W.lret (v := x_7) hx hb hr (fun tt ht hW => ⟨x_7, rfl, (by rw [LOWV_1 (by omega)]; simp only [ex_7, ex_6, ex_5]), ht⟩) (fun _ h => by cases h) dX10_lowest_45
  ·
    refine lv_tableIn (tgt := 46) hx hb dX10_lowest_1 (by omega) (by omega) (off := 45) (by rw [kc_1]; rfl) (by decide) ?_
    refine lv_lload_n hx hb dX10_lowest_46 rfl (lv_at hl 1 rfl) ?_
    refine lv_l2i hx hb dX10_lowest_47 rfl ?_
    refine lv_topi (fun x_8 ex_8 => ?_)
    refine lv_i2l hx hb dX10_lowest_48 rfl ?_
    refine lv_topl (fun x_9 ex_9 => ?_)
    have fx_9 : x_9.toInt = x_8.toInt := by rw [ex_9]; exact l_i2l x_8
    have gx_9 := i_bd x_8
    exact W.lret (v := x_9) hx hb hr (fun tt ht hW => ⟨x_9, rfl, (by rw [LOWV_2 (by omega)]; simp only [ex_9, ex_8]), ht⟩) (fun _ h => by cases h) dX10_lowest_49
  ·
    refine lv_tableIn (tgt := 62) hx hb dX10_lowest_1 (by omega) (by omega) (off := 61) (by rw [kc_1]; rfl) (by decide) ?_
    refine lv_lload_n hx hb dX10_lowest_62 rfl (lv_at hl 1 rfl) ?_
    exact W.lret (v := p2) hx hb hr (fun tt ht hW => ⟨p2, rfl, (by rw [LOWV_3 (by omega)]), ht⟩) (fun _ h => by cases h) dX10_lowest_63
  ·
    refine lv_tableIn (tgt := 50) hx hb dX10_lowest_1 (by omega) (by omega) (off := 49) (by rw [kc_1]; rfl) (by decide) ?_
    refine lv_lload_n hx hb dX10_lowest_50 rfl (lv_at hl 1 rfl) ?_
    refine lv_lconst (v := 0) hx hb dX10_lowest_51 (by decide) ?_
    refine W.lcmp hx hb dX10_lowest_52 ?_
    refine lv_topi (fun x_10 ex_10 => ?_)
    have ql_0 : (0 : Int64).toInt = 0 := rfl
    have fx_10 : (x_10.toInt = 1 ∧ (0 : Int64).toInt < p2.toInt) ∨ (x_10.toInt = 0 ∧ p2.toInt = (0 : Int64).toInt) ∨ (x_10.toInt = -1 ∧ p2.toInt < (0 : Int64).toInt) := by rw [ex_10]; exact l_cmp _ _
    refine lv_if_eq (tgt := 60) hx hb dX10_lowest_53 (by decide) (fun c_11 => ?_) (fun c_11 => ?_)
    ·
      have kc_11 : x_10.toInt = (0 : Int) := i_eq c_11
      refine lv_lconst (v := 0) hx hb dX10_lowest_60 (by decide) ?_
      exact W.lret (v := 0) hx hb hr (fun tt ht hW => ⟨0, rfl, (by first | exact (LOWV_4n (by omega) (by omega)).symm | exact (LOWV_4z (by omega) (by omega)).symm), ht⟩) (fun _ h => by cases h) dX10_lowest_61
    ·
      have kc_11 : x_10.toInt ≠ (0 : Int) := i_ne c_11
      refine lv_lconst (v := 1) hx hb dX10_lowest_56 (by decide) ?_
      refine lv_goto (tgt := 61) hx hb dX10_lowest_57 (by decide) ?_
      exact W.lret (v := 1) hx hb hr (fun tt ht hW => ⟨1, rfl, (by first | exact (LOWV_4n (by omega) (by omega)).symm | exact (LOWV_4z (by omega) (by omega)).symm), ht⟩) (fun _ h => by cases h) dX10_lowest_61
  ·
    exfalso; omega
set_option maxHeartbeats 4000000 in
set_option maxRecDepth 100000 in
theorem k_X10_get (l : Launch) (D : va_G) (cs : Nat → ClassId) (A : Nat → Prop) (ad fa fq rv : Nat → Nat) (v : Nat → Int32) (a : Nat → Nat → Int32) (w : Nat → Nat → Int64) (fv fp : Nat → Nat → Int32)  (p1 : Int32) (p2 : Int32) (h1 : 0 ≤ p1.toInt) (h2 : p1.toInt < 6) (h3 : 0 ≤ p2.toInt) (h4 : p2.toInt < 60) : Met l yX10_get (Cond.code yX10_get cX10_get 3 (some .long) :: gw) ({ frames := 0, cells := 0, slots := 0, locals := 0 }) (va_Pc [.ref (ad 8), .int p1, .int p2] (XPre D (TY cs) (CW cs ad fa fq rv v a w fv fp) A)) (vp_Sl (fun (r : Int64) => (r = ((w p1.toNatClampNeg) p2.toNatClampNeg)))) 0 0 (fun _ => False) := by
  refine Met.ofW (cc := cX10_get) (maxL := 3) (ret := (some .long)) (by decide) rfl ?_
  intro p e s m args below meth c s₁ B hml hv
  obtain ⟨rfl, hP, hK, hD, hZ⟩ := hv
  have hx := B.exec
  have hb := B.bytes
  have hr := B.returns
  have hts := atoms_spec (ws := (Cond.code yX10_get cX10_get 3 (some .long) :: gw)) B.pre
  have hg : ∀ w ∈ gw, w.before ([.ref (ad 8), .int p1, .int p2] : List Value).toArray s = true := fun w h => hts w (List.mem_cons_of_mem _ h)
  have hown : s.vm.findClass RX10 = some m.cls := findClass_of_methodNamed B.named
  have hlocks := B.notSynchronized
  have hS : va_S A s.heap s.heap [] := va_S.rf
  have hl := lv_entry ([.ref (ad 8), .int p1, .int p2]) (n := 3) (Nat.le_of_ble_eq_true rfl)
  rw [lg_entry_eq]
  generalize (lg_sl ([.ref (ad 8), .int p1, .int p2]) ++ List.replicate (3 - (lg_sl ([.ref (ad 8), .int p1, .int p2])).length) Slot.unset).toArray = ls at hl ⊢
  have hl : lv_has ls 3 [(0, .ref (ad 8)), (1, .int p1), (2, .int p2)] := hl
  refine lv_aload_n hx hb dX10_get_0 rfl (lv_at hl 0 rfl) ?_
  refine gf_shelves_rows hx hb hg hown hK hP rfl (hg _ q1_68) dX10_get_1 ?_
  refine lv_iload_n hx hb dX10_get_4 rfl (lv_at hl 1 rfl) ?_
  refine ld_rows hx hb hK hP rfl (i_in (by omega) (by omega)) dX10_get_5 ?_
  refine lv_iload_n hx hb dX10_get_6 rfl (lv_at hl 2 rfl) ?_
  refine ld_row (by show p1.toInt.toNat < 6; omega) hx hb hK hP (i_in (by omega) (by omega)) dX10_get_7 ?_
  refine lv_topl (fun x_1 ex_1 => ?_)
  have ex_1 : x_1 = (w p1.toNatClampNeg) p2.toNatClampNeg := ex_1
  exact W.lret (v := x_1) hx hb hr (fun tt ht hW => ⟨x_1, rfl, (by first | rfl | omega | trivial | assumption | (dsimp only; first | omega | assumption)), ht⟩) (fun _ h => by cases h) dX10_get_8
set_option maxHeartbeats 4000000 in
set_option maxRecDepth 100000 in
theorem k_X10_set (l : Launch) (D : va_G) (cs : Nat → ClassId) (A : Nat → Prop) (ad fa fq rv : Nat → Nat) (v : Nat → Int32) (a : Nat → Nat → Int32) (w : Nat → Nat → Int64) (fv fp : Nat → Nat → Int32)  (p1 : Int32) (p2 : Int32) (p3 : Int64) (h1 : 0 ≤ p1.toInt) (h2 : p1.toInt < 6) (h3 : 0 ≤ p2.toInt) (h4 : p2.toInt < 60) (hs0 : 0 ≤ ((a 28) p1.toNatClampNeg).toInt) (hs4 : ((a 28) p1.toNatClampNeg).toInt ≤ 4) (ia28_0 : AB (-1) 5 (a 28)) : Met l yX10_set (Cond.code yX10_set cX10_set 5 none :: gw) ({ frames := 1, cells := 0, slots := 0, locals := 22 }) (va_Pc [.ref (ad 8), .int p1, .int p2, .long p3] (XPre D (TY cs) (CW cs ad fa fq rv v a w fv fp) A)) (va_Qv (fun (z : Nat → Int64) => (z = vp_updL (w p1.toNatClampNeg) p2.toNatClampNeg (LOWV ((a 28) p1.toNatClampNeg).toInt p3))) (XPo D (fun (z : Nat → Int64) => CW cs ad fa fq rv v a (va_up w p1.toNatClampNeg z) fv fp) A) A) 0 0 A := by
  refine Met.ofW (cc := cX10_set) (maxL := 5) (ret := none) (by decide) rfl ?_
  intro p e s m args below meth c s₁ B hml hv
  obtain ⟨rfl, hP, hK, hD, hZ⟩ := hv
  have hx := B.exec
  have hb := B.bytes
  have hr := B.returns
  have hts := atoms_spec (ws := (Cond.code yX10_set cX10_set 5 none :: gw)) B.pre
  have hg : ∀ w ∈ gw, w.before ([.ref (ad 8), .int p1, .int p2, .long p3] : List Value).toArray s = true := fun w h => hts w (List.mem_cons_of_mem _ h)
  have hown : s.vm.findClass RX10 = some m.cls := findClass_of_methodNamed B.named
  have hlocks := B.notSynchronized
  have hS : va_S A s.heap s.heap [] := va_S.rf
  have hP : va_P D vwCl (CW cs ad fa fq rv v a w fv fp) s.heap := hP
  have hl := lv_entry ([.ref (ad 8), .int p1, .int p2, .long p3]) (n := 5) (Nat.le_of_ble_eq_true rfl)
  rw [lg_entry_eq]
  generalize (lg_sl ([.ref (ad 8), .int p1, .int p2, .long p3]) ++ List.replicate (5 - (lg_sl ([.ref (ad 8), .int p1, .int p2, .long p3])).length) Slot.unset).toArray = ls at hl ⊢
  have hl : lv_has ls 5 [(0, .ref (ad 8)), (1, .int p1), (2, .int p2), (3, .long p3)] := hl
  refine lv_aload_n hx hb dX10_set_0 rfl (lv_at hl 0 rfl) ?_
  refine gf_shelves_rows hx hb hg hown hK hP rfl (hg _ q1_68) dX10_set_1 ?_
  refine lv_iload_n hx hb dX10_set_4 rfl (lv_at hl 1 rfl) ?_
  refine ld_rows hx hb hK hP rfl (i_in (by omega) (by omega)) dX10_set_5 ?_
  refine lv_iload_n hx hb dX10_set_6 rfl (lv_at hl 2 rfl) ?_
  refine lv_aload_n hx hb dX10_set_7 rfl (lv_at hl 0 rfl) ?_
  refine gf_shelves_sort hx hb hg hown hK hP rfl (hg _ q1_66) dX10_set_8 ?_
  refine lv_iload_n hx hb dX10_set_11 rfl (lv_at hl 1 rfl) ?_
  refine ld_Ssort hx hb hK hP (i_in (by omega) (by omega)) dX10_set_12 ?_
  refine lv_topi (fun x_1 ex_1 => ?_)
  have ex_1 : x_1 = (a 28) p1.toNatClampNeg := ex_1
  have hx_1 : x_1.toInt = ((a 28) p1.toNatClampNeg).toInt := by rw [ex_1]
  have bx_1 := ia28_0 p1.toNatClampNeg
  rw [← ex_1] at bx_1
  refine lv_lload_n hx hb dX10_set_13 rfl (lv_at hl 3 rfl) ?_
  refine cS_pl (As := [.int x_1, .long p3]) (rest := [.int p2, .ref (ad (31 + p1.toNatClampNeg))]) ⟨hx, hb, hml, hown, hg⟩ (k_X10_lowest l   x_1 p3 (show 0 ≤ x_1.toInt by first | omega | decide) (show x_1.toInt ≤ 4 by first | omega | decide)) ca_X10_lowest q4_191 ⟨rfl, rfl⟩ ⟨Nat.le_of_ble_eq_true rfl, Nat.le_of_ble_eq_true rfl⟩ rfl hl.1 rfl (Nat.le_of_ble_eq_true rfl) ⟨Nat.zero_le _, Nat.zero_le _⟩ dX10_set_14 (fun r_2 wr_2 => ?_)
  have wr_2_0 : r_2 = LOWV x_1.toInt p3 := wr_2
  refine st_row (by show p1.toInt.toNat < 6; omega) hx hb hK hP hD hS (i_in (by omega) (by omega)) dX10_set_17 (fun H locs hP hD hS => ?_)
  exact W.vret hx hb hr (fun tt ht hW => ⟨⟨(vp_updL (w p1.toNatClampNeg) p2.toNatClampNeg r_2), rfl, (by simp only [wr_2_0, ex_1]), by rw [ht]; exact hP, hD⟩, hS.F ht⟩) hS.2.2 dX10_set_18
