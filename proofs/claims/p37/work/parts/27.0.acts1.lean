set_option maxHeartbeats 4000000 in
set_option maxRecDepth 100000 in
theorem k_B_0_0 (l : Launch)     : Met l yX0_bodyOf (Cond.code yX0_bodyOf cX0_bodyOf 2 (some .int) :: gw) ({ frames := 0, cells := 0, slots := 0, locals := 0 }) (fun v _ => v = ([.int 0, .int 0] : List Value).toArray) (vp_Si (fun (r : Int32) => r.toInt = 1)) 0 0 (fun _ => False) := by
  refine Met.ofW (cc := cX0_bodyOf) (maxL := 2) (ret := (some .int)) (by decide) rfl ?_
  intro p e s m args below meth c s₁ B hml hv
  subst hv
  have hx := B.exec
  have hb := B.bytes
  have hr := B.returns
  have hts := atoms_spec (ws := (Cond.code yX0_bodyOf cX0_bodyOf 2 (some .int) :: gw)) B.pre
  have hg : ∀ w ∈ gw, w.before ([.int 0, .int 0] : List Value).toArray s = true := fun w h => hts w (List.mem_cons_of_mem _ h)
  have hown : s.vm.findClass RX0 = some m.cls := findClass_of_methodNamed B.named
  have hlocks := B.notSynchronized
  have hl := lv_entry ([.int 0, .int 0]) (n := 2) (Nat.le_of_ble_eq_true rfl)
  rw [lg_entry_eq]
  generalize (lg_sl ([.int 0, .int 0]) ++ List.replicate (2 - (lg_sl ([.int 0, .int 0])).length) Slot.unset).toArray = ls at hl ⊢
  have hl : lv_has ls 2 [(0, .int 0), (1, .int 0)] := hl
  refine lv_iload_n hx hb dX0_bodyOf_0 rfl (lv_at hl 0 rfl) ?_
  refine lv_iconst (v := 4) hx hb dX0_bodyOf_1 (by decide) ?_
  refine lv_imul hx hb dX0_bodyOf_2 ?_
  refine lv_topi (fun x_1 ex_1 => ?_)
  have fx_1 : x_1 = 0 := by rw [ex_1]; rfl
  subst fx_1
  refine lv_iload_n hx hb dX0_bodyOf_3 rfl (lv_at hl 1 rfl) ?_
  refine lv_iadd hx hb dX0_bodyOf_4 ?_
  refine lv_topi (fun x_2 ex_2 => ?_)
  have fx_2 : x_2 = 0 := by rw [ex_2]; rfl
  subst fx_2
  refine lv_tableIn (tgt := 140) hx hb dX0_bodyOf_5 (by decide) (by decide) rfl (by decide) ?_
  refine lv_iconst (v := 1) hx hb dX0_bodyOf_140 (by decide) ?_
  have q0_1 : (1 : Int32).toInt = 1 := rfl
  exact W.iret (v := 1) hx hb hr (fun tt ht hW => ⟨1, rfl, (by first | rfl | omega | trivial | assumption | (dsimp only; first | omega | assumption)), ht⟩) (fun _ h => by cases h) dX0_bodyOf_141
set_option maxHeartbeats 4000000 in
set_option maxRecDepth 100000 in
theorem k_B_0_1 (l : Launch)     : Met l yX0_bodyOf (Cond.code yX0_bodyOf cX0_bodyOf 2 (some .int) :: gw) ({ frames := 0, cells := 0, slots := 0, locals := 0 }) (fun v _ => v = ([.int 0, .int 1] : List Value).toArray) (vp_Si (fun (r : Int32) => r.toInt = 10)) 0 0 (fun _ => False) := by
  refine Met.ofW (cc := cX0_bodyOf) (maxL := 2) (ret := (some .int)) (by decide) rfl ?_
  intro p e s m args below meth c s₁ B hml hv
  subst hv
  have hx := B.exec
  have hb := B.bytes
  have hr := B.returns
  have hts := atoms_spec (ws := (Cond.code yX0_bodyOf cX0_bodyOf 2 (some .int) :: gw)) B.pre
  have hg : ∀ w ∈ gw, w.before ([.int 0, .int 1] : List Value).toArray s = true := fun w h => hts w (List.mem_cons_of_mem _ h)
  have hown : s.vm.findClass RX0 = some m.cls := findClass_of_methodNamed B.named
  have hlocks := B.notSynchronized
  have hl := lv_entry ([.int 0, .int 1]) (n := 2) (Nat.le_of_ble_eq_true rfl)
  rw [lg_entry_eq]
  generalize (lg_sl ([.int 0, .int 1]) ++ List.replicate (2 - (lg_sl ([.int 0, .int 1])).length) Slot.unset).toArray = ls at hl ⊢
  have hl : lv_has ls 2 [(0, .int 0), (1, .int 1)] := hl
  refine lv_iload_n hx hb dX0_bodyOf_0 rfl (lv_at hl 0 rfl) ?_
  refine lv_iconst (v := 4) hx hb dX0_bodyOf_1 (by decide) ?_
  refine lv_imul hx hb dX0_bodyOf_2 ?_
  refine lv_topi (fun x_1 ex_1 => ?_)
  have fx_1 : x_1 = 0 := by rw [ex_1]; rfl
  subst fx_1
  refine lv_iload_n hx hb dX0_bodyOf_3 rfl (lv_at hl 1 rfl) ?_
  refine lv_iadd hx hb dX0_bodyOf_4 ?_
  refine lv_topi (fun x_2 ex_2 => ?_)
  have fx_2 : x_2 = 1 := by rw [ex_2]; rfl
  subst fx_2
  refine lv_tableIn (tgt := 142) hx hb dX0_bodyOf_5 (by decide) (by decide) rfl (by decide) ?_
  refine lv_bipush (v := 10) hx hb dX0_bodyOf_142 (by decide) ?_
  have q0_10 : (10 : Int32).toInt = 10 := rfl
  exact W.iret (v := 10) hx hb hr (fun tt ht hW => ⟨10, rfl, (by first | rfl | omega | trivial | assumption | (dsimp only; first | omega | assumption)), ht⟩) (fun _ h => by cases h) dX0_bodyOf_144
set_option maxHeartbeats 4000000 in
set_option maxRecDepth 100000 in
theorem k_B_0_2 (l : Launch)     : Met l yX0_bodyOf (Cond.code yX0_bodyOf cX0_bodyOf 2 (some .int) :: gw) ({ frames := 0, cells := 0, slots := 0, locals := 0 }) (fun v _ => v = ([.int 0, .int 2] : List Value).toArray) (vp_Si (fun (r : Int32) => r.toInt = 11)) 0 0 (fun _ => False) := by
  refine Met.ofW (cc := cX0_bodyOf) (maxL := 2) (ret := (some .int)) (by decide) rfl ?_
  intro p e s m args below meth c s₁ B hml hv
  subst hv
  have hx := B.exec
  have hb := B.bytes
  have hr := B.returns
  have hts := atoms_spec (ws := (Cond.code yX0_bodyOf cX0_bodyOf 2 (some .int) :: gw)) B.pre
  have hg : ∀ w ∈ gw, w.before ([.int 0, .int 2] : List Value).toArray s = true := fun w h => hts w (List.mem_cons_of_mem _ h)
  have hown : s.vm.findClass RX0 = some m.cls := findClass_of_methodNamed B.named
  have hlocks := B.notSynchronized
  have hl := lv_entry ([.int 0, .int 2]) (n := 2) (Nat.le_of_ble_eq_true rfl)
  rw [lg_entry_eq]
  generalize (lg_sl ([.int 0, .int 2]) ++ List.replicate (2 - (lg_sl ([.int 0, .int 2])).length) Slot.unset).toArray = ls at hl ⊢
  have hl : lv_has ls 2 [(0, .int 0), (1, .int 2)] := hl
  refine lv_iload_n hx hb dX0_bodyOf_0 rfl (lv_at hl 0 rfl) ?_
  refine lv_iconst (v := 4) hx hb dX0_bodyOf_1 (by decide) ?_
  refine lv_imul hx hb dX0_bodyOf_2 ?_
  refine lv_topi (fun x_1 ex_1 => ?_)
  have fx_1 : x_1 = 0 := by rw [ex_1]; rfl
  subst fx_1
  refine lv_iload_n hx hb dX0_bodyOf_3 rfl (lv_at hl 1 rfl) ?_
  refine lv_iadd hx hb dX0_bodyOf_4 ?_
  refine lv_topi (fun x_2 ex_2 => ?_)
  have fx_2 : x_2 = 2 := by rw [ex_2]; rfl
  subst fx_2
  refine lv_tableIn (tgt := 145) hx hb dX0_bodyOf_5 (by decide) (by decide) rfl (by decide) ?_
  refine lv_bipush (v := 11) hx hb dX0_bodyOf_145 (by decide) ?_
  have q0_11 : (11 : Int32).toInt = 11 := rfl
  exact W.iret (v := 11) hx hb hr (fun tt ht hW => ⟨11, rfl, (by first | rfl | omega | trivial | assumption | (dsimp only; first | omega | assumption)), ht⟩) (fun _ h => by cases h) dX0_bodyOf_147
set_option maxHeartbeats 4000000 in
set_option maxRecDepth 100000 in
theorem k_B_0_3 (l : Launch)     : Met l yX0_bodyOf (Cond.code yX0_bodyOf cX0_bodyOf 2 (some .int) :: gw) ({ frames := 0, cells := 0, slots := 0, locals := 0 }) (fun v _ => v = ([.int 0, .int 3] : List Value).toArray) (vp_Si (fun (r : Int32) => r.toInt = 2)) 0 0 (fun _ => False) := by
  refine Met.ofW (cc := cX0_bodyOf) (maxL := 2) (ret := (some .int)) (by decide) rfl ?_
  intro p e s m args below meth c s₁ B hml hv
  subst hv
  have hx := B.exec
  have hb := B.bytes
  have hr := B.returns
  have hts := atoms_spec (ws := (Cond.code yX0_bodyOf cX0_bodyOf 2 (some .int) :: gw)) B.pre
  have hg : ∀ w ∈ gw, w.before ([.int 0, .int 3] : List Value).toArray s = true := fun w h => hts w (List.mem_cons_of_mem _ h)
  have hown : s.vm.findClass RX0 = some m.cls := findClass_of_methodNamed B.named
  have hlocks := B.notSynchronized
  have hl := lv_entry ([.int 0, .int 3]) (n := 2) (Nat.le_of_ble_eq_true rfl)
  rw [lg_entry_eq]
  generalize (lg_sl ([.int 0, .int 3]) ++ List.replicate (2 - (lg_sl ([.int 0, .int 3])).length) Slot.unset).toArray = ls at hl ⊢
  have hl : lv_has ls 2 [(0, .int 0), (1, .int 3)] := hl
  refine lv_iload_n hx hb dX0_bodyOf_0 rfl (lv_at hl 0 rfl) ?_
  refine lv_iconst (v := 4) hx hb dX0_bodyOf_1 (by decide) ?_
  refine lv_imul hx hb dX0_bodyOf_2 ?_
  refine lv_topi (fun x_1 ex_1 => ?_)
  have fx_1 : x_1 = 0 := by rw [ex_1]; rfl
  subst fx_1
  refine lv_iload_n hx hb dX0_bodyOf_3 rfl (lv_at hl 1 rfl) ?_
  refine lv_iadd hx hb dX0_bodyOf_4 ?_
  refine lv_topi (fun x_2 ex_2 => ?_)
  have fx_2 : x_2 = 3 := by rw [ex_2]; rfl
  subst fx_2
  refine lv_tableIn (tgt := 148) hx hb dX0_bodyOf_5 (by decide) (by decide) rfl (by decide) ?_
  refine lv_iconst (v := 2) hx hb dX0_bodyOf_148 (by decide) ?_
  have q0_2 : (2 : Int32).toInt = 2 := rfl
  exact W.iret (v := 2) hx hb hr (fun tt ht hW => ⟨2, rfl, (by first | rfl | omega | trivial | assumption | (dsimp only; first | omega | assumption)), ht⟩) (fun _ h => by cases h) dX0_bodyOf_149
set_option maxHeartbeats 4000000 in
set_option maxRecDepth 100000 in
theorem k_B_1_0 (l : Launch)     : Met l yX0_bodyOf (Cond.code yX0_bodyOf cX0_bodyOf 2 (some .int) :: gw) ({ frames := 0, cells := 0, slots := 0, locals := 0 }) (fun v _ => v = ([.int 1, .int 0] : List Value).toArray) (vp_Si (fun (r : Int32) => r.toInt = 20)) 0 0 (fun _ => False) := by
  refine Met.ofW (cc := cX0_bodyOf) (maxL := 2) (ret := (some .int)) (by decide) rfl ?_
  intro p e s m args below meth c s₁ B hml hv
  subst hv
  have hx := B.exec
  have hb := B.bytes
  have hr := B.returns
  have hts := atoms_spec (ws := (Cond.code yX0_bodyOf cX0_bodyOf 2 (some .int) :: gw)) B.pre
  have hg : ∀ w ∈ gw, w.before ([.int 1, .int 0] : List Value).toArray s = true := fun w h => hts w (List.mem_cons_of_mem _ h)
  have hown : s.vm.findClass RX0 = some m.cls := findClass_of_methodNamed B.named
  have hlocks := B.notSynchronized
  have hl := lv_entry ([.int 1, .int 0]) (n := 2) (Nat.le_of_ble_eq_true rfl)
  rw [lg_entry_eq]
  generalize (lg_sl ([.int 1, .int 0]) ++ List.replicate (2 - (lg_sl ([.int 1, .int 0])).length) Slot.unset).toArray = ls at hl ⊢
  have hl : lv_has ls 2 [(0, .int 1), (1, .int 0)] := hl
  refine lv_iload_n hx hb dX0_bodyOf_0 rfl (lv_at hl 0 rfl) ?_
  refine lv_iconst (v := 4) hx hb dX0_bodyOf_1 (by decide) ?_
  refine lv_imul hx hb dX0_bodyOf_2 ?_
  refine lv_topi (fun x_1 ex_1 => ?_)
  have fx_1 : x_1 = 4 := by rw [ex_1]; rfl
  subst fx_1
  refine lv_iload_n hx hb dX0_bodyOf_3 rfl (lv_at hl 1 rfl) ?_
  refine lv_iadd hx hb dX0_bodyOf_4 ?_
  refine lv_topi (fun x_2 ex_2 => ?_)
  have fx_2 : x_2 = 4 := by rw [ex_2]; rfl
  subst fx_2
  refine lv_tableIn (tgt := 150) hx hb dX0_bodyOf_5 (by decide) (by decide) rfl (by decide) ?_
  refine lv_bipush (v := 20) hx hb dX0_bodyOf_150 (by decide) ?_
  have q0_20 : (20 : Int32).toInt = 20 := rfl
  exact W.iret (v := 20) hx hb hr (fun tt ht hW => ⟨20, rfl, (by first | rfl | omega | trivial | assumption | (dsimp only; first | omega | assumption)), ht⟩) (fun _ h => by cases h) dX0_bodyOf_152
set_option maxHeartbeats 4000000 in
set_option maxRecDepth 100000 in
theorem k_B_1_1 (l : Launch)     : Met l yX0_bodyOf (Cond.code yX0_bodyOf cX0_bodyOf 2 (some .int) :: gw) ({ frames := 0, cells := 0, slots := 0, locals := 0 }) (fun v _ => v = ([.int 1, .int 1] : List Value).toArray) (vp_Si (fun (r : Int32) => r.toInt = 0)) 0 0 (fun _ => False) := by
  refine Met.ofW (cc := cX0_bodyOf) (maxL := 2) (ret := (some .int)) (by decide) rfl ?_
  intro p e s m args below meth c s₁ B hml hv
  subst hv
  have hx := B.exec
  have hb := B.bytes
  have hr := B.returns
  have hts := atoms_spec (ws := (Cond.code yX0_bodyOf cX0_bodyOf 2 (some .int) :: gw)) B.pre
  have hg : ∀ w ∈ gw, w.before ([.int 1, .int 1] : List Value).toArray s = true := fun w h => hts w (List.mem_cons_of_mem _ h)
  have hown : s.vm.findClass RX0 = some m.cls := findClass_of_methodNamed B.named
  have hlocks := B.notSynchronized
  have hl := lv_entry ([.int 1, .int 1]) (n := 2) (Nat.le_of_ble_eq_true rfl)
  rw [lg_entry_eq]
  generalize (lg_sl ([.int 1, .int 1]) ++ List.replicate (2 - (lg_sl ([.int 1, .int 1])).length) Slot.unset).toArray = ls at hl ⊢
  have hl : lv_has ls 2 [(0, .int 1), (1, .int 1)] := hl
  refine lv_iload_n hx hb dX0_bodyOf_0 rfl (lv_at hl 0 rfl) ?_
  refine lv_iconst (v := 4) hx hb dX0_bodyOf_1 (by decide) ?_
  refine lv_imul hx hb dX0_bodyOf_2 ?_
  refine lv_topi (fun x_1 ex_1 => ?_)
  have fx_1 : x_1 = 4 := by rw [ex_1]; rfl
  subst fx_1
  refine lv_iload_n hx hb dX0_bodyOf_3 rfl (lv_at hl 1 rfl) ?_
  refine lv_iadd hx hb dX0_bodyOf_4 ?_
  refine lv_topi (fun x_2 ex_2 => ?_)
  have fx_2 : x_2 = 5 := by rw [ex_2]; rfl
  subst fx_2
  refine lv_tableIn (tgt := 180) hx hb dX0_bodyOf_5 (by decide) (by decide) rfl (by decide) ?_
  refine lv_iconst (v := 0) hx hb dX0_bodyOf_180 (by decide) ?_
  have q0_0 : (0 : Int32).toInt = 0 := rfl
  exact W.iret (v := 0) hx hb hr (fun tt ht hW => ⟨0, rfl, (by first | rfl | omega | trivial | assumption | (dsimp only; first | omega | assumption)), ht⟩) (fun _ h => by cases h) dX0_bodyOf_181
set_option maxHeartbeats 4000000 in
set_option maxRecDepth 100000 in
theorem k_B_1_2 (l : Launch)     : Met l yX0_bodyOf (Cond.code yX0_bodyOf cX0_bodyOf 2 (some .int) :: gw) ({ frames := 0, cells := 0, slots := 0, locals := 0 }) (fun v _ => v = ([.int 1, .int 2] : List Value).toArray) (vp_Si (fun (r : Int32) => r.toInt = 0)) 0 0 (fun _ => False) := by
  refine Met.ofW (cc := cX0_bodyOf) (maxL := 2) (ret := (some .int)) (by decide) rfl ?_
  intro p e s m args below meth c s₁ B hml hv
  subst hv
  have hx := B.exec
  have hb := B.bytes
  have hr := B.returns
  have hts := atoms_spec (ws := (Cond.code yX0_bodyOf cX0_bodyOf 2 (some .int) :: gw)) B.pre
  have hg : ∀ w ∈ gw, w.before ([.int 1, .int 2] : List Value).toArray s = true := fun w h => hts w (List.mem_cons_of_mem _ h)
  have hown : s.vm.findClass RX0 = some m.cls := findClass_of_methodNamed B.named
  have hlocks := B.notSynchronized
  have hl := lv_entry ([.int 1, .int 2]) (n := 2) (Nat.le_of_ble_eq_true rfl)
  rw [lg_entry_eq]
  generalize (lg_sl ([.int 1, .int 2]) ++ List.replicate (2 - (lg_sl ([.int 1, .int 2])).length) Slot.unset).toArray = ls at hl ⊢
  have hl : lv_has ls 2 [(0, .int 1), (1, .int 2)] := hl
  refine lv_iload_n hx hb dX0_bodyOf_0 rfl (lv_at hl 0 rfl) ?_
  refine lv_iconst (v := 4) hx hb dX0_bodyOf_1 (by decide) ?_
  refine lv_imul hx hb dX0_bodyOf_2 ?_
  refine lv_topi (fun x_1 ex_1 => ?_)
  have fx_1 : x_1 = 4 := by rw [ex_1]; rfl
  subst fx_1
  refine lv_iload_n hx hb dX0_bodyOf_3 rfl (lv_at hl 1 rfl) ?_
  refine lv_iadd hx hb dX0_bodyOf_4 ?_
  refine lv_topi (fun x_2 ex_2 => ?_)
  have fx_2 : x_2 = 6 := by rw [ex_2]; rfl
  subst fx_2
  refine lv_tableIn (tgt := 180) hx hb dX0_bodyOf_5 (by decide) (by decide) rfl (by decide) ?_
  refine lv_iconst (v := 0) hx hb dX0_bodyOf_180 (by decide) ?_
  have q0_0 : (0 : Int32).toInt = 0 := rfl
  exact W.iret (v := 0) hx hb hr (fun tt ht hW => ⟨0, rfl, (by first | rfl | omega | trivial | assumption | (dsimp only; first | omega | assumption)), ht⟩) (fun _ h => by cases h) dX0_bodyOf_181
set_option maxHeartbeats 4000000 in
set_option maxRecDepth 100000 in
theorem k_B_1_3 (l : Launch)     : Met l yX0_bodyOf (Cond.code yX0_bodyOf cX0_bodyOf 2 (some .int) :: gw) ({ frames := 0, cells := 0, slots := 0, locals := 0 }) (fun v _ => v = ([.int 1, .int 3] : List Value).toArray) (vp_Si (fun (r : Int32) => r.toInt = 0)) 0 0 (fun _ => False) := by
  refine Met.ofW (cc := cX0_bodyOf) (maxL := 2) (ret := (some .int)) (by decide) rfl ?_
  intro p e s m args below meth c s₁ B hml hv
  subst hv
  have hx := B.exec
  have hb := B.bytes
  have hr := B.returns
  have hts := atoms_spec (ws := (Cond.code yX0_bodyOf cX0_bodyOf 2 (some .int) :: gw)) B.pre
  have hg : ∀ w ∈ gw, w.before ([.int 1, .int 3] : List Value).toArray s = true := fun w h => hts w (List.mem_cons_of_mem _ h)
  have hown : s.vm.findClass RX0 = some m.cls := findClass_of_methodNamed B.named
  have hlocks := B.notSynchronized
  have hl := lv_entry ([.int 1, .int 3]) (n := 2) (Nat.le_of_ble_eq_true rfl)
  rw [lg_entry_eq]
  generalize (lg_sl ([.int 1, .int 3]) ++ List.replicate (2 - (lg_sl ([.int 1, .int 3])).length) Slot.unset).toArray = ls at hl ⊢
  have hl : lv_has ls 2 [(0, .int 1), (1, .int 3)] := hl
  refine lv_iload_n hx hb dX0_bodyOf_0 rfl (lv_at hl 0 rfl) ?_
  refine lv_iconst (v := 4) hx hb dX0_bodyOf_1 (by decide) ?_
  refine lv_imul hx hb dX0_bodyOf_2 ?_
  refine lv_topi (fun x_1 ex_1 => ?_)
  have fx_1 : x_1 = 4 := by rw [ex_1]; rfl
  subst fx_1
  refine lv_iload_n hx hb dX0_bodyOf_3 rfl (lv_at hl 1 rfl) ?_
  refine lv_iadd hx hb dX0_bodyOf_4 ?_
  refine lv_topi (fun x_2 ex_2 => ?_)
  have fx_2 : x_2 = 7 := by rw [ex_2]; rfl
  subst fx_2
  refine lv_tableIn (tgt := 180) hx hb dX0_bodyOf_5 (by decide) (by decide) rfl (by decide) ?_
  refine lv_iconst (v := 0) hx hb dX0_bodyOf_180 (by decide) ?_
  have q0_0 : (0 : Int32).toInt = 0 := rfl
  exact W.iret (v := 0) hx hb hr (fun tt ht hW => ⟨0, rfl, (by first | rfl | omega | trivial | assumption | (dsimp only; first | omega | assumption)), ht⟩) (fun _ h => by cases h) dX0_bodyOf_181
set_option maxHeartbeats 4000000 in
set_option maxRecDepth 100000 in
theorem k_B_2_0 (l : Launch)     : Met l yX0_bodyOf (Cond.code yX0_bodyOf cX0_bodyOf 2 (some .int) :: gw) ({ frames := 0, cells := 0, slots := 0, locals := 0 }) (fun v _ => v = ([.int 2, .int 0] : List Value).toArray) (vp_Si (fun (r : Int32) => r.toInt = 0)) 0 0 (fun _ => False) := by
  refine Met.ofW (cc := cX0_bodyOf) (maxL := 2) (ret := (some .int)) (by decide) rfl ?_
  intro p e s m args below meth c s₁ B hml hv
  subst hv
  have hx := B.exec
  have hb := B.bytes
  have hr := B.returns
  have hts := atoms_spec (ws := (Cond.code yX0_bodyOf cX0_bodyOf 2 (some .int) :: gw)) B.pre
  have hg : ∀ w ∈ gw, w.before ([.int 2, .int 0] : List Value).toArray s = true := fun w h => hts w (List.mem_cons_of_mem _ h)
  have hown : s.vm.findClass RX0 = some m.cls := findClass_of_methodNamed B.named
  have hlocks := B.notSynchronized
  have hl := lv_entry ([.int 2, .int 0]) (n := 2) (Nat.le_of_ble_eq_true rfl)
  rw [lg_entry_eq]
  generalize (lg_sl ([.int 2, .int 0]) ++ List.replicate (2 - (lg_sl ([.int 2, .int 0])).length) Slot.unset).toArray = ls at hl ⊢
  have hl : lv_has ls 2 [(0, .int 2), (1, .int 0)] := hl
  refine lv_iload_n hx hb dX0_bodyOf_0 rfl (lv_at hl 0 rfl) ?_
  refine lv_iconst (v := 4) hx hb dX0_bodyOf_1 (by decide) ?_
  refine lv_imul hx hb dX0_bodyOf_2 ?_
  refine lv_topi (fun x_1 ex_1 => ?_)
  have fx_1 : x_1 = 8 := by rw [ex_1]; rfl
  subst fx_1
  refine lv_iload_n hx hb dX0_bodyOf_3 rfl (lv_at hl 1 rfl) ?_
  refine lv_iadd hx hb dX0_bodyOf_4 ?_
  refine lv_topi (fun x_2 ex_2 => ?_)
  have fx_2 : x_2 = 8 := by rw [ex_2]; rfl
  subst fx_2
  refine lv_tableIn (tgt := 180) hx hb dX0_bodyOf_5 (by decide) (by decide) rfl (by decide) ?_
  refine lv_iconst (v := 0) hx hb dX0_bodyOf_180 (by decide) ?_
  have q0_0 : (0 : Int32).toInt = 0 := rfl
  exact W.iret (v := 0) hx hb hr (fun tt ht hW => ⟨0, rfl, (by first | rfl | omega | trivial | assumption | (dsimp only; first | omega | assumption)), ht⟩) (fun _ h => by cases h) dX0_bodyOf_181
set_option maxHeartbeats 4000000 in
set_option maxRecDepth 100000 in
theorem k_B_2_1 (l : Launch)     : Met l yX0_bodyOf (Cond.code yX0_bodyOf cX0_bodyOf 2 (some .int) :: gw) ({ frames := 0, cells := 0, slots := 0, locals := 0 }) (fun v _ => v = ([.int 2, .int 1] : List Value).toArray) (vp_Si (fun (r : Int32) => r.toInt = 30)) 0 0 (fun _ => False) := by
  refine Met.ofW (cc := cX0_bodyOf) (maxL := 2) (ret := (some .int)) (by decide) rfl ?_
  intro p e s m args below meth c s₁ B hml hv
  subst hv
  have hx := B.exec
  have hb := B.bytes
  have hr := B.returns
  have hts := atoms_spec (ws := (Cond.code yX0_bodyOf cX0_bodyOf 2 (some .int) :: gw)) B.pre
  have hg : ∀ w ∈ gw, w.before ([.int 2, .int 1] : List Value).toArray s = true := fun w h => hts w (List.mem_cons_of_mem _ h)
  have hown : s.vm.findClass RX0 = some m.cls := findClass_of_methodNamed B.named
  have hlocks := B.notSynchronized
  have hl := lv_entry ([.int 2, .int 1]) (n := 2) (Nat.le_of_ble_eq_true rfl)
  rw [lg_entry_eq]
  generalize (lg_sl ([.int 2, .int 1]) ++ List.replicate (2 - (lg_sl ([.int 2, .int 1])).length) Slot.unset).toArray = ls at hl ⊢
  have hl : lv_has ls 2 [(0, .int 2), (1, .int 1)] := hl
  refine lv_iload_n hx hb dX0_bodyOf_0 rfl (lv_at hl 0 rfl) ?_
  refine lv_iconst (v := 4) hx hb dX0_bodyOf_1 (by decide) ?_
  refine lv_imul hx hb dX0_bodyOf_2 ?_
  refine lv_topi (fun x_1 ex_1 => ?_)
  have fx_1 : x_1 = 8 := by rw [ex_1]; rfl
  subst fx_1
  refine lv_iload_n hx hb dX0_bodyOf_3 rfl (lv_at hl 1 rfl) ?_
  refine lv_iadd hx hb dX0_bodyOf_4 ?_
  refine lv_topi (fun x_2 ex_2 => ?_)
  have fx_2 : x_2 = 9 := by rw [ex_2]; rfl
  subst fx_2
  refine lv_tableIn (tgt := 153) hx hb dX0_bodyOf_5 (by decide) (by decide) rfl (by decide) ?_
  refine lv_bipush (v := 30) hx hb dX0_bodyOf_153 (by decide) ?_
  have q0_30 : (30 : Int32).toInt = 30 := rfl
  exact W.iret (v := 30) hx hb hr (fun tt ht hW => ⟨30, rfl, (by first | rfl | omega | trivial | assumption | (dsimp only; first | omega | assumption)), ht⟩) (fun _ h => by cases h) dX0_bodyOf_155
set_option maxHeartbeats 4000000 in
set_option maxRecDepth 100000 in
theorem k_B_2_2 (l : Launch)     : Met l yX0_bodyOf (Cond.code yX0_bodyOf cX0_bodyOf 2 (some .int) :: gw) ({ frames := 0, cells := 0, slots := 0, locals := 0 }) (fun v _ => v = ([.int 2, .int 2] : List Value).toArray) (vp_Si (fun (r : Int32) => r.toInt = 0)) 0 0 (fun _ => False) := by
  refine Met.ofW (cc := cX0_bodyOf) (maxL := 2) (ret := (some .int)) (by decide) rfl ?_
  intro p e s m args below meth c s₁ B hml hv
  subst hv
  have hx := B.exec
  have hb := B.bytes
  have hr := B.returns
  have hts := atoms_spec (ws := (Cond.code yX0_bodyOf cX0_bodyOf 2 (some .int) :: gw)) B.pre
  have hg : ∀ w ∈ gw, w.before ([.int 2, .int 2] : List Value).toArray s = true := fun w h => hts w (List.mem_cons_of_mem _ h)
  have hown : s.vm.findClass RX0 = some m.cls := findClass_of_methodNamed B.named
  have hlocks := B.notSynchronized
  have hl := lv_entry ([.int 2, .int 2]) (n := 2) (Nat.le_of_ble_eq_true rfl)
  rw [lg_entry_eq]
  generalize (lg_sl ([.int 2, .int 2]) ++ List.replicate (2 - (lg_sl ([.int 2, .int 2])).length) Slot.unset).toArray = ls at hl ⊢
  have hl : lv_has ls 2 [(0, .int 2), (1, .int 2)] := hl
  refine lv_iload_n hx hb dX0_bodyOf_0 rfl (lv_at hl 0 rfl) ?_
  refine lv_iconst (v := 4) hx hb dX0_bodyOf_1 (by decide) ?_
  refine lv_imul hx hb dX0_bodyOf_2 ?_
  refine lv_topi (fun x_1 ex_1 => ?_)
  have fx_1 : x_1 = 8 := by rw [ex_1]; rfl
  subst fx_1
  refine lv_iload_n hx hb dX0_bodyOf_3 rfl (lv_at hl 1 rfl) ?_
  refine lv_iadd hx hb dX0_bodyOf_4 ?_
  refine lv_topi (fun x_2 ex_2 => ?_)
  have fx_2 : x_2.toInt = (10 : Int) := by rw [ex_2]; rfl
  rcases (show x_2.toInt = 10 ∨ (x_2.toInt < 0 ∨ 29 < x_2.toInt) by omega) with kc_3 | kc_3
  ·
    refine lv_tableIn (tgt := 180) hx hb dX0_bodyOf_5 (by omega) (by omega) (off := 175) (by rw [kc_3]; rfl) (by decide) ?_
    refine lv_iconst (v := 0) hx hb dX0_bodyOf_180 (by decide) ?_
    have q0_0 : (0 : Int32).toInt = 0 := rfl
    exact W.iret (v := 0) hx hb hr (fun tt ht hW => ⟨0, rfl, (by first | rfl | omega | trivial | assumption | (dsimp only; first | omega | assumption)), ht⟩) (fun _ h => by cases h) dX0_bodyOf_181
  ·
    exfalso; omega
set_option maxHeartbeats 4000000 in
set_option maxRecDepth 100000 in
theorem k_B_2_3 (l : Launch)     : Met l yX0_bodyOf (Cond.code yX0_bodyOf cX0_bodyOf 2 (some .int) :: gw) ({ frames := 0, cells := 0, slots := 0, locals := 0 }) (fun v _ => v = ([.int 2, .int 3] : List Value).toArray) (vp_Si (fun (r : Int32) => r.toInt = 0)) 0 0 (fun _ => False) := by
  refine Met.ofW (cc := cX0_bodyOf) (maxL := 2) (ret := (some .int)) (by decide) rfl ?_
  intro p e s m args below meth c s₁ B hml hv
  subst hv
  have hx := B.exec
  have hb := B.bytes
  have hr := B.returns
  have hts := atoms_spec (ws := (Cond.code yX0_bodyOf cX0_bodyOf 2 (some .int) :: gw)) B.pre
  have hg : ∀ w ∈ gw, w.before ([.int 2, .int 3] : List Value).toArray s = true := fun w h => hts w (List.mem_cons_of_mem _ h)
  have hown : s.vm.findClass RX0 = some m.cls := findClass_of_methodNamed B.named
  have hlocks := B.notSynchronized
  have hl := lv_entry ([.int 2, .int 3]) (n := 2) (Nat.le_of_ble_eq_true rfl)
  rw [lg_entry_eq]
  generalize (lg_sl ([.int 2, .int 3]) ++ List.replicate (2 - (lg_sl ([.int 2, .int 3])).length) Slot.unset).toArray = ls at hl ⊢
  have hl : lv_has ls 2 [(0, .int 2), (1, .int 3)] := hl
  refine lv_iload_n hx hb dX0_bodyOf_0 rfl (lv_at hl 0 rfl) ?_
  refine lv_iconst (v := 4) hx hb dX0_bodyOf_1 (by decide) ?_
  refine lv_imul hx hb dX0_bodyOf_2 ?_
  refine lv_topi (fun x_1 ex_1 => ?_)
  have fx_1 : x_1 = 8 := by rw [ex_1]; rfl
  subst fx_1
  refine lv_iload_n hx hb dX0_bodyOf_3 rfl (lv_at hl 1 rfl) ?_
  refine lv_iadd hx hb dX0_bodyOf_4 ?_
  refine lv_topi (fun x_2 ex_2 => ?_)
  have fx_2 : x_2.toInt = (11 : Int) := by rw [ex_2]; rfl
  rcases (show x_2.toInt = 11 ∨ (x_2.toInt < 0 ∨ 29 < x_2.toInt) by omega) with kc_3 | kc_3
  ·
    refine lv_tableIn (tgt := 180) hx hb dX0_bodyOf_5 (by omega) (by omega) (off := 175) (by rw [kc_3]; rfl) (by decide) ?_
    refine lv_iconst (v := 0) hx hb dX0_bodyOf_180 (by decide) ?_
    have q0_0 : (0 : Int32).toInt = 0 := rfl
    exact W.iret (v := 0) hx hb hr (fun tt ht hW => ⟨0, rfl, (by first | rfl | omega | trivial | assumption | (dsimp only; first | omega | assumption)), ht⟩) (fun _ h => by cases h) dX0_bodyOf_181
  ·
    exfalso; omega
set_option maxHeartbeats 4000000 in
set_option maxRecDepth 100000 in
theorem k_B_3_0 (l : Launch)     : Met l yX0_bodyOf (Cond.code yX0_bodyOf cX0_bodyOf 2 (some .int) :: gw) ({ frames := 0, cells := 0, slots := 0, locals := 0 }) (fun v _ => v = ([.int 3, .int 0] : List Value).toArray) (vp_Si (fun (r : Int32) => r.toInt = 0)) 0 0 (fun _ => False) := by
  refine Met.ofW (cc := cX0_bodyOf) (maxL := 2) (ret := (some .int)) (by decide) rfl ?_
  intro p e s m args below meth c s₁ B hml hv
  subst hv
  have hx := B.exec
  have hb := B.bytes
  have hr := B.returns
  have hts := atoms_spec (ws := (Cond.code yX0_bodyOf cX0_bodyOf 2 (some .int) :: gw)) B.pre
  have hg : ∀ w ∈ gw, w.before ([.int 3, .int 0] : List Value).toArray s = true := fun w h => hts w (List.mem_cons_of_mem _ h)
  have hown : s.vm.findClass RX0 = some m.cls := findClass_of_methodNamed B.named
  have hlocks := B.notSynchronized
  have hl := lv_entry ([.int 3, .int 0]) (n := 2) (Nat.le_of_ble_eq_true rfl)
  rw [lg_entry_eq]
  generalize (lg_sl ([.int 3, .int 0]) ++ List.replicate (2 - (lg_sl ([.int 3, .int 0])).length) Slot.unset).toArray = ls at hl ⊢
  have hl : lv_has ls 2 [(0, .int 3), (1, .int 0)] := hl
  refine lv_iload_n hx hb dX0_bodyOf_0 rfl (lv_at hl 0 rfl) ?_
  refine lv_iconst (v := 4) hx hb dX0_bodyOf_1 (by decide) ?_
  refine lv_imul hx hb dX0_bodyOf_2 ?_
  refine lv_topi (fun x_1 ex_1 => ?_)
  have fx_1 : x_1.toInt = (12 : Int) := by rw [ex_1]; rfl
  refine lv_iload_n hx hb dX0_bodyOf_3 rfl (lv_at hl 1 rfl) ?_
  refine lv_iadd hx hb dX0_bodyOf_4 ?_
  refine lv_topi (fun x_2 ex_2 => ?_)
  have fx_2 : x_2.toInt = x_1.toInt + (0 : Int) := by rw [ex_2]; exact i_add (by first | omega | (show (_ : Int) ≤ x_1.toInt + (0 : Int); omega)) (by first | omega | (show x_1.toInt + (0 : Int) ≤ (_ : Int); omega))
  rcases (show x_2.toInt = 12 ∨ (x_2.toInt < 0 ∨ 29 < x_2.toInt) by omega) with kc_3 | kc_3
  ·
    refine lv_tableIn (tgt := 180) hx hb dX0_bodyOf_5 (by omega) (by omega) (off := 175) (by rw [kc_3]; rfl) (by decide) ?_
    refine lv_iconst (v := 0) hx hb dX0_bodyOf_180 (by decide) ?_
    have q0_0 : (0 : Int32).toInt = 0 := rfl
    exact W.iret (v := 0) hx hb hr (fun tt ht hW => ⟨0, rfl, (by first | rfl | omega | trivial | assumption | (dsimp only; first | omega | assumption)), ht⟩) (fun _ h => by cases h) dX0_bodyOf_181
  ·
    exfalso; omega
set_option maxHeartbeats 4000000 in
set_option maxRecDepth 100000 in
theorem k_B_3_1 (l : Launch)     : Met l yX0_bodyOf (Cond.code yX0_bodyOf cX0_bodyOf 2 (some .int) :: gw) ({ frames := 0, cells := 0, slots := 0, locals := 0 }) (fun v _ => v = ([.int 3, .int 1] : List Value).toArray) (vp_Si (fun (r : Int32) => r.toInt = 41)) 0 0 (fun _ => False) := by
  refine Met.ofW (cc := cX0_bodyOf) (maxL := 2) (ret := (some .int)) (by decide) rfl ?_
  intro p e s m args below meth c s₁ B hml hv
  subst hv
  have hx := B.exec
  have hb := B.bytes
  have hr := B.returns
  have hts := atoms_spec (ws := (Cond.code yX0_bodyOf cX0_bodyOf 2 (some .int) :: gw)) B.pre
  have hg : ∀ w ∈ gw, w.before ([.int 3, .int 1] : List Value).toArray s = true := fun w h => hts w (List.mem_cons_of_mem _ h)
  have hown : s.vm.findClass RX0 = some m.cls := findClass_of_methodNamed B.named
  have hlocks := B.notSynchronized
  have hl := lv_entry ([.int 3, .int 1]) (n := 2) (Nat.le_of_ble_eq_true rfl)
  rw [lg_entry_eq]
  generalize (lg_sl ([.int 3, .int 1]) ++ List.replicate (2 - (lg_sl ([.int 3, .int 1])).length) Slot.unset).toArray = ls at hl ⊢
  have hl : lv_has ls 2 [(0, .int 3), (1, .int 1)] := hl
  refine lv_iload_n hx hb dX0_bodyOf_0 rfl (lv_at hl 0 rfl) ?_
  refine lv_iconst (v := 4) hx hb dX0_bodyOf_1 (by decide) ?_
  refine lv_imul hx hb dX0_bodyOf_2 ?_
  refine lv_topi (fun x_1 ex_1 => ?_)
  have fx_1 : x_1.toInt = (12 : Int) := by rw [ex_1]; rfl
  refine lv_iload_n hx hb dX0_bodyOf_3 rfl (lv_at hl 1 rfl) ?_
  refine lv_iadd hx hb dX0_bodyOf_4 ?_
  refine lv_topi (fun x_2 ex_2 => ?_)
  have fx_2 : x_2.toInt = x_1.toInt + (1 : Int) := by rw [ex_2]; exact i_add (by first | omega | (show (_ : Int) ≤ x_1.toInt + (1 : Int); omega)) (by first | omega | (show x_1.toInt + (1 : Int) ≤ (_ : Int); omega))
  rcases (show x_2.toInt = 13 ∨ (x_2.toInt < 0 ∨ 29 < x_2.toInt) by omega) with kc_3 | kc_3
  ·
    refine lv_tableIn (tgt := 159) hx hb dX0_bodyOf_5 (by omega) (by omega) (off := 154) (by rw [kc_3]; rfl) (by decide) ?_
    refine lv_bipush (v := 41) hx hb dX0_bodyOf_159 (by decide) ?_
    have q0_41 : (41 : Int32).toInt = 41 := rfl
    exact W.iret (v := 41) hx hb hr (fun tt ht hW => ⟨41, rfl, (by first | rfl | omega | trivial | assumption | (dsimp only; first | omega | assumption)), ht⟩) (fun _ h => by cases h) dX0_bodyOf_161
  ·
    exfalso; omega
set_option maxHeartbeats 4000000 in
set_option maxRecDepth 100000 in
theorem k_B_3_2 (l : Launch)     : Met l yX0_bodyOf (Cond.code yX0_bodyOf cX0_bodyOf 2 (some .int) :: gw) ({ frames := 0, cells := 0, slots := 0, locals := 0 }) (fun v _ => v = ([.int 3, .int 2] : List Value).toArray) (vp_Si (fun (r : Int32) => r.toInt = 40)) 0 0 (fun _ => False) := by
  refine Met.ofW (cc := cX0_bodyOf) (maxL := 2) (ret := (some .int)) (by decide) rfl ?_
  intro p e s m args below meth c s₁ B hml hv
  subst hv
  have hx := B.exec
  have hb := B.bytes
  have hr := B.returns
  have hts := atoms_spec (ws := (Cond.code yX0_bodyOf cX0_bodyOf 2 (some .int) :: gw)) B.pre
  have hg : ∀ w ∈ gw, w.before ([.int 3, .int 2] : List Value).toArray s = true := fun w h => hts w (List.mem_cons_of_mem _ h)
  have hown : s.vm.findClass RX0 = some m.cls := findClass_of_methodNamed B.named
  have hlocks := B.notSynchronized
  have hl := lv_entry ([.int 3, .int 2]) (n := 2) (Nat.le_of_ble_eq_true rfl)
  rw [lg_entry_eq]
  generalize (lg_sl ([.int 3, .int 2]) ++ List.replicate (2 - (lg_sl ([.int 3, .int 2])).length) Slot.unset).toArray = ls at hl ⊢
  have hl : lv_has ls 2 [(0, .int 3), (1, .int 2)] := hl
  refine lv_iload_n hx hb dX0_bodyOf_0 rfl (lv_at hl 0 rfl) ?_
  refine lv_iconst (v := 4) hx hb dX0_bodyOf_1 (by decide) ?_
  refine lv_imul hx hb dX0_bodyOf_2 ?_
  refine lv_topi (fun x_1 ex_1 => ?_)
  have fx_1 : x_1.toInt = (12 : Int) := by rw [ex_1]; rfl
  refine lv_iload_n hx hb dX0_bodyOf_3 rfl (lv_at hl 1 rfl) ?_
  refine lv_iadd hx hb dX0_bodyOf_4 ?_
  refine lv_topi (fun x_2 ex_2 => ?_)
  have fx_2 : x_2.toInt = x_1.toInt + (2 : Int) := by rw [ex_2]; exact i_add (by first | omega | (show (_ : Int) ≤ x_1.toInt + (2 : Int); omega)) (by first | omega | (show x_1.toInt + (2 : Int) ≤ (_ : Int); omega))
  rcases (show x_2.toInt = 14 ∨ (x_2.toInt < 0 ∨ 29 < x_2.toInt) by omega) with kc_3 | kc_3
  ·
    refine lv_tableIn (tgt := 156) hx hb dX0_bodyOf_5 (by omega) (by omega) (off := 151) (by rw [kc_3]; rfl) (by decide) ?_
    refine lv_bipush (v := 40) hx hb dX0_bodyOf_156 (by decide) ?_
    have q0_40 : (40 : Int32).toInt = 40 := rfl
    exact W.iret (v := 40) hx hb hr (fun tt ht hW => ⟨40, rfl, (by first | rfl | omega | trivial | assumption | (dsimp only; first | omega | assumption)), ht⟩) (fun _ h => by cases h) dX0_bodyOf_158
  ·
    exfalso; omega
set_option maxHeartbeats 4000000 in
set_option maxRecDepth 100000 in
theorem k_B_3_3 (l : Launch)     : Met l yX0_bodyOf (Cond.code yX0_bodyOf cX0_bodyOf 2 (some .int) :: gw) ({ frames := 0, cells := 0, slots := 0, locals := 0 }) (fun v _ => v = ([.int 3, .int 3] : List Value).toArray) (vp_Si (fun (r : Int32) => r.toInt = 0)) 0 0 (fun _ => False) := by
  refine Met.ofW (cc := cX0_bodyOf) (maxL := 2) (ret := (some .int)) (by decide) rfl ?_
  intro p e s m args below meth c s₁ B hml hv
  subst hv
  have hx := B.exec
  have hb := B.bytes
  have hr := B.returns
  have hts := atoms_spec (ws := (Cond.code yX0_bodyOf cX0_bodyOf 2 (some .int) :: gw)) B.pre
  have hg : ∀ w ∈ gw, w.before ([.int 3, .int 3] : List Value).toArray s = true := fun w h => hts w (List.mem_cons_of_mem _ h)
  have hown : s.vm.findClass RX0 = some m.cls := findClass_of_methodNamed B.named
  have hlocks := B.notSynchronized
  have hl := lv_entry ([.int 3, .int 3]) (n := 2) (Nat.le_of_ble_eq_true rfl)
  rw [lg_entry_eq]
  generalize (lg_sl ([.int 3, .int 3]) ++ List.replicate (2 - (lg_sl ([.int 3, .int 3])).length) Slot.unset).toArray = ls at hl ⊢
  have hl : lv_has ls 2 [(0, .int 3), (1, .int 3)] := hl
  refine lv_iload_n hx hb dX0_bodyOf_0 rfl (lv_at hl 0 rfl) ?_
  refine lv_iconst (v := 4) hx hb dX0_bodyOf_1 (by decide) ?_
  refine lv_imul hx hb dX0_bodyOf_2 ?_
  refine lv_topi (fun x_1 ex_1 => ?_)
  have fx_1 : x_1.toInt = (12 : Int) := by rw [ex_1]; rfl
  refine lv_iload_n hx hb dX0_bodyOf_3 rfl (lv_at hl 1 rfl) ?_
  refine lv_iadd hx hb dX0_bodyOf_4 ?_
  refine lv_topi (fun x_2 ex_2 => ?_)
  have fx_2 : x_2.toInt = x_1.toInt + (3 : Int) := by rw [ex_2]; exact i_add (by first | omega | (show (_ : Int) ≤ x_1.toInt + (3 : Int); omega)) (by first | omega | (show x_1.toInt + (3 : Int) ≤ (_ : Int); omega))
  rcases (show x_2.toInt = 15 ∨ (x_2.toInt < 0 ∨ 29 < x_2.toInt) by omega) with kc_3 | kc_3
  ·
    refine lv_tableIn (tgt := 180) hx hb dX0_bodyOf_5 (by omega) (by omega) (off := 175) (by rw [kc_3]; rfl) (by decide) ?_
    refine lv_iconst (v := 0) hx hb dX0_bodyOf_180 (by decide) ?_
    have q0_0 : (0 : Int32).toInt = 0 := rfl
    exact W.iret (v := 0) hx hb hr (fun tt ht hW => ⟨0, rfl, (by first | rfl | omega | trivial | assumption | (dsimp only; first | omega | assumption)), ht⟩) (fun _ h => by cases h) dX0_bodyOf_181
  ·
    exfalso; omega
set_option maxHeartbeats 4000000 in
set_option maxRecDepth 100000 in
theorem k_B_4_0 (l : Launch)     : Met l yX0_bodyOf (Cond.code yX0_bodyOf cX0_bodyOf 2 (some .int) :: gw) ({ frames := 0, cells := 0, slots := 0, locals := 0 }) (fun v _ => v = ([.int 4, .int 0] : List Value).toArray) (vp_Si (fun (r : Int32) => r.toInt = 0)) 0 0 (fun _ => False) := by
  refine Met.ofW (cc := cX0_bodyOf) (maxL := 2) (ret := (some .int)) (by decide) rfl ?_
  intro p e s m args below meth c s₁ B hml hv
  subst hv
  have hx := B.exec
  have hb := B.bytes
  have hr := B.returns
  have hts := atoms_spec (ws := (Cond.code yX0_bodyOf cX0_bodyOf 2 (some .int) :: gw)) B.pre
  have hg : ∀ w ∈ gw, w.before ([.int 4, .int 0] : List Value).toArray s = true := fun w h => hts w (List.mem_cons_of_mem _ h)
  have hown : s.vm.findClass RX0 = some m.cls := findClass_of_methodNamed B.named
  have hlocks := B.notSynchronized
  have hl := lv_entry ([.int 4, .int 0]) (n := 2) (Nat.le_of_ble_eq_true rfl)
  rw [lg_entry_eq]
  generalize (lg_sl ([.int 4, .int 0]) ++ List.replicate (2 - (lg_sl ([.int 4, .int 0])).length) Slot.unset).toArray = ls at hl ⊢
  have hl : lv_has ls 2 [(0, .int 4), (1, .int 0)] := hl
  refine lv_iload_n hx hb dX0_bodyOf_0 rfl (lv_at hl 0 rfl) ?_
  refine lv_iconst (v := 4) hx hb dX0_bodyOf_1 (by decide) ?_
  refine lv_imul hx hb dX0_bodyOf_2 ?_
  refine lv_topi (fun x_1 ex_1 => ?_)
  have fx_1 : x_1.toInt = (16 : Int) := by rw [ex_1]; rfl
  refine lv_iload_n hx hb dX0_bodyOf_3 rfl (lv_at hl 1 rfl) ?_
  refine lv_iadd hx hb dX0_bodyOf_4 ?_
  refine lv_topi (fun x_2 ex_2 => ?_)
  have fx_2 : x_2.toInt = x_1.toInt + (0 : Int) := by rw [ex_2]; exact i_add (by first | omega | (show (_ : Int) ≤ x_1.toInt + (0 : Int); omega)) (by first | omega | (show x_1.toInt + (0 : Int) ≤ (_ : Int); omega))
  rcases (show x_2.toInt = 16 ∨ (x_2.toInt < 0 ∨ 29 < x_2.toInt) by omega) with kc_3 | kc_3
  ·
    refine lv_tableIn (tgt := 180) hx hb dX0_bodyOf_5 (by omega) (by omega) (off := 175) (by rw [kc_3]; rfl) (by decide) ?_
    refine lv_iconst (v := 0) hx hb dX0_bodyOf_180 (by decide) ?_
    have q0_0 : (0 : Int32).toInt = 0 := rfl
    exact W.iret (v := 0) hx hb hr (fun tt ht hW => ⟨0, rfl, (by first | rfl | omega | trivial | assumption | (dsimp only; first | omega | assumption)), ht⟩) (fun _ h => by cases h) dX0_bodyOf_181
  ·
    exfalso; omega
set_option maxHeartbeats 4000000 in
set_option maxRecDepth 100000 in
theorem k_B_4_1 (l : Launch)     : Met l yX0_bodyOf (Cond.code yX0_bodyOf cX0_bodyOf 2 (some .int) :: gw) ({ frames := 0, cells := 0, slots := 0, locals := 0 }) (fun v _ => v = ([.int 4, .int 1] : List Value).toArray) (vp_Si (fun (r : Int32) => r.toInt = 0)) 0 0 (fun _ => False) := by
  refine Met.ofW (cc := cX0_bodyOf) (maxL := 2) (ret := (some .int)) (by decide) rfl ?_
  intro p e s m args below meth c s₁ B hml hv
  subst hv
  have hx := B.exec
  have hb := B.bytes
  have hr := B.returns
  have hts := atoms_spec (ws := (Cond.code yX0_bodyOf cX0_bodyOf 2 (some .int) :: gw)) B.pre
  have hg : ∀ w ∈ gw, w.before ([.int 4, .int 1] : List Value).toArray s = true := fun w h => hts w (List.mem_cons_of_mem _ h)
  have hown : s.vm.findClass RX0 = some m.cls := findClass_of_methodNamed B.named
  have hlocks := B.notSynchronized
  have hl := lv_entry ([.int 4, .int 1]) (n := 2) (Nat.le_of_ble_eq_true rfl)
  rw [lg_entry_eq]
  generalize (lg_sl ([.int 4, .int 1]) ++ List.replicate (2 - (lg_sl ([.int 4, .int 1])).length) Slot.unset).toArray = ls at hl ⊢
  have hl : lv_has ls 2 [(0, .int 4), (1, .int 1)] := hl
  refine lv_iload_n hx hb dX0_bodyOf_0 rfl (lv_at hl 0 rfl) ?_
  refine lv_iconst (v := 4) hx hb dX0_bodyOf_1 (by decide) ?_
  refine lv_imul hx hb dX0_bodyOf_2 ?_
  refine lv_topi (fun x_1 ex_1 => ?_)
  have fx_1 : x_1.toInt = (16 : Int) := by rw [ex_1]; rfl
  refine lv_iload_n hx hb dX0_bodyOf_3 rfl (lv_at hl 1 rfl) ?_
  refine lv_iadd hx hb dX0_bodyOf_4 ?_
  refine lv_topi (fun x_2 ex_2 => ?_)
  have fx_2 : x_2.toInt = x_1.toInt + (1 : Int) := by rw [ex_2]; exact i_add (by first | omega | (show (_ : Int) ≤ x_1.toInt + (1 : Int); omega)) (by first | omega | (show x_1.toInt + (1 : Int) ≤ (_ : Int); omega))
  rcases (show x_2.toInt = 17 ∨ (x_2.toInt < 0 ∨ 29 < x_2.toInt) by omega) with kc_3 | kc_3
  ·
    refine lv_tableIn (tgt := 180) hx hb dX0_bodyOf_5 (by omega) (by omega) (off := 175) (by rw [kc_3]; rfl) (by decide) ?_
    refine lv_iconst (v := 0) hx hb dX0_bodyOf_180 (by decide) ?_
    have q0_0 : (0 : Int32).toInt = 0 := rfl
    exact W.iret (v := 0) hx hb hr (fun tt ht hW => ⟨0, rfl, (by first | rfl | omega | trivial | assumption | (dsimp only; first | omega | assumption)), ht⟩) (fun _ h => by cases h) dX0_bodyOf_181
  ·
    exfalso; omega
set_option maxHeartbeats 4000000 in
set_option maxRecDepth 100000 in
theorem k_B_4_2 (l : Launch)     : Met l yX0_bodyOf (Cond.code yX0_bodyOf cX0_bodyOf 2 (some .int) :: gw) ({ frames := 0, cells := 0, slots := 0, locals := 0 }) (fun v _ => v = ([.int 4, .int 2] : List Value).toArray) (vp_Si (fun (r : Int32) => r.toInt = 0)) 0 0 (fun _ => False) := by
  refine Met.ofW (cc := cX0_bodyOf) (maxL := 2) (ret := (some .int)) (by decide) rfl ?_
  intro p e s m args below meth c s₁ B hml hv
  subst hv
  have hx := B.exec
  have hb := B.bytes
  have hr := B.returns
  have hts := atoms_spec (ws := (Cond.code yX0_bodyOf cX0_bodyOf 2 (some .int) :: gw)) B.pre
  have hg : ∀ w ∈ gw, w.before ([.int 4, .int 2] : List Value).toArray s = true := fun w h => hts w (List.mem_cons_of_mem _ h)
  have hown : s.vm.findClass RX0 = some m.cls := findClass_of_methodNamed B.named
  have hlocks := B.notSynchronized
  have hl := lv_entry ([.int 4, .int 2]) (n := 2) (Nat.le_of_ble_eq_true rfl)
  rw [lg_entry_eq]
  generalize (lg_sl ([.int 4, .int 2]) ++ List.replicate (2 - (lg_sl ([.int 4, .int 2])).length) Slot.unset).toArray = ls at hl ⊢
  have hl : lv_has ls 2 [(0, .int 4), (1, .int 2)] := hl
  refine lv_iload_n hx hb dX0_bodyOf_0 rfl (lv_at hl 0 rfl) ?_
  refine lv_iconst (v := 4) hx hb dX0_bodyOf_1 (by decide) ?_
  refine lv_imul hx hb dX0_bodyOf_2 ?_
  refine lv_topi (fun x_1 ex_1 => ?_)
  have fx_1 : x_1.toInt = (16 : Int) := by rw [ex_1]; rfl
  refine lv_iload_n hx hb dX0_bodyOf_3 rfl (lv_at hl 1 rfl) ?_
  refine lv_iadd hx hb dX0_bodyOf_4 ?_
  refine lv_topi (fun x_2 ex_2 => ?_)
  have fx_2 : x_2.toInt = x_1.toInt + (2 : Int) := by rw [ex_2]; exact i_add (by first | omega | (show (_ : Int) ≤ x_1.toInt + (2 : Int); omega)) (by first | omega | (show x_1.toInt + (2 : Int) ≤ (_ : Int); omega))
  rcases (show x_2.toInt = 18 ∨ (x_2.toInt < 0 ∨ 29 < x_2.toInt) by omega) with kc_3 | kc_3
  ·
    refine lv_tableIn (tgt := 180) hx hb dX0_bodyOf_5 (by omega) (by omega) (off := 175) (by rw [kc_3]; rfl) (by decide) ?_
    refine lv_iconst (v := 0) hx hb dX0_bodyOf_180 (by decide) ?_
    have q0_0 : (0 : Int32).toInt = 0 := rfl
    exact W.iret (v := 0) hx hb hr (fun tt ht hW => ⟨0, rfl, (by first | rfl | omega | trivial | assumption | (dsimp only; first | omega | assumption)), ht⟩) (fun _ h => by cases h) dX0_bodyOf_181
  ·
    exfalso; omega
set_option maxHeartbeats 4000000 in
set_option maxRecDepth 100000 in
theorem k_B_4_3 (l : Launch)     : Met l yX0_bodyOf (Cond.code yX0_bodyOf cX0_bodyOf 2 (some .int) :: gw) ({ frames := 0, cells := 0, slots := 0, locals := 0 }) (fun v _ => v = ([.int 4, .int 3] : List Value).toArray) (vp_Si (fun (r : Int32) => r.toInt = 50)) 0 0 (fun _ => False) := by
  refine Met.ofW (cc := cX0_bodyOf) (maxL := 2) (ret := (some .int)) (by decide) rfl ?_
  intro p e s m args below meth c s₁ B hml hv
  subst hv
  have hx := B.exec
  have hb := B.bytes
  have hr := B.returns
  have hts := atoms_spec (ws := (Cond.code yX0_bodyOf cX0_bodyOf 2 (some .int) :: gw)) B.pre
  have hg : ∀ w ∈ gw, w.before ([.int 4, .int 3] : List Value).toArray s = true := fun w h => hts w (List.mem_cons_of_mem _ h)
  have hown : s.vm.findClass RX0 = some m.cls := findClass_of_methodNamed B.named
  have hlocks := B.notSynchronized
  have hl := lv_entry ([.int 4, .int 3]) (n := 2) (Nat.le_of_ble_eq_true rfl)
  rw [lg_entry_eq]
  generalize (lg_sl ([.int 4, .int 3]) ++ List.replicate (2 - (lg_sl ([.int 4, .int 3])).length) Slot.unset).toArray = ls at hl ⊢
  have hl : lv_has ls 2 [(0, .int 4), (1, .int 3)] := hl
  refine lv_iload_n hx hb dX0_bodyOf_0 rfl (lv_at hl 0 rfl) ?_
  refine lv_iconst (v := 4) hx hb dX0_bodyOf_1 (by decide) ?_
  refine lv_imul hx hb dX0_bodyOf_2 ?_
  refine lv_topi (fun x_1 ex_1 => ?_)
  have fx_1 : x_1.toInt = (16 : Int) := by rw [ex_1]; rfl
  refine lv_iload_n hx hb dX0_bodyOf_3 rfl (lv_at hl 1 rfl) ?_
  refine lv_iadd hx hb dX0_bodyOf_4 ?_
  refine lv_topi (fun x_2 ex_2 => ?_)
  have fx_2 : x_2.toInt = x_1.toInt + (3 : Int) := by rw [ex_2]; exact i_add (by first | omega | (show (_ : Int) ≤ x_1.toInt + (3 : Int); omega)) (by first | omega | (show x_1.toInt + (3 : Int) ≤ (_ : Int); omega))
  rcases (show x_2.toInt = 19 ∨ (x_2.toInt < 0 ∨ 29 < x_2.toInt) by omega) with kc_3 | kc_3
  ·
    refine lv_tableIn (tgt := 162) hx hb dX0_bodyOf_5 (by omega) (by omega) (off := 157) (by rw [kc_3]; rfl) (by decide) ?_
    refine lv_bipush (v := 50) hx hb dX0_bodyOf_162 (by decide) ?_
    have q0_50 : (50 : Int32).toInt = 50 := rfl
    exact W.iret (v := 50) hx hb hr (fun tt ht hW => ⟨50, rfl, (by first | rfl | omega | trivial | assumption | (dsimp only; first | omega | assumption)), ht⟩) (fun _ h => by cases h) dX0_bodyOf_164
  ·
    exfalso; omega
set_option maxHeartbeats 4000000 in
set_option maxRecDepth 100000 in
theorem k_B_5_0 (l : Launch)     : Met l yX0_bodyOf (Cond.code yX0_bodyOf cX0_bodyOf 2 (some .int) :: gw) ({ frames := 0, cells := 0, slots := 0, locals := 0 }) (fun v _ => v = ([.int 5, .int 0] : List Value).toArray) (vp_Si (fun (r : Int32) => r.toInt = 0)) 0 0 (fun _ => False) := by
  refine Met.ofW (cc := cX0_bodyOf) (maxL := 2) (ret := (some .int)) (by decide) rfl ?_
  intro p e s m args below meth c s₁ B hml hv
  subst hv
  have hx := B.exec
  have hb := B.bytes
  have hr := B.returns
  have hts := atoms_spec (ws := (Cond.code yX0_bodyOf cX0_bodyOf 2 (some .int) :: gw)) B.pre
  have hg : ∀ w ∈ gw, w.before ([.int 5, .int 0] : List Value).toArray s = true := fun w h => hts w (List.mem_cons_of_mem _ h)
  have hown : s.vm.findClass RX0 = some m.cls := findClass_of_methodNamed B.named
  have hlocks := B.notSynchronized
  have hl := lv_entry ([.int 5, .int 0]) (n := 2) (Nat.le_of_ble_eq_true rfl)
  rw [lg_entry_eq]
  generalize (lg_sl ([.int 5, .int 0]) ++ List.replicate (2 - (lg_sl ([.int 5, .int 0])).length) Slot.unset).toArray = ls at hl ⊢
  have hl : lv_has ls 2 [(0, .int 5), (1, .int 0)] := hl
  refine lv_iload_n hx hb dX0_bodyOf_0 rfl (lv_at hl 0 rfl) ?_
  refine lv_iconst (v := 4) hx hb dX0_bodyOf_1 (by decide) ?_
  refine lv_imul hx hb dX0_bodyOf_2 ?_
  refine lv_topi (fun x_1 ex_1 => ?_)
  have fx_1 : x_1.toInt = (20 : Int) := by rw [ex_1]; rfl
  refine lv_iload_n hx hb dX0_bodyOf_3 rfl (lv_at hl 1 rfl) ?_
  refine lv_iadd hx hb dX0_bodyOf_4 ?_
  refine lv_topi (fun x_2 ex_2 => ?_)
  have fx_2 : x_2.toInt = x_1.toInt + (0 : Int) := by rw [ex_2]; exact i_add (by first | omega | (show (_ : Int) ≤ x_1.toInt + (0 : Int); omega)) (by first | omega | (show x_1.toInt + (0 : Int) ≤ (_ : Int); omega))
  rcases (show x_2.toInt = 20 ∨ (x_2.toInt < 0 ∨ 29 < x_2.toInt) by omega) with kc_3 | kc_3
  ·
    refine lv_tableIn (tgt := 180) hx hb dX0_bodyOf_5 (by omega) (by omega) (off := 175) (by rw [kc_3]; rfl) (by decide) ?_
    refine lv_iconst (v := 0) hx hb dX0_bodyOf_180 (by decide) ?_
    have q0_0 : (0 : Int32).toInt = 0 := rfl
    exact W.iret (v := 0) hx hb hr (fun tt ht hW => ⟨0, rfl, (by first | rfl | omega | trivial | assumption | (dsimp only; first | omega | assumption)), ht⟩) (fun _ h => by cases h) dX0_bodyOf_181
  ·
    exfalso; omega
set_option maxHeartbeats 4000000 in
set_option maxRecDepth 100000 in
theorem k_B_5_1 (l : Launch)     : Met l yX0_bodyOf (Cond.code yX0_bodyOf cX0_bodyOf 2 (some .int) :: gw) ({ frames := 0, cells := 0, slots := 0, locals := 0 }) (fun v _ => v = ([.int 5, .int 1] : List Value).toArray) (vp_Si (fun (r : Int32) => r.toInt = 0)) 0 0 (fun _ => False) := by
  refine Met.ofW (cc := cX0_bodyOf) (maxL := 2) (ret := (some .int)) (by decide) rfl ?_
  intro p e s m args below meth c s₁ B hml hv
  subst hv
  have hx := B.exec
  have hb := B.bytes
  have hr := B.returns
  have hts := atoms_spec (ws := (Cond.code yX0_bodyOf cX0_bodyOf 2 (some .int) :: gw)) B.pre
  have hg : ∀ w ∈ gw, w.before ([.int 5, .int 1] : List Value).toArray s = true := fun w h => hts w (List.mem_cons_of_mem _ h)
  have hown : s.vm.findClass RX0 = some m.cls := findClass_of_methodNamed B.named
  have hlocks := B.notSynchronized
  have hl := lv_entry ([.int 5, .int 1]) (n := 2) (Nat.le_of_ble_eq_true rfl)
  rw [lg_entry_eq]
  generalize (lg_sl ([.int 5, .int 1]) ++ List.replicate (2 - (lg_sl ([.int 5, .int 1])).length) Slot.unset).toArray = ls at hl ⊢
  have hl : lv_has ls 2 [(0, .int 5), (1, .int 1)] := hl
  refine lv_iload_n hx hb dX0_bodyOf_0 rfl (lv_at hl 0 rfl) ?_
  refine lv_iconst (v := 4) hx hb dX0_bodyOf_1 (by decide) ?_
  refine lv_imul hx hb dX0_bodyOf_2 ?_
  refine lv_topi (fun x_1 ex_1 => ?_)
  have fx_1 : x_1.toInt = (20 : Int) := by rw [ex_1]; rfl
  refine lv_iload_n hx hb dX0_bodyOf_3 rfl (lv_at hl 1 rfl) ?_
  refine lv_iadd hx hb dX0_bodyOf_4 ?_
  refine lv_topi (fun x_2 ex_2 => ?_)
  have fx_2 : x_2.toInt = x_1.toInt + (1 : Int) := by rw [ex_2]; exact i_add (by first | omega | (show (_ : Int) ≤ x_1.toInt + (1 : Int); omega)) (by first | omega | (show x_1.toInt + (1 : Int) ≤ (_ : Int); omega))
  rcases (show x_2.toInt = 21 ∨ (x_2.toInt < 0 ∨ 29 < x_2.toInt) by omega) with kc_3 | kc_3
  ·
    refine lv_tableIn (tgt := 180) hx hb dX0_bodyOf_5 (by omega) (by omega) (off := 175) (by rw [kc_3]; rfl) (by decide) ?_
    refine lv_iconst (v := 0) hx hb dX0_bodyOf_180 (by decide) ?_
    have q0_0 : (0 : Int32).toInt = 0 := rfl
    exact W.iret (v := 0) hx hb hr (fun tt ht hW => ⟨0, rfl, (by first | rfl | omega | trivial | assumption | (dsimp only; first | omega | assumption)), ht⟩) (fun _ h => by cases h) dX0_bodyOf_181
  ·
    exfalso; omega
set_option maxHeartbeats 4000000 in
set_option maxRecDepth 100000 in
theorem k_B_5_2 (l : Launch)     : Met l yX0_bodyOf (Cond.code yX0_bodyOf cX0_bodyOf 2 (some .int) :: gw) ({ frames := 0, cells := 0, slots := 0, locals := 0 }) (fun v _ => v = ([.int 5, .int 2] : List Value).toArray) (vp_Si (fun (r : Int32) => r.toInt = 60)) 0 0 (fun _ => False) := by
  refine Met.ofW (cc := cX0_bodyOf) (maxL := 2) (ret := (some .int)) (by decide) rfl ?_
  intro p e s m args below meth c s₁ B hml hv
  subst hv
  have hx := B.exec
  have hb := B.bytes
  have hr := B.returns
  have hts := atoms_spec (ws := (Cond.code yX0_bodyOf cX0_bodyOf 2 (some .int) :: gw)) B.pre
  have hg : ∀ w ∈ gw, w.before ([.int 5, .int 2] : List Value).toArray s = true := fun w h => hts w (List.mem_cons_of_mem _ h)
  have hown : s.vm.findClass RX0 = some m.cls := findClass_of_methodNamed B.named
  have hlocks := B.notSynchronized
  have hl := lv_entry ([.int 5, .int 2]) (n := 2) (Nat.le_of_ble_eq_true rfl)
  rw [lg_entry_eq]
  generalize (lg_sl ([.int 5, .int 2]) ++ List.replicate (2 - (lg_sl ([.int 5, .int 2])).length) Slot.unset).toArray = ls at hl ⊢
  have hl : lv_has ls 2 [(0, .int 5), (1, .int 2)] := hl
  refine lv_iload_n hx hb dX0_bodyOf_0 rfl (lv_at hl 0 rfl) ?_
  refine lv_iconst (v := 4) hx hb dX0_bodyOf_1 (by decide) ?_
  refine lv_imul hx hb dX0_bodyOf_2 ?_
  refine lv_topi (fun x_1 ex_1 => ?_)
  have fx_1 : x_1.toInt = (20 : Int) := by rw [ex_1]; rfl
  refine lv_iload_n hx hb dX0_bodyOf_3 rfl (lv_at hl 1 rfl) ?_
  refine lv_iadd hx hb dX0_bodyOf_4 ?_
  refine lv_topi (fun x_2 ex_2 => ?_)
  have fx_2 : x_2.toInt = x_1.toInt + (2 : Int) := by rw [ex_2]; exact i_add (by first | omega | (show (_ : Int) ≤ x_1.toInt + (2 : Int); omega)) (by first | omega | (show x_1.toInt + (2 : Int) ≤ (_ : Int); omega))
  rcases (show x_2.toInt = 22 ∨ (x_2.toInt < 0 ∨ 29 < x_2.toInt) by omega) with kc_3 | kc_3
  ·
    refine lv_tableIn (tgt := 165) hx hb dX0_bodyOf_5 (by omega) (by omega) (off := 160) (by rw [kc_3]; rfl) (by decide) ?_
    refine lv_bipush (v := 60) hx hb dX0_bodyOf_165 (by decide) ?_
    have q0_60 : (60 : Int32).toInt = 60 := rfl
    exact W.iret (v := 60) hx hb hr (fun tt ht hW => ⟨60, rfl, (by first | rfl | omega | trivial | assumption | (dsimp only; first | omega | assumption)), ht⟩) (fun _ h => by cases h) dX0_bodyOf_167
  ·
    exfalso; omega
set_option maxHeartbeats 4000000 in
set_option maxRecDepth 100000 in
theorem k_B_5_3 (l : Launch)     : Met l yX0_bodyOf (Cond.code yX0_bodyOf cX0_bodyOf 2 (some .int) :: gw) ({ frames := 0, cells := 0, slots := 0, locals := 0 }) (fun v _ => v = ([.int 5, .int 3] : List Value).toArray) (vp_Si (fun (r : Int32) => r.toInt = 61)) 0 0 (fun _ => False) := by
  refine Met.ofW (cc := cX0_bodyOf) (maxL := 2) (ret := (some .int)) (by decide) rfl ?_
  intro p e s m args below meth c s₁ B hml hv
  subst hv
  have hx := B.exec
  have hb := B.bytes
  have hr := B.returns
  have hts := atoms_spec (ws := (Cond.code yX0_bodyOf cX0_bodyOf 2 (some .int) :: gw)) B.pre
  have hg : ∀ w ∈ gw, w.before ([.int 5, .int 3] : List Value).toArray s = true := fun w h => hts w (List.mem_cons_of_mem _ h)
  have hown : s.vm.findClass RX0 = some m.cls := findClass_of_methodNamed B.named
  have hlocks := B.notSynchronized
  have hl := lv_entry ([.int 5, .int 3]) (n := 2) (Nat.le_of_ble_eq_true rfl)
  rw [lg_entry_eq]
  generalize (lg_sl ([.int 5, .int 3]) ++ List.replicate (2 - (lg_sl ([.int 5, .int 3])).length) Slot.unset).toArray = ls at hl ⊢
  have hl : lv_has ls 2 [(0, .int 5), (1, .int 3)] := hl
  refine lv_iload_n hx hb dX0_bodyOf_0 rfl (lv_at hl 0 rfl) ?_
  refine lv_iconst (v := 4) hx hb dX0_bodyOf_1 (by decide) ?_
  refine lv_imul hx hb dX0_bodyOf_2 ?_
  refine lv_topi (fun x_1 ex_1 => ?_)
  have fx_1 : x_1.toInt = (20 : Int) := by rw [ex_1]; rfl
  refine lv_iload_n hx hb dX0_bodyOf_3 rfl (lv_at hl 1 rfl) ?_
  refine lv_iadd hx hb dX0_bodyOf_4 ?_
  refine lv_topi (fun x_2 ex_2 => ?_)
  have fx_2 : x_2.toInt = x_1.toInt + (3 : Int) := by rw [ex_2]; exact i_add (by first | omega | (show (_ : Int) ≤ x_1.toInt + (3 : Int); omega)) (by first | omega | (show x_1.toInt + (3 : Int) ≤ (_ : Int); omega))
  rcases (show x_2.toInt = 23 ∨ (x_2.toInt < 0 ∨ 29 < x_2.toInt) by omega) with kc_3 | kc_3
  ·
    refine lv_tableIn (tgt := 168) hx hb dX0_bodyOf_5 (by omega) (by omega) (off := 163) (by rw [kc_3]; rfl) (by decide) ?_
    refine lv_bipush (v := 61) hx hb dX0_bodyOf_168 (by decide) ?_
    have q0_61 : (61 : Int32).toInt = 61 := rfl
    exact W.iret (v := 61) hx hb hr (fun tt ht hW => ⟨61, rfl, (by first | rfl | omega | trivial | assumption | (dsimp only; first | omega | assumption)), ht⟩) (fun _ h => by cases h) dX0_bodyOf_170
  ·
    exfalso; omega
set_option maxHeartbeats 4000000 in
set_option maxRecDepth 100000 in
theorem k_B_6_0 (l : Launch)     : Met l yX0_bodyOf (Cond.code yX0_bodyOf cX0_bodyOf 2 (some .int) :: gw) ({ frames := 0, cells := 0, slots := 0, locals := 0 }) (fun v _ => v = ([.int 6, .int 0] : List Value).toArray) (vp_Si (fun (r : Int32) => r.toInt = 70)) 0 0 (fun _ => False) := by
  refine Met.ofW (cc := cX0_bodyOf) (maxL := 2) (ret := (some .int)) (by decide) rfl ?_
  intro p e s m args below meth c s₁ B hml hv
  subst hv
  have hx := B.exec
  have hb := B.bytes
  have hr := B.returns
  have hts := atoms_spec (ws := (Cond.code yX0_bodyOf cX0_bodyOf 2 (some .int) :: gw)) B.pre
  have hg : ∀ w ∈ gw, w.before ([.int 6, .int 0] : List Value).toArray s = true := fun w h => hts w (List.mem_cons_of_mem _ h)
  have hown : s.vm.findClass RX0 = some m.cls := findClass_of_methodNamed B.named
  have hlocks := B.notSynchronized
  have hl := lv_entry ([.int 6, .int 0]) (n := 2) (Nat.le_of_ble_eq_true rfl)
  rw [lg_entry_eq]
  generalize (lg_sl ([.int 6, .int 0]) ++ List.replicate (2 - (lg_sl ([.int 6, .int 0])).length) Slot.unset).toArray = ls at hl ⊢
  have hl : lv_has ls 2 [(0, .int 6), (1, .int 0)] := hl
  refine lv_iload_n hx hb dX0_bodyOf_0 rfl (lv_at hl 0 rfl) ?_
  refine lv_iconst (v := 4) hx hb dX0_bodyOf_1 (by decide) ?_
  refine lv_imul hx hb dX0_bodyOf_2 ?_
  refine lv_topi (fun x_1 ex_1 => ?_)
  have fx_1 : x_1.toInt = (24 : Int) := by rw [ex_1]; rfl
  refine lv_iload_n hx hb dX0_bodyOf_3 rfl (lv_at hl 1 rfl) ?_
  refine lv_iadd hx hb dX0_bodyOf_4 ?_
  refine lv_topi (fun x_2 ex_2 => ?_)
  have fx_2 : x_2.toInt = x_1.toInt + (0 : Int) := by rw [ex_2]; exact i_add (by first | omega | (show (_ : Int) ≤ x_1.toInt + (0 : Int); omega)) (by first | omega | (show x_1.toInt + (0 : Int) ≤ (_ : Int); omega))
  rcases (show x_2.toInt = 24 ∨ (x_2.toInt < 0 ∨ 29 < x_2.toInt) by omega) with kc_3 | kc_3
  ·
    refine lv_tableIn (tgt := 171) hx hb dX0_bodyOf_5 (by omega) (by omega) (off := 166) (by rw [kc_3]; rfl) (by decide) ?_
    refine lv_bipush (v := 70) hx hb dX0_bodyOf_171 (by decide) ?_
    have q0_70 : (70 : Int32).toInt = 70 := rfl
    exact W.iret (v := 70) hx hb hr (fun tt ht hW => ⟨70, rfl, (by first | rfl | omega | trivial | assumption | (dsimp only; first | omega | assumption)), ht⟩) (fun _ h => by cases h) dX0_bodyOf_173
  ·
    exfalso; omega
set_option maxHeartbeats 4000000 in
set_option maxRecDepth 100000 in
theorem k_B_6_1 (l : Launch)     : Met l yX0_bodyOf (Cond.code yX0_bodyOf cX0_bodyOf 2 (some .int) :: gw) ({ frames := 0, cells := 0, slots := 0, locals := 0 }) (fun v _ => v = ([.int 6, .int 1] : List Value).toArray) (vp_Si (fun (r : Int32) => r.toInt = 0)) 0 0 (fun _ => False) := by
  refine Met.ofW (cc := cX0_bodyOf) (maxL := 2) (ret := (some .int)) (by decide) rfl ?_
  intro p e s m args below meth c s₁ B hml hv
  subst hv
  have hx := B.exec
  have hb := B.bytes
  have hr := B.returns
  have hts := atoms_spec (ws := (Cond.code yX0_bodyOf cX0_bodyOf 2 (some .int) :: gw)) B.pre
  have hg : ∀ w ∈ gw, w.before ([.int 6, .int 1] : List Value).toArray s = true := fun w h => hts w (List.mem_cons_of_mem _ h)
  have hown : s.vm.findClass RX0 = some m.cls := findClass_of_methodNamed B.named
  have hlocks := B.notSynchronized
  have hl := lv_entry ([.int 6, .int 1]) (n := 2) (Nat.le_of_ble_eq_true rfl)
  rw [lg_entry_eq]
  generalize (lg_sl ([.int 6, .int 1]) ++ List.replicate (2 - (lg_sl ([.int 6, .int 1])).length) Slot.unset).toArray = ls at hl ⊢
  have hl : lv_has ls 2 [(0, .int 6), (1, .int 1)] := hl
  refine lv_iload_n hx hb dX0_bodyOf_0 rfl (lv_at hl 0 rfl) ?_
  refine lv_iconst (v := 4) hx hb dX0_bodyOf_1 (by decide) ?_
  refine lv_imul hx hb dX0_bodyOf_2 ?_
  refine lv_topi (fun x_1 ex_1 => ?_)
  have fx_1 : x_1.toInt = (24 : Int) := by rw [ex_1]; rfl
  refine lv_iload_n hx hb dX0_bodyOf_3 rfl (lv_at hl 1 rfl) ?_
  refine lv_iadd hx hb dX0_bodyOf_4 ?_
  refine lv_topi (fun x_2 ex_2 => ?_)
  have fx_2 : x_2.toInt = x_1.toInt + (1 : Int) := by rw [ex_2]; exact i_add (by first | omega | (show (_ : Int) ≤ x_1.toInt + (1 : Int); omega)) (by first | omega | (show x_1.toInt + (1 : Int) ≤ (_ : Int); omega))
  rcases (show x_2.toInt = 25 ∨ (x_2.toInt < 0 ∨ 29 < x_2.toInt) by omega) with kc_3 | kc_3
  ·
    refine lv_tableIn (tgt := 180) hx hb dX0_bodyOf_5 (by omega) (by omega) (off := 175) (by rw [kc_3]; rfl) (by decide) ?_
    refine lv_iconst (v := 0) hx hb dX0_bodyOf_180 (by decide) ?_
    have q0_0 : (0 : Int32).toInt = 0 := rfl
    exact W.iret (v := 0) hx hb hr (fun tt ht hW => ⟨0, rfl, (by first | rfl | omega | trivial | assumption | (dsimp only; first | omega | assumption)), ht⟩) (fun _ h => by cases h) dX0_bodyOf_181
  ·
    exfalso; omega
set_option maxHeartbeats 4000000 in
set_option maxRecDepth 100000 in
theorem k_B_6_2 (l : Launch)     : Met l yX0_bodyOf (Cond.code yX0_bodyOf cX0_bodyOf 2 (some .int) :: gw) ({ frames := 0, cells := 0, slots := 0, locals := 0 }) (fun v _ => v = ([.int 6, .int 2] : List Value).toArray) (vp_Si (fun (r : Int32) => r.toInt = 0)) 0 0 (fun _ => False) := by
  refine Met.ofW (cc := cX0_bodyOf) (maxL := 2) (ret := (some .int)) (by decide) rfl ?_
  intro p e s m args below meth c s₁ B hml hv
  subst hv
  have hx := B.exec
  have hb := B.bytes
  have hr := B.returns
  have hts := atoms_spec (ws := (Cond.code yX0_bodyOf cX0_bodyOf 2 (some .int) :: gw)) B.pre
  have hg : ∀ w ∈ gw, w.before ([.int 6, .int 2] : List Value).toArray s = true := fun w h => hts w (List.mem_cons_of_mem _ h)
  have hown : s.vm.findClass RX0 = some m.cls := findClass_of_methodNamed B.named
  have hlocks := B.notSynchronized
  have hl := lv_entry ([.int 6, .int 2]) (n := 2) (Nat.le_of_ble_eq_true rfl)
  rw [lg_entry_eq]
  generalize (lg_sl ([.int 6, .int 2]) ++ List.replicate (2 - (lg_sl ([.int 6, .int 2])).length) Slot.unset).toArray = ls at hl ⊢
  have hl : lv_has ls 2 [(0, .int 6), (1, .int 2)] := hl
  refine lv_iload_n hx hb dX0_bodyOf_0 rfl (lv_at hl 0 rfl) ?_
  refine lv_iconst (v := 4) hx hb dX0_bodyOf_1 (by decide) ?_
  refine lv_imul hx hb dX0_bodyOf_2 ?_
  refine lv_topi (fun x_1 ex_1 => ?_)
  have fx_1 : x_1.toInt = (24 : Int) := by rw [ex_1]; rfl
  refine lv_iload_n hx hb dX0_bodyOf_3 rfl (lv_at hl 1 rfl) ?_
  refine lv_iadd hx hb dX0_bodyOf_4 ?_
  refine lv_topi (fun x_2 ex_2 => ?_)
  have fx_2 : x_2.toInt = x_1.toInt + (2 : Int) := by rw [ex_2]; exact i_add (by first | omega | (show (_ : Int) ≤ x_1.toInt + (2 : Int); omega)) (by first | omega | (show x_1.toInt + (2 : Int) ≤ (_ : Int); omega))
  rcases (show x_2.toInt = 26 ∨ (x_2.toInt < 0 ∨ 29 < x_2.toInt) by omega) with kc_3 | kc_3
  ·
    refine lv_tableIn (tgt := 180) hx hb dX0_bodyOf_5 (by omega) (by omega) (off := 175) (by rw [kc_3]; rfl) (by decide) ?_
    refine lv_iconst (v := 0) hx hb dX0_bodyOf_180 (by decide) ?_
    have q0_0 : (0 : Int32).toInt = 0 := rfl
    exact W.iret (v := 0) hx hb hr (fun tt ht hW => ⟨0, rfl, (by first | rfl | omega | trivial | assumption | (dsimp only; first | omega | assumption)), ht⟩) (fun _ h => by cases h) dX0_bodyOf_181
  ·
    exfalso; omega
set_option maxHeartbeats 4000000 in
set_option maxRecDepth 100000 in
theorem k_B_6_3 (l : Launch)     : Met l yX0_bodyOf (Cond.code yX0_bodyOf cX0_bodyOf 2 (some .int) :: gw) ({ frames := 0, cells := 0, slots := 0, locals := 0 }) (fun v _ => v = ([.int 6, .int 3] : List Value).toArray) (vp_Si (fun (r : Int32) => r.toInt = 0)) 0 0 (fun _ => False) := by
  refine Met.ofW (cc := cX0_bodyOf) (maxL := 2) (ret := (some .int)) (by decide) rfl ?_
  intro p e s m args below meth c s₁ B hml hv
  subst hv
  have hx := B.exec
  have hb := B.bytes
  have hr := B.returns
  have hts := atoms_spec (ws := (Cond.code yX0_bodyOf cX0_bodyOf 2 (some .int) :: gw)) B.pre
  have hg : ∀ w ∈ gw, w.before ([.int 6, .int 3] : List Value).toArray s = true := fun w h => hts w (List.mem_cons_of_mem _ h)
  have hown : s.vm.findClass RX0 = some m.cls := findClass_of_methodNamed B.named
  have hlocks := B.notSynchronized
  have hl := lv_entry ([.int 6, .int 3]) (n := 2) (Nat.le_of_ble_eq_true rfl)
  rw [lg_entry_eq]
  generalize (lg_sl ([.int 6, .int 3]) ++ List.replicate (2 - (lg_sl ([.int 6, .int 3])).length) Slot.unset).toArray = ls at hl ⊢
  have hl : lv_has ls 2 [(0, .int 6), (1, .int 3)] := hl
  refine lv_iload_n hx hb dX0_bodyOf_0 rfl (lv_at hl 0 rfl) ?_
  refine lv_iconst (v := 4) hx hb dX0_bodyOf_1 (by decide) ?_
  refine lv_imul hx hb dX0_bodyOf_2 ?_
  refine lv_topi (fun x_1 ex_1 => ?_)
  have fx_1 : x_1.toInt = (24 : Int) := by rw [ex_1]; rfl
  refine lv_iload_n hx hb dX0_bodyOf_3 rfl (lv_at hl 1 rfl) ?_
  refine lv_iadd hx hb dX0_bodyOf_4 ?_
  refine lv_topi (fun x_2 ex_2 => ?_)
  have fx_2 : x_2.toInt = x_1.toInt + (3 : Int) := by rw [ex_2]; exact i_add (by first | omega | (show (_ : Int) ≤ x_1.toInt + (3 : Int); omega)) (by first | omega | (show x_1.toInt + (3 : Int) ≤ (_ : Int); omega))
  rcases (show x_2.toInt = 27 ∨ (x_2.toInt < 0 ∨ 29 < x_2.toInt) by omega) with kc_3 | kc_3
  ·
    refine lv_tableIn (tgt := 180) hx hb dX0_bodyOf_5 (by omega) (by omega) (off := 175) (by rw [kc_3]; rfl) (by decide) ?_
    refine lv_iconst (v := 0) hx hb dX0_bodyOf_180 (by decide) ?_
    have q0_0 : (0 : Int32).toInt = 0 := rfl
    exact W.iret (v := 0) hx hb hr (fun tt ht hW => ⟨0, rfl, (by first | rfl | omega | trivial | assumption | (dsimp only; first | omega | assumption)), ht⟩) (fun _ h => by cases h) dX0_bodyOf_181
  ·
    exfalso; omega
set_option maxHeartbeats 4000000 in
set_option maxRecDepth 100000 in
theorem k_B_7_0 (l : Launch)     : Met l yX0_bodyOf (Cond.code yX0_bodyOf cX0_bodyOf 2 (some .int) :: gw) ({ frames := 0, cells := 0, slots := 0, locals := 0 }) (fun v _ => v = ([.int 7, .int 0] : List Value).toArray) (vp_Si (fun (r : Int32) => r.toInt = 81)) 0 0 (fun _ => False) := by
  refine Met.ofW (cc := cX0_bodyOf) (maxL := 2) (ret := (some .int)) (by decide) rfl ?_
  intro p e s m args below meth c s₁ B hml hv
  subst hv
  have hx := B.exec
  have hb := B.bytes
  have hr := B.returns
  have hts := atoms_spec (ws := (Cond.code yX0_bodyOf cX0_bodyOf 2 (some .int) :: gw)) B.pre
  have hg : ∀ w ∈ gw, w.before ([.int 7, .int 0] : List Value).toArray s = true := fun w h => hts w (List.mem_cons_of_mem _ h)
  have hown : s.vm.findClass RX0 = some m.cls := findClass_of_methodNamed B.named
  have hlocks := B.notSynchronized
  have hl := lv_entry ([.int 7, .int 0]) (n := 2) (Nat.le_of_ble_eq_true rfl)
  rw [lg_entry_eq]
  generalize (lg_sl ([.int 7, .int 0]) ++ List.replicate (2 - (lg_sl ([.int 7, .int 0])).length) Slot.unset).toArray = ls at hl ⊢
  have hl : lv_has ls 2 [(0, .int 7), (1, .int 0)] := hl
  refine lv_iload_n hx hb dX0_bodyOf_0 rfl (lv_at hl 0 rfl) ?_
  refine lv_iconst (v := 4) hx hb dX0_bodyOf_1 (by decide) ?_
  refine lv_imul hx hb dX0_bodyOf_2 ?_
  refine lv_topi (fun x_1 ex_1 => ?_)
  have fx_1 : x_1.toInt = (28 : Int) := by rw [ex_1]; rfl
  refine lv_iload_n hx hb dX0_bodyOf_3 rfl (lv_at hl 1 rfl) ?_
  refine lv_iadd hx hb dX0_bodyOf_4 ?_
  refine lv_topi (fun x_2 ex_2 => ?_)
  have fx_2 : x_2.toInt = x_1.toInt + (0 : Int) := by rw [ex_2]; exact i_add (by first | omega | (show (_ : Int) ≤ x_1.toInt + (0 : Int); omega)) (by first | omega | (show x_1.toInt + (0 : Int) ≤ (_ : Int); omega))
  rcases (show x_2.toInt = 28 ∨ (x_2.toInt < 0 ∨ 29 < x_2.toInt) by omega) with kc_3 | kc_3
  ·
    refine lv_tableIn (tgt := 177) hx hb dX0_bodyOf_5 (by omega) (by omega) (off := 172) (by rw [kc_3]; rfl) (by decide) ?_
    refine lv_bipush (v := 81) hx hb dX0_bodyOf_177 (by decide) ?_
    have q0_81 : (81 : Int32).toInt = 81 := rfl
    exact W.iret (v := 81) hx hb hr (fun tt ht hW => ⟨81, rfl, (by first | rfl | omega | trivial | assumption | (dsimp only; first | omega | assumption)), ht⟩) (fun _ h => by cases h) dX0_bodyOf_179
  ·
    exfalso; omega
set_option maxHeartbeats 4000000 in
set_option maxRecDepth 100000 in
theorem k_B_7_1 (l : Launch)     : Met l yX0_bodyOf (Cond.code yX0_bodyOf cX0_bodyOf 2 (some .int) :: gw) ({ frames := 0, cells := 0, slots := 0, locals := 0 }) (fun v _ => v = ([.int 7, .int 1] : List Value).toArray) (vp_Si (fun (r : Int32) => r.toInt = 80)) 0 0 (fun _ => False) := by
  refine Met.ofW (cc := cX0_bodyOf) (maxL := 2) (ret := (some .int)) (by decide) rfl ?_
  intro p e s m args below meth c s₁ B hml hv
  subst hv
  have hx := B.exec
  have hb := B.bytes
  have hr := B.returns
  have hts := atoms_spec (ws := (Cond.code yX0_bodyOf cX0_bodyOf 2 (some .int) :: gw)) B.pre
  have hg : ∀ w ∈ gw, w.before ([.int 7, .int 1] : List Value).toArray s = true := fun w h => hts w (List.mem_cons_of_mem _ h)
  have hown : s.vm.findClass RX0 = some m.cls := findClass_of_methodNamed B.named
  have hlocks := B.notSynchronized
  have hl := lv_entry ([.int 7, .int 1]) (n := 2) (Nat.le_of_ble_eq_true rfl)
  rw [lg_entry_eq]
  generalize (lg_sl ([.int 7, .int 1]) ++ List.replicate (2 - (lg_sl ([.int 7, .int 1])).length) Slot.unset).toArray = ls at hl ⊢
  have hl : lv_has ls 2 [(0, .int 7), (1, .int 1)] := hl
  refine lv_iload_n hx hb dX0_bodyOf_0 rfl (lv_at hl 0 rfl) ?_
  refine lv_iconst (v := 4) hx hb dX0_bodyOf_1 (by decide) ?_
  refine lv_imul hx hb dX0_bodyOf_2 ?_
  refine lv_topi (fun x_1 ex_1 => ?_)
  have fx_1 : x_1.toInt = (28 : Int) := by rw [ex_1]; rfl
  refine lv_iload_n hx hb dX0_bodyOf_3 rfl (lv_at hl 1 rfl) ?_
  refine lv_iadd hx hb dX0_bodyOf_4 ?_
  refine lv_topi (fun x_2 ex_2 => ?_)
  have fx_2 : x_2.toInt = x_1.toInt + (1 : Int) := by rw [ex_2]; exact i_add (by first | omega | (show (_ : Int) ≤ x_1.toInt + (1 : Int); omega)) (by first | omega | (show x_1.toInt + (1 : Int) ≤ (_ : Int); omega))
  rcases (show x_2.toInt = 29 ∨ (x_2.toInt < 0 ∨ 29 < x_2.toInt) by omega) with kc_3 | kc_3
  ·
    refine lv_tableIn (tgt := 174) hx hb dX0_bodyOf_5 (by omega) (by omega) (off := 169) (by rw [kc_3]; rfl) (by decide) ?_
    refine lv_bipush (v := 80) hx hb dX0_bodyOf_174 (by decide) ?_
    have q0_80 : (80 : Int32).toInt = 80 := rfl
    exact W.iret (v := 80) hx hb hr (fun tt ht hW => ⟨80, rfl, (by first | rfl | omega | trivial | assumption | (dsimp only; first | omega | assumption)), ht⟩) (fun _ h => by cases h) dX0_bodyOf_176
  ·
    exfalso; omega
set_option maxHeartbeats 4000000 in
set_option maxRecDepth 100000 in
theorem k_B_7_2 (l : Launch)     : Met l yX0_bodyOf (Cond.code yX0_bodyOf cX0_bodyOf 2 (some .int) :: gw) ({ frames := 0, cells := 0, slots := 0, locals := 0 }) (fun v _ => v = ([.int 7, .int 2] : List Value).toArray) (vp_Si (fun (r : Int32) => r.toInt = 0)) 0 0 (fun _ => False) := by
  refine Met.ofW (cc := cX0_bodyOf) (maxL := 2) (ret := (some .int)) (by decide) rfl ?_
  intro p e s m args below meth c s₁ B hml hv
  subst hv
  have hx := B.exec
  have hb := B.bytes
  have hr := B.returns
  have hts := atoms_spec (ws := (Cond.code yX0_bodyOf cX0_bodyOf 2 (some .int) :: gw)) B.pre
  have hg : ∀ w ∈ gw, w.before ([.int 7, .int 2] : List Value).toArray s = true := fun w h => hts w (List.mem_cons_of_mem _ h)
  have hown : s.vm.findClass RX0 = some m.cls := findClass_of_methodNamed B.named
  have hlocks := B.notSynchronized
  have hl := lv_entry ([.int 7, .int 2]) (n := 2) (Nat.le_of_ble_eq_true rfl)
  rw [lg_entry_eq]
  generalize (lg_sl ([.int 7, .int 2]) ++ List.replicate (2 - (lg_sl ([.int 7, .int 2])).length) Slot.unset).toArray = ls at hl ⊢
  have hl : lv_has ls 2 [(0, .int 7), (1, .int 2)] := hl
  refine lv_iload_n hx hb dX0_bodyOf_0 rfl (lv_at hl 0 rfl) ?_
  refine lv_iconst (v := 4) hx hb dX0_bodyOf_1 (by decide) ?_
  refine lv_imul hx hb dX0_bodyOf_2 ?_
  refine lv_topi (fun x_1 ex_1 => ?_)
  have fx_1 : x_1.toInt = (28 : Int) := by rw [ex_1]; rfl
  refine lv_iload_n hx hb dX0_bodyOf_3 rfl (lv_at hl 1 rfl) ?_
  refine lv_iadd hx hb dX0_bodyOf_4 ?_
  refine lv_topi (fun x_2 ex_2 => ?_)
  have fx_2 : x_2.toInt = x_1.toInt + (2 : Int) := by rw [ex_2]; exact i_add (by first | omega | (show (_ : Int) ≤ x_1.toInt + (2 : Int); omega)) (by first | omega | (show x_1.toInt + (2 : Int) ≤ (_ : Int); omega))
  have kc_3 : x_2.toInt < 0 ∨ 29 < x_2.toInt := by omega
  ·
    refine lv_tableOut (tgt := 180) hx hb dX0_bodyOf_5 kc_3 (by decide) ?_
    refine lv_iconst (v := 0) hx hb dX0_bodyOf_180 (by decide) ?_
    have q0_0 : (0 : Int32).toInt = 0 := rfl
    exact W.iret (v := 0) hx hb hr (fun tt ht hW => ⟨0, rfl, (by first | rfl | omega | trivial | assumption | (dsimp only; first | omega | assumption)), ht⟩) (fun _ h => by cases h) dX0_bodyOf_181
set_option maxHeartbeats 4000000 in
set_option maxRecDepth 100000 in
theorem k_B_7_3 (l : Launch)     : Met l yX0_bodyOf (Cond.code yX0_bodyOf cX0_bodyOf 2 (some .int) :: gw) ({ frames := 0, cells := 0, slots := 0, locals := 0 }) (fun v _ => v = ([.int 7, .int 3] : List Value).toArray) (vp_Si (fun (r : Int32) => r.toInt = 0)) 0 0 (fun _ => False) := by
  refine Met.ofW (cc := cX0_bodyOf) (maxL := 2) (ret := (some .int)) (by decide) rfl ?_
  intro p e s m args below meth c s₁ B hml hv
  subst hv
  have hx := B.exec
  have hb := B.bytes
  have hr := B.returns
  have hts := atoms_spec (ws := (Cond.code yX0_bodyOf cX0_bodyOf 2 (some .int) :: gw)) B.pre
  have hg : ∀ w ∈ gw, w.before ([.int 7, .int 3] : List Value).toArray s = true := fun w h => hts w (List.mem_cons_of_mem _ h)
  have hown : s.vm.findClass RX0 = some m.cls := findClass_of_methodNamed B.named
  have hlocks := B.notSynchronized
  have hl := lv_entry ([.int 7, .int 3]) (n := 2) (Nat.le_of_ble_eq_true rfl)
  rw [lg_entry_eq]
  generalize (lg_sl ([.int 7, .int 3]) ++ List.replicate (2 - (lg_sl ([.int 7, .int 3])).length) Slot.unset).toArray = ls at hl ⊢
  have hl : lv_has ls 2 [(0, .int 7), (1, .int 3)] := hl
  refine lv_iload_n hx hb dX0_bodyOf_0 rfl (lv_at hl 0 rfl) ?_
  refine lv_iconst (v := 4) hx hb dX0_bodyOf_1 (by decide) ?_
  refine lv_imul hx hb dX0_bodyOf_2 ?_
  refine lv_topi (fun x_1 ex_1 => ?_)
  have fx_1 : x_1.toInt = (28 : Int) := by rw [ex_1]; rfl
  refine lv_iload_n hx hb dX0_bodyOf_3 rfl (lv_at hl 1 rfl) ?_
  refine lv_iadd hx hb dX0_bodyOf_4 ?_
  refine lv_topi (fun x_2 ex_2 => ?_)
  have fx_2 : x_2.toInt = x_1.toInt + (3 : Int) := by rw [ex_2]; exact i_add (by first | omega | (show (_ : Int) ≤ x_1.toInt + (3 : Int); omega)) (by first | omega | (show x_1.toInt + (3 : Int) ≤ (_ : Int); omega))
  have kc_3 : x_2.toInt < 0 ∨ 29 < x_2.toInt := by omega
  ·
    refine lv_tableOut (tgt := 180) hx hb dX0_bodyOf_5 kc_3 (by decide) ?_
    refine lv_iconst (v := 0) hx hb dX0_bodyOf_180 (by decide) ?_
    have q0_0 : (0 : Int32).toInt = 0 := rfl
    exact W.iret (v := 0) hx hb hr (fun tt ht hW => ⟨0, rfl, (by first | rfl | omega | trivial | assumption | (dsimp only; first | omega | assumption)), ht⟩) (fun _ h => by cases h) dX0_bodyOf_181
set_option maxHeartbeats 4000000 in
set_option maxRecDepth 100000 in
theorem k_IK_0 (l : Launch)     : Met l yX0_isKind (Cond.code yX0_isKind cX0_isKind 1 (some .boolean) :: gw) ({ frames := 0, cells := 0, slots := 0, locals := 0 }) (fun v _ => v = ([.int (-1)] : List Value).toArray) (vp_Si (fun (r : Int32) => r.toInt = 0)) 0 0 (fun _ => False) := by
  refine Met.ofW (cc := cX0_isKind) (maxL := 1) (ret := (some .boolean)) (by decide) rfl ?_
  intro p e s m args below meth c s₁ B hml hv
  subst hv
  have hx := B.exec
  have hb := B.bytes
  have hr := B.returns
  have hts := atoms_spec (ws := (Cond.code yX0_isKind cX0_isKind 1 (some .boolean) :: gw)) B.pre
  have hg : ∀ w ∈ gw, w.before ([.int (-1)] : List Value).toArray s = true := fun w h => hts w (List.mem_cons_of_mem _ h)
  have hown : s.vm.findClass RX0 = some m.cls := findClass_of_methodNamed B.named
  have hlocks := B.notSynchronized
  have hl := lv_entry ([.int (-1)]) (n := 1) (Nat.le_of_ble_eq_true rfl)
  rw [lg_entry_eq]
  generalize (lg_sl ([.int (-1)]) ++ List.replicate (1 - (lg_sl ([.int (-1)])).length) Slot.unset).toArray = ls at hl ⊢
  have hl : lv_has ls 1 [(0, .int (-1))] := hl
  refine lv_iload_n hx hb dX0_isKind_0 rfl (lv_at hl 0 rfl) ?_
  refine lv_if_lt (tgt := 14) hx hb dX0_isKind_1 (by decide) (fun c_1 => ?_) (fun c_1 => absurd c_1 (by decide))
  refine lv_iconst (v := 0) hx hb dX0_isKind_14 (by decide) ?_
  have q0_0 : (0 : Int32).toInt = 0 := rfl
  exact W.zret (v := 0) hx hb hr rfl (fun tt ht hW => ⟨0, rfl, (by first | rfl | omega | trivial | assumption | (dsimp only; first | omega | assumption)), ht⟩) (fun _ h => by cases h) dX0_isKind_15
set_option maxHeartbeats 4000000 in
set_option maxRecDepth 100000 in
theorem k_IK_1 (l : Launch)     : Met l yX0_isKind (Cond.code yX0_isKind cX0_isKind 1 (some .boolean) :: gw) ({ frames := 0, cells := 0, slots := 0, locals := 0 }) (fun v _ => v = ([.int 0] : List Value).toArray) (vp_Si (fun (r : Int32) => r.toInt = 1)) 0 0 (fun _ => False) := by
  refine Met.ofW (cc := cX0_isKind) (maxL := 1) (ret := (some .boolean)) (by decide) rfl ?_
  intro p e s m args below meth c s₁ B hml hv
  subst hv
  have hx := B.exec
  have hb := B.bytes
  have hr := B.returns
  have hts := atoms_spec (ws := (Cond.code yX0_isKind cX0_isKind 1 (some .boolean) :: gw)) B.pre
  have hg : ∀ w ∈ gw, w.before ([.int 0] : List Value).toArray s = true := fun w h => hts w (List.mem_cons_of_mem _ h)
  have hown : s.vm.findClass RX0 = some m.cls := findClass_of_methodNamed B.named
  have hlocks := B.notSynchronized
  have hl := lv_entry ([.int 0]) (n := 1) (Nat.le_of_ble_eq_true rfl)
  rw [lg_entry_eq]
  generalize (lg_sl ([.int 0]) ++ List.replicate (1 - (lg_sl ([.int 0])).length) Slot.unset).toArray = ls at hl ⊢
  have hl : lv_has ls 1 [(0, .int 0)] := hl
  refine lv_iload_n hx hb dX0_isKind_0 rfl (lv_at hl 0 rfl) ?_
  refine lv_if_lt (tgt := 14) hx hb dX0_isKind_1 (by decide) (fun c_1 => absurd c_1 (by decide)) (fun c_1 => ?_)
  refine lv_iload_n hx hb dX0_isKind_4 rfl (lv_at hl 0 rfl) ?_
  refine lv_bipush (v := 7) hx hb dX0_isKind_5 (by decide) ?_
  refine lv_icmp_gt (tgt := 14) hx hb dX0_isKind_7 (by decide) (fun c_2 => absurd c_2 (by decide)) (fun c_2 => ?_)
  refine lv_iconst (v := 1) hx hb dX0_isKind_10 (by decide) ?_
  refine lv_goto (tgt := 15) hx hb dX0_isKind_11 (by decide) ?_
  have q0_1 : (1 : Int32).toInt = 1 := rfl
  exact W.zret (v := 1) hx hb hr rfl (fun tt ht hW => ⟨1, rfl, (by first | rfl | omega | trivial | assumption | (dsimp only; first | omega | assumption)), ht⟩) (fun _ h => by cases h) dX0_isKind_15
set_option maxHeartbeats 4000000 in
set_option maxRecDepth 100000 in
theorem k_IK_2 (l : Launch)     : Met l yX0_isKind (Cond.code yX0_isKind cX0_isKind 1 (some .boolean) :: gw) ({ frames := 0, cells := 0, slots := 0, locals := 0 }) (fun v _ => v = ([.int 1] : List Value).toArray) (vp_Si (fun (r : Int32) => r.toInt = 1)) 0 0 (fun _ => False) := by
  refine Met.ofW (cc := cX0_isKind) (maxL := 1) (ret := (some .boolean)) (by decide) rfl ?_
  intro p e s m args below meth c s₁ B hml hv
  subst hv
  have hx := B.exec
  have hb := B.bytes
  have hr := B.returns
  have hts := atoms_spec (ws := (Cond.code yX0_isKind cX0_isKind 1 (some .boolean) :: gw)) B.pre
  have hg : ∀ w ∈ gw, w.before ([.int 1] : List Value).toArray s = true := fun w h => hts w (List.mem_cons_of_mem _ h)
  have hown : s.vm.findClass RX0 = some m.cls := findClass_of_methodNamed B.named
  have hlocks := B.notSynchronized
  have hl := lv_entry ([.int 1]) (n := 1) (Nat.le_of_ble_eq_true rfl)
  rw [lg_entry_eq]
  generalize (lg_sl ([.int 1]) ++ List.replicate (1 - (lg_sl ([.int 1])).length) Slot.unset).toArray = ls at hl ⊢
  have hl : lv_has ls 1 [(0, .int 1)] := hl
  refine lv_iload_n hx hb dX0_isKind_0 rfl (lv_at hl 0 rfl) ?_
  refine lv_if_lt (tgt := 14) hx hb dX0_isKind_1 (by decide) (fun c_1 => absurd c_1 (by decide)) (fun c_1 => ?_)
  refine lv_iload_n hx hb dX0_isKind_4 rfl (lv_at hl 0 rfl) ?_
  refine lv_bipush (v := 7) hx hb dX0_isKind_5 (by decide) ?_
  refine lv_icmp_gt (tgt := 14) hx hb dX0_isKind_7 (by decide) (fun c_2 => absurd c_2 (by decide)) (fun c_2 => ?_)
  refine lv_iconst (v := 1) hx hb dX0_isKind_10 (by decide) ?_
  refine lv_goto (tgt := 15) hx hb dX0_isKind_11 (by decide) ?_
  have q0_1 : (1 : Int32).toInt = 1 := rfl
  exact W.zret (v := 1) hx hb hr rfl (fun tt ht hW => ⟨1, rfl, (by first | rfl | omega | trivial | assumption | (dsimp only; first | omega | assumption)), ht⟩) (fun _ h => by cases h) dX0_isKind_15
set_option maxHeartbeats 4000000 in
set_option maxRecDepth 100000 in
theorem k_IK_3 (l : Launch)     : Met l yX0_isKind (Cond.code yX0_isKind cX0_isKind 1 (some .boolean) :: gw) ({ frames := 0, cells := 0, slots := 0, locals := 0 }) (fun v _ => v = ([.int 2] : List Value).toArray) (vp_Si (fun (r : Int32) => r.toInt = 1)) 0 0 (fun _ => False) := by
  refine Met.ofW (cc := cX0_isKind) (maxL := 1) (ret := (some .boolean)) (by decide) rfl ?_
  intro p e s m args below meth c s₁ B hml hv
  subst hv
  have hx := B.exec
  have hb := B.bytes
  have hr := B.returns
  have hts := atoms_spec (ws := (Cond.code yX0_isKind cX0_isKind 1 (some .boolean) :: gw)) B.pre
  have hg : ∀ w ∈ gw, w.before ([.int 2] : List Value).toArray s = true := fun w h => hts w (List.mem_cons_of_mem _ h)
  have hown : s.vm.findClass RX0 = some m.cls := findClass_of_methodNamed B.named
  have hlocks := B.notSynchronized
  have hl := lv_entry ([.int 2]) (n := 1) (Nat.le_of_ble_eq_true rfl)
  rw [lg_entry_eq]
  generalize (lg_sl ([.int 2]) ++ List.replicate (1 - (lg_sl ([.int 2])).length) Slot.unset).toArray = ls at hl ⊢
  have hl : lv_has ls 1 [(0, .int 2)] := hl
  refine lv_iload_n hx hb dX0_isKind_0 rfl (lv_at hl 0 rfl) ?_
  refine lv_if_lt (tgt := 14) hx hb dX0_isKind_1 (by decide) (fun c_1 => absurd c_1 (by decide)) (fun c_1 => ?_)
  refine lv_iload_n hx hb dX0_isKind_4 rfl (lv_at hl 0 rfl) ?_
  refine lv_bipush (v := 7) hx hb dX0_isKind_5 (by decide) ?_
  refine lv_icmp_gt (tgt := 14) hx hb dX0_isKind_7 (by decide) (fun c_2 => absurd c_2 (by decide)) (fun c_2 => ?_)
  refine lv_iconst (v := 1) hx hb dX0_isKind_10 (by decide) ?_
  refine lv_goto (tgt := 15) hx hb dX0_isKind_11 (by decide) ?_
  have q0_1 : (1 : Int32).toInt = 1 := rfl
  exact W.zret (v := 1) hx hb hr rfl (fun tt ht hW => ⟨1, rfl, (by first | rfl | omega | trivial | assumption | (dsimp only; first | omega | assumption)), ht⟩) (fun _ h => by cases h) dX0_isKind_15
set_option maxHeartbeats 4000000 in
set_option maxRecDepth 100000 in
theorem k_IK_4 (l : Launch)     : Met l yX0_isKind (Cond.code yX0_isKind cX0_isKind 1 (some .boolean) :: gw) ({ frames := 0, cells := 0, slots := 0, locals := 0 }) (fun v _ => v = ([.int 3] : List Value).toArray) (vp_Si (fun (r : Int32) => r.toInt = 1)) 0 0 (fun _ => False) := by
  refine Met.ofW (cc := cX0_isKind) (maxL := 1) (ret := (some .boolean)) (by decide) rfl ?_
  intro p e s m args below meth c s₁ B hml hv
  subst hv
  have hx := B.exec
  have hb := B.bytes
  have hr := B.returns
  have hts := atoms_spec (ws := (Cond.code yX0_isKind cX0_isKind 1 (some .boolean) :: gw)) B.pre
  have hg : ∀ w ∈ gw, w.before ([.int 3] : List Value).toArray s = true := fun w h => hts w (List.mem_cons_of_mem _ h)
  have hown : s.vm.findClass RX0 = some m.cls := findClass_of_methodNamed B.named
  have hlocks := B.notSynchronized
  have hl := lv_entry ([.int 3]) (n := 1) (Nat.le_of_ble_eq_true rfl)
  rw [lg_entry_eq]
  generalize (lg_sl ([.int 3]) ++ List.replicate (1 - (lg_sl ([.int 3])).length) Slot.unset).toArray = ls at hl ⊢
  have hl : lv_has ls 1 [(0, .int 3)] := hl
  refine lv_iload_n hx hb dX0_isKind_0 rfl (lv_at hl 0 rfl) ?_
  refine lv_if_lt (tgt := 14) hx hb dX0_isKind_1 (by decide) (fun c_1 => absurd c_1 (by decide)) (fun c_1 => ?_)
  refine lv_iload_n hx hb dX0_isKind_4 rfl (lv_at hl 0 rfl) ?_
  refine lv_bipush (v := 7) hx hb dX0_isKind_5 (by decide) ?_
  refine lv_icmp_gt (tgt := 14) hx hb dX0_isKind_7 (by decide) (fun c_2 => absurd c_2 (by decide)) (fun c_2 => ?_)
  refine lv_iconst (v := 1) hx hb dX0_isKind_10 (by decide) ?_
  refine lv_goto (tgt := 15) hx hb dX0_isKind_11 (by decide) ?_
  have q0_1 : (1 : Int32).toInt = 1 := rfl
  exact W.zret (v := 1) hx hb hr rfl (fun tt ht hW => ⟨1, rfl, (by first | rfl | omega | trivial | assumption | (dsimp only; first | omega | assumption)), ht⟩) (fun _ h => by cases h) dX0_isKind_15
set_option maxHeartbeats 4000000 in
set_option maxRecDepth 100000 in
theorem k_IK_5 (l : Launch)     : Met l yX0_isKind (Cond.code yX0_isKind cX0_isKind 1 (some .boolean) :: gw) ({ frames := 0, cells := 0, slots := 0, locals := 0 }) (fun v _ => v = ([.int 4] : List Value).toArray) (vp_Si (fun (r : Int32) => r.toInt = 1)) 0 0 (fun _ => False) := by
  refine Met.ofW (cc := cX0_isKind) (maxL := 1) (ret := (some .boolean)) (by decide) rfl ?_
  intro p e s m args below meth c s₁ B hml hv
  subst hv
  have hx := B.exec
  have hb := B.bytes
  have hr := B.returns
  have hts := atoms_spec (ws := (Cond.code yX0_isKind cX0_isKind 1 (some .boolean) :: gw)) B.pre
  have hg : ∀ w ∈ gw, w.before ([.int 4] : List Value).toArray s = true := fun w h => hts w (List.mem_cons_of_mem _ h)
  have hown : s.vm.findClass RX0 = some m.cls := findClass_of_methodNamed B.named
  have hlocks := B.notSynchronized
  have hl := lv_entry ([.int 4]) (n := 1) (Nat.le_of_ble_eq_true rfl)
  rw [lg_entry_eq]
  generalize (lg_sl ([.int 4]) ++ List.replicate (1 - (lg_sl ([.int 4])).length) Slot.unset).toArray = ls at hl ⊢
  have hl : lv_has ls 1 [(0, .int 4)] := hl
  refine lv_iload_n hx hb dX0_isKind_0 rfl (lv_at hl 0 rfl) ?_
  refine lv_if_lt (tgt := 14) hx hb dX0_isKind_1 (by decide) (fun c_1 => absurd c_1 (by decide)) (fun c_1 => ?_)
  refine lv_iload_n hx hb dX0_isKind_4 rfl (lv_at hl 0 rfl) ?_
  refine lv_bipush (v := 7) hx hb dX0_isKind_5 (by decide) ?_
  refine lv_icmp_gt (tgt := 14) hx hb dX0_isKind_7 (by decide) (fun c_2 => absurd c_2 (by decide)) (fun c_2 => ?_)
  refine lv_iconst (v := 1) hx hb dX0_isKind_10 (by decide) ?_
  refine lv_goto (tgt := 15) hx hb dX0_isKind_11 (by decide) ?_
  have q0_1 : (1 : Int32).toInt = 1 := rfl
  exact W.zret (v := 1) hx hb hr rfl (fun tt ht hW => ⟨1, rfl, (by first | rfl | omega | trivial | assumption | (dsimp only; first | omega | assumption)), ht⟩) (fun _ h => by cases h) dX0_isKind_15
set_option maxHeartbeats 4000000 in
set_option maxRecDepth 100000 in
theorem k_IK_6 (l : Launch)     : Met l yX0_isKind (Cond.code yX0_isKind cX0_isKind 1 (some .boolean) :: gw) ({ frames := 0, cells := 0, slots := 0, locals := 0 }) (fun v _ => v = ([.int 5] : List Value).toArray) (vp_Si (fun (r : Int32) => r.toInt = 1)) 0 0 (fun _ => False) := by
  refine Met.ofW (cc := cX0_isKind) (maxL := 1) (ret := (some .boolean)) (by decide) rfl ?_
  intro p e s m args below meth c s₁ B hml hv
  subst hv
  have hx := B.exec
  have hb := B.bytes
  have hr := B.returns
  have hts := atoms_spec (ws := (Cond.code yX0_isKind cX0_isKind 1 (some .boolean) :: gw)) B.pre
  have hg : ∀ w ∈ gw, w.before ([.int 5] : List Value).toArray s = true := fun w h => hts w (List.mem_cons_of_mem _ h)
  have hown : s.vm.findClass RX0 = some m.cls := findClass_of_methodNamed B.named
  have hlocks := B.notSynchronized
  have hl := lv_entry ([.int 5]) (n := 1) (Nat.le_of_ble_eq_true rfl)
  rw [lg_entry_eq]
  generalize (lg_sl ([.int 5]) ++ List.replicate (1 - (lg_sl ([.int 5])).length) Slot.unset).toArray = ls at hl ⊢
  have hl : lv_has ls 1 [(0, .int 5)] := hl
  refine lv_iload_n hx hb dX0_isKind_0 rfl (lv_at hl 0 rfl) ?_
  refine lv_if_lt (tgt := 14) hx hb dX0_isKind_1 (by decide) (fun c_1 => absurd c_1 (by decide)) (fun c_1 => ?_)
  refine lv_iload_n hx hb dX0_isKind_4 rfl (lv_at hl 0 rfl) ?_
  refine lv_bipush (v := 7) hx hb dX0_isKind_5 (by decide) ?_
  refine lv_icmp_gt (tgt := 14) hx hb dX0_isKind_7 (by decide) (fun c_2 => absurd c_2 (by decide)) (fun c_2 => ?_)
  refine lv_iconst (v := 1) hx hb dX0_isKind_10 (by decide) ?_
  refine lv_goto (tgt := 15) hx hb dX0_isKind_11 (by decide) ?_
  have q0_1 : (1 : Int32).toInt = 1 := rfl
  exact W.zret (v := 1) hx hb hr rfl (fun tt ht hW => ⟨1, rfl, (by first | rfl | omega | trivial | assumption | (dsimp only; first | omega | assumption)), ht⟩) (fun _ h => by cases h) dX0_isKind_15
set_option maxHeartbeats 4000000 in
set_option maxRecDepth 100000 in
theorem k_IK_7 (l : Launch)     : Met l yX0_isKind (Cond.code yX0_isKind cX0_isKind 1 (some .boolean) :: gw) ({ frames := 0, cells := 0, slots := 0, locals := 0 }) (fun v _ => v = ([.int 6] : List Value).toArray) (vp_Si (fun (r : Int32) => r.toInt = 1)) 0 0 (fun _ => False) := by
  refine Met.ofW (cc := cX0_isKind) (maxL := 1) (ret := (some .boolean)) (by decide) rfl ?_
  intro p e s m args below meth c s₁ B hml hv
  subst hv
  have hx := B.exec
  have hb := B.bytes
  have hr := B.returns
  have hts := atoms_spec (ws := (Cond.code yX0_isKind cX0_isKind 1 (some .boolean) :: gw)) B.pre
  have hg : ∀ w ∈ gw, w.before ([.int 6] : List Value).toArray s = true := fun w h => hts w (List.mem_cons_of_mem _ h)
  have hown : s.vm.findClass RX0 = some m.cls := findClass_of_methodNamed B.named
  have hlocks := B.notSynchronized
  have hl := lv_entry ([.int 6]) (n := 1) (Nat.le_of_ble_eq_true rfl)
  rw [lg_entry_eq]
  generalize (lg_sl ([.int 6]) ++ List.replicate (1 - (lg_sl ([.int 6])).length) Slot.unset).toArray = ls at hl ⊢
  have hl : lv_has ls 1 [(0, .int 6)] := hl
  refine lv_iload_n hx hb dX0_isKind_0 rfl (lv_at hl 0 rfl) ?_
  refine lv_if_lt (tgt := 14) hx hb dX0_isKind_1 (by decide) (fun c_1 => absurd c_1 (by decide)) (fun c_1 => ?_)
  refine lv_iload_n hx hb dX0_isKind_4 rfl (lv_at hl 0 rfl) ?_
  refine lv_bipush (v := 7) hx hb dX0_isKind_5 (by decide) ?_
  refine lv_icmp_gt (tgt := 14) hx hb dX0_isKind_7 (by decide) (fun c_2 => absurd c_2 (by decide)) (fun c_2 => ?_)
  refine lv_iconst (v := 1) hx hb dX0_isKind_10 (by decide) ?_
  refine lv_goto (tgt := 15) hx hb dX0_isKind_11 (by decide) ?_
  have q0_1 : (1 : Int32).toInt = 1 := rfl
  exact W.zret (v := 1) hx hb hr rfl (fun tt ht hW => ⟨1, rfl, (by first | rfl | omega | trivial | assumption | (dsimp only; first | omega | assumption)), ht⟩) (fun _ h => by cases h) dX0_isKind_15
set_option maxHeartbeats 4000000 in
set_option maxRecDepth 100000 in
theorem k_IK_8 (l : Launch)     : Met l yX0_isKind (Cond.code yX0_isKind cX0_isKind 1 (some .boolean) :: gw) ({ frames := 0, cells := 0, slots := 0, locals := 0 }) (fun v _ => v = ([.int 7] : List Value).toArray) (vp_Si (fun (r : Int32) => r.toInt = 1)) 0 0 (fun _ => False) := by
  refine Met.ofW (cc := cX0_isKind) (maxL := 1) (ret := (some .boolean)) (by decide) rfl ?_
  intro p e s m args below meth c s₁ B hml hv
  subst hv
  have hx := B.exec
  have hb := B.bytes
  have hr := B.returns
  have hts := atoms_spec (ws := (Cond.code yX0_isKind cX0_isKind 1 (some .boolean) :: gw)) B.pre
  have hg : ∀ w ∈ gw, w.before ([.int 7] : List Value).toArray s = true := fun w h => hts w (List.mem_cons_of_mem _ h)
  have hown : s.vm.findClass RX0 = some m.cls := findClass_of_methodNamed B.named
  have hlocks := B.notSynchronized
  have hl := lv_entry ([.int 7]) (n := 1) (Nat.le_of_ble_eq_true rfl)
  rw [lg_entry_eq]
  generalize (lg_sl ([.int 7]) ++ List.replicate (1 - (lg_sl ([.int 7])).length) Slot.unset).toArray = ls at hl ⊢
  have hl : lv_has ls 1 [(0, .int 7)] := hl
  refine lv_iload_n hx hb dX0_isKind_0 rfl (lv_at hl 0 rfl) ?_
  refine lv_if_lt (tgt := 14) hx hb dX0_isKind_1 (by decide) (fun c_1 => absurd c_1 (by decide)) (fun c_1 => ?_)
  refine lv_iload_n hx hb dX0_isKind_4 rfl (lv_at hl 0 rfl) ?_
  refine lv_bipush (v := 7) hx hb dX0_isKind_5 (by decide) ?_
  refine lv_icmp_gt (tgt := 14) hx hb dX0_isKind_7 (by decide) (fun c_2 => absurd c_2 (by decide)) (fun c_2 => ?_)
  refine lv_iconst (v := 1) hx hb dX0_isKind_10 (by decide) ?_
  refine lv_goto (tgt := 15) hx hb dX0_isKind_11 (by decide) ?_
  have q0_1 : (1 : Int32).toInt = 1 := rfl
  exact W.zret (v := 1) hx hb hr rfl (fun tt ht hW => ⟨1, rfl, (by first | rfl | omega | trivial | assumption | (dsimp only; first | omega | assumption)), ht⟩) (fun _ h => by cases h) dX0_isKind_15
set_option maxHeartbeats 4000000 in
set_option maxRecDepth 100000 in
theorem k_R_x_1 (l : Launch) (D : va_G) (cs : Nat → ClassId) (A : Nat → Prop) (ad fa fq rv : Nat → Nat) (v : Nat → Int32) (a : Nat → Nat → Int32) (w : Nat → Nat → Int64) (fv fp : Nat → Nat → Int32)  (p2 : Int32) (p3 : Int32) (hr0 : 0 ≤ (v 22).toInt) (hr1 : (v 22).toInt ≤ 23) (hd0 : 0 ≤ p3.toInt) (hd1 : p3.toInt ≤ 38) (iv22_0 : 0 ≤ (v 22).toInt) (iv22_1 : (v 22).toInt ≤ 1000) (iv23_0 : 0 ≤ (v 23).toInt) (iv23_1 : (v 23).toInt ≤ 49) : Met l yX0_run (Cond.code yX0_run cX0_run 4 (some .int) :: gw) ({ frames := 0, cells := 0, slots := 0, locals := 0 }) (va_Pc [.ref (ad 9), .int 1, .int p2, .int p3] (XPre D (TY cs) (CW cs ad fa fq rv v a w fv fp) A)) (va_Qi (fun (r : Int32) (z : Int32 × (Nat → Int32)) => (z.1.toInt = (v 22).toInt + 1) ∧ (z.2 = TRW (a 38) (v 22).toInt.toNat [1]) ∧ (r = (p2 + (v 23))) ∧ (0 ≤ z.1.toInt) ∧ (z.1.toInt ≤ 1000)) (XPo D (fun (z : Int32 × (Nat → Int32)) => CW cs ad fa fq rv (va_up v 22 z.1) (va_up a 38 z.2) w fv fp) A) A) 0 0 A := by
  refine Met.ofW (cc := cX0_run) (maxL := 4) (ret := (some .int)) (by decide) rfl ?_
  intro p e s m args below meth c s₁ B hml hv
  obtain ⟨rfl, hP, hK, hD, hZ⟩ := hv
  have hx := B.exec
  have hb := B.bytes
  have hr := B.returns
  have hts := atoms_spec (ws := (Cond.code yX0_run cX0_run 4 (some .int) :: gw)) B.pre
  have hg : ∀ w ∈ gw, w.before ([.ref (ad 9), .int 1, .int p2, .int p3] : List Value).toArray s = true := fun w h => hts w (List.mem_cons_of_mem _ h)
  have hown : s.vm.findClass RX0 = some m.cls := findClass_of_methodNamed B.named
  have hlocks := B.notSynchronized
  have hS : va_S A s.heap s.heap [] := va_S.rf
  have hP : va_P D vwCl (CW cs ad fa fq rv v a w fv fp) s.heap := hP
  have hl := lv_entry ([.ref (ad 9), .int 1, .int p2, .int p3]) (n := 4) (Nat.le_of_ble_eq_true rfl)
  rw [lg_entry_eq]
  generalize (lg_sl ([.ref (ad 9), .int 1, .int p2, .int p3]) ++ List.replicate (4 - (lg_sl ([.ref (ad 9), .int 1, .int p2, .int p3])).length) Slot.unset).toArray = ls at hl ⊢
  have hl : lv_has ls 4 [(0, .ref (ad 9)), (1, .int 1), (2, .int p2), (3, .int p3)] := hl
  refine lv_aload_n hx hb dX0_run_0 rfl (lv_at hl 0 rfl) ?_
  refine gf_acts_ran hx hb hg hown hK hP (x := (v 22)) rfl (hg _ q1_88) dX0_run_1 ?_
  refine lv_bipush (v := 24) hx hb dX0_run_4 (by decide) ?_
  refine lv_icmp_ge (tgt := 19) hx hb dX0_run_6 (by decide) (fun c_1 => ?_) (fun c_1 => ?_)
  ·
    have kc_1 : (24 : Int) ≤ (v 22).toInt := i_le c_1
    exfalso; omega
  ·
    have kc_1 : (v 22).toInt < (24 : Int) := i_nle c_1
    refine lv_aload_n hx hb dX0_run_9 rfl (lv_at hl 0 rfl) ?_
    refine gf_acts_traced hx hb hg hown hK hP rfl (hg _ q1_86) dX0_run_10 ?_
    refine lv_aload_n hx hb dX0_run_13 rfl (lv_at hl 0 rfl) ?_
    refine gf_acts_ran hx hb hg hown hK hP (x := (v 22)) rfl (hg _ q1_88) dX0_run_14 ?_
    refine lv_iload_n hx hb dX0_run_17 rfl (lv_at hl 1 rfl) ?_
    refine st_Atraced hx hb hK hP hD hS (i_in (by omega) (by omega)) dX0_run_18 (fun H locs hP hD hS => ?_)
    refine lv_aload_n hx hb dX0_run_19 rfl (lv_at hl 0 rfl) ?_
    refine lv_dup hx hb dX0_run_20 rfl ?_
    refine gf_acts_ran hx hb hg hown hK hP (x := (v 22)) rfl (hg _ q1_88) dX0_run_21 ?_
    refine lv_iconst (v := 1) hx hb dX0_run_24 (by decide) ?_
    refine lv_iadd hx hb dX0_run_25 ?_
    refine lv_topi (fun x_2 ex_2 => ?_)
    have fx_2 : x_2.toInt = (v 22).toInt + (1 : Int) := by rw [ex_2]; exact i_add (by first | omega | (show (_ : Int) ≤ (v 22).toInt + (1 : Int); omega)) (by first | omega | (show (v 22).toInt + (1 : Int) ≤ (_ : Int); omega))
    refine pf_acts_ran hx hb hg hown hK hP hD hS (hg _ q1_88) dX0_run_26 (fun H locs hP hD hS => ?_)
    refine lv_iload_n hx hb dX0_run_29 rfl (lv_at hl 1 rfl) ?_
    refine lv_lookup (tgt := 152) hx hb dX0_run_30 (by decide) (off := 122) (by decide) (by decide) ?_
    refine lv_iload_n hx hb dX0_run_152 rfl (lv_at hl 2 rfl) ?_
    refine lv_aload_n hx hb dX0_run_153 rfl (lv_at hl 0 rfl) ?_
    refine gf_acts_number hx hb hg hown hK hP (x := (v 23)) rfl (hg _ q1_90) dX0_run_154 ?_
    refine lv_iadd hx hb dX0_run_157 ?_
    refine lv_topi (fun x_4 ex_4 => ?_)
    exact W.iret (v := x_4) hx hb hr (fun tt ht hW => ⟨⟨x_4, ⟨x_2, (upd (a 38) (v 22).toNatClampNeg 1)⟩, rfl, ⟨(by first | rfl | omega | trivial | assumption | (dsimp only; first | omega | assumption)), (by (try dsimp only); first | assumption | rfl), (by simp only [ex_4, ex_2]), (show 0 ≤ x_2.toInt by first | omega | assumption), (show x_2.toInt ≤ 1000 by first | omega | assumption)⟩, by rw [ht]; exact hP, hD⟩, hS.F ht⟩) hS.2.2 dX0_run_158
set_option maxHeartbeats 4000000 in
set_option maxRecDepth 100000 in
theorem k_F_x_0_0 (l : Launch) (D : va_G) (cs : Nat → ClassId) (A : Nat → Prop) (ad fa fq rv : Nat → Nat) (v : Nat → Int32) (a : Nat → Nat → Int32) (w : Nat → Nat → Int64) (fv fp : Nat → Nat → Int32)  (p3 : Int32) (p4 : Int32) (hr0 : 0 ≤ (v 22).toInt) (hr1 : (v 22).toInt ≤ 23) (hd0 : 0 ≤ p4.toInt) (hd1 : p4.toInt ≤ 37) (iv22_0 : 0 ≤ (v 22).toInt) (iv22_1 : (v 22).toInt ≤ 1000) (iv23_0 : 0 ≤ (v 23).toInt) (iv23_1 : (v 23).toInt ≤ 49) : Met l yX0_from (Cond.code yX0_from cX0_from 8 (some .int) :: gw) ({ frames := 1, cells := 0, slots := 0, locals := 23 }) (va_Pc [.ref (ad 9), .int 0, .int 0, .int p3, .int p4] (XPre D (TY cs) (CW cs ad fa fq rv v a w fv fp) A)) (va_Qi (fun (r : Int32) (z : Int32 × (Nat → Int32)) => (z.1.toInt = (v 22).toInt + 1) ∧ (z.2 = TRW (a 38) (v 22).toInt.toNat [1]) ∧ (r = (p3 + (v 23))) ∧ (0 ≤ z.1.toInt) ∧ (z.1.toInt ≤ 1000)) (XPo D (fun (z : Int32 × (Nat → Int32)) => CW cs ad fa fq rv (va_up v 22 z.1) (va_up a 38 z.2) w fv fp) A) A) 0 0 A := by
  refine Met.ofW (cc := cX0_from) (maxL := 8) (ret := (some .int)) (by decide) rfl ?_
  intro p e s m args below meth c s₁ B hml hv
  obtain ⟨rfl, hP, hK, hD, hZ⟩ := hv
  have hx := B.exec
  have hb := B.bytes
  have hr := B.returns
  have hts := atoms_spec (ws := (Cond.code yX0_from cX0_from 8 (some .int) :: gw)) B.pre
  have hg : ∀ w ∈ gw, w.before ([.ref (ad 9), .int 0, .int 0, .int p3, .int p4] : List Value).toArray s = true := fun w h => hts w (List.mem_cons_of_mem _ h)
  have hown : s.vm.findClass RX0 = some m.cls := findClass_of_methodNamed B.named
  have hlocks := B.notSynchronized
  have hS : va_S A s.heap s.heap [] := va_S.rf
  have hP : va_P D vwCl (CW cs ad fa fq rv v a w fv fp) s.heap := hP
  have hl := lv_entry ([.ref (ad 9), .int 0, .int 0, .int p3, .int p4]) (n := 8) (Nat.le_of_ble_eq_true rfl)
  rw [lg_entry_eq]
  generalize (lg_sl ([.ref (ad 9), .int 0, .int 0, .int p3, .int p4]) ++ List.replicate (8 - (lg_sl ([.ref (ad 9), .int 0, .int 0, .int p3, .int p4])).length) Slot.unset).toArray = ls at hl ⊢
  have hl : lv_has ls 8 [(0, .ref (ad 9)), (1, .int 0), (2, .int 0), (3, .int p3), (4, .int p4)] := hl
  refine lv_iload_n hx hb dX0_from_0 rfl (lv_at hl 1 rfl) ?_
  refine lv_istore (lv' := [(5, .int 0), (0, .ref (ad 9)), (1, .int 0), (2, .int 0), (3, .int p3), (4, .int p4)]) hx hb dX0_from_1 hl (by decide) rfl (fun ls hl => ?_)
  refine lv_iconst (v := 0) hx hb dX0_from_3 (by decide) ?_
  refine lv_istore (lv' := [(6, .int 0), (5, .int 0), (0, .ref (ad 9)), (1, .int 0), (2, .int 0), (3, .int p3), (4, .int p4)]) hx hb dX0_from_4 hl (by decide) rfl (fun ls hl => ?_)
  refine lv_iload hx hb dX0_from_6 (lv_at hl 0 rfl) ?_
  obtain ⟨t0, t1, t2, ⟨a0, b0⟩, ⟨a1, b1⟩, ⟨a2, b2⟩⟩ := id hZ
  refine va_gets hx hb a2 hS hown (hg _ q4_143) (fun _ h9 => h9) dX0_from_8 ?_
  refine va_tlen hx hb b2 hS (v := 8) rfl dX0_from_11 ?_
  refine lv_icmp_ge (tgt := 73) hx hb dX0_from_12 (by decide) (fun c_1 => absurd c_1 (by decide)) (fun c_1 => ?_)
  refine lv_iload hx hb dX0_from_15 (lv_at hl 1 rfl) ?_
  refine cS_p (As := [.int 0]) (rest := []) ⟨hx, hb, hml, hown, hg⟩ (k_IK_1 l    ) ca_X0_isKind q4_145 ⟨rfl, rfl⟩ ⟨Nat.le_of_ble_eq_true rfl, Nat.le_of_ble_eq_true rfl⟩ rfl hl.1 rfl (Nat.le_of_ble_eq_true rfl) ⟨Nat.zero_le _, Nat.zero_le _⟩ dX0_from_17 (fun r_2 wr_2 => ?_)
  have wr_2 : r_2.toInt = 1 := wr_2
  refine lv_if_eq (tgt := 73) hx hb dX0_from_20 (by decide) (fun c_3 => ?_) (fun c_3 => ?_)
  ·
    have kc_3 : r_2.toInt = (0 : Int) := i_eq c_3
    exfalso; omega
  ·
    have kc_3 : r_2.toInt ≠ (0 : Int) := i_ne c_3
    refine lv_iload hx hb dX0_from_23 (lv_at hl 1 rfl) ?_
    refine lv_iload_n hx hb dX0_from_25 rfl (lv_at hl 4 rfl) ?_
    refine cS_p (As := [.int 0, .int 0]) (rest := []) ⟨hx, hb, hml, hown, hg⟩ (k_B_0_0 l    ) ca_X0_bodyOf q4_146 ⟨rfl, rfl⟩ ⟨Nat.le_of_ble_eq_true rfl, Nat.le_of_ble_eq_true rfl⟩ rfl hl.1 rfl (Nat.le_of_ble_eq_true rfl) ⟨Nat.zero_le _, Nat.zero_le _⟩ dX0_from_26 (fun r_4 wr_4 => ?_)
    have wr_4 : r_4.toInt = 1 := wr_4
    have el_5 : r_4 = 1 := i_inj (wr_4.trans (by rfl))
    subst el_5
    refine lv_istore (lv' := [(7, .int 1), (6, .int 0), (5, .int 0), (0, .ref (ad 9)), (1, .int 0), (2, .int 0), (3, .int p3), (4, .int p4)]) hx hb dX0_from_29 hl (by decide) rfl (fun ls hl => ?_)
    refine lv_iload hx hb dX0_from_31 (lv_at hl 0 rfl) ?_
    refine lv_if_eq (tgt := 59) hx hb dX0_from_33 (by decide) (fun c_6 => absurd c_6 (by decide)) (fun c_6 => ?_)
    refine lv_iload hx hb dX0_from_36 (lv_at hl 7 rfl) ?_
    refine lv_bipush (v := 40) hx hb dX0_from_38 (by decide) ?_
    refine lv_icmp_ge (tgt := 57) hx hb dX0_from_40 (by decide) (fun c_7 => ?_) (fun c_7 => ?_)
    ·
      have kc_7 : (40 : Int) ≤ p4.toInt := i_le c_7
      exfalso; omega
    ·
      have kc_7 : p4.toInt < (40 : Int) := i_nle c_7
      refine lv_aload_n hx hb dX0_from_43 rfl (lv_at hl 3 rfl) ?_
      refine lv_iload hx hb dX0_from_44 (lv_at hl 0 rfl) ?_
      refine lv_iload_n hx hb dX0_from_46 rfl (lv_at hl 6 rfl) ?_
      refine lv_iload hx hb dX0_from_47 (lv_at hl 7 rfl) ?_
      refine lv_iconst (v := 1) hx hb dX0_from_49 (by decide) ?_
      refine lv_iadd hx hb dX0_from_50 ?_
      refine lv_topi (fun x_8 ex_8 => ?_)
      have fx_8 : x_8.toInt = p4.toInt + (1 : Int) := by rw [ex_8]; exact i_add (by first | omega | (show (_ : Int) ≤ p4.toInt + (1 : Int); omega)) (by first | omega | (show p4.toInt + (1 : Int) ≤ (_ : Int); omega))
      refine cV_i (As := [.int 1, .int p3, .int x_8]) (rest := []) ⟨hx, hb, hml, hown, hg⟩ (k_R_x_1 l D cs A ad fa fq rv v a w fv fp  p3 x_8 (show 0 ≤ (v 22).toInt by first | omega | decide) (show (v 22).toInt ≤ 23 by first | omega | decide) (show 0 ≤ x_8.toInt by first | omega | decide) (show x_8.toInt ≤ 38 by first | omega | decide) (show 0 ≤ (v 22).toInt by first | omega | decide) (show (v 22).toInt ≤ 1000 by first | omega | decide) (show 0 ≤ (v 23).toInt by first | omega | decide) (show (v 23).toInt ≤ 49 by first | omega | decide)) ca_X0_run q4_149 ⟨rfl, rfl⟩ ⟨Nat.le_of_ble_eq_true rfl, Nat.le_of_ble_eq_true rfl⟩ (rc_acts hK hP) hK hP hD hS hZ rfl hl.1 rfl (Nat.le_of_ble_eq_true rfl) ⟨Nat.zero_le _, Nat.zero_le _⟩ dX0_from_51 (fun r_9 z_12 H locs wr_9 hP hD hS => ?_)
      obtain ⟨o_v22_10, o_a38_11⟩ := z_12
      have hP : va_P D vwCl (CW cs ad fa fq rv (va_up v 22 o_v22_10) (va_up a 38 o_a38_11) w fv fp) H := hP
      have hD : va_D A (CW cs ad fa fq rv (va_up v 22 o_v22_10) (va_up a 38 o_a38_11) w fv fp) := hD
      obtain ⟨wr_9_0, wr_9_1, wr_9_2, wr_9_3, wr_9_4⟩ : (o_v22_10.toInt = (v 22).toInt + 1) ∧ (o_a38_11 = TRW (a 38) (v 22).toInt.toNat [1]) ∧ (r_9 = (p3 + (v 23))) ∧ (0 ≤ o_v22_10.toInt) ∧ (o_v22_10.toInt ≤ 1000) := wr_9
      have kt_13 : o_a38_11 = TRW (a 38) (v 22).toInt.toNat [1] := by rw [wr_9_1]
      refine lv_goto (tgt := 58) hx hb dX0_from_54 (by decide) ?_
      exact W.iret (v := r_9) hx hb hr (fun tt ht hW => ⟨⟨r_9, ⟨o_v22_10, o_a38_11⟩, rfl, ⟨(by first | rfl | omega | trivial | assumption | (dsimp only; first | omega | assumption)), (by (try dsimp only); first | assumption | rfl), (by simp only [wr_9_2, ex_8]), (show 0 ≤ o_v22_10.toInt by first | omega | assumption), (show o_v22_10.toInt ≤ 1000 by first | omega | assumption)⟩, by rw [ht]; exact hP, hD⟩, hS.F ht⟩) hS.2.2 dX0_from_58
set_option maxHeartbeats 4000000 in
set_option maxRecDepth 100000 in
theorem k_S_0_0 (l : Launch) (D : va_G) (cs : Nat → ClassId) (A : Nat → Prop) (ad fa fq rv : Nat → Nat) (v : Nat → Int32) (a : Nat → Nat → Int32) (w : Nat → Nat → Int64) (fv fp : Nat → Nat → Int32)  (p2 : Int32) (p3 : Int32) (hkn : (a 37) (v 23).toNatClampNeg = 0) (hr0 : 0 ≤ (v 22).toInt) (hr1 : (v 22).toInt ≤ 23) (hd0 : 0 ≤ p3.toInt) (hd1 : p3.toInt ≤ 37) (iv23_0 : 0 ≤ (v 23).toInt) (iv23_1 : (v 23).toInt ≤ 49) (ia37_0 : AB 0 7 (a 37)) (iv22_0 : 0 ≤ (v 22).toInt) (iv22_1 : (v 22).toInt ≤ 1000) : Met l yX0_self (Cond.code yX0_self cX0_self 4 (some .int) :: gw) ({ frames := 2, cells := 0, slots := 0, locals := 50 }) (va_Pc [.ref (ad 9), .int 0, .int p2, .int p3] (XPre D (TY cs) (CW cs ad fa fq rv v a w fv fp) A)) (va_Qi (fun (r : Int32) (z : Int32 × (Nat → Int32)) => (z.1.toInt = (v 22).toInt + 1) ∧ (z.2 = TRW (a 38) (v 22).toInt.toNat [1]) ∧ (r = (p2 + (v 23))) ∧ (0 ≤ z.1.toInt) ∧ (z.1.toInt ≤ 1000)) (XPo D (fun (z : Int32 × (Nat → Int32)) => CW cs ad fa fq rv (va_up v 22 z.1) (va_up a 38 z.2) w fv fp) A) A) 0 0 A := by
  refine Met.ofW (cc := cX0_self) (maxL := 4) (ret := (some .int)) (by decide) rfl ?_
  intro p e s m args below meth c s₁ B hml hv
  obtain ⟨rfl, hP, hK, hD, hZ⟩ := hv
  have hx := B.exec
  have hb := B.bytes
  have hr := B.returns
  have hts := atoms_spec (ws := (Cond.code yX0_self cX0_self 4 (some .int) :: gw)) B.pre
  have hg : ∀ w ∈ gw, w.before ([.ref (ad 9), .int 0, .int p2, .int p3] : List Value).toArray s = true := fun w h => hts w (List.mem_cons_of_mem _ h)
  have hown : s.vm.findClass RX0 = some m.cls := findClass_of_methodNamed B.named
  have hlocks := B.notSynchronized
  have hS : va_S A s.heap s.heap [] := va_S.rf
  have hP : va_P D vwCl (CW cs ad fa fq rv v a w fv fp) s.heap := hP
  have hl := lv_entry ([.ref (ad 9), .int 0, .int p2, .int p3]) (n := 4) (Nat.le_of_ble_eq_true rfl)
  rw [lg_entry_eq]
  generalize (lg_sl ([.ref (ad 9), .int 0, .int p2, .int p3]) ++ List.replicate (4 - (lg_sl ([.ref (ad 9), .int 0, .int p2, .int p3])).length) Slot.unset).toArray = ls at hl ⊢
  have hl : lv_has ls 4 [(0, .ref (ad 9)), (1, .int 0), (2, .int p2), (3, .int p3)] := hl
  refine lv_aload_n hx hb dX0_self_0 rfl (lv_at hl 0 rfl) ?_
  refine lv_aload_n hx hb dX0_self_1 rfl (lv_at hl 0 rfl) ?_
  refine gf_acts_kind hx hb hg hown hK hP rfl (hg _ q1_83) dX0_self_2 ?_
  refine lv_aload_n hx hb dX0_self_5 rfl (lv_at hl 0 rfl) ?_
  refine gf_acts_number hx hb hg hown hK hP (x := (v 23)) rfl (hg _ q1_90) dX0_self_6 ?_
  refine ld_Akind hx hb hK hP (i_in (by omega) (by omega)) dX0_self_9 ?_
  refine lv_topi (fun x_1 ex_1 => ?_)
  have ex_1 : x_1 = (a 37) (v 23).toNatClampNeg := ex_1
  have hx_1 : x_1.toInt = ((a 37) (v 23).toNatClampNeg).toInt := by rw [ex_1]
  have bx_1 := ia37_0 (v 23).toNatClampNeg
  rw [← ex_1] at bx_1
  have fx_1 : x_1 = 0 := by rw [ex_1]; exact hkn
  subst fx_1
  refine lv_iload_n hx hb dX0_self_10 rfl (lv_at hl 1 rfl) ?_
  refine lv_iload_n hx hb dX0_self_11 rfl (lv_at hl 2 rfl) ?_
  refine lv_iload_n hx hb dX0_self_12 rfl (lv_at hl 3 rfl) ?_
  refine cV_i (As := [.int 0, .int 0, .int p2, .int p3]) (rest := []) ⟨hx, hb, hml, hown, hg⟩ (k_F_x_0_0 l D cs A ad fa fq rv v a w fv fp  p2 p3 (show 0 ≤ (v 22).toInt by first | omega | decide) (show (v 22).toInt ≤ 23 by first | omega | decide) (show 0 ≤ p3.toInt by first | omega | decide) (show p3.toInt ≤ 37 by first | omega | decide) (show 0 ≤ (v 22).toInt by first | omega | decide) (show (v 22).toInt ≤ 1000 by first | omega | decide) (show 0 ≤ (v 23).toInt by first | omega | decide) (show (v 23).toInt ≤ 49 by first | omega | decide)) ca_X0_from q4_139 ⟨rfl, rfl⟩ ⟨Nat.le_of_ble_eq_true rfl, Nat.le_of_ble_eq_true rfl⟩ (rc_acts hK hP) hK hP hD hS hZ rfl hl.1 rfl (Nat.le_of_ble_eq_true rfl) ⟨Nat.zero_le _, Nat.zero_le _⟩ dX0_self_13 (fun r_2 z_5 H locs wr_2 hP hD hS => ?_)
  obtain ⟨o_v22_3, o_a38_4⟩ := z_5
  have hP : va_P D vwCl (CW cs ad fa fq rv (va_up v 22 o_v22_3) (va_up a 38 o_a38_4) w fv fp) H := hP
  have hD : va_D A (CW cs ad fa fq rv (va_up v 22 o_v22_3) (va_up a 38 o_a38_4) w fv fp) := hD
  obtain ⟨wr_2_0, wr_2_1, wr_2_2, wr_2_3, wr_2_4⟩ : (o_v22_3.toInt = (v 22).toInt + 1) ∧ (o_a38_4 = TRW (a 38) (v 22).toInt.toNat [1]) ∧ (r_2 = (p2 + (v 23))) ∧ (0 ≤ o_v22_3.toInt) ∧ (o_v22_3.toInt ≤ 1000) := wr_2
  have kt_6 : o_a38_4 = TRW (a 38) (v 22).toInt.toNat [1] := by rw [wr_2_1]
  exact W.iret (v := r_2) hx hb hr (fun tt ht hW => ⟨⟨r_2, ⟨o_v22_3, o_a38_4⟩, rfl, ⟨(by first | rfl | omega | trivial | assumption | (dsimp only; first | omega | assumption)), (by (try dsimp only); first | assumption | rfl), (by simp only [wr_2_2]), (show 0 ≤ o_v22_3.toInt by first | omega | assumption), (show o_v22_3.toInt ≤ 1000 by first | omega | assumption)⟩, by rw [ht]; exact hP, hD⟩, hS.F ht⟩) hS.2.2 dX0_self_16
set_option maxHeartbeats 4000000 in
set_option maxRecDepth 100000 in
theorem k_R_0_10 (l : Launch) (D : va_G) (cs : Nat → ClassId) (A : Nat → Prop) (ad fa fq rv : Nat → Nat) (v : Nat → Int32) (a : Nat → Nat → Int32) (w : Nat → Nat → Int64) (fv fp : Nat → Nat → Int32)  (p2 : Int32) (p3 : Int32) (hkn : (a 37) (v 23).toNatClampNeg = 0) (hr0 : 0 ≤ (v 22).toInt) (hr1 : (v 22).toInt ≤ 22) (hd0 : 0 ≤ p3.toInt) (hd1 : p3.toInt ≤ 37) (iv22_0 : 0 ≤ (v 22).toInt) (iv22_1 : (v 22).toInt ≤ 1000) (iv23_0 : 0 ≤ (v 23).toInt) (iv23_1 : (v 23).toInt ≤ 49) (ia37_0 : AB 0 7 (a 37)) : Met l yX0_run (Cond.code yX0_run cX0_run 4 (some .int) :: gw) ({ frames := 3, cells := 0, slots := 0, locals := 73 }) (va_Pc [.ref (ad 9), .int 10, .int p2, .int p3] (XPre D (TY cs) (CW cs ad fa fq rv v a w fv fp) A)) (va_Qi (fun (r : Int32) (z : Int32 × (Nat → Int32)) => (z.1.toInt = (v 22).toInt + 2) ∧ (z.2 = TRW (a 38) (v 22).toInt.toNat [10, 1]) ∧ (r = ((p2 + (v 23)) * 2)) ∧ (0 ≤ z.1.toInt) ∧ (z.1.toInt ≤ 1000)) (XPo D (fun (z : Int32 × (Nat → Int32)) => CW cs ad fa fq rv (va_up v 22 z.1) (va_up a 38 z.2) w fv fp) A) A) 0 0 A := by
  refine Met.ofW (cc := cX0_run) (maxL := 4) (ret := (some .int)) (by decide) rfl ?_
  intro p e s m args below meth c s₁ B hml hv
  obtain ⟨rfl, hP, hK, hD, hZ⟩ := hv
  have hx := B.exec
  have hb := B.bytes
  have hr := B.returns
  have hts := atoms_spec (ws := (Cond.code yX0_run cX0_run 4 (some .int) :: gw)) B.pre
  have hg : ∀ w ∈ gw, w.before ([.ref (ad 9), .int 10, .int p2, .int p3] : List Value).toArray s = true := fun w h => hts w (List.mem_cons_of_mem _ h)
  have hown : s.vm.findClass RX0 = some m.cls := findClass_of_methodNamed B.named
  have hlocks := B.notSynchronized
  have hS : va_S A s.heap s.heap [] := va_S.rf
  have hP : va_P D vwCl (CW cs ad fa fq rv v a w fv fp) s.heap := hP
  have hl := lv_entry ([.ref (ad 9), .int 10, .int p2, .int p3]) (n := 4) (Nat.le_of_ble_eq_true rfl)
  rw [lg_entry_eq]
  generalize (lg_sl ([.ref (ad 9), .int 10, .int p2, .int p3]) ++ List.replicate (4 - (lg_sl ([.ref (ad 9), .int 10, .int p2, .int p3])).length) Slot.unset).toArray = ls at hl ⊢
  have hl : lv_has ls 4 [(0, .ref (ad 9)), (1, .int 10), (2, .int p2), (3, .int p3)] := hl
  refine lv_aload_n hx hb dX0_run_0 rfl (lv_at hl 0 rfl) ?_
  refine gf_acts_ran hx hb hg hown hK hP (x := (v 22)) rfl (hg _ q1_88) dX0_run_1 ?_
  refine lv_bipush (v := 24) hx hb dX0_run_4 (by decide) ?_
  refine lv_icmp_ge (tgt := 19) hx hb dX0_run_6 (by decide) (fun c_1 => ?_) (fun c_1 => ?_)
  ·
    have kc_1 : (24 : Int) ≤ (v 22).toInt := i_le c_1
    exfalso; omega
  ·
    have kc_1 : (v 22).toInt < (24 : Int) := i_nle c_1
    refine lv_aload_n hx hb dX0_run_9 rfl (lv_at hl 0 rfl) ?_
    refine gf_acts_traced hx hb hg hown hK hP rfl (hg _ q1_86) dX0_run_10 ?_
    refine lv_aload_n hx hb dX0_run_13 rfl (lv_at hl 0 rfl) ?_
    refine gf_acts_ran hx hb hg hown hK hP (x := (v 22)) rfl (hg _ q1_88) dX0_run_14 ?_
    refine lv_iload_n hx hb dX0_run_17 rfl (lv_at hl 1 rfl) ?_
    refine st_Atraced hx hb hK hP hD hS (i_in (by omega) (by omega)) dX0_run_18 (fun H locs hP hD hS => ?_)
    refine lv_aload_n hx hb dX0_run_19 rfl (lv_at hl 0 rfl) ?_
    refine lv_dup hx hb dX0_run_20 rfl ?_
    refine gf_acts_ran hx hb hg hown hK hP (x := (v 22)) rfl (hg _ q1_88) dX0_run_21 ?_
    refine lv_iconst (v := 1) hx hb dX0_run_24 (by decide) ?_
    refine lv_iadd hx hb dX0_run_25 ?_
    refine lv_topi (fun x_2 ex_2 => ?_)
    have fx_2 : x_2.toInt = (v 22).toInt + (1 : Int) := by rw [ex_2]; exact i_add (by first | omega | (show (_ : Int) ≤ (v 22).toInt + (1 : Int); omega)) (by first | omega | (show (v 22).toInt + (1 : Int) ≤ (_ : Int); omega))
    refine pf_acts_ran hx hb hg hown hK hP hD hS (hg _ q1_88) dX0_run_26 (fun H locs hP hD hS => ?_)
    refine lv_iload_n hx hb dX0_run_29 rfl (lv_at hl 1 rfl) ?_
    refine lv_lookup (tgt := 175) hx hb dX0_run_30 (by decide) (off := 145) (by decide) (by decide) ?_
    refine lv_aload_n hx hb dX0_run_175 rfl (lv_at hl 0 rfl) ?_
    refine lv_iconst (v := 0) hx hb dX0_run_176 (by decide) ?_
    refine lv_iload_n hx hb dX0_run_177 rfl (lv_at hl 2 rfl) ?_
    refine lv_iload_n hx hb dX0_run_178 rfl (lv_at hl 3 rfl) ?_
    refine cV_i (As := [.int 0, .int p2, .int p3]) (rest := []) ⟨hx, hb, hml, hown, hg⟩ (k_S_0_0 l D cs A ad fa fq rv (va_up v 22 x_2) (va_up a 38 (upd (a 38) (v 22).toNatClampNeg 10)) w fv fp  p2 p3 hkn (show 0 ≤ x_2.toInt by first | omega | decide) (show x_2.toInt ≤ 23 by first | omega | decide) (show 0 ≤ p3.toInt by first | omega | decide) (show p3.toInt ≤ 37 by first | omega | decide) (show 0 ≤ (v 23).toInt by first | omega | decide) (show (v 23).toInt ≤ 49 by first | omega | decide) ia37_0 (show 0 ≤ x_2.toInt by first | omega | decide) (show x_2.toInt ≤ 1000 by first | omega | decide)) ca_X0_self q4_135 ⟨rfl, rfl⟩ ⟨Nat.le_of_ble_eq_true rfl, Nat.le_of_ble_eq_true rfl⟩ (rc_acts hK hP) hK hP hD hS hZ rfl hl.1 rfl (Nat.le_of_ble_eq_true rfl) ⟨Nat.zero_le _, Nat.zero_le _⟩ dX0_run_179 (fun r_4 z_7 H locs wr_4 hP hD hS => ?_)
    obtain ⟨o_v22_5, o_a38_6⟩ := z_7
    have hP : va_P D vwCl (CW cs ad fa fq rv (va_up v 22 o_v22_5) (va_up a 38 o_a38_6) w fv fp) H := hP
    have hD : va_D A (CW cs ad fa fq rv (va_up v 22 o_v22_5) (va_up a 38 o_a38_6) w fv fp) := hD
    obtain ⟨wr_4_0, wr_4_1, wr_4_2, wr_4_3, wr_4_4⟩ : (o_v22_5.toInt = x_2.toInt + 1) ∧ (o_a38_6 = TRW (upd (a 38) (v 22).toNatClampNeg 10) x_2.toInt.toNat [1]) ∧ (r_4 = (p2 + (v 23))) ∧ (0 ≤ o_v22_5.toInt) ∧ (o_v22_5.toInt ≤ 1000) := wr_4
    have kt_8 : o_a38_6 = TRW (a 38) (v 22).toInt.toNat [10, 1] := by rw [wr_4_1, show (x_2).toInt.toNat = (v 22).toInt.toNat + 1 from by omega]; rfl
    refine lv_iconst (v := 2) hx hb dX0_run_182 (by decide) ?_
    refine lv_imul hx hb dX0_run_183 ?_
    refine lv_topi (fun x_9 ex_9 => ?_)
    exact W.iret (v := x_9) hx hb hr (fun tt ht hW => ⟨⟨x_9, ⟨o_v22_5, o_a38_6⟩, rfl, ⟨(by first | rfl | omega | trivial | assumption | (dsimp only; first | omega | assumption)), (by (try dsimp only); first | assumption | rfl), (by simp only [ex_9, wr_4_2, ex_2]), (show 0 ≤ o_v22_5.toInt by first | omega | assumption), (show o_v22_5.toInt ≤ 1000 by first | omega | assumption)⟩, by rw [ht]; exact hP, hD⟩, hS.F ht⟩) hS.2.2 dX0_run_184
set_option maxHeartbeats 4000000 in
set_option maxRecDepth 100000 in
theorem k_F_0_0_1 (l : Launch) (D : va_G) (cs : Nat → ClassId) (A : Nat → Prop) (ad fa fq rv : Nat → Nat) (v : Nat → Int32) (a : Nat → Nat → Int32) (w : Nat → Nat → Int64) (fv fp : Nat → Nat → Int32)  (p3 : Int32) (p4 : Int32) (hkn : (a 37) (v 23).toNatClampNeg = 0) (hr0 : 0 ≤ (v 22).toInt) (hr1 : (v 22).toInt ≤ 22) (hd0 : 0 ≤ p4.toInt) (hd1 : p4.toInt ≤ 36) (iv22_0 : 0 ≤ (v 22).toInt) (iv22_1 : (v 22).toInt ≤ 1000) (iv23_0 : 0 ≤ (v 23).toInt) (iv23_1 : (v 23).toInt ≤ 49) (ia37_0 : AB 0 7 (a 37)) : Met l yX0_from (Cond.code yX0_from cX0_from 8 (some .int) :: gw) ({ frames := 4, cells := 0, slots := 0, locals := 96 }) (va_Pc [.ref (ad 9), .int 0, .int 1, .int p3, .int p4] (XPre D (TY cs) (CW cs ad fa fq rv v a w fv fp) A)) (va_Qi (fun (r : Int32) (z : Int32 × (Nat → Int32)) => (z.1.toInt = (v 22).toInt + 2) ∧ (z.2 = TRW (a 38) (v 22).toInt.toNat [10, 1]) ∧ (r = ((p3 + (v 23)) * 2)) ∧ (0 ≤ z.1.toInt) ∧ (z.1.toInt ≤ 1000)) (XPo D (fun (z : Int32 × (Nat → Int32)) => CW cs ad fa fq rv (va_up v 22 z.1) (va_up a 38 z.2) w fv fp) A) A) 0 0 A := by
  refine Met.ofW (cc := cX0_from) (maxL := 8) (ret := (some .int)) (by decide) rfl ?_
  intro p e s m args below meth c s₁ B hml hv
  obtain ⟨rfl, hP, hK, hD, hZ⟩ := hv
  have hx := B.exec
  have hb := B.bytes
  have hr := B.returns
  have hts := atoms_spec (ws := (Cond.code yX0_from cX0_from 8 (some .int) :: gw)) B.pre
  have hg : ∀ w ∈ gw, w.before ([.ref (ad 9), .int 0, .int 1, .int p3, .int p4] : List Value).toArray s = true := fun w h => hts w (List.mem_cons_of_mem _ h)
  have hown : s.vm.findClass RX0 = some m.cls := findClass_of_methodNamed B.named
  have hlocks := B.notSynchronized
  have hS : va_S A s.heap s.heap [] := va_S.rf
  have hP : va_P D vwCl (CW cs ad fa fq rv v a w fv fp) s.heap := hP
  have hl := lv_entry ([.ref (ad 9), .int 0, .int 1, .int p3, .int p4]) (n := 8) (Nat.le_of_ble_eq_true rfl)
  rw [lg_entry_eq]
  generalize (lg_sl ([.ref (ad 9), .int 0, .int 1, .int p3, .int p4]) ++ List.replicate (8 - (lg_sl ([.ref (ad 9), .int 0, .int 1, .int p3, .int p4])).length) Slot.unset).toArray = ls at hl ⊢
  have hl : lv_has ls 8 [(0, .ref (ad 9)), (1, .int 0), (2, .int 1), (3, .int p3), (4, .int p4)] := hl
  refine lv_iload_n hx hb dX0_from_0 rfl (lv_at hl 1 rfl) ?_
  refine lv_istore (lv' := [(5, .int 0), (0, .ref (ad 9)), (1, .int 0), (2, .int 1), (3, .int p3), (4, .int p4)]) hx hb dX0_from_1 hl (by decide) rfl (fun ls hl => ?_)
  refine lv_iconst (v := 0) hx hb dX0_from_3 (by decide) ?_
  refine lv_istore (lv' := [(6, .int 0), (5, .int 0), (0, .ref (ad 9)), (1, .int 0), (2, .int 1), (3, .int p3), (4, .int p4)]) hx hb dX0_from_4 hl (by decide) rfl (fun ls hl => ?_)
  refine lv_iload hx hb dX0_from_6 (lv_at hl 0 rfl) ?_
  obtain ⟨t0, t1, t2, ⟨a0, b0⟩, ⟨a1, b1⟩, ⟨a2, b2⟩⟩ := id hZ
  refine va_gets hx hb a2 hS hown (hg _ q4_143) (fun _ h9 => h9) dX0_from_8 ?_
  refine va_tlen hx hb b2 hS (v := 8) rfl dX0_from_11 ?_
  refine lv_icmp_ge (tgt := 73) hx hb dX0_from_12 (by decide) (fun c_1 => absurd c_1 (by decide)) (fun c_1 => ?_)
  refine lv_iload hx hb dX0_from_15 (lv_at hl 1 rfl) ?_
  refine cS_p (As := [.int 0]) (rest := []) ⟨hx, hb, hml, hown, hg⟩ (k_IK_1 l    ) ca_X0_isKind q4_145 ⟨rfl, rfl⟩ ⟨Nat.le_of_ble_eq_true rfl, Nat.le_of_ble_eq_true rfl⟩ rfl hl.1 rfl (Nat.le_of_ble_eq_true rfl) ⟨Nat.zero_le _, Nat.zero_le _⟩ dX0_from_17 (fun r_2 wr_2 => ?_)
  have wr_2 : r_2.toInt = 1 := wr_2
  refine lv_if_eq (tgt := 73) hx hb dX0_from_20 (by decide) (fun c_3 => ?_) (fun c_3 => ?_)
  ·
    have kc_3 : r_2.toInt = (0 : Int) := i_eq c_3
    exfalso; omega
  ·
    have kc_3 : r_2.toInt ≠ (0 : Int) := i_ne c_3
    refine lv_iload hx hb dX0_from_23 (lv_at hl 1 rfl) ?_
    refine lv_iload_n hx hb dX0_from_25 rfl (lv_at hl 4 rfl) ?_
    refine cS_p (As := [.int 0, .int 1]) (rest := []) ⟨hx, hb, hml, hown, hg⟩ (k_B_0_1 l    ) ca_X0_bodyOf q4_146 ⟨rfl, rfl⟩ ⟨Nat.le_of_ble_eq_true rfl, Nat.le_of_ble_eq_true rfl⟩ rfl hl.1 rfl (Nat.le_of_ble_eq_true rfl) ⟨Nat.zero_le _, Nat.zero_le _⟩ dX0_from_26 (fun r_4 wr_4 => ?_)
    have wr_4 : r_4.toInt = 10 := wr_4
    have el_5 : r_4 = 10 := i_inj (wr_4.trans (by rfl))
    subst el_5
    refine lv_istore (lv' := [(7, .int 10), (6, .int 0), (5, .int 0), (0, .ref (ad 9)), (1, .int 0), (2, .int 1), (3, .int p3), (4, .int p4)]) hx hb dX0_from_29 hl (by decide) rfl (fun ls hl => ?_)
    refine lv_iload hx hb dX0_from_31 (lv_at hl 0 rfl) ?_
    refine lv_if_eq (tgt := 59) hx hb dX0_from_33 (by decide) (fun c_6 => absurd c_6 (by decide)) (fun c_6 => ?_)
    refine lv_iload hx hb dX0_from_36 (lv_at hl 7 rfl) ?_
    refine lv_bipush (v := 40) hx hb dX0_from_38 (by decide) ?_
    refine lv_icmp_ge (tgt := 57) hx hb dX0_from_40 (by decide) (fun c_7 => ?_) (fun c_7 => ?_)
    ·
      have kc_7 : (40 : Int) ≤ p4.toInt := i_le c_7
      exfalso; omega
    ·
      have kc_7 : p4.toInt < (40 : Int) := i_nle c_7
      refine lv_aload_n hx hb dX0_from_43 rfl (lv_at hl 3 rfl) ?_
      refine lv_iload hx hb dX0_from_44 (lv_at hl 0 rfl) ?_
      refine lv_iload_n hx hb dX0_from_46 rfl (lv_at hl 6 rfl) ?_
      refine lv_iload hx hb dX0_from_47 (lv_at hl 7 rfl) ?_
      refine lv_iconst (v := 1) hx hb dX0_from_49 (by decide) ?_
      refine lv_iadd hx hb dX0_from_50 ?_
      refine lv_topi (fun x_8 ex_8 => ?_)
      have fx_8 : x_8.toInt = p4.toInt + (1 : Int) := by rw [ex_8]; exact i_add (by first | omega | (show (_ : Int) ≤ p4.toInt + (1 : Int); omega)) (by first | omega | (show p4.toInt + (1 : Int) ≤ (_ : Int); omega))
      refine cV_i (As := [.int 10, .int p3, .int x_8]) (rest := []) ⟨hx, hb, hml, hown, hg⟩ (k_R_0_10 l D cs A ad fa fq rv v a w fv fp  p3 x_8 hkn (show 0 ≤ (v 22).toInt by first | omega | decide) (show (v 22).toInt ≤ 22 by first | omega | decide) (show 0 ≤ x_8.toInt by first | omega | decide) (show x_8.toInt ≤ 37 by first | omega | decide) (show 0 ≤ (v 22).toInt by first | omega | decide) (show (v 22).toInt ≤ 1000 by first | omega | decide) (show 0 ≤ (v 23).toInt by first | omega | decide) (show (v 23).toInt ≤ 49 by first | omega | decide) ia37_0) ca_X0_run q4_149 ⟨rfl, rfl⟩ ⟨Nat.le_of_ble_eq_true rfl, Nat.le_of_ble_eq_true rfl⟩ (rc_acts hK hP) hK hP hD hS hZ rfl hl.1 rfl (Nat.le_of_ble_eq_true rfl) ⟨Nat.zero_le _, Nat.zero_le _⟩ dX0_from_51 (fun r_9 z_12 H locs wr_9 hP hD hS => ?_)
      obtain ⟨o_v22_10, o_a38_11⟩ := z_12
      have hP : va_P D vwCl (CW cs ad fa fq rv (va_up v 22 o_v22_10) (va_up a 38 o_a38_11) w fv fp) H := hP
      have hD : va_D A (CW cs ad fa fq rv (va_up v 22 o_v22_10) (va_up a 38 o_a38_11) w fv fp) := hD
      obtain ⟨wr_9_0, wr_9_1, wr_9_2, wr_9_3, wr_9_4⟩ : (o_v22_10.toInt = (v 22).toInt + 2) ∧ (o_a38_11 = TRW (a 38) (v 22).toInt.toNat [10, 1]) ∧ (r_9 = ((p3 + (v 23)) * 2)) ∧ (0 ≤ o_v22_10.toInt) ∧ (o_v22_10.toInt ≤ 1000) := wr_9
      have kt_13 : o_a38_11 = TRW (a 38) (v 22).toInt.toNat [10, 1] := by rw [wr_9_1]
      refine lv_goto (tgt := 58) hx hb dX0_from_54 (by decide) ?_
      exact W.iret (v := r_9) hx hb hr (fun tt ht hW => ⟨⟨r_9, ⟨o_v22_10, o_a38_11⟩, rfl, ⟨(by first | rfl | omega | trivial | assumption | (dsimp only; first | omega | assumption)), (by (try dsimp only); first | assumption | rfl), (by simp only [wr_9_2, ex_8]), (show 0 ≤ o_v22_10.toInt by first | omega | assumption), (show o_v22_10.toInt ≤ 1000 by first | omega | assumption)⟩, by rw [ht]; exact hP, hD⟩, hS.F ht⟩) hS.2.2 dX0_from_58
set_option maxHeartbeats 4000000 in
set_option maxRecDepth 100000 in
theorem k_S_0_1 (l : Launch) (D : va_G) (cs : Nat → ClassId) (A : Nat → Prop) (ad fa fq rv : Nat → Nat) (v : Nat → Int32) (a : Nat → Nat → Int32) (w : Nat → Nat → Int64) (fv fp : Nat → Nat → Int32)  (p2 : Int32) (p3 : Int32) (hkn : (a 37) (v 23).toNatClampNeg = 0) (hr0 : 0 ≤ (v 22).toInt) (hr1 : (v 22).toInt ≤ 22) (hd0 : 0 ≤ p3.toInt) (hd1 : p3.toInt ≤ 36) (iv23_0 : 0 ≤ (v 23).toInt) (iv23_1 : (v 23).toInt ≤ 49) (ia37_0 : AB 0 7 (a 37)) (iv22_0 : 0 ≤ (v 22).toInt) (iv22_1 : (v 22).toInt ≤ 1000) : Met l yX0_self (Cond.code yX0_self cX0_self 4 (some .int) :: gw) ({ frames := 5, cells := 0, slots := 0, locals := 123 }) (va_Pc [.ref (ad 9), .int 1, .int p2, .int p3] (XPre D (TY cs) (CW cs ad fa fq rv v a w fv fp) A)) (va_Qi (fun (r : Int32) (z : Int32 × (Nat → Int32)) => (z.1.toInt = (v 22).toInt + 2) ∧ (z.2 = TRW (a 38) (v 22).toInt.toNat [10, 1]) ∧ (r = ((p2 + (v 23)) * 2)) ∧ (0 ≤ z.1.toInt) ∧ (z.1.toInt ≤ 1000)) (XPo D (fun (z : Int32 × (Nat → Int32)) => CW cs ad fa fq rv (va_up v 22 z.1) (va_up a 38 z.2) w fv fp) A) A) 0 0 A := by
  refine Met.ofW (cc := cX0_self) (maxL := 4) (ret := (some .int)) (by decide) rfl ?_
  intro p e s m args below meth c s₁ B hml hv
  obtain ⟨rfl, hP, hK, hD, hZ⟩ := hv
  have hx := B.exec
  have hb := B.bytes
  have hr := B.returns
  have hts := atoms_spec (ws := (Cond.code yX0_self cX0_self 4 (some .int) :: gw)) B.pre
  have hg : ∀ w ∈ gw, w.before ([.ref (ad 9), .int 1, .int p2, .int p3] : List Value).toArray s = true := fun w h => hts w (List.mem_cons_of_mem _ h)
  have hown : s.vm.findClass RX0 = some m.cls := findClass_of_methodNamed B.named
  have hlocks := B.notSynchronized
  have hS : va_S A s.heap s.heap [] := va_S.rf
  have hP : va_P D vwCl (CW cs ad fa fq rv v a w fv fp) s.heap := hP
  have hl := lv_entry ([.ref (ad 9), .int 1, .int p2, .int p3]) (n := 4) (Nat.le_of_ble_eq_true rfl)
  rw [lg_entry_eq]
  generalize (lg_sl ([.ref (ad 9), .int 1, .int p2, .int p3]) ++ List.replicate (4 - (lg_sl ([.ref (ad 9), .int 1, .int p2, .int p3])).length) Slot.unset).toArray = ls at hl ⊢
  have hl : lv_has ls 4 [(0, .ref (ad 9)), (1, .int 1), (2, .int p2), (3, .int p3)] := hl
  refine lv_aload_n hx hb dX0_self_0 rfl (lv_at hl 0 rfl) ?_
  refine lv_aload_n hx hb dX0_self_1 rfl (lv_at hl 0 rfl) ?_
  refine gf_acts_kind hx hb hg hown hK hP rfl (hg _ q1_83) dX0_self_2 ?_
  refine lv_aload_n hx hb dX0_self_5 rfl (lv_at hl 0 rfl) ?_
  refine gf_acts_number hx hb hg hown hK hP (x := (v 23)) rfl (hg _ q1_90) dX0_self_6 ?_
  refine ld_Akind hx hb hK hP (i_in (by omega) (by omega)) dX0_self_9 ?_
  refine lv_topi (fun x_1 ex_1 => ?_)
  have ex_1 : x_1 = (a 37) (v 23).toNatClampNeg := ex_1
  have hx_1 : x_1.toInt = ((a 37) (v 23).toNatClampNeg).toInt := by rw [ex_1]
  have bx_1 := ia37_0 (v 23).toNatClampNeg
  rw [← ex_1] at bx_1
  have fx_1 : x_1 = 0 := by rw [ex_1]; exact hkn
  subst fx_1
  refine lv_iload_n hx hb dX0_self_10 rfl (lv_at hl 1 rfl) ?_
  refine lv_iload_n hx hb dX0_self_11 rfl (lv_at hl 2 rfl) ?_
  refine lv_iload_n hx hb dX0_self_12 rfl (lv_at hl 3 rfl) ?_
  refine cV_i (As := [.int 0, .int 1, .int p2, .int p3]) (rest := []) ⟨hx, hb, hml, hown, hg⟩ (k_F_0_0_1 l D cs A ad fa fq rv v a w fv fp  p2 p3 hkn (show 0 ≤ (v 22).toInt by first | omega | decide) (show (v 22).toInt ≤ 22 by first | omega | decide) (show 0 ≤ p3.toInt by first | omega | decide) (show p3.toInt ≤ 36 by first | omega | decide) (show 0 ≤ (v 22).toInt by first | omega | decide) (show (v 22).toInt ≤ 1000 by first | omega | decide) (show 0 ≤ (v 23).toInt by first | omega | decide) (show (v 23).toInt ≤ 49 by first | omega | decide) ia37_0) ca_X0_from q4_139 ⟨rfl, rfl⟩ ⟨Nat.le_of_ble_eq_true rfl, Nat.le_of_ble_eq_true rfl⟩ (rc_acts hK hP) hK hP hD hS hZ rfl hl.1 rfl (Nat.le_of_ble_eq_true rfl) ⟨Nat.zero_le _, Nat.zero_le _⟩ dX0_self_13 (fun r_2 z_5 H locs wr_2 hP hD hS => ?_)
  obtain ⟨o_v22_3, o_a38_4⟩ := z_5
  have hP : va_P D vwCl (CW cs ad fa fq rv (va_up v 22 o_v22_3) (va_up a 38 o_a38_4) w fv fp) H := hP
  have hD : va_D A (CW cs ad fa fq rv (va_up v 22 o_v22_3) (va_up a 38 o_a38_4) w fv fp) := hD
  obtain ⟨wr_2_0, wr_2_1, wr_2_2, wr_2_3, wr_2_4⟩ : (o_v22_3.toInt = (v 22).toInt + 2) ∧ (o_a38_4 = TRW (a 38) (v 22).toInt.toNat [10, 1]) ∧ (r_2 = ((p2 + (v 23)) * 2)) ∧ (0 ≤ o_v22_3.toInt) ∧ (o_v22_3.toInt ≤ 1000) := wr_2
  have kt_6 : o_a38_4 = TRW (a 38) (v 22).toInt.toNat [10, 1] := by rw [wr_2_1]
  exact W.iret (v := r_2) hx hb hr (fun tt ht hW => ⟨⟨r_2, ⟨o_v22_3, o_a38_4⟩, rfl, ⟨(by first | rfl | omega | trivial | assumption | (dsimp only; first | omega | assumption)), (by (try dsimp only); first | assumption | rfl), (by simp only [wr_2_2]), (show 0 ≤ o_v22_3.toInt by first | omega | assumption), (show o_v22_3.toInt ≤ 1000 by first | omega | assumption)⟩, by rw [ht]; exact hP, hD⟩, hS.F ht⟩) hS.2.2 dX0_self_16
set_option maxHeartbeats 4000000 in
set_option maxRecDepth 100000 in
theorem k_R_x_11 (l : Launch) (D : va_G) (cs : Nat → ClassId) (A : Nat → Prop) (ad fa fq rv : Nat → Nat) (v : Nat → Int32) (a : Nat → Nat → Int32) (w : Nat → Nat → Int64) (fv fp : Nat → Nat → Int32)  (p2 : Int32) (p3 : Int32) (hr0 : 0 ≤ (v 22).toInt) (hr1 : (v 22).toInt ≤ 23) (hd0 : 0 ≤ p3.toInt) (hd1 : p3.toInt ≤ 38) (iv22_0 : 0 ≤ (v 22).toInt) (iv22_1 : (v 22).toInt ≤ 1000) (iv23_0 : 0 ≤ (v 23).toInt) (iv23_1 : (v 23).toInt ≤ 49) : Met l yX0_run (Cond.code yX0_run cX0_run 4 (some .int) :: gw) ({ frames := 0, cells := 0, slots := 0, locals := 0 }) (va_Pc [.ref (ad 9), .int 11, .int p2, .int p3] (XPre D (TY cs) (CW cs ad fa fq rv v a w fv fp) A)) (va_Qi (fun (r : Int32) (z : Int32 × (Nat → Int32)) => (z.1.toInt = (v 22).toInt + 1) ∧ (z.2 = TRW (a 38) (v 22).toInt.toNat [11]) ∧ (r = (p2 ^^^ (v 23))) ∧ (0 ≤ z.1.toInt) ∧ (z.1.toInt ≤ 1000)) (XPo D (fun (z : Int32 × (Nat → Int32)) => CW cs ad fa fq rv (va_up v 22 z.1) (va_up a 38 z.2) w fv fp) A) A) 0 0 A := by
  refine Met.ofW (cc := cX0_run) (maxL := 4) (ret := (some .int)) (by decide) rfl ?_
  intro p e s m args below meth c s₁ B hml hv
  obtain ⟨rfl, hP, hK, hD, hZ⟩ := hv
  have hx := B.exec
  have hb := B.bytes
  have hr := B.returns
  have hts := atoms_spec (ws := (Cond.code yX0_run cX0_run 4 (some .int) :: gw)) B.pre
  have hg : ∀ w ∈ gw, w.before ([.ref (ad 9), .int 11, .int p2, .int p3] : List Value).toArray s = true := fun w h => hts w (List.mem_cons_of_mem _ h)
  have hown : s.vm.findClass RX0 = some m.cls := findClass_of_methodNamed B.named
  have hlocks := B.notSynchronized
  have hS : va_S A s.heap s.heap [] := va_S.rf
  have hP : va_P D vwCl (CW cs ad fa fq rv v a w fv fp) s.heap := hP
  have hl := lv_entry ([.ref (ad 9), .int 11, .int p2, .int p3]) (n := 4) (Nat.le_of_ble_eq_true rfl)
  rw [lg_entry_eq]
  generalize (lg_sl ([.ref (ad 9), .int 11, .int p2, .int p3]) ++ List.replicate (4 - (lg_sl ([.ref (ad 9), .int 11, .int p2, .int p3])).length) Slot.unset).toArray = ls at hl ⊢
  have hl : lv_has ls 4 [(0, .ref (ad 9)), (1, .int 11), (2, .int p2), (3, .int p3)] := hl
  refine lv_aload_n hx hb dX0_run_0 rfl (lv_at hl 0 rfl) ?_
  refine gf_acts_ran hx hb hg hown hK hP (x := (v 22)) rfl (hg _ q1_88) dX0_run_1 ?_
  refine lv_bipush (v := 24) hx hb dX0_run_4 (by decide) ?_
  refine lv_icmp_ge (tgt := 19) hx hb dX0_run_6 (by decide) (fun c_1 => ?_) (fun c_1 => ?_)
  ·
    have kc_1 : (24 : Int) ≤ (v 22).toInt := i_le c_1
    exfalso; omega
  ·
    have kc_1 : (v 22).toInt < (24 : Int) := i_nle c_1
    refine lv_aload_n hx hb dX0_run_9 rfl (lv_at hl 0 rfl) ?_
    refine gf_acts_traced hx hb hg hown hK hP rfl (hg _ q1_86) dX0_run_10 ?_
    refine lv_aload_n hx hb dX0_run_13 rfl (lv_at hl 0 rfl) ?_
    refine gf_acts_ran hx hb hg hown hK hP (x := (v 22)) rfl (hg _ q1_88) dX0_run_14 ?_
    refine lv_iload_n hx hb dX0_run_17 rfl (lv_at hl 1 rfl) ?_
    refine st_Atraced hx hb hK hP hD hS (i_in (by omega) (by omega)) dX0_run_18 (fun H locs hP hD hS => ?_)
    refine lv_aload_n hx hb dX0_run_19 rfl (lv_at hl 0 rfl) ?_
    refine lv_dup hx hb dX0_run_20 rfl ?_
    refine gf_acts_ran hx hb hg hown hK hP (x := (v 22)) rfl (hg _ q1_88) dX0_run_21 ?_
    refine lv_iconst (v := 1) hx hb dX0_run_24 (by decide) ?_
    refine lv_iadd hx hb dX0_run_25 ?_
    refine lv_topi (fun x_2 ex_2 => ?_)
    have fx_2 : x_2.toInt = (v 22).toInt + (1 : Int) := by rw [ex_2]; exact i_add (by first | omega | (show (_ : Int) ≤ (v 22).toInt + (1 : Int); omega)) (by first | omega | (show (v 22).toInt + (1 : Int) ≤ (_ : Int); omega))
    refine pf_acts_ran hx hb hg hown hK hP hD hS (hg _ q1_88) dX0_run_26 (fun H locs hP hD hS => ?_)
    refine lv_iload_n hx hb dX0_run_29 rfl (lv_at hl 1 rfl) ?_
    refine lv_lookup (tgt := 185) hx hb dX0_run_30 (by decide) (off := 155) (by decide) (by decide) ?_
    refine lv_iload_n hx hb dX0_run_185 rfl (lv_at hl 2 rfl) ?_
    refine lv_aload_n hx hb dX0_run_186 rfl (lv_at hl 0 rfl) ?_
    refine gf_acts_number hx hb hg hown hK hP (x := (v 23)) rfl (hg _ q1_90) dX0_run_187 ?_
    refine lv_ixor hx hb dX0_run_190 ?_
    refine lv_topi (fun x_4 ex_4 => ?_)
    exact W.iret (v := x_4) hx hb hr (fun tt ht hW => ⟨⟨x_4, ⟨x_2, (upd (a 38) (v 22).toNatClampNeg 11)⟩, rfl, ⟨(by first | rfl | omega | trivial | assumption | (dsimp only; first | omega | assumption)), (by (try dsimp only); first | assumption | rfl), (by simp only [ex_4, ex_2]), (show 0 ≤ x_2.toInt by first | omega | assumption), (show x_2.toInt ≤ 1000 by first | omega | assumption)⟩, by rw [ht]; exact hP, hD⟩, hS.F ht⟩) hS.2.2 dX0_run_191
set_option maxHeartbeats 4000000 in
set_option maxRecDepth 100000 in
theorem k_F_x_0_2 (l : Launch) (D : va_G) (cs : Nat → ClassId) (A : Nat → Prop) (ad fa fq rv : Nat → Nat) (v : Nat → Int32) (a : Nat → Nat → Int32) (w : Nat → Nat → Int64) (fv fp : Nat → Nat → Int32)  (p3 : Int32) (p4 : Int32) (hr0 : 0 ≤ (v 22).toInt) (hr1 : (v 22).toInt ≤ 23) (hd0 : 0 ≤ p4.toInt) (hd1 : p4.toInt ≤ 37) (iv22_0 : 0 ≤ (v 22).toInt) (iv22_1 : (v 22).toInt ≤ 1000) (iv23_0 : 0 ≤ (v 23).toInt) (iv23_1 : (v 23).toInt ≤ 49) : Met l yX0_from (Cond.code yX0_from cX0_from 8 (some .int) :: gw) ({ frames := 1, cells := 0, slots := 0, locals := 23 }) (va_Pc [.ref (ad 9), .int 0, .int 2, .int p3, .int p4] (XPre D (TY cs) (CW cs ad fa fq rv v a w fv fp) A)) (va_Qi (fun (r : Int32) (z : Int32 × (Nat → Int32)) => (z.1.toInt = (v 22).toInt + 1) ∧ (z.2 = TRW (a 38) (v 22).toInt.toNat [11]) ∧ (r = (p3 ^^^ (v 23))) ∧ (0 ≤ z.1.toInt) ∧ (z.1.toInt ≤ 1000)) (XPo D (fun (z : Int32 × (Nat → Int32)) => CW cs ad fa fq rv (va_up v 22 z.1) (va_up a 38 z.2) w fv fp) A) A) 0 0 A := by
  refine Met.ofW (cc := cX0_from) (maxL := 8) (ret := (some .int)) (by decide) rfl ?_
  intro p e s m args below meth c s₁ B hml hv
  obtain ⟨rfl, hP, hK, hD, hZ⟩ := hv
  have hx := B.exec
  have hb := B.bytes
  have hr := B.returns
  have hts := atoms_spec (ws := (Cond.code yX0_from cX0_from 8 (some .int) :: gw)) B.pre
  have hg : ∀ w ∈ gw, w.before ([.ref (ad 9), .int 0, .int 2, .int p3, .int p4] : List Value).toArray s = true := fun w h => hts w (List.mem_cons_of_mem _ h)
  have hown : s.vm.findClass RX0 = some m.cls := findClass_of_methodNamed B.named
  have hlocks := B.notSynchronized
  have hS : va_S A s.heap s.heap [] := va_S.rf
  have hP : va_P D vwCl (CW cs ad fa fq rv v a w fv fp) s.heap := hP
  have hl := lv_entry ([.ref (ad 9), .int 0, .int 2, .int p3, .int p4]) (n := 8) (Nat.le_of_ble_eq_true rfl)
  rw [lg_entry_eq]
  generalize (lg_sl ([.ref (ad 9), .int 0, .int 2, .int p3, .int p4]) ++ List.replicate (8 - (lg_sl ([.ref (ad 9), .int 0, .int 2, .int p3, .int p4])).length) Slot.unset).toArray = ls at hl ⊢
  have hl : lv_has ls 8 [(0, .ref (ad 9)), (1, .int 0), (2, .int 2), (3, .int p3), (4, .int p4)] := hl
  refine lv_iload_n hx hb dX0_from_0 rfl (lv_at hl 1 rfl) ?_
  refine lv_istore (lv' := [(5, .int 0), (0, .ref (ad 9)), (1, .int 0), (2, .int 2), (3, .int p3), (4, .int p4)]) hx hb dX0_from_1 hl (by decide) rfl (fun ls hl => ?_)
  refine lv_iconst (v := 0) hx hb dX0_from_3 (by decide) ?_
  refine lv_istore (lv' := [(6, .int 0), (5, .int 0), (0, .ref (ad 9)), (1, .int 0), (2, .int 2), (3, .int p3), (4, .int p4)]) hx hb dX0_from_4 hl (by decide) rfl (fun ls hl => ?_)
  refine lv_iload hx hb dX0_from_6 (lv_at hl 0 rfl) ?_
  obtain ⟨t0, t1, t2, ⟨a0, b0⟩, ⟨a1, b1⟩, ⟨a2, b2⟩⟩ := id hZ
  refine va_gets hx hb a2 hS hown (hg _ q4_143) (fun _ h9 => h9) dX0_from_8 ?_
  refine va_tlen hx hb b2 hS (v := 8) rfl dX0_from_11 ?_
  refine lv_icmp_ge (tgt := 73) hx hb dX0_from_12 (by decide) (fun c_1 => absurd c_1 (by decide)) (fun c_1 => ?_)
  refine lv_iload hx hb dX0_from_15 (lv_at hl 1 rfl) ?_
  refine cS_p (As := [.int 0]) (rest := []) ⟨hx, hb, hml, hown, hg⟩ (k_IK_1 l    ) ca_X0_isKind q4_145 ⟨rfl, rfl⟩ ⟨Nat.le_of_ble_eq_true rfl, Nat.le_of_ble_eq_true rfl⟩ rfl hl.1 rfl (Nat.le_of_ble_eq_true rfl) ⟨Nat.zero_le _, Nat.zero_le _⟩ dX0_from_17 (fun r_2 wr_2 => ?_)
  have wr_2 : r_2.toInt = 1 := wr_2
  refine lv_if_eq (tgt := 73) hx hb dX0_from_20 (by decide) (fun c_3 => ?_) (fun c_3 => ?_)
  ·
    have kc_3 : r_2.toInt = (0 : Int) := i_eq c_3
    exfalso; omega
  ·
    have kc_3 : r_2.toInt ≠ (0 : Int) := i_ne c_3
    refine lv_iload hx hb dX0_from_23 (lv_at hl 1 rfl) ?_
    refine lv_iload_n hx hb dX0_from_25 rfl (lv_at hl 4 rfl) ?_
    refine cS_p (As := [.int 0, .int 2]) (rest := []) ⟨hx, hb, hml, hown, hg⟩ (k_B_0_2 l    ) ca_X0_bodyOf q4_146 ⟨rfl, rfl⟩ ⟨Nat.le_of_ble_eq_true rfl, Nat.le_of_ble_eq_true rfl⟩ rfl hl.1 rfl (Nat.le_of_ble_eq_true rfl) ⟨Nat.zero_le _, Nat.zero_le _⟩ dX0_from_26 (fun r_4 wr_4 => ?_)
    have wr_4 : r_4.toInt = 11 := wr_4
    have el_5 : r_4 = 11 := i_inj (wr_4.trans (by rfl))
    subst el_5
    refine lv_istore (lv' := [(7, .int 11), (6, .int 0), (5, .int 0), (0, .ref (ad 9)), (1, .int 0), (2, .int 2), (3, .int p3), (4, .int p4)]) hx hb dX0_from_29 hl (by decide) rfl (fun ls hl => ?_)
    refine lv_iload hx hb dX0_from_31 (lv_at hl 0 rfl) ?_
    refine lv_if_eq (tgt := 59) hx hb dX0_from_33 (by decide) (fun c_6 => absurd c_6 (by decide)) (fun c_6 => ?_)
    refine lv_iload hx hb dX0_from_36 (lv_at hl 7 rfl) ?_
    refine lv_bipush (v := 40) hx hb dX0_from_38 (by decide) ?_
    refine lv_icmp_ge (tgt := 57) hx hb dX0_from_40 (by decide) (fun c_7 => ?_) (fun c_7 => ?_)
    ·
      have kc_7 : (40 : Int) ≤ p4.toInt := i_le c_7
      exfalso; omega
    ·
      have kc_7 : p4.toInt < (40 : Int) := i_nle c_7
      refine lv_aload_n hx hb dX0_from_43 rfl (lv_at hl 3 rfl) ?_
      refine lv_iload hx hb dX0_from_44 (lv_at hl 0 rfl) ?_
      refine lv_iload_n hx hb dX0_from_46 rfl (lv_at hl 6 rfl) ?_
      refine lv_iload hx hb dX0_from_47 (lv_at hl 7 rfl) ?_
      refine lv_iconst (v := 1) hx hb dX0_from_49 (by decide) ?_
      refine lv_iadd hx hb dX0_from_50 ?_
      refine lv_topi (fun x_8 ex_8 => ?_)
      have fx_8 : x_8.toInt = p4.toInt + (1 : Int) := by rw [ex_8]; exact i_add (by first | omega | (show (_ : Int) ≤ p4.toInt + (1 : Int); omega)) (by first | omega | (show p4.toInt + (1 : Int) ≤ (_ : Int); omega))
      refine cV_i (As := [.int 11, .int p3, .int x_8]) (rest := []) ⟨hx, hb, hml, hown, hg⟩ (k_R_x_11 l D cs A ad fa fq rv v a w fv fp  p3 x_8 (show 0 ≤ (v 22).toInt by first | omega | decide) (show (v 22).toInt ≤ 23 by first | omega | decide) (show 0 ≤ x_8.toInt by first | omega | decide) (show x_8.toInt ≤ 38 by first | omega | decide) (show 0 ≤ (v 22).toInt by first | omega | decide) (show (v 22).toInt ≤ 1000 by first | omega | decide) (show 0 ≤ (v 23).toInt by first | omega | decide) (show (v 23).toInt ≤ 49 by first | omega | decide)) ca_X0_run q4_149 ⟨rfl, rfl⟩ ⟨Nat.le_of_ble_eq_true rfl, Nat.le_of_ble_eq_true rfl⟩ (rc_acts hK hP) hK hP hD hS hZ rfl hl.1 rfl (Nat.le_of_ble_eq_true rfl) ⟨Nat.zero_le _, Nat.zero_le _⟩ dX0_from_51 (fun r_9 z_12 H locs wr_9 hP hD hS => ?_)
      obtain ⟨o_v22_10, o_a38_11⟩ := z_12
      have hP : va_P D vwCl (CW cs ad fa fq rv (va_up v 22 o_v22_10) (va_up a 38 o_a38_11) w fv fp) H := hP
      have hD : va_D A (CW cs ad fa fq rv (va_up v 22 o_v22_10) (va_up a 38 o_a38_11) w fv fp) := hD
      obtain ⟨wr_9_0, wr_9_1, wr_9_2, wr_9_3, wr_9_4⟩ : (o_v22_10.toInt = (v 22).toInt + 1) ∧ (o_a38_11 = TRW (a 38) (v 22).toInt.toNat [11]) ∧ (r_9 = (p3 ^^^ (v 23))) ∧ (0 ≤ o_v22_10.toInt) ∧ (o_v22_10.toInt ≤ 1000) := wr_9
      have kt_13 : o_a38_11 = TRW (a 38) (v 22).toInt.toNat [11] := by rw [wr_9_1]
      refine lv_goto (tgt := 58) hx hb dX0_from_54 (by decide) ?_
      exact W.iret (v := r_9) hx hb hr (fun tt ht hW => ⟨⟨r_9, ⟨o_v22_10, o_a38_11⟩, rfl, ⟨(by first | rfl | omega | trivial | assumption | (dsimp only; first | omega | assumption)), (by (try dsimp only); first | assumption | rfl), (by simp only [wr_9_2, ex_8]), (show 0 ≤ o_v22_10.toInt by first | omega | assumption), (show o_v22_10.toInt ≤ 1000 by first | omega | assumption)⟩, by rw [ht]; exact hP, hD⟩, hS.F ht⟩) hS.2.2 dX0_from_58
set_option maxHeartbeats 4000000 in
set_option maxRecDepth 100000 in
theorem k_S_0_2 (l : Launch) (D : va_G) (cs : Nat → ClassId) (A : Nat → Prop) (ad fa fq rv : Nat → Nat) (v : Nat → Int32) (a : Nat → Nat → Int32) (w : Nat → Nat → Int64) (fv fp : Nat → Nat → Int32)  (p2 : Int32) (p3 : Int32) (hkn : (a 37) (v 23).toNatClampNeg = 0) (hr0 : 0 ≤ (v 22).toInt) (hr1 : (v 22).toInt ≤ 23) (hd0 : 0 ≤ p3.toInt) (hd1 : p3.toInt ≤ 37) (iv23_0 : 0 ≤ (v 23).toInt) (iv23_1 : (v 23).toInt ≤ 49) (ia37_0 : AB 0 7 (a 37)) (iv22_0 : 0 ≤ (v 22).toInt) (iv22_1 : (v 22).toInt ≤ 1000) : Met l yX0_self (Cond.code yX0_self cX0_self 4 (some .int) :: gw) ({ frames := 2, cells := 0, slots := 0, locals := 50 }) (va_Pc [.ref (ad 9), .int 2, .int p2, .int p3] (XPre D (TY cs) (CW cs ad fa fq rv v a w fv fp) A)) (va_Qi (fun (r : Int32) (z : Int32 × (Nat → Int32)) => (z.1.toInt = (v 22).toInt + 1) ∧ (z.2 = TRW (a 38) (v 22).toInt.toNat [11]) ∧ (r = (p2 ^^^ (v 23))) ∧ (0 ≤ z.1.toInt) ∧ (z.1.toInt ≤ 1000)) (XPo D (fun (z : Int32 × (Nat → Int32)) => CW cs ad fa fq rv (va_up v 22 z.1) (va_up a 38 z.2) w fv fp) A) A) 0 0 A := by
  refine Met.ofW (cc := cX0_self) (maxL := 4) (ret := (some .int)) (by decide) rfl ?_
  intro p e s m args below meth c s₁ B hml hv
  obtain ⟨rfl, hP, hK, hD, hZ⟩ := hv
  have hx := B.exec
  have hb := B.bytes
  have hr := B.returns
  have hts := atoms_spec (ws := (Cond.code yX0_self cX0_self 4 (some .int) :: gw)) B.pre
  have hg : ∀ w ∈ gw, w.before ([.ref (ad 9), .int 2, .int p2, .int p3] : List Value).toArray s = true := fun w h => hts w (List.mem_cons_of_mem _ h)
  have hown : s.vm.findClass RX0 = some m.cls := findClass_of_methodNamed B.named
  have hlocks := B.notSynchronized
  have hS : va_S A s.heap s.heap [] := va_S.rf
  have hP : va_P D vwCl (CW cs ad fa fq rv v a w fv fp) s.heap := hP
  have hl := lv_entry ([.ref (ad 9), .int 2, .int p2, .int p3]) (n := 4) (Nat.le_of_ble_eq_true rfl)
  rw [lg_entry_eq]
  generalize (lg_sl ([.ref (ad 9), .int 2, .int p2, .int p3]) ++ List.replicate (4 - (lg_sl ([.ref (ad 9), .int 2, .int p2, .int p3])).length) Slot.unset).toArray = ls at hl ⊢
  have hl : lv_has ls 4 [(0, .ref (ad 9)), (1, .int 2), (2, .int p2), (3, .int p3)] := hl
  refine lv_aload_n hx hb dX0_self_0 rfl (lv_at hl 0 rfl) ?_
  refine lv_aload_n hx hb dX0_self_1 rfl (lv_at hl 0 rfl) ?_
  refine gf_acts_kind hx hb hg hown hK hP rfl (hg _ q1_83) dX0_self_2 ?_
  refine lv_aload_n hx hb dX0_self_5 rfl (lv_at hl 0 rfl) ?_
  refine gf_acts_number hx hb hg hown hK hP (x := (v 23)) rfl (hg _ q1_90) dX0_self_6 ?_
  refine ld_Akind hx hb hK hP (i_in (by omega) (by omega)) dX0_self_9 ?_
  refine lv_topi (fun x_1 ex_1 => ?_)
  have ex_1 : x_1 = (a 37) (v 23).toNatClampNeg := ex_1
  have hx_1 : x_1.toInt = ((a 37) (v 23).toNatClampNeg).toInt := by rw [ex_1]
  have bx_1 := ia37_0 (v 23).toNatClampNeg
  rw [← ex_1] at bx_1
  have fx_1 : x_1 = 0 := by rw [ex_1]; exact hkn
  subst fx_1
  refine lv_iload_n hx hb dX0_self_10 rfl (lv_at hl 1 rfl) ?_
  refine lv_iload_n hx hb dX0_self_11 rfl (lv_at hl 2 rfl) ?_
  refine lv_iload_n hx hb dX0_self_12 rfl (lv_at hl 3 rfl) ?_
  refine cV_i (As := [.int 0, .int 2, .int p2, .int p3]) (rest := []) ⟨hx, hb, hml, hown, hg⟩ (k_F_x_0_2 l D cs A ad fa fq rv v a w fv fp  p2 p3 (show 0 ≤ (v 22).toInt by first | omega | decide) (show (v 22).toInt ≤ 23 by first | omega | decide) (show 0 ≤ p3.toInt by first | omega | decide) (show p3.toInt ≤ 37 by first | omega | decide) (show 0 ≤ (v 22).toInt by first | omega | decide) (show (v 22).toInt ≤ 1000 by first | omega | decide) (show 0 ≤ (v 23).toInt by first | omega | decide) (show (v 23).toInt ≤ 49 by first | omega | decide)) ca_X0_from q4_139 ⟨rfl, rfl⟩ ⟨Nat.le_of_ble_eq_true rfl, Nat.le_of_ble_eq_true rfl⟩ (rc_acts hK hP) hK hP hD hS hZ rfl hl.1 rfl (Nat.le_of_ble_eq_true rfl) ⟨Nat.zero_le _, Nat.zero_le _⟩ dX0_self_13 (fun r_2 z_5 H locs wr_2 hP hD hS => ?_)
  obtain ⟨o_v22_3, o_a38_4⟩ := z_5
  have hP : va_P D vwCl (CW cs ad fa fq rv (va_up v 22 o_v22_3) (va_up a 38 o_a38_4) w fv fp) H := hP
  have hD : va_D A (CW cs ad fa fq rv (va_up v 22 o_v22_3) (va_up a 38 o_a38_4) w fv fp) := hD
  obtain ⟨wr_2_0, wr_2_1, wr_2_2, wr_2_3, wr_2_4⟩ : (o_v22_3.toInt = (v 22).toInt + 1) ∧ (o_a38_4 = TRW (a 38) (v 22).toInt.toNat [11]) ∧ (r_2 = (p2 ^^^ (v 23))) ∧ (0 ≤ o_v22_3.toInt) ∧ (o_v22_3.toInt ≤ 1000) := wr_2
  have kt_6 : o_a38_4 = TRW (a 38) (v 22).toInt.toNat [11] := by rw [wr_2_1]
  exact W.iret (v := r_2) hx hb hr (fun tt ht hW => ⟨⟨r_2, ⟨o_v22_3, o_a38_4⟩, rfl, ⟨(by first | rfl | omega | trivial | assumption | (dsimp only; first | omega | assumption)), (by (try dsimp only); first | assumption | rfl), (by simp only [wr_2_2]), (show 0 ≤ o_v22_3.toInt by first | omega | assumption), (show o_v22_3.toInt ≤ 1000 by first | omega | assumption)⟩, by rw [ht]; exact hP, hD⟩, hS.F ht⟩) hS.2.2 dX0_self_16
set_option maxHeartbeats 4000000 in
set_option maxRecDepth 100000 in
theorem k_R_0_2 (l : Launch) (D : va_G) (cs : Nat → ClassId) (A : Nat → Prop) (ad fa fq rv : Nat → Nat) (v : Nat → Int32) (a : Nat → Nat → Int32) (w : Nat → Nat → Int64) (fv fp : Nat → Nat → Int32)  (p2 : Int32) (p3 : Int32) (hkn : (a 37) (v 23).toNatClampNeg = 0) (hr0 : 0 ≤ (v 22).toInt) (hr1 : (v 22).toInt ≤ 20) (hd0 : 0 ≤ p3.toInt) (hd1 : p3.toInt ≤ 36) (iv22_0 : 0 ≤ (v 22).toInt) (iv22_1 : (v 22).toInt ≤ 1000) (iv23_0 : 0 ≤ (v 23).toInt) (iv23_1 : (v 23).toInt ≤ 49) (ia37_0 : AB 0 7 (a 37)) : Met l yX0_run (Cond.code yX0_run cX0_run 4 (some .int) :: gw) ({ frames := 6, cells := 0, slots := 0, locals := 146 }) (va_Pc [.ref (ad 9), .int 2, .int p2, .int p3] (XPre D (TY cs) (CW cs ad fa fq rv v a w fv fp) A)) (va_Qi (fun (r : Int32) (z : Int32 × (Nat → Int32)) => (z.1.toInt = (v 22).toInt + 4) ∧ (z.2 = TRW (a 38) (v 22).toInt.toNat [2, 10, 1, 11]) ∧ (r = (((p2 + (v 23)) * 2) - ((1 : Int32) ^^^ (v 23)))) ∧ (0 ≤ z.1.toInt) ∧ (z.1.toInt ≤ 1000)) (XPo D (fun (z : Int32 × (Nat → Int32)) => CW cs ad fa fq rv (va_up v 22 z.1) (va_up a 38 z.2) w fv fp) A) A) 0 0 A := by
  refine Met.ofW (cc := cX0_run) (maxL := 4) (ret := (some .int)) (by decide) rfl ?_
  intro p e s m args below meth c s₁ B hml hv
  obtain ⟨rfl, hP, hK, hD, hZ⟩ := hv
  have hx := B.exec
  have hb := B.bytes
  have hr := B.returns
  have hts := atoms_spec (ws := (Cond.code yX0_run cX0_run 4 (some .int) :: gw)) B.pre
  have hg : ∀ w ∈ gw, w.before ([.ref (ad 9), .int 2, .int p2, .int p3] : List Value).toArray s = true := fun w h => hts w (List.mem_cons_of_mem _ h)
  have hown : s.vm.findClass RX0 = some m.cls := findClass_of_methodNamed B.named
  have hlocks := B.notSynchronized
  have hS : va_S A s.heap s.heap [] := va_S.rf
  have hP : va_P D vwCl (CW cs ad fa fq rv v a w fv fp) s.heap := hP
  have hl := lv_entry ([.ref (ad 9), .int 2, .int p2, .int p3]) (n := 4) (Nat.le_of_ble_eq_true rfl)
  rw [lg_entry_eq]
  generalize (lg_sl ([.ref (ad 9), .int 2, .int p2, .int p3]) ++ List.replicate (4 - (lg_sl ([.ref (ad 9), .int 2, .int p2, .int p3])).length) Slot.unset).toArray = ls at hl ⊢
  have hl : lv_has ls 4 [(0, .ref (ad 9)), (1, .int 2), (2, .int p2), (3, .int p3)] := hl
  refine lv_aload_n hx hb dX0_run_0 rfl (lv_at hl 0 rfl) ?_
  refine gf_acts_ran hx hb hg hown hK hP (x := (v 22)) rfl (hg _ q1_88) dX0_run_1 ?_
  refine lv_bipush (v := 24) hx hb dX0_run_4 (by decide) ?_
  refine lv_icmp_ge (tgt := 19) hx hb dX0_run_6 (by decide) (fun c_1 => ?_) (fun c_1 => ?_)
  ·
    have kc_1 : (24 : Int) ≤ (v 22).toInt := i_le c_1
    exfalso; omega
  ·
    have kc_1 : (v 22).toInt < (24 : Int) := i_nle c_1
    refine lv_aload_n hx hb dX0_run_9 rfl (lv_at hl 0 rfl) ?_
    refine gf_acts_traced hx hb hg hown hK hP rfl (hg _ q1_86) dX0_run_10 ?_
    refine lv_aload_n hx hb dX0_run_13 rfl (lv_at hl 0 rfl) ?_
    refine gf_acts_ran hx hb hg hown hK hP (x := (v 22)) rfl (hg _ q1_88) dX0_run_14 ?_
    refine lv_iload_n hx hb dX0_run_17 rfl (lv_at hl 1 rfl) ?_
    refine st_Atraced hx hb hK hP hD hS (i_in (by omega) (by omega)) dX0_run_18 (fun H locs hP hD hS => ?_)
    refine lv_aload_n hx hb dX0_run_19 rfl (lv_at hl 0 rfl) ?_
    refine lv_dup hx hb dX0_run_20 rfl ?_
    refine gf_acts_ran hx hb hg hown hK hP (x := (v 22)) rfl (hg _ q1_88) dX0_run_21 ?_
    refine lv_iconst (v := 1) hx hb dX0_run_24 (by decide) ?_
    refine lv_iadd hx hb dX0_run_25 ?_
    refine lv_topi (fun x_2 ex_2 => ?_)
    have fx_2 : x_2.toInt = (v 22).toInt + (1 : Int) := by rw [ex_2]; exact i_add (by first | omega | (show (_ : Int) ≤ (v 22).toInt + (1 : Int); omega)) (by first | omega | (show (v 22).toInt + (1 : Int) ≤ (_ : Int); omega))
    refine pf_acts_ran hx hb hg hown hK hP hD hS (hg _ q1_88) dX0_run_26 (fun H locs hP hD hS => ?_)
    refine lv_iload_n hx hb dX0_run_29 rfl (lv_at hl 1 rfl) ?_
    refine lv_lookup (tgt := 159) hx hb dX0_run_30 (by decide) (off := 129) (by decide) (by decide) ?_
    refine lv_aload_n hx hb dX0_run_159 rfl (lv_at hl 0 rfl) ?_
    refine lv_iconst (v := 1) hx hb dX0_run_160 (by decide) ?_
    refine lv_iload_n hx hb dX0_run_161 rfl (lv_at hl 2 rfl) ?_
    refine lv_iload_n hx hb dX0_run_162 rfl (lv_at hl 3 rfl) ?_
    refine cV_i (As := [.int 1, .int p2, .int p3]) (rest := []) ⟨hx, hb, hml, hown, hg⟩ (k_S_0_1 l D cs A ad fa fq rv (va_up v 22 x_2) (va_up a 38 (upd (a 38) (v 22).toNatClampNeg 2)) w fv fp  p2 p3 hkn (show 0 ≤ x_2.toInt by first | omega | decide) (show x_2.toInt ≤ 22 by first | omega | decide) (show 0 ≤ p3.toInt by first | omega | decide) (show p3.toInt ≤ 36 by first | omega | decide) (show 0 ≤ (v 23).toInt by first | omega | decide) (show (v 23).toInt ≤ 49 by first | omega | decide) ia37_0 (show 0 ≤ x_2.toInt by first | omega | decide) (show x_2.toInt ≤ 1000 by first | omega | decide)) ca_X0_self q4_135 ⟨rfl, rfl⟩ ⟨Nat.le_of_ble_eq_true rfl, Nat.le_of_ble_eq_true rfl⟩ (rc_acts hK hP) hK hP hD hS hZ rfl hl.1 rfl (Nat.le_of_ble_eq_true rfl) ⟨Nat.zero_le _, Nat.zero_le _⟩ dX0_run_163 (fun r_4 z_7 H locs wr_4 hP hD hS => ?_)
    obtain ⟨o_v22_5, o_a38_6⟩ := z_7
    have hP : va_P D vwCl (CW cs ad fa fq rv (va_up v 22 o_v22_5) (va_up a 38 o_a38_6) w fv fp) H := hP
    have hD : va_D A (CW cs ad fa fq rv (va_up v 22 o_v22_5) (va_up a 38 o_a38_6) w fv fp) := hD
    obtain ⟨wr_4_0, wr_4_1, wr_4_2, wr_4_3, wr_4_4⟩ : (o_v22_5.toInt = x_2.toInt + 2) ∧ (o_a38_6 = TRW (upd (a 38) (v 22).toNatClampNeg 2) x_2.toInt.toNat [10, 1]) ∧ (r_4 = ((p2 + (v 23)) * 2)) ∧ (0 ≤ o_v22_5.toInt) ∧ (o_v22_5.toInt ≤ 1000) := wr_4
    have kt_8 : o_a38_6 = TRW (a 38) (v 22).toInt.toNat [2, 10, 1] := by rw [wr_4_1, show (x_2).toInt.toNat = (v 22).toInt.toNat + 1 from by omega]; rfl
    refine lv_aload_n hx hb dX0_run_166 rfl (lv_at hl 0 rfl) ?_
    refine lv_iconst (v := 2) hx hb dX0_run_167 (by decide) ?_
    refine lv_iconst (v := 1) hx hb dX0_run_168 (by decide) ?_
    refine lv_iload_n hx hb dX0_run_169 rfl (lv_at hl 3 rfl) ?_
    refine cV_i (As := [.int 2, .int 1, .int p3]) (rest := [.int r_4]) ⟨hx, hb, hml, hown, hg⟩ (k_S_0_2 l D cs A ad fa fq rv (va_up v 22 o_v22_5) (va_up a 38 o_a38_6) w fv fp  1 p3 hkn (show 0 ≤ o_v22_5.toInt by first | omega | decide) (show o_v22_5.toInt ≤ 23 by first | omega | decide) (show 0 ≤ p3.toInt by first | omega | decide) (show p3.toInt ≤ 37 by first | omega | decide) (show 0 ≤ (v 23).toInt by first | omega | decide) (show (v 23).toInt ≤ 49 by first | omega | decide) ia37_0 (show 0 ≤ o_v22_5.toInt by first | omega | decide) (show o_v22_5.toInt ≤ 1000 by first | omega | decide)) ca_X0_self q4_135 ⟨rfl, rfl⟩ ⟨Nat.le_of_ble_eq_true rfl, Nat.le_of_ble_eq_true rfl⟩ (rc_acts hK hP) hK hP hD hS hZ rfl hl.1 rfl (Nat.le_of_ble_eq_true rfl) ⟨Nat.zero_le _, Nat.zero_le _⟩ dX0_run_170 (fun r_9 z_12 H locs wr_9 hP hD hS => ?_)
    obtain ⟨o_v22_10, o_a38_11⟩ := z_12
    have hP : va_P D vwCl (CW cs ad fa fq rv (va_up v 22 o_v22_10) (va_up a 38 o_a38_11) w fv fp) H := hP
    have hD : va_D A (CW cs ad fa fq rv (va_up v 22 o_v22_10) (va_up a 38 o_a38_11) w fv fp) := hD
    obtain ⟨wr_9_0, wr_9_1, wr_9_2, wr_9_3, wr_9_4⟩ : (o_v22_10.toInt = o_v22_5.toInt + 1) ∧ (o_a38_11 = TRW o_a38_6 o_v22_5.toInt.toNat [11]) ∧ (r_9 = ((1 : Int32) ^^^ (v 23))) ∧ (0 ≤ o_v22_10.toInt) ∧ (o_v22_10.toInt ≤ 1000) := wr_9
    have kt_13 : o_a38_11 = TRW (a 38) (v 22).toInt.toNat [2, 10, 1, 11] := by rw [wr_9_1, kt_8, show (o_v22_5).toInt.toNat = (v 22).toInt.toNat + 3 from by omega]; rfl
    refine lv_isub hx hb dX0_run_173 ?_
    refine lv_topi (fun x_14 ex_14 => ?_)
    exact W.iret (v := x_14) hx hb hr (fun tt ht hW => ⟨⟨x_14, ⟨o_v22_10, o_a38_11⟩, rfl, ⟨(by first | rfl | omega | trivial | assumption | (dsimp only; first | omega | assumption)), (by (try dsimp only); first | assumption | rfl), (by simp only [ex_14, wr_9_2, wr_4_2, ex_2]), (show 0 ≤ o_v22_10.toInt by first | omega | assumption), (show o_v22_10.toInt ≤ 1000 by first | omega | assumption)⟩, by rw [ht]; exact hP, hD⟩, hS.F ht⟩) hS.2.2 dX0_run_174
set_option maxHeartbeats 4000000 in
set_option maxRecDepth 100000 in
theorem k_F_0_0_3 (l : Launch) (D : va_G) (cs : Nat → ClassId) (A : Nat → Prop) (ad fa fq rv : Nat → Nat) (v : Nat → Int32) (a : Nat → Nat → Int32) (w : Nat → Nat → Int64) (fv fp : Nat → Nat → Int32)  (p3 : Int32) (p4 : Int32) (hkn : (a 37) (v 23).toNatClampNeg = 0) (hr0 : 0 ≤ (v 22).toInt) (hr1 : (v 22).toInt ≤ 20) (hd0 : 0 ≤ p4.toInt) (hd1 : p4.toInt ≤ 35) (iv22_0 : 0 ≤ (v 22).toInt) (iv22_1 : (v 22).toInt ≤ 1000) (iv23_0 : 0 ≤ (v 23).toInt) (iv23_1 : (v 23).toInt ≤ 49) (ia37_0 : AB 0 7 (a 37)) : Met l yX0_from (Cond.code yX0_from cX0_from 8 (some .int) :: gw) ({ frames := 7, cells := 0, slots := 0, locals := 169 }) (va_Pc [.ref (ad 9), .int 0, .int 3, .int p3, .int p4] (XPre D (TY cs) (CW cs ad fa fq rv v a w fv fp) A)) (va_Qi (fun (r : Int32) (z : Int32 × (Nat → Int32)) => (z.1.toInt = (v 22).toInt + 4) ∧ (z.2 = TRW (a 38) (v 22).toInt.toNat [2, 10, 1, 11]) ∧ (r = (((p3 + (v 23)) * 2) - ((1 : Int32) ^^^ (v 23)))) ∧ (0 ≤ z.1.toInt) ∧ (z.1.toInt ≤ 1000)) (XPo D (fun (z : Int32 × (Nat → Int32)) => CW cs ad fa fq rv (va_up v 22 z.1) (va_up a 38 z.2) w fv fp) A) A) 0 0 A := by
  refine Met.ofW (cc := cX0_from) (maxL := 8) (ret := (some .int)) (by decide) rfl ?_
  intro p e s m args below meth c s₁ B hml hv
  obtain ⟨rfl, hP, hK, hD, hZ⟩ := hv
  have hx := B.exec
  have hb := B.bytes
  have hr := B.returns
  have hts := atoms_spec (ws := (Cond.code yX0_from cX0_from 8 (some .int) :: gw)) B.pre
  have hg : ∀ w ∈ gw, w.before ([.ref (ad 9), .int 0, .int 3, .int p3, .int p4] : List Value).toArray s = true := fun w h => hts w (List.mem_cons_of_mem _ h)
  have hown : s.vm.findClass RX0 = some m.cls := findClass_of_methodNamed B.named
  have hlocks := B.notSynchronized
  have hS : va_S A s.heap s.heap [] := va_S.rf
  have hP : va_P D vwCl (CW cs ad fa fq rv v a w fv fp) s.heap := hP
  have hl := lv_entry ([.ref (ad 9), .int 0, .int 3, .int p3, .int p4]) (n := 8) (Nat.le_of_ble_eq_true rfl)
  rw [lg_entry_eq]
  generalize (lg_sl ([.ref (ad 9), .int 0, .int 3, .int p3, .int p4]) ++ List.replicate (8 - (lg_sl ([.ref (ad 9), .int 0, .int 3, .int p3, .int p4])).length) Slot.unset).toArray = ls at hl ⊢
  have hl : lv_has ls 8 [(0, .ref (ad 9)), (1, .int 0), (2, .int 3), (3, .int p3), (4, .int p4)] := hl
  refine lv_iload_n hx hb dX0_from_0 rfl (lv_at hl 1 rfl) ?_
  refine lv_istore (lv' := [(5, .int 0), (0, .ref (ad 9)), (1, .int 0), (2, .int 3), (3, .int p3), (4, .int p4)]) hx hb dX0_from_1 hl (by decide) rfl (fun ls hl => ?_)
  refine lv_iconst (v := 0) hx hb dX0_from_3 (by decide) ?_
  refine lv_istore (lv' := [(6, .int 0), (5, .int 0), (0, .ref (ad 9)), (1, .int 0), (2, .int 3), (3, .int p3), (4, .int p4)]) hx hb dX0_from_4 hl (by decide) rfl (fun ls hl => ?_)
  refine lv_iload hx hb dX0_from_6 (lv_at hl 0 rfl) ?_
  obtain ⟨t0, t1, t2, ⟨a0, b0⟩, ⟨a1, b1⟩, ⟨a2, b2⟩⟩ := id hZ
  refine va_gets hx hb a2 hS hown (hg _ q4_143) (fun _ h9 => h9) dX0_from_8 ?_
  refine va_tlen hx hb b2 hS (v := 8) rfl dX0_from_11 ?_
  refine lv_icmp_ge (tgt := 73) hx hb dX0_from_12 (by decide) (fun c_1 => absurd c_1 (by decide)) (fun c_1 => ?_)
  refine lv_iload hx hb dX0_from_15 (lv_at hl 1 rfl) ?_
  refine cS_p (As := [.int 0]) (rest := []) ⟨hx, hb, hml, hown, hg⟩ (k_IK_1 l    ) ca_X0_isKind q4_145 ⟨rfl, rfl⟩ ⟨Nat.le_of_ble_eq_true rfl, Nat.le_of_ble_eq_true rfl⟩ rfl hl.1 rfl (Nat.le_of_ble_eq_true rfl) ⟨Nat.zero_le _, Nat.zero_le _⟩ dX0_from_17 (fun r_2 wr_2 => ?_)
  have wr_2 : r_2.toInt = 1 := wr_2
  refine lv_if_eq (tgt := 73) hx hb dX0_from_20 (by decide) (fun c_3 => ?_) (fun c_3 => ?_)
  ·
    have kc_3 : r_2.toInt = (0 : Int) := i_eq c_3
    exfalso; omega
  ·
    have kc_3 : r_2.toInt ≠ (0 : Int) := i_ne c_3
    refine lv_iload hx hb dX0_from_23 (lv_at hl 1 rfl) ?_
    refine lv_iload_n hx hb dX0_from_25 rfl (lv_at hl 4 rfl) ?_
    refine cS_p (As := [.int 0, .int 3]) (rest := []) ⟨hx, hb, hml, hown, hg⟩ (k_B_0_3 l    ) ca_X0_bodyOf q4_146 ⟨rfl, rfl⟩ ⟨Nat.le_of_ble_eq_true rfl, Nat.le_of_ble_eq_true rfl⟩ rfl hl.1 rfl (Nat.le_of_ble_eq_true rfl) ⟨Nat.zero_le _, Nat.zero_le _⟩ dX0_from_26 (fun r_4 wr_4 => ?_)
    have wr_4 : r_4.toInt = 2 := wr_4
    have el_5 : r_4 = 2 := i_inj (wr_4.trans (by rfl))
    subst el_5
    refine lv_istore (lv' := [(7, .int 2), (6, .int 0), (5, .int 0), (0, .ref (ad 9)), (1, .int 0), (2, .int 3), (3, .int p3), (4, .int p4)]) hx hb dX0_from_29 hl (by decide) rfl (fun ls hl => ?_)
    refine lv_iload hx hb dX0_from_31 (lv_at hl 0 rfl) ?_
    refine lv_if_eq (tgt := 59) hx hb dX0_from_33 (by decide) (fun c_6 => absurd c_6 (by decide)) (fun c_6 => ?_)
    refine lv_iload hx hb dX0_from_36 (lv_at hl 7 rfl) ?_
    refine lv_bipush (v := 40) hx hb dX0_from_38 (by decide) ?_
    refine lv_icmp_ge (tgt := 57) hx hb dX0_from_40 (by decide) (fun c_7 => ?_) (fun c_7 => ?_)
    ·
      have kc_7 : (40 : Int) ≤ p4.toInt := i_le c_7
      exfalso; omega
    ·
      have kc_7 : p4.toInt < (40 : Int) := i_nle c_7
      refine lv_aload_n hx hb dX0_from_43 rfl (lv_at hl 3 rfl) ?_
      refine lv_iload hx hb dX0_from_44 (lv_at hl 0 rfl) ?_
      refine lv_iload_n hx hb dX0_from_46 rfl (lv_at hl 6 rfl) ?_
      refine lv_iload hx hb dX0_from_47 (lv_at hl 7 rfl) ?_
      refine lv_iconst (v := 1) hx hb dX0_from_49 (by decide) ?_
      refine lv_iadd hx hb dX0_from_50 ?_
      refine lv_topi (fun x_8 ex_8 => ?_)
      have fx_8 : x_8.toInt = p4.toInt + (1 : Int) := by rw [ex_8]; exact i_add (by first | omega | (show (_ : Int) ≤ p4.toInt + (1 : Int); omega)) (by first | omega | (show p4.toInt + (1 : Int) ≤ (_ : Int); omega))
      refine cV_i (As := [.int 2, .int p3, .int x_8]) (rest := []) ⟨hx, hb, hml, hown, hg⟩ (k_R_0_2 l D cs A ad fa fq rv v a w fv fp  p3 x_8 hkn (show 0 ≤ (v 22).toInt by first | omega | decide) (show (v 22).toInt ≤ 20 by first | omega | decide) (show 0 ≤ x_8.toInt by first | omega | decide) (show x_8.toInt ≤ 36 by first | omega | decide) (show 0 ≤ (v 22).toInt by first | omega | decide) (show (v 22).toInt ≤ 1000 by first | omega | decide) (show 0 ≤ (v 23).toInt by first | omega | decide) (show (v 23).toInt ≤ 49 by first | omega | decide) ia37_0) ca_X0_run q4_149 ⟨rfl, rfl⟩ ⟨Nat.le_of_ble_eq_true rfl, Nat.le_of_ble_eq_true rfl⟩ (rc_acts hK hP) hK hP hD hS hZ rfl hl.1 rfl (Nat.le_of_ble_eq_true rfl) ⟨Nat.zero_le _, Nat.zero_le _⟩ dX0_from_51 (fun r_9 z_12 H locs wr_9 hP hD hS => ?_)
      obtain ⟨o_v22_10, o_a38_11⟩ := z_12
      have hP : va_P D vwCl (CW cs ad fa fq rv (va_up v 22 o_v22_10) (va_up a 38 o_a38_11) w fv fp) H := hP
      have hD : va_D A (CW cs ad fa fq rv (va_up v 22 o_v22_10) (va_up a 38 o_a38_11) w fv fp) := hD
      obtain ⟨wr_9_0, wr_9_1, wr_9_2, wr_9_3, wr_9_4⟩ : (o_v22_10.toInt = (v 22).toInt + 4) ∧ (o_a38_11 = TRW (a 38) (v 22).toInt.toNat [2, 10, 1, 11]) ∧ (r_9 = (((p3 + (v 23)) * 2) - ((1 : Int32) ^^^ (v 23)))) ∧ (0 ≤ o_v22_10.toInt) ∧ (o_v22_10.toInt ≤ 1000) := wr_9
      have kt_13 : o_a38_11 = TRW (a 38) (v 22).toInt.toNat [2, 10, 1, 11] := by rw [wr_9_1]
      refine lv_goto (tgt := 58) hx hb dX0_from_54 (by decide) ?_
      exact W.iret (v := r_9) hx hb hr (fun tt ht hW => ⟨⟨r_9, ⟨o_v22_10, o_a38_11⟩, rfl, ⟨(by first | rfl | omega | trivial | assumption | (dsimp only; first | omega | assumption)), (by (try dsimp only); first | assumption | rfl), (by simp only [wr_9_2, ex_8]), (show 0 ≤ o_v22_10.toInt by first | omega | assumption), (show o_v22_10.toInt ≤ 1000 by first | omega | assumption)⟩, by rw [ht]; exact hP, hD⟩, hS.F ht⟩) hS.2.2 dX0_from_58
set_option maxHeartbeats 4000000 in
set_option maxRecDepth 100000 in
theorem k_S_0_3 (l : Launch) (D : va_G) (cs : Nat → ClassId) (A : Nat → Prop) (ad fa fq rv : Nat → Nat) (v : Nat → Int32) (a : Nat → Nat → Int32) (w : Nat → Nat → Int64) (fv fp : Nat → Nat → Int32)  (p2 : Int32) (p3 : Int32) (hkn : (a 37) (v 23).toNatClampNeg = 0) (hr0 : 0 ≤ (v 22).toInt) (hr1 : (v 22).toInt ≤ 20) (hd0 : 0 ≤ p3.toInt) (hd1 : p3.toInt ≤ 35) (iv23_0 : 0 ≤ (v 23).toInt) (iv23_1 : (v 23).toInt ≤ 49) (ia37_0 : AB 0 7 (a 37)) (iv22_0 : 0 ≤ (v 22).toInt) (iv22_1 : (v 22).toInt ≤ 1000) : Met l yX0_self (Cond.code yX0_self cX0_self 4 (some .int) :: gw) ({ frames := 8, cells := 0, slots := 0, locals := 196 }) (va_Pc [.ref (ad 9), .int 3, .int p2, .int p3] (XPre D (TY cs) (CW cs ad fa fq rv v a w fv fp) A)) (va_Qi (fun (r : Int32) (z : Int32 × (Nat → Int32)) => (z.1.toInt = (v 22).toInt + 4) ∧ (z.2 = TRW (a 38) (v 22).toInt.toNat [2, 10, 1, 11]) ∧ (r = (((p2 + (v 23)) * 2) - ((1 : Int32) ^^^ (v 23)))) ∧ (0 ≤ z.1.toInt) ∧ (z.1.toInt ≤ 1000)) (XPo D (fun (z : Int32 × (Nat → Int32)) => CW cs ad fa fq rv (va_up v 22 z.1) (va_up a 38 z.2) w fv fp) A) A) 0 0 A := by
  refine Met.ofW (cc := cX0_self) (maxL := 4) (ret := (some .int)) (by decide) rfl ?_
  intro p e s m args below meth c s₁ B hml hv
  obtain ⟨rfl, hP, hK, hD, hZ⟩ := hv
  have hx := B.exec
  have hb := B.bytes
  have hr := B.returns
  have hts := atoms_spec (ws := (Cond.code yX0_self cX0_self 4 (some .int) :: gw)) B.pre
  have hg : ∀ w ∈ gw, w.before ([.ref (ad 9), .int 3, .int p2, .int p3] : List Value).toArray s = true := fun w h => hts w (List.mem_cons_of_mem _ h)
  have hown : s.vm.findClass RX0 = some m.cls := findClass_of_methodNamed B.named
  have hlocks := B.notSynchronized
  have hS : va_S A s.heap s.heap [] := va_S.rf
  have hP : va_P D vwCl (CW cs ad fa fq rv v a w fv fp) s.heap := hP
  have hl := lv_entry ([.ref (ad 9), .int 3, .int p2, .int p3]) (n := 4) (Nat.le_of_ble_eq_true rfl)
  rw [lg_entry_eq]
  generalize (lg_sl ([.ref (ad 9), .int 3, .int p2, .int p3]) ++ List.replicate (4 - (lg_sl ([.ref (ad 9), .int 3, .int p2, .int p3])).length) Slot.unset).toArray = ls at hl ⊢
  have hl : lv_has ls 4 [(0, .ref (ad 9)), (1, .int 3), (2, .int p2), (3, .int p3)] := hl
  refine lv_aload_n hx hb dX0_self_0 rfl (lv_at hl 0 rfl) ?_
  refine lv_aload_n hx hb dX0_self_1 rfl (lv_at hl 0 rfl) ?_
  refine gf_acts_kind hx hb hg hown hK hP rfl (hg _ q1_83) dX0_self_2 ?_
  refine lv_aload_n hx hb dX0_self_5 rfl (lv_at hl 0 rfl) ?_
  refine gf_acts_number hx hb hg hown hK hP (x := (v 23)) rfl (hg _ q1_90) dX0_self_6 ?_
  refine ld_Akind hx hb hK hP (i_in (by omega) (by omega)) dX0_self_9 ?_
  refine lv_topi (fun x_1 ex_1 => ?_)
  have ex_1 : x_1 = (a 37) (v 23).toNatClampNeg := ex_1
  have hx_1 : x_1.toInt = ((a 37) (v 23).toNatClampNeg).toInt := by rw [ex_1]
  have bx_1 := ia37_0 (v 23).toNatClampNeg
  rw [← ex_1] at bx_1
  have fx_1 : x_1 = 0 := by rw [ex_1]; exact hkn
  subst fx_1
  refine lv_iload_n hx hb dX0_self_10 rfl (lv_at hl 1 rfl) ?_
  refine lv_iload_n hx hb dX0_self_11 rfl (lv_at hl 2 rfl) ?_
  refine lv_iload_n hx hb dX0_self_12 rfl (lv_at hl 3 rfl) ?_
  refine cV_i (As := [.int 0, .int 3, .int p2, .int p3]) (rest := []) ⟨hx, hb, hml, hown, hg⟩ (k_F_0_0_3 l D cs A ad fa fq rv v a w fv fp  p2 p3 hkn (show 0 ≤ (v 22).toInt by first | omega | decide) (show (v 22).toInt ≤ 20 by first | omega | decide) (show 0 ≤ p3.toInt by first | omega | decide) (show p3.toInt ≤ 35 by first | omega | decide) (show 0 ≤ (v 22).toInt by first | omega | decide) (show (v 22).toInt ≤ 1000 by first | omega | decide) (show 0 ≤ (v 23).toInt by first | omega | decide) (show (v 23).toInt ≤ 49 by first | omega | decide) ia37_0) ca_X0_from q4_139 ⟨rfl, rfl⟩ ⟨Nat.le_of_ble_eq_true rfl, Nat.le_of_ble_eq_true rfl⟩ (rc_acts hK hP) hK hP hD hS hZ rfl hl.1 rfl (Nat.le_of_ble_eq_true rfl) ⟨Nat.zero_le _, Nat.zero_le _⟩ dX0_self_13 (fun r_2 z_5 H locs wr_2 hP hD hS => ?_)
  obtain ⟨o_v22_3, o_a38_4⟩ := z_5
  have hP : va_P D vwCl (CW cs ad fa fq rv (va_up v 22 o_v22_3) (va_up a 38 o_a38_4) w fv fp) H := hP
  have hD : va_D A (CW cs ad fa fq rv (va_up v 22 o_v22_3) (va_up a 38 o_a38_4) w fv fp) := hD
  obtain ⟨wr_2_0, wr_2_1, wr_2_2, wr_2_3, wr_2_4⟩ : (o_v22_3.toInt = (v 22).toInt + 4) ∧ (o_a38_4 = TRW (a 38) (v 22).toInt.toNat [2, 10, 1, 11]) ∧ (r_2 = (((p2 + (v 23)) * 2) - ((1 : Int32) ^^^ (v 23)))) ∧ (0 ≤ o_v22_3.toInt) ∧ (o_v22_3.toInt ≤ 1000) := wr_2
  have kt_6 : o_a38_4 = TRW (a 38) (v 22).toInt.toNat [2, 10, 1, 11] := by rw [wr_2_1]
  exact W.iret (v := r_2) hx hb hr (fun tt ht hW => ⟨⟨r_2, ⟨o_v22_3, o_a38_4⟩, rfl, ⟨(by first | rfl | omega | trivial | assumption | (dsimp only; first | omega | assumption)), (by (try dsimp only); first | assumption | rfl), (by simp only [wr_2_2]), (show 0 ≤ o_v22_3.toInt by first | omega | assumption), (show o_v22_3.toInt ≤ 1000 by first | omega | assumption)⟩, by rw [ht]; exact hP, hD⟩, hS.F ht⟩) hS.2.2 dX0_self_16
set_option maxHeartbeats 4000000 in
set_option maxRecDepth 100000 in
theorem k_R_x_20 (l : Launch) (D : va_G) (cs : Nat → ClassId) (A : Nat → Prop) (ad fa fq rv : Nat → Nat) (v : Nat → Int32) (a : Nat → Nat → Int32) (w : Nat → Nat → Int64) (fv fp : Nat → Nat → Int32)  (p2 : Int32) (p3 : Int32) (hr0 : 0 ≤ (v 22).toInt) (hr1 : (v 22).toInt ≤ 22) (hd0 : 0 ≤ p3.toInt) (hd1 : p3.toInt ≤ 37) (iv22_0 : 0 ≤ (v 22).toInt) (iv22_1 : (v 22).toInt ≤ 1000) (iv23_0 : 0 ≤ (v 23).toInt) (iv23_1 : (v 23).toInt ≤ 49) : Met l yX0_run (Cond.code yX0_run cX0_run 4 (some .int) :: gw) ({ frames := 2, cells := 0, slots := 0, locals := 50 }) (va_Pc [.ref (ad 9), .int 20, .int p2, .int p3] (XPre D (TY cs) (CW cs ad fa fq rv v a w fv fp) A)) (va_Qi (fun (r : Int32) (z : Int32 × (Nat → Int32)) => (z.1.toInt = (v 22).toInt + 2) ∧ (z.2 = TRW (a 38) (v 22).toInt.toNat [20, 1]) ∧ (r = ((p2 + (v 23)) + 3)) ∧ (0 ≤ z.1.toInt) ∧ (z.1.toInt ≤ 1000)) (XPo D (fun (z : Int32 × (Nat → Int32)) => CW cs ad fa fq rv (va_up v 22 z.1) (va_up a 38 z.2) w fv fp) A) A) 0 0 A := by
  refine Met.ofW (cc := cX0_run) (maxL := 4) (ret := (some .int)) (by decide) rfl ?_
  intro p e s m args below meth c s₁ B hml hv
  obtain ⟨rfl, hP, hK, hD, hZ⟩ := hv
  have hx := B.exec
  have hb := B.bytes
  have hr := B.returns
  have hts := atoms_spec (ws := (Cond.code yX0_run cX0_run 4 (some .int) :: gw)) B.pre
  have hg : ∀ w ∈ gw, w.before ([.ref (ad 9), .int 20, .int p2, .int p3] : List Value).toArray s = true := fun w h => hts w (List.mem_cons_of_mem _ h)
  have hown : s.vm.findClass RX0 = some m.cls := findClass_of_methodNamed B.named
  have hlocks := B.notSynchronized
  have hS : va_S A s.heap s.heap [] := va_S.rf
  have hP : va_P D vwCl (CW cs ad fa fq rv v a w fv fp) s.heap := hP
  have hl := lv_entry ([.ref (ad 9), .int 20, .int p2, .int p3]) (n := 4) (Nat.le_of_ble_eq_true rfl)
  rw [lg_entry_eq]
  generalize (lg_sl ([.ref (ad 9), .int 20, .int p2, .int p3]) ++ List.replicate (4 - (lg_sl ([.ref (ad 9), .int 20, .int p2, .int p3])).length) Slot.unset).toArray = ls at hl ⊢
  have hl : lv_has ls 4 [(0, .ref (ad 9)), (1, .int 20), (2, .int p2), (3, .int p3)] := hl
  refine lv_aload_n hx hb dX0_run_0 rfl (lv_at hl 0 rfl) ?_
  refine gf_acts_ran hx hb hg hown hK hP (x := (v 22)) rfl (hg _ q1_88) dX0_run_1 ?_
  refine lv_bipush (v := 24) hx hb dX0_run_4 (by decide) ?_
  refine lv_icmp_ge (tgt := 19) hx hb dX0_run_6 (by decide) (fun c_1 => ?_) (fun c_1 => ?_)
  ·
    have kc_1 : (24 : Int) ≤ (v 22).toInt := i_le c_1
    exfalso; omega
  ·
    have kc_1 : (v 22).toInt < (24 : Int) := i_nle c_1
    refine lv_aload_n hx hb dX0_run_9 rfl (lv_at hl 0 rfl) ?_
    refine gf_acts_traced hx hb hg hown hK hP rfl (hg _ q1_86) dX0_run_10 ?_
    refine lv_aload_n hx hb dX0_run_13 rfl (lv_at hl 0 rfl) ?_
    refine gf_acts_ran hx hb hg hown hK hP (x := (v 22)) rfl (hg _ q1_88) dX0_run_14 ?_
    refine lv_iload_n hx hb dX0_run_17 rfl (lv_at hl 1 rfl) ?_
    refine st_Atraced hx hb hK hP hD hS (i_in (by omega) (by omega)) dX0_run_18 (fun H locs hP hD hS => ?_)
    refine lv_aload_n hx hb dX0_run_19 rfl (lv_at hl 0 rfl) ?_
    refine lv_dup hx hb dX0_run_20 rfl ?_
    refine gf_acts_ran hx hb hg hown hK hP (x := (v 22)) rfl (hg _ q1_88) dX0_run_21 ?_
    refine lv_iconst (v := 1) hx hb dX0_run_24 (by decide) ?_
    refine lv_iadd hx hb dX0_run_25 ?_
    refine lv_topi (fun x_2 ex_2 => ?_)
    have fx_2 : x_2.toInt = (v 22).toInt + (1 : Int) := by rw [ex_2]; exact i_add (by first | omega | (show (_ : Int) ≤ (v 22).toInt + (1 : Int); omega)) (by first | omega | (show (v 22).toInt + (1 : Int) ≤ (_ : Int); omega))
    refine pf_acts_ran hx hb hg hown hK hP hD hS (hg _ q1_88) dX0_run_26 (fun H locs hP hD hS => ?_)
    refine lv_iload_n hx hb dX0_run_29 rfl (lv_at hl 1 rfl) ?_
    refine lv_lookup (tgt := 192) hx hb dX0_run_30 (by decide) (off := 162) (by decide) (by decide) ?_
    refine lv_aload_n hx hb dX0_run_192 rfl (lv_at hl 0 rfl) ?_
    obtain ⟨t0, t1, t2, ⟨a0, b0⟩, ⟨a1, b1⟩, ⟨a2, b2⟩⟩ := id hZ
    refine va_gets hx hb a2 hS hown (hg _ q4_143) (fun _ h9 => h9) dX0_run_193 ?_
    refine lv_iconst (v := 1) hx hb dX0_run_196 (by decide) ?_
    refine va_ti hx hb b2 hS (i_in (by decide) (by decide)) (v := .int 0) rfl dX0_run_197 ?_
    refine lv_iconst (v := 0) hx hb dX0_run_198 (by decide) ?_
    refine lv_iload_n hx hb dX0_run_199 rfl (lv_at hl 2 rfl) ?_
    refine lv_iload_n hx hb dX0_run_200 rfl (lv_at hl 3 rfl) ?_
    refine cV_i (As := [.int 0, .int 0, .int p2, .int p3]) (rest := []) ⟨hx, hb, hml, hown, hg⟩ (k_F_x_0_0 l D cs A ad fa fq rv (va_up v 22 x_2) (va_up a 38 (upd (a 38) (v 22).toNatClampNeg 20)) w fv fp  p2 p3 (show 0 ≤ x_2.toInt by first | omega | decide) (show x_2.toInt ≤ 23 by first | omega | decide) (show 0 ≤ p3.toInt by first | omega | decide) (show p3.toInt ≤ 37 by first | omega | decide) (show 0 ≤ x_2.toInt by first | omega | decide) (show x_2.toInt ≤ 1000 by first | omega | decide) (show 0 ≤ (v 23).toInt by first | omega | decide) (show (v 23).toInt ≤ 49 by first | omega | decide)) ca_X0_from q4_139 ⟨rfl, rfl⟩ ⟨Nat.le_of_ble_eq_true rfl, Nat.le_of_ble_eq_true rfl⟩ (rc_acts hK hP) hK hP hD hS hZ rfl hl.1 rfl (Nat.le_of_ble_eq_true rfl) ⟨Nat.zero_le _, Nat.zero_le _⟩ dX0_run_201 (fun r_4 z_7 H locs wr_4 hP hD hS => ?_)
    obtain ⟨o_v22_5, o_a38_6⟩ := z_7
    have hP : va_P D vwCl (CW cs ad fa fq rv (va_up v 22 o_v22_5) (va_up a 38 o_a38_6) w fv fp) H := hP
    have hD : va_D A (CW cs ad fa fq rv (va_up v 22 o_v22_5) (va_up a 38 o_a38_6) w fv fp) := hD
    obtain ⟨wr_4_0, wr_4_1, wr_4_2, wr_4_3, wr_4_4⟩ : (o_v22_5.toInt = x_2.toInt + 1) ∧ (o_a38_6 = TRW (upd (a 38) (v 22).toNatClampNeg 20) x_2.toInt.toNat [1]) ∧ (r_4 = (p2 + (v 23))) ∧ (0 ≤ o_v22_5.toInt) ∧ (o_v22_5.toInt ≤ 1000) := wr_4
    have kt_8 : o_a38_6 = TRW (a 38) (v 22).toInt.toNat [20, 1] := by rw [wr_4_1, show (x_2).toInt.toNat = (v 22).toInt.toNat + 1 from by omega]; rfl
    refine lv_iconst (v := 3) hx hb dX0_run_204 (by decide) ?_
    refine lv_iadd hx hb dX0_run_205 ?_
    refine lv_topi (fun x_9 ex_9 => ?_)
    exact W.iret (v := x_9) hx hb hr (fun tt ht hW => ⟨⟨x_9, ⟨o_v22_5, o_a38_6⟩, rfl, ⟨(by first | rfl | omega | trivial | assumption | (dsimp only; first | omega | assumption)), (by (try dsimp only); first | assumption | rfl), (by simp only [ex_9, wr_4_2, ex_2]), (show 0 ≤ o_v22_5.toInt by first | omega | assumption), (show o_v22_5.toInt ≤ 1000 by first | omega | assumption)⟩, by rw [ht]; exact hP, hD⟩, hS.F ht⟩) hS.2.2 dX0_run_206
set_option maxHeartbeats 4000000 in
set_option maxRecDepth 100000 in
theorem k_F_x_1_0 (l : Launch) (D : va_G) (cs : Nat → ClassId) (A : Nat → Prop) (ad fa fq rv : Nat → Nat) (v : Nat → Int32) (a : Nat → Nat → Int32) (w : Nat → Nat → Int64) (fv fp : Nat → Nat → Int32)  (p3 : Int32) (p4 : Int32) (hr0 : 0 ≤ (v 22).toInt) (hr1 : (v 22).toInt ≤ 22) (hd0 : 0 ≤ p4.toInt) (hd1 : p4.toInt ≤ 36) (iv22_0 : 0 ≤ (v 22).toInt) (iv22_1 : (v 22).toInt ≤ 1000) (iv23_0 : 0 ≤ (v 23).toInt) (iv23_1 : (v 23).toInt ≤ 49) : Met l yX0_from (Cond.code yX0_from cX0_from 8 (some .int) :: gw) ({ frames := 3, cells := 0, slots := 0, locals := 73 }) (va_Pc [.ref (ad 9), .int 1, .int 0, .int p3, .int p4] (XPre D (TY cs) (CW cs ad fa fq rv v a w fv fp) A)) (va_Qi (fun (r : Int32) (z : Int32 × (Nat → Int32)) => (z.1.toInt = (v 22).toInt + 2) ∧ (z.2 = TRW (a 38) (v 22).toInt.toNat [20, 1]) ∧ (r = ((p3 + (v 23)) + 3)) ∧ (0 ≤ z.1.toInt) ∧ (z.1.toInt ≤ 1000)) (XPo D (fun (z : Int32 × (Nat → Int32)) => CW cs ad fa fq rv (va_up v 22 z.1) (va_up a 38 z.2) w fv fp) A) A) 0 0 A := by
  refine Met.ofW (cc := cX0_from) (maxL := 8) (ret := (some .int)) (by decide) rfl ?_
  intro p e s m args below meth c s₁ B hml hv
  obtain ⟨rfl, hP, hK, hD, hZ⟩ := hv
  have hx := B.exec
  have hb := B.bytes
  have hr := B.returns
  have hts := atoms_spec (ws := (Cond.code yX0_from cX0_from 8 (some .int) :: gw)) B.pre
  have hg : ∀ w ∈ gw, w.before ([.ref (ad 9), .int 1, .int 0, .int p3, .int p4] : List Value).toArray s = true := fun w h => hts w (List.mem_cons_of_mem _ h)
  have hown : s.vm.findClass RX0 = some m.cls := findClass_of_methodNamed B.named
  have hlocks := B.notSynchronized
  have hS : va_S A s.heap s.heap [] := va_S.rf
  have hP : va_P D vwCl (CW cs ad fa fq rv v a w fv fp) s.heap := hP
  have hl := lv_entry ([.ref (ad 9), .int 1, .int 0, .int p3, .int p4]) (n := 8) (Nat.le_of_ble_eq_true rfl)
  rw [lg_entry_eq]
  generalize (lg_sl ([.ref (ad 9), .int 1, .int 0, .int p3, .int p4]) ++ List.replicate (8 - (lg_sl ([.ref (ad 9), .int 1, .int 0, .int p3, .int p4])).length) Slot.unset).toArray = ls at hl ⊢
  have hl : lv_has ls 8 [(0, .ref (ad 9)), (1, .int 1), (2, .int 0), (3, .int p3), (4, .int p4)] := hl
  refine lv_iload_n hx hb dX0_from_0 rfl (lv_at hl 1 rfl) ?_
  refine lv_istore (lv' := [(5, .int 1), (0, .ref (ad 9)), (1, .int 1), (2, .int 0), (3, .int p3), (4, .int p4)]) hx hb dX0_from_1 hl (by decide) rfl (fun ls hl => ?_)
  refine lv_iconst (v := 0) hx hb dX0_from_3 (by decide) ?_
  refine lv_istore (lv' := [(6, .int 0), (5, .int 1), (0, .ref (ad 9)), (1, .int 1), (2, .int 0), (3, .int p3), (4, .int p4)]) hx hb dX0_from_4 hl (by decide) rfl (fun ls hl => ?_)
  refine lv_iload hx hb dX0_from_6 (lv_at hl 0 rfl) ?_
  obtain ⟨t0, t1, t2, ⟨a0, b0⟩, ⟨a1, b1⟩, ⟨a2, b2⟩⟩ := id hZ
  refine va_gets hx hb a2 hS hown (hg _ q4_143) (fun _ h9 => h9) dX0_from_8 ?_
  refine va_tlen hx hb b2 hS (v := 8) rfl dX0_from_11 ?_
  refine lv_icmp_ge (tgt := 73) hx hb dX0_from_12 (by decide) (fun c_1 => absurd c_1 (by decide)) (fun c_1 => ?_)
  refine lv_iload hx hb dX0_from_15 (lv_at hl 1 rfl) ?_
  refine cS_p (As := [.int 1]) (rest := []) ⟨hx, hb, hml, hown, hg⟩ (k_IK_2 l    ) ca_X0_isKind q4_145 ⟨rfl, rfl⟩ ⟨Nat.le_of_ble_eq_true rfl, Nat.le_of_ble_eq_true rfl⟩ rfl hl.1 rfl (Nat.le_of_ble_eq_true rfl) ⟨Nat.zero_le _, Nat.zero_le _⟩ dX0_from_17 (fun r_2 wr_2 => ?_)
  have wr_2 : r_2.toInt = 1 := wr_2
  refine lv_if_eq (tgt := 73) hx hb dX0_from_20 (by decide) (fun c_3 => ?_) (fun c_3 => ?_)
  ·
    have kc_3 : r_2.toInt = (0 : Int) := i_eq c_3
    exfalso; omega
  ·
    have kc_3 : r_2.toInt ≠ (0 : Int) := i_ne c_3
    refine lv_iload hx hb dX0_from_23 (lv_at hl 1 rfl) ?_
    refine lv_iload_n hx hb dX0_from_25 rfl (lv_at hl 4 rfl) ?_
    refine cS_p (As := [.int 1, .int 0]) (rest := []) ⟨hx, hb, hml, hown, hg⟩ (k_B_1_0 l    ) ca_X0_bodyOf q4_146 ⟨rfl, rfl⟩ ⟨Nat.le_of_ble_eq_true rfl, Nat.le_of_ble_eq_true rfl⟩ rfl hl.1 rfl (Nat.le_of_ble_eq_true rfl) ⟨Nat.zero_le _, Nat.zero_le _⟩ dX0_from_26 (fun r_4 wr_4 => ?_)
    have wr_4 : r_4.toInt = 20 := wr_4
    have el_5 : r_4 = 20 := i_inj (wr_4.trans (by rfl))
    subst el_5
    refine lv_istore (lv' := [(7, .int 20), (6, .int 0), (5, .int 1), (0, .ref (ad 9)), (1, .int 1), (2, .int 0), (3, .int p3), (4, .int p4)]) hx hb dX0_from_29 hl (by decide) rfl (fun ls hl => ?_)
    refine lv_iload hx hb dX0_from_31 (lv_at hl 0 rfl) ?_
    refine lv_if_eq (tgt := 59) hx hb dX0_from_33 (by decide) (fun c_6 => absurd c_6 (by decide)) (fun c_6 => ?_)
    refine lv_iload hx hb dX0_from_36 (lv_at hl 7 rfl) ?_
    refine lv_bipush (v := 40) hx hb dX0_from_38 (by decide) ?_
    refine lv_icmp_ge (tgt := 57) hx hb dX0_from_40 (by decide) (fun c_7 => ?_) (fun c_7 => ?_)
    ·
      have kc_7 : (40 : Int) ≤ p4.toInt := i_le c_7
      exfalso; omega
    ·
      have kc_7 : p4.toInt < (40 : Int) := i_nle c_7
      refine lv_aload_n hx hb dX0_from_43 rfl (lv_at hl 3 rfl) ?_
      refine lv_iload hx hb dX0_from_44 (lv_at hl 0 rfl) ?_
      refine lv_iload_n hx hb dX0_from_46 rfl (lv_at hl 6 rfl) ?_
      refine lv_iload hx hb dX0_from_47 (lv_at hl 7 rfl) ?_
      refine lv_iconst (v := 1) hx hb dX0_from_49 (by decide) ?_
      refine lv_iadd hx hb dX0_from_50 ?_
      refine lv_topi (fun x_8 ex_8 => ?_)
      have fx_8 : x_8.toInt = p4.toInt + (1 : Int) := by rw [ex_8]; exact i_add (by first | omega | (show (_ : Int) ≤ p4.toInt + (1 : Int); omega)) (by first | omega | (show p4.toInt + (1 : Int) ≤ (_ : Int); omega))
      refine cV_i (As := [.int 20, .int p3, .int x_8]) (rest := []) ⟨hx, hb, hml, hown, hg⟩ (k_R_x_20 l D cs A ad fa fq rv v a w fv fp  p3 x_8 (show 0 ≤ (v 22).toInt by first | omega | decide) (show (v 22).toInt ≤ 22 by first | omega | decide) (show 0 ≤ x_8.toInt by first | omega | decide) (show x_8.toInt ≤ 37 by first | omega | decide) (show 0 ≤ (v 22).toInt by first | omega | decide) (show (v 22).toInt ≤ 1000 by first | omega | decide) (show 0 ≤ (v 23).toInt by first | omega | decide) (show (v 23).toInt ≤ 49 by first | omega | decide)) ca_X0_run q4_149 ⟨rfl, rfl⟩ ⟨Nat.le_of_ble_eq_true rfl, Nat.le_of_ble_eq_true rfl⟩ (rc_acts hK hP) hK hP hD hS hZ rfl hl.1 rfl (Nat.le_of_ble_eq_true rfl) ⟨Nat.zero_le _, Nat.zero_le _⟩ dX0_from_51 (fun r_9 z_12 H locs wr_9 hP hD hS => ?_)
      obtain ⟨o_v22_10, o_a38_11⟩ := z_12
      have hP : va_P D vwCl (CW cs ad fa fq rv (va_up v 22 o_v22_10) (va_up a 38 o_a38_11) w fv fp) H := hP
      have hD : va_D A (CW cs ad fa fq rv (va_up v 22 o_v22_10) (va_up a 38 o_a38_11) w fv fp) := hD
      obtain ⟨wr_9_0, wr_9_1, wr_9_2, wr_9_3, wr_9_4⟩ : (o_v22_10.toInt = (v 22).toInt + 2) ∧ (o_a38_11 = TRW (a 38) (v 22).toInt.toNat [20, 1]) ∧ (r_9 = ((p3 + (v 23)) + 3)) ∧ (0 ≤ o_v22_10.toInt) ∧ (o_v22_10.toInt ≤ 1000) := wr_9
      have kt_13 : o_a38_11 = TRW (a 38) (v 22).toInt.toNat [20, 1] := by rw [wr_9_1]
      refine lv_goto (tgt := 58) hx hb dX0_from_54 (by decide) ?_
      exact W.iret (v := r_9) hx hb hr (fun tt ht hW => ⟨⟨r_9, ⟨o_v22_10, o_a38_11⟩, rfl, ⟨(by first | rfl | omega | trivial | assumption | (dsimp only; first | omega | assumption)), (by (try dsimp only); first | assumption | rfl), (by simp only [wr_9_2, ex_8]), (show 0 ≤ o_v22_10.toInt by first | omega | assumption), (show o_v22_10.toInt ≤ 1000 by first | omega | assumption)⟩, by rw [ht]; exact hP, hD⟩, hS.F ht⟩) hS.2.2 dX0_from_58
set_option maxHeartbeats 4000000 in
set_option maxRecDepth 100000 in
theorem k_S_1_0 (l : Launch) (D : va_G) (cs : Nat → ClassId) (A : Nat → Prop) (ad fa fq rv : Nat → Nat) (v : Nat → Int32) (a : Nat → Nat → Int32) (w : Nat → Nat → Int64) (fv fp : Nat → Nat → Int32)  (p2 : Int32) (p3 : Int32) (hkn : (a 37) (v 23).toNatClampNeg = 1) (hr0 : 0 ≤ (v 22).toInt) (hr1 : (v 22).toInt ≤ 22) (hd0 : 0 ≤ p3.toInt) (hd1 : p3.toInt ≤ 36) (iv23_0 : 0 ≤ (v 23).toInt) (iv23_1 : (v 23).toInt ≤ 49) (ia37_0 : AB 0 7 (a 37)) (iv22_0 : 0 ≤ (v 22).toInt) (iv22_1 : (v 22).toInt ≤ 1000) : Met l yX0_self (Cond.code yX0_self cX0_self 4 (some .int) :: gw) ({ frames := 4, cells := 0, slots := 0, locals := 100 }) (va_Pc [.ref (ad 9), .int 0, .int p2, .int p3] (XPre D (TY cs) (CW cs ad fa fq rv v a w fv fp) A)) (va_Qi (fun (r : Int32) (z : Int32 × (Nat → Int32)) => (z.1.toInt = (v 22).toInt + 2) ∧ (z.2 = TRW (a 38) (v 22).toInt.toNat [20, 1]) ∧ (r = ((p2 + (v 23)) + 3)) ∧ (0 ≤ z.1.toInt) ∧ (z.1.toInt ≤ 1000)) (XPo D (fun (z : Int32 × (Nat → Int32)) => CW cs ad fa fq rv (va_up v 22 z.1) (va_up a 38 z.2) w fv fp) A) A) 0 0 A := by
  refine Met.ofW (cc := cX0_self) (maxL := 4) (ret := (some .int)) (by decide) rfl ?_
  intro p e s m args below meth c s₁ B hml hv
  obtain ⟨rfl, hP, hK, hD, hZ⟩ := hv
  have hx := B.exec
  have hb := B.bytes
  have hr := B.returns
  have hts := atoms_spec (ws := (Cond.code yX0_self cX0_self 4 (some .int) :: gw)) B.pre
  have hg : ∀ w ∈ gw, w.before ([.ref (ad 9), .int 0, .int p2, .int p3] : List Value).toArray s = true := fun w h => hts w (List.mem_cons_of_mem _ h)
  have hown : s.vm.findClass RX0 = some m.cls := findClass_of_methodNamed B.named
  have hlocks := B.notSynchronized
  have hS : va_S A s.heap s.heap [] := va_S.rf
  have hP : va_P D vwCl (CW cs ad fa fq rv v a w fv fp) s.heap := hP
  have hl := lv_entry ([.ref (ad 9), .int 0, .int p2, .int p3]) (n := 4) (Nat.le_of_ble_eq_true rfl)
  rw [lg_entry_eq]
  generalize (lg_sl ([.ref (ad 9), .int 0, .int p2, .int p3]) ++ List.replicate (4 - (lg_sl ([.ref (ad 9), .int 0, .int p2, .int p3])).length) Slot.unset).toArray = ls at hl ⊢
  have hl : lv_has ls 4 [(0, .ref (ad 9)), (1, .int 0), (2, .int p2), (3, .int p3)] := hl
  refine lv_aload_n hx hb dX0_self_0 rfl (lv_at hl 0 rfl) ?_
  refine lv_aload_n hx hb dX0_self_1 rfl (lv_at hl 0 rfl) ?_
  refine gf_acts_kind hx hb hg hown hK hP rfl (hg _ q1_83) dX0_self_2 ?_
  refine lv_aload_n hx hb dX0_self_5 rfl (lv_at hl 0 rfl) ?_
  refine gf_acts_number hx hb hg hown hK hP (x := (v 23)) rfl (hg _ q1_90) dX0_self_6 ?_
  refine ld_Akind hx hb hK hP (i_in (by omega) (by omega)) dX0_self_9 ?_
  refine lv_topi (fun x_1 ex_1 => ?_)
  have ex_1 : x_1 = (a 37) (v 23).toNatClampNeg := ex_1
  have hx_1 : x_1.toInt = ((a 37) (v 23).toNatClampNeg).toInt := by rw [ex_1]
  have bx_1 := ia37_0 (v 23).toNatClampNeg
  rw [← ex_1] at bx_1
  have fx_1 : x_1 = 1 := by rw [ex_1]; exact hkn
  subst fx_1
  refine lv_iload_n hx hb dX0_self_10 rfl (lv_at hl 1 rfl) ?_
  refine lv_iload_n hx hb dX0_self_11 rfl (lv_at hl 2 rfl) ?_
  refine lv_iload_n hx hb dX0_self_12 rfl (lv_at hl 3 rfl) ?_
  refine cV_i (As := [.int 1, .int 0, .int p2, .int p3]) (rest := []) ⟨hx, hb, hml, hown, hg⟩ (k_F_x_1_0 l D cs A ad fa fq rv v a w fv fp  p2 p3 (show 0 ≤ (v 22).toInt by first | omega | decide) (show (v 22).toInt ≤ 22 by first | omega | decide) (show 0 ≤ p3.toInt by first | omega | decide) (show p3.toInt ≤ 36 by first | omega | decide) (show 0 ≤ (v 22).toInt by first | omega | decide) (show (v 22).toInt ≤ 1000 by first | omega | decide) (show 0 ≤ (v 23).toInt by first | omega | decide) (show (v 23).toInt ≤ 49 by first | omega | decide)) ca_X0_from q4_139 ⟨rfl, rfl⟩ ⟨Nat.le_of_ble_eq_true rfl, Nat.le_of_ble_eq_true rfl⟩ (rc_acts hK hP) hK hP hD hS hZ rfl hl.1 rfl (Nat.le_of_ble_eq_true rfl) ⟨Nat.zero_le _, Nat.zero_le _⟩ dX0_self_13 (fun r_2 z_5 H locs wr_2 hP hD hS => ?_)
  obtain ⟨o_v22_3, o_a38_4⟩ := z_5
  have hP : va_P D vwCl (CW cs ad fa fq rv (va_up v 22 o_v22_3) (va_up a 38 o_a38_4) w fv fp) H := hP
  have hD : va_D A (CW cs ad fa fq rv (va_up v 22 o_v22_3) (va_up a 38 o_a38_4) w fv fp) := hD
  obtain ⟨wr_2_0, wr_2_1, wr_2_2, wr_2_3, wr_2_4⟩ : (o_v22_3.toInt = (v 22).toInt + 2) ∧ (o_a38_4 = TRW (a 38) (v 22).toInt.toNat [20, 1]) ∧ (r_2 = ((p2 + (v 23)) + 3)) ∧ (0 ≤ o_v22_3.toInt) ∧ (o_v22_3.toInt ≤ 1000) := wr_2
  have kt_6 : o_a38_4 = TRW (a 38) (v 22).toInt.toNat [20, 1] := by rw [wr_2_1]
  exact W.iret (v := r_2) hx hb hr (fun tt ht hW => ⟨⟨r_2, ⟨o_v22_3, o_a38_4⟩, rfl, ⟨(by first | rfl | omega | trivial | assumption | (dsimp only; first | omega | assumption)), (by (try dsimp only); first | assumption | rfl), (by simp only [wr_2_2]), (show 0 ≤ o_v22_3.toInt by first | omega | assumption), (show o_v22_3.toInt ≤ 1000 by first | omega | assumption)⟩, by rw [ht]; exact hP, hD⟩, hS.F ht⟩) hS.2.2 dX0_self_16
set_option maxHeartbeats 4000000 in
set_option maxRecDepth 100000 in
theorem k_R_1_10 (l : Launch) (D : va_G) (cs : Nat → ClassId) (A : Nat → Prop) (ad fa fq rv : Nat → Nat) (v : Nat → Int32) (a : Nat → Nat → Int32) (w : Nat → Nat → Int64) (fv fp : Nat → Nat → Int32)  (p2 : Int32) (p3 : Int32) (hkn : (a 37) (v 23).toNatClampNeg = 1) (hr0 : 0 ≤ (v 22).toInt) (hr1 : (v 22).toInt ≤ 21) (hd0 : 0 ≤ p3.toInt) (hd1 : p3.toInt ≤ 36) (iv22_0 : 0 ≤ (v 22).toInt) (iv22_1 : (v 22).toInt ≤ 1000) (iv23_0 : 0 ≤ (v 23).toInt) (iv23_1 : (v 23).toInt ≤ 49) (ia37_0 : AB 0 7 (a 37)) : Met l yX0_run (Cond.code yX0_run cX0_run 4 (some .int) :: gw) ({ frames := 5, cells := 0, slots := 0, locals := 123 }) (va_Pc [.ref (ad 9), .int 10, .int p2, .int p3] (XPre D (TY cs) (CW cs ad fa fq rv v a w fv fp) A)) (va_Qi (fun (r : Int32) (z : Int32 × (Nat → Int32)) => (z.1.toInt = (v 22).toInt + 3) ∧ (z.2 = TRW (a 38) (v 22).toInt.toNat [10, 20, 1]) ∧ (r = (((p2 + (v 23)) + 3) * 2)) ∧ (0 ≤ z.1.toInt) ∧ (z.1.toInt ≤ 1000)) (XPo D (fun (z : Int32 × (Nat → Int32)) => CW cs ad fa fq rv (va_up v 22 z.1) (va_up a 38 z.2) w fv fp) A) A) 0 0 A := by
  refine Met.ofW (cc := cX0_run) (maxL := 4) (ret := (some .int)) (by decide) rfl ?_
  intro p e s m args below meth c s₁ B hml hv
  obtain ⟨rfl, hP, hK, hD, hZ⟩ := hv
  have hx := B.exec
  have hb := B.bytes
  have hr := B.returns
  have hts := atoms_spec (ws := (Cond.code yX0_run cX0_run 4 (some .int) :: gw)) B.pre
  have hg : ∀ w ∈ gw, w.before ([.ref (ad 9), .int 10, .int p2, .int p3] : List Value).toArray s = true := fun w h => hts w (List.mem_cons_of_mem _ h)
  have hown : s.vm.findClass RX0 = some m.cls := findClass_of_methodNamed B.named
  have hlocks := B.notSynchronized
  have hS : va_S A s.heap s.heap [] := va_S.rf
  have hP : va_P D vwCl (CW cs ad fa fq rv v a w fv fp) s.heap := hP
  have hl := lv_entry ([.ref (ad 9), .int 10, .int p2, .int p3]) (n := 4) (Nat.le_of_ble_eq_true rfl)
  rw [lg_entry_eq]
  generalize (lg_sl ([.ref (ad 9), .int 10, .int p2, .int p3]) ++ List.replicate (4 - (lg_sl ([.ref (ad 9), .int 10, .int p2, .int p3])).length) Slot.unset).toArray = ls at hl ⊢
  have hl : lv_has ls 4 [(0, .ref (ad 9)), (1, .int 10), (2, .int p2), (3, .int p3)] := hl
  refine lv_aload_n hx hb dX0_run_0 rfl (lv_at hl 0 rfl) ?_
  refine gf_acts_ran hx hb hg hown hK hP (x := (v 22)) rfl (hg _ q1_88) dX0_run_1 ?_
  refine lv_bipush (v := 24) hx hb dX0_run_4 (by decide) ?_
  refine lv_icmp_ge (tgt := 19) hx hb dX0_run_6 (by decide) (fun c_1 => ?_) (fun c_1 => ?_)
  ·
    have kc_1 : (24 : Int) ≤ (v 22).toInt := i_le c_1
    exfalso; omega
  ·
    have kc_1 : (v 22).toInt < (24 : Int) := i_nle c_1
    refine lv_aload_n hx hb dX0_run_9 rfl (lv_at hl 0 rfl) ?_
    refine gf_acts_traced hx hb hg hown hK hP rfl (hg _ q1_86) dX0_run_10 ?_
    refine lv_aload_n hx hb dX0_run_13 rfl (lv_at hl 0 rfl) ?_
    refine gf_acts_ran hx hb hg hown hK hP (x := (v 22)) rfl (hg _ q1_88) dX0_run_14 ?_
    refine lv_iload_n hx hb dX0_run_17 rfl (lv_at hl 1 rfl) ?_
    refine st_Atraced hx hb hK hP hD hS (i_in (by omega) (by omega)) dX0_run_18 (fun H locs hP hD hS => ?_)
    refine lv_aload_n hx hb dX0_run_19 rfl (lv_at hl 0 rfl) ?_
    refine lv_dup hx hb dX0_run_20 rfl ?_
    refine gf_acts_ran hx hb hg hown hK hP (x := (v 22)) rfl (hg _ q1_88) dX0_run_21 ?_
    refine lv_iconst (v := 1) hx hb dX0_run_24 (by decide) ?_
    refine lv_iadd hx hb dX0_run_25 ?_
    refine lv_topi (fun x_2 ex_2 => ?_)
    have fx_2 : x_2.toInt = (v 22).toInt + (1 : Int) := by rw [ex_2]; exact i_add (by first | omega | (show (_ : Int) ≤ (v 22).toInt + (1 : Int); omega)) (by first | omega | (show (v 22).toInt + (1 : Int) ≤ (_ : Int); omega))
    refine pf_acts_ran hx hb hg hown hK hP hD hS (hg _ q1_88) dX0_run_26 (fun H locs hP hD hS => ?_)
    refine lv_iload_n hx hb dX0_run_29 rfl (lv_at hl 1 rfl) ?_
    refine lv_lookup (tgt := 175) hx hb dX0_run_30 (by decide) (off := 145) (by decide) (by decide) ?_
    refine lv_aload_n hx hb dX0_run_175 rfl (lv_at hl 0 rfl) ?_
    refine lv_iconst (v := 0) hx hb dX0_run_176 (by decide) ?_
    refine lv_iload_n hx hb dX0_run_177 rfl (lv_at hl 2 rfl) ?_
    refine lv_iload_n hx hb dX0_run_178 rfl (lv_at hl 3 rfl) ?_
    refine cV_i (As := [.int 0, .int p2, .int p3]) (rest := []) ⟨hx, hb, hml, hown, hg⟩ (k_S_1_0 l D cs A ad fa fq rv (va_up v 22 x_2) (va_up a 38 (upd (a 38) (v 22).toNatClampNeg 10)) w fv fp  p2 p3 hkn (show 0 ≤ x_2.toInt by first | omega | decide) (show x_2.toInt ≤ 22 by first | omega | decide) (show 0 ≤ p3.toInt by first | omega | decide) (show p3.toInt ≤ 36 by first | omega | decide) (show 0 ≤ (v 23).toInt by first | omega | decide) (show (v 23).toInt ≤ 49 by first | omega | decide) ia37_0 (show 0 ≤ x_2.toInt by first | omega | decide) (show x_2.toInt ≤ 1000 by first | omega | decide)) ca_X0_self q4_135 ⟨rfl, rfl⟩ ⟨Nat.le_of_ble_eq_true rfl, Nat.le_of_ble_eq_true rfl⟩ (rc_acts hK hP) hK hP hD hS hZ rfl hl.1 rfl (Nat.le_of_ble_eq_true rfl) ⟨Nat.zero_le _, Nat.zero_le _⟩ dX0_run_179 (fun r_4 z_7 H locs wr_4 hP hD hS => ?_)
    obtain ⟨o_v22_5, o_a38_6⟩ := z_7
    have hP : va_P D vwCl (CW cs ad fa fq rv (va_up v 22 o_v22_5) (va_up a 38 o_a38_6) w fv fp) H := hP
    have hD : va_D A (CW cs ad fa fq rv (va_up v 22 o_v22_5) (va_up a 38 o_a38_6) w fv fp) := hD
    obtain ⟨wr_4_0, wr_4_1, wr_4_2, wr_4_3, wr_4_4⟩ : (o_v22_5.toInt = x_2.toInt + 2) ∧ (o_a38_6 = TRW (upd (a 38) (v 22).toNatClampNeg 10) x_2.toInt.toNat [20, 1]) ∧ (r_4 = ((p2 + (v 23)) + 3)) ∧ (0 ≤ o_v22_5.toInt) ∧ (o_v22_5.toInt ≤ 1000) := wr_4
    have kt_8 : o_a38_6 = TRW (a 38) (v 22).toInt.toNat [10, 20, 1] := by rw [wr_4_1, show (x_2).toInt.toNat = (v 22).toInt.toNat + 1 from by omega]; rfl
    refine lv_iconst (v := 2) hx hb dX0_run_182 (by decide) ?_
    refine lv_imul hx hb dX0_run_183 ?_
    refine lv_topi (fun x_9 ex_9 => ?_)
    exact W.iret (v := x_9) hx hb hr (fun tt ht hW => ⟨⟨x_9, ⟨o_v22_5, o_a38_6⟩, rfl, ⟨(by first | rfl | omega | trivial | assumption | (dsimp only; first | omega | assumption)), (by (try dsimp only); first | assumption | rfl), (by simp only [ex_9, wr_4_2, ex_2]), (show 0 ≤ o_v22_5.toInt by first | omega | assumption), (show o_v22_5.toInt ≤ 1000 by first | omega | assumption)⟩, by rw [ht]; exact hP, hD⟩, hS.F ht⟩) hS.2.2 dX0_run_184
set_option maxHeartbeats 4000000 in
set_option maxRecDepth 100000 in
theorem k_F_1_1_1 (l : Launch) (D : va_G) (cs : Nat → ClassId) (A : Nat → Prop) (ad fa fq rv : Nat → Nat) (v : Nat → Int32) (a : Nat → Nat → Int32) (w : Nat → Nat → Int64) (fv fp : Nat → Nat → Int32)  (p3 : Int32) (p4 : Int32) (hkn : (a 37) (v 23).toNatClampNeg = 1) (hr0 : 0 ≤ (v 22).toInt) (hr1 : (v 22).toInt ≤ 21) (hd0 : 0 ≤ p4.toInt) (hd1 : p4.toInt ≤ 35) (iv22_0 : 0 ≤ (v 22).toInt) (iv22_1 : (v 22).toInt ≤ 1000) (iv23_0 : 0 ≤ (v 23).toInt) (iv23_1 : (v 23).toInt ≤ 49) (ia37_0 : AB 0 7 (a 37)) : Met l yX0_from (Cond.code yX0_from cX0_from 8 (some .int) :: gw) ({ frames := 6, cells := 0, slots := 0, locals := 146 }) (va_Pc [.ref (ad 9), .int 1, .int 1, .int p3, .int p4] (XPre D (TY cs) (CW cs ad fa fq rv v a w fv fp) A)) (va_Qi (fun (r : Int32) (z : Int32 × (Nat → Int32)) => (z.1.toInt = (v 22).toInt + 3) ∧ (z.2 = TRW (a 38) (v 22).toInt.toNat [10, 20, 1]) ∧ (r = (((p3 + (v 23)) + 3) * 2)) ∧ (0 ≤ z.1.toInt) ∧ (z.1.toInt ≤ 1000)) (XPo D (fun (z : Int32 × (Nat → Int32)) => CW cs ad fa fq rv (va_up v 22 z.1) (va_up a 38 z.2) w fv fp) A) A) 0 0 A := by
  refine Met.ofW (cc := cX0_from) (maxL := 8) (ret := (some .int)) (by decide) rfl ?_
  intro p e s m args below meth c s₁ B hml hv
  obtain ⟨rfl, hP, hK, hD, hZ⟩ := hv
  have hx := B.exec
  have hb := B.bytes
  have hr := B.returns
  have hts := atoms_spec (ws := (Cond.code yX0_from cX0_from 8 (some .int) :: gw)) B.pre
  have hg : ∀ w ∈ gw, w.before ([.ref (ad 9), .int 1, .int 1, .int p3, .int p4] : List Value).toArray s = true := fun w h => hts w (List.mem_cons_of_mem _ h)
  have hown : s.vm.findClass RX0 = some m.cls := findClass_of_methodNamed B.named
  have hlocks := B.notSynchronized
  have hS : va_S A s.heap s.heap [] := va_S.rf
  have hP : va_P D vwCl (CW cs ad fa fq rv v a w fv fp) s.heap := hP
  have hl := lv_entry ([.ref (ad 9), .int 1, .int 1, .int p3, .int p4]) (n := 8) (Nat.le_of_ble_eq_true rfl)
  rw [lg_entry_eq]
  generalize (lg_sl ([.ref (ad 9), .int 1, .int 1, .int p3, .int p4]) ++ List.replicate (8 - (lg_sl ([.ref (ad 9), .int 1, .int 1, .int p3, .int p4])).length) Slot.unset).toArray = ls at hl ⊢
  have hl : lv_has ls 8 [(0, .ref (ad 9)), (1, .int 1), (2, .int 1), (3, .int p3), (4, .int p4)] := hl
  refine lv_iload_n hx hb dX0_from_0 rfl (lv_at hl 1 rfl) ?_
  refine lv_istore (lv' := [(5, .int 1), (0, .ref (ad 9)), (1, .int 1), (2, .int 1), (3, .int p3), (4, .int p4)]) hx hb dX0_from_1 hl (by decide) rfl (fun ls hl => ?_)
  refine lv_iconst (v := 0) hx hb dX0_from_3 (by decide) ?_
  refine lv_istore (lv' := [(6, .int 0), (5, .int 1), (0, .ref (ad 9)), (1, .int 1), (2, .int 1), (3, .int p3), (4, .int p4)]) hx hb dX0_from_4 hl (by decide) rfl (fun ls hl => ?_)
  refine lv_iload hx hb dX0_from_6 (lv_at hl 0 rfl) ?_
  obtain ⟨t0, t1, t2, ⟨a0, b0⟩, ⟨a1, b1⟩, ⟨a2, b2⟩⟩ := id hZ
  refine va_gets hx hb a2 hS hown (hg _ q4_143) (fun _ h9 => h9) dX0_from_8 ?_
  refine va_tlen hx hb b2 hS (v := 8) rfl dX0_from_11 ?_
  refine lv_icmp_ge (tgt := 73) hx hb dX0_from_12 (by decide) (fun c_1 => absurd c_1 (by decide)) (fun c_1 => ?_)
  refine lv_iload hx hb dX0_from_15 (lv_at hl 1 rfl) ?_
  refine cS_p (As := [.int 1]) (rest := []) ⟨hx, hb, hml, hown, hg⟩ (k_IK_2 l    ) ca_X0_isKind q4_145 ⟨rfl, rfl⟩ ⟨Nat.le_of_ble_eq_true rfl, Nat.le_of_ble_eq_true rfl⟩ rfl hl.1 rfl (Nat.le_of_ble_eq_true rfl) ⟨Nat.zero_le _, Nat.zero_le _⟩ dX0_from_17 (fun r_2 wr_2 => ?_)
  have wr_2 : r_2.toInt = 1 := wr_2
  refine lv_if_eq (tgt := 73) hx hb dX0_from_20 (by decide) (fun c_3 => ?_) (fun c_3 => ?_)
  ·
    have kc_3 : r_2.toInt = (0 : Int) := i_eq c_3
    exfalso; omega
  ·
    have kc_3 : r_2.toInt ≠ (0 : Int) := i_ne c_3
    refine lv_iload hx hb dX0_from_23 (lv_at hl 1 rfl) ?_
    refine lv_iload_n hx hb dX0_from_25 rfl (lv_at hl 4 rfl) ?_
    refine cS_p (As := [.int 1, .int 1]) (rest := []) ⟨hx, hb, hml, hown, hg⟩ (k_B_1_1 l    ) ca_X0_bodyOf q4_146 ⟨rfl, rfl⟩ ⟨Nat.le_of_ble_eq_true rfl, Nat.le_of_ble_eq_true rfl⟩ rfl hl.1 rfl (Nat.le_of_ble_eq_true rfl) ⟨Nat.zero_le _, Nat.zero_le _⟩ dX0_from_26 (fun r_4 wr_4 => ?_)
    have wr_4 : r_4.toInt = 0 := wr_4
    have el_5 : r_4 = 0 := i_inj (wr_4.trans (by rfl))
    subst el_5
    refine lv_istore (lv' := [(7, .int 0), (6, .int 0), (5, .int 1), (0, .ref (ad 9)), (1, .int 1), (2, .int 1), (3, .int p3), (4, .int p4)]) hx hb dX0_from_29 hl (by decide) rfl (fun ls hl => ?_)
    refine lv_iload hx hb dX0_from_31 (lv_at hl 0 rfl) ?_
    refine lv_if_eq (tgt := 59) hx hb dX0_from_33 (by decide) (fun c_6 => ?_) (fun c_6 => absurd c_6 (by decide))
    obtain ⟨t0, t1, t2, ⟨a0, b0⟩, ⟨a1, b1⟩, ⟨a2, b2⟩⟩ := id hZ
    refine va_gets hx hb a2 hS hown (hg _ q4_143) (fun _ h9 => h9) dX0_from_59 ?_
    refine lv_iload hx hb dX0_from_62 (lv_at hl 2 rfl) ?_
    refine va_ti hx hb b2 hS (i_in (by decide) (by decide)) (v := .int 0) rfl dX0_from_64 ?_
    refine lv_istore (lv' := [(5, .int 0), (7, .int 0), (6, .int 0), (0, .ref (ad 9)), (1, .int 1), (2, .int 1), (3, .int p3), (4, .int p4)]) hx hb dX0_from_65 hl (by decide) rfl (fun ls hl => ?_)
    obtain ⟨x_7, ex_7⟩ : ∃ y : Int32, y = 0 + 1 := ⟨_, rfl⟩
    have fx_7 : x_7.toInt = (0 : Int) + 1 := by rw [ex_7]; exact i_add (by first | omega | (show (_ : Int) ≤ (0 : Int) + 1; omega)) (by first | omega | (show (0 : Int) + 1 ≤ (_ : Int); omega))
    refine lv_iinc (v := x_7) (lv' := [(6, .int x_7), (5, .int 0), (7, .int 0), (0, .ref (ad 9)), (1, .int 1), (2, .int 1), (3, .int p3), (4, .int p4)]) hx hb dX0_from_67 hl (k := 2) rfl (by rw [ex_7]; rfl) (by decide) rfl (fun ls hl => ?_)
    refine lv_goto (tgt := 6) hx hb dX0_from_70 (by decide) ?_
    refine lv_iload hx hb dX0_from_6 (lv_at hl 0 rfl) ?_
    obtain ⟨t0, t1, t2, ⟨a0, b0⟩, ⟨a1, b1⟩, ⟨a2, b2⟩⟩ := id hZ
    refine va_gets hx hb a2 hS hown (hg _ q4_143) (fun _ h9 => h9) dX0_from_8 ?_
    refine va_tlen hx hb b2 hS (v := 8) rfl dX0_from_11 ?_
    refine lv_icmp_ge (tgt := 73) hx hb dX0_from_12 (by decide) (fun c_8 => ?_) (fun c_8 => ?_)
    ·
      have kc_8 : (8 : Int) ≤ x_7.toInt := i_le c_8
      exfalso; omega
    ·
      have kc_8 : x_7.toInt < (8 : Int) := i_nle c_8
      refine lv_iload hx hb dX0_from_15 (lv_at hl 1 rfl) ?_
      refine cS_p (As := [.int 0]) (rest := []) ⟨hx, hb, hml, hown, hg⟩ (k_IK_1 l    ) ca_X0_isKind q4_145 ⟨rfl, rfl⟩ ⟨Nat.le_of_ble_eq_true rfl, Nat.le_of_ble_eq_true rfl⟩ rfl hl.1 rfl (Nat.le_of_ble_eq_true rfl) ⟨Nat.zero_le _, Nat.zero_le _⟩ dX0_from_17 (fun r_9 wr_9 => ?_)
      have wr_9 : r_9.toInt = 1 := wr_9
      refine lv_if_eq (tgt := 73) hx hb dX0_from_20 (by decide) (fun c_10 => ?_) (fun c_10 => ?_)
      ·
        have kc_10 : r_9.toInt = (0 : Int) := i_eq c_10
        exfalso; omega
      ·
        have kc_10 : r_9.toInt ≠ (0 : Int) := i_ne c_10
        refine lv_iload hx hb dX0_from_23 (lv_at hl 1 rfl) ?_
        refine lv_iload_n hx hb dX0_from_25 rfl (lv_at hl 5 rfl) ?_
        refine cS_p (As := [.int 0, .int 1]) (rest := []) ⟨hx, hb, hml, hown, hg⟩ (k_B_0_1 l    ) ca_X0_bodyOf q4_146 ⟨rfl, rfl⟩ ⟨Nat.le_of_ble_eq_true rfl, Nat.le_of_ble_eq_true rfl⟩ rfl hl.1 rfl (Nat.le_of_ble_eq_true rfl) ⟨Nat.zero_le _, Nat.zero_le _⟩ dX0_from_26 (fun r_11 wr_11 => ?_)
        have wr_11 : r_11.toInt = 10 := wr_11
        have el_12 : r_11 = 10 := i_inj (wr_11.trans (by rfl))
        subst el_12
        refine lv_istore (lv' := [(7, .int 10), (6, .int x_7), (5, .int 0), (0, .ref (ad 9)), (1, .int 1), (2, .int 1), (3, .int p3), (4, .int p4)]) hx hb dX0_from_29 hl (by decide) rfl (fun ls hl => ?_)
        refine lv_iload hx hb dX0_from_31 (lv_at hl 0 rfl) ?_
        refine lv_if_eq (tgt := 59) hx hb dX0_from_33 (by decide) (fun c_13 => absurd c_13 (by decide)) (fun c_13 => ?_)
        refine lv_iload hx hb dX0_from_36 (lv_at hl 7 rfl) ?_
        refine lv_bipush (v := 40) hx hb dX0_from_38 (by decide) ?_
        refine lv_icmp_ge (tgt := 57) hx hb dX0_from_40 (by decide) (fun c_14 => ?_) (fun c_14 => ?_)
        ·
          have kc_14 : (40 : Int) ≤ p4.toInt := i_le c_14
          exfalso; omega
        ·
          have kc_14 : p4.toInt < (40 : Int) := i_nle c_14
          refine lv_aload_n hx hb dX0_from_43 rfl (lv_at hl 3 rfl) ?_
          refine lv_iload hx hb dX0_from_44 (lv_at hl 0 rfl) ?_
          refine lv_iload_n hx hb dX0_from_46 rfl (lv_at hl 6 rfl) ?_
          refine lv_iload hx hb dX0_from_47 (lv_at hl 7 rfl) ?_
          refine lv_iconst (v := 1) hx hb dX0_from_49 (by decide) ?_
          refine lv_iadd hx hb dX0_from_50 ?_
          refine lv_topi (fun x_15 ex_15 => ?_)
          have fx_15 : x_15.toInt = p4.toInt + (1 : Int) := by rw [ex_15]; exact i_add (by first | omega | (show (_ : Int) ≤ p4.toInt + (1 : Int); omega)) (by first | omega | (show p4.toInt + (1 : Int) ≤ (_ : Int); omega))
          refine cV_i (As := [.int 10, .int p3, .int x_15]) (rest := []) ⟨hx, hb, hml, hown, hg⟩ (k_R_1_10 l D cs A ad fa fq rv v a w fv fp  p3 x_15 hkn (show 0 ≤ (v 22).toInt by first | omega | decide) (show (v 22).toInt ≤ 21 by first | omega | decide) (show 0 ≤ x_15.toInt by first | omega | decide) (show x_15.toInt ≤ 36 by first | omega | decide) (show 0 ≤ (v 22).toInt by first | omega | decide) (show (v 22).toInt ≤ 1000 by first | omega | decide) (show 0 ≤ (v 23).toInt by first | omega | decide) (show (v 23).toInt ≤ 49 by first | omega | decide) ia37_0) ca_X0_run q4_149 ⟨rfl, rfl⟩ ⟨Nat.le_of_ble_eq_true rfl, Nat.le_of_ble_eq_true rfl⟩ (rc_acts hK hP) hK hP hD hS hZ rfl hl.1 rfl (Nat.le_of_ble_eq_true rfl) ⟨Nat.zero_le _, Nat.zero_le _⟩ dX0_from_51 (fun r_16 z_19 H locs wr_16 hP hD hS => ?_)
          obtain ⟨o_v22_17, o_a38_18⟩ := z_19
          have hP : va_P D vwCl (CW cs ad fa fq rv (va_up v 22 o_v22_17) (va_up a 38 o_a38_18) w fv fp) H := hP
          have hD : va_D A (CW cs ad fa fq rv (va_up v 22 o_v22_17) (va_up a 38 o_a38_18) w fv fp) := hD
          obtain ⟨wr_16_0, wr_16_1, wr_16_2, wr_16_3, wr_16_4⟩ : (o_v22_17.toInt = (v 22).toInt + 3) ∧ (o_a38_18 = TRW (a 38) (v 22).toInt.toNat [10, 20, 1]) ∧ (r_16 = (((p3 + (v 23)) + 3) * 2)) ∧ (0 ≤ o_v22_17.toInt) ∧ (o_v22_17.toInt ≤ 1000) := wr_16
          have kt_20 : o_a38_18 = TRW (a 38) (v 22).toInt.toNat [10, 20, 1] := by rw [wr_16_1]
          refine lv_goto (tgt := 58) hx hb dX0_from_54 (by decide) ?_
          exact W.iret (v := r_16) hx hb hr (fun tt ht hW => ⟨⟨r_16, ⟨o_v22_17, o_a38_18⟩, rfl, ⟨(by first | rfl | omega | trivial | assumption | (dsimp only; first | omega | assumption)), (by (try dsimp only); first | assumption | rfl), (by simp only [wr_16_2, ex_15]), (show 0 ≤ o_v22_17.toInt by first | omega | assumption), (show o_v22_17.toInt ≤ 1000 by first | omega | assumption)⟩, by rw [ht]; exact hP, hD⟩, hS.F ht⟩) hS.2.2 dX0_from_58
set_option maxHeartbeats 4000000 in
set_option maxRecDepth 100000 in
theorem k_S_1_1 (l : Launch) (D : va_G) (cs : Nat → ClassId) (A : Nat → Prop) (ad fa fq rv : Nat → Nat) (v : Nat → Int32) (a : Nat → Nat → Int32) (w : Nat → Nat → Int64) (fv fp : Nat → Nat → Int32)  (p2 : Int32) (p3 : Int32) (hkn : (a 37) (v 23).toNatClampNeg = 1) (hr0 : 0 ≤ (v 22).toInt) (hr1 : (v 22).toInt ≤ 21) (hd0 : 0 ≤ p3.toInt) (hd1 : p3.toInt ≤ 35) (iv23_0 : 0 ≤ (v 23).toInt) (iv23_1 : (v 23).toInt ≤ 49) (ia37_0 : AB 0 7 (a 37)) (iv22_0 : 0 ≤ (v 22).toInt) (iv22_1 : (v 22).toInt ≤ 1000) : Met l yX0_self (Cond.code yX0_self cX0_self 4 (some .int) :: gw) ({ frames := 7, cells := 0, slots := 0, locals := 173 }) (va_Pc [.ref (ad 9), .int 1, .int p2, .int p3] (XPre D (TY cs) (CW cs ad fa fq rv v a w fv fp) A)) (va_Qi (fun (r : Int32) (z : Int32 × (Nat → Int32)) => (z.1.toInt = (v 22).toInt + 3) ∧ (z.2 = TRW (a 38) (v 22).toInt.toNat [10, 20, 1]) ∧ (r = (((p2 + (v 23)) + 3) * 2)) ∧ (0 ≤ z.1.toInt) ∧ (z.1.toInt ≤ 1000)) (XPo D (fun (z : Int32 × (Nat → Int32)) => CW cs ad fa fq rv (va_up v 22 z.1) (va_up a 38 z.2) w fv fp) A) A) 0 0 A := by
  refine Met.ofW (cc := cX0_self) (maxL := 4) (ret := (some .int)) (by decide) rfl ?_
  intro p e s m args below meth c s₁ B hml hv
  obtain ⟨rfl, hP, hK, hD, hZ⟩ := hv
  have hx := B.exec
  have hb := B.bytes
  have hr := B.returns
  have hts := atoms_spec (ws := (Cond.code yX0_self cX0_self 4 (some .int) :: gw)) B.pre
  have hg : ∀ w ∈ gw, w.before ([.ref (ad 9), .int 1, .int p2, .int p3] : List Value).toArray s = true := fun w h => hts w (List.mem_cons_of_mem _ h)
  have hown : s.vm.findClass RX0 = some m.cls := findClass_of_methodNamed B.named
  have hlocks := B.notSynchronized
  have hS : va_S A s.heap s.heap [] := va_S.rf
  have hP : va_P D vwCl (CW cs ad fa fq rv v a w fv fp) s.heap := hP
  have hl := lv_entry ([.ref (ad 9), .int 1, .int p2, .int p3]) (n := 4) (Nat.le_of_ble_eq_true rfl)
  rw [lg_entry_eq]
  generalize (lg_sl ([.ref (ad 9), .int 1, .int p2, .int p3]) ++ List.replicate (4 - (lg_sl ([.ref (ad 9), .int 1, .int p2, .int p3])).length) Slot.unset).toArray = ls at hl ⊢
  have hl : lv_has ls 4 [(0, .ref (ad 9)), (1, .int 1), (2, .int p2), (3, .int p3)] := hl
  refine lv_aload_n hx hb dX0_self_0 rfl (lv_at hl 0 rfl) ?_
  refine lv_aload_n hx hb dX0_self_1 rfl (lv_at hl 0 rfl) ?_
  refine gf_acts_kind hx hb hg hown hK hP rfl (hg _ q1_83) dX0_self_2 ?_
  refine lv_aload_n hx hb dX0_self_5 rfl (lv_at hl 0 rfl) ?_
  refine gf_acts_number hx hb hg hown hK hP (x := (v 23)) rfl (hg _ q1_90) dX0_self_6 ?_
  refine ld_Akind hx hb hK hP (i_in (by omega) (by omega)) dX0_self_9 ?_
  refine lv_topi (fun x_1 ex_1 => ?_)
  have ex_1 : x_1 = (a 37) (v 23).toNatClampNeg := ex_1
  have hx_1 : x_1.toInt = ((a 37) (v 23).toNatClampNeg).toInt := by rw [ex_1]
  have bx_1 := ia37_0 (v 23).toNatClampNeg
  rw [← ex_1] at bx_1
  have fx_1 : x_1 = 1 := by rw [ex_1]; exact hkn
  subst fx_1
  refine lv_iload_n hx hb dX0_self_10 rfl (lv_at hl 1 rfl) ?_
  refine lv_iload_n hx hb dX0_self_11 rfl (lv_at hl 2 rfl) ?_
  refine lv_iload_n hx hb dX0_self_12 rfl (lv_at hl 3 rfl) ?_
  refine cV_i (As := [.int 1, .int 1, .int p2, .int p3]) (rest := []) ⟨hx, hb, hml, hown, hg⟩ (k_F_1_1_1 l D cs A ad fa fq rv v a w fv fp  p2 p3 hkn (show 0 ≤ (v 22).toInt by first | omega | decide) (show (v 22).toInt ≤ 21 by first | omega | decide) (show 0 ≤ p3.toInt by first | omega | decide) (show p3.toInt ≤ 35 by first | omega | decide) (show 0 ≤ (v 22).toInt by first | omega | decide) (show (v 22).toInt ≤ 1000 by first | omega | decide) (show 0 ≤ (v 23).toInt by first | omega | decide) (show (v 23).toInt ≤ 49 by first | omega | decide) ia37_0) ca_X0_from q4_139 ⟨rfl, rfl⟩ ⟨Nat.le_of_ble_eq_true rfl, Nat.le_of_ble_eq_true rfl⟩ (rc_acts hK hP) hK hP hD hS hZ rfl hl.1 rfl (Nat.le_of_ble_eq_true rfl) ⟨Nat.zero_le _, Nat.zero_le _⟩ dX0_self_13 (fun r_2 z_5 H locs wr_2 hP hD hS => ?_)
  obtain ⟨o_v22_3, o_a38_4⟩ := z_5
  have hP : va_P D vwCl (CW cs ad fa fq rv (va_up v 22 o_v22_3) (va_up a 38 o_a38_4) w fv fp) H := hP
  have hD : va_D A (CW cs ad fa fq rv (va_up v 22 o_v22_3) (va_up a 38 o_a38_4) w fv fp) := hD
  obtain ⟨wr_2_0, wr_2_1, wr_2_2, wr_2_3, wr_2_4⟩ : (o_v22_3.toInt = (v 22).toInt + 3) ∧ (o_a38_4 = TRW (a 38) (v 22).toInt.toNat [10, 20, 1]) ∧ (r_2 = (((p2 + (v 23)) + 3) * 2)) ∧ (0 ≤ o_v22_3.toInt) ∧ (o_v22_3.toInt ≤ 1000) := wr_2
  have kt_6 : o_a38_4 = TRW (a 38) (v 22).toInt.toNat [10, 20, 1] := by rw [wr_2_1]
  exact W.iret (v := r_2) hx hb hr (fun tt ht hW => ⟨⟨r_2, ⟨o_v22_3, o_a38_4⟩, rfl, ⟨(by first | rfl | omega | trivial | assumption | (dsimp only; first | omega | assumption)), (by (try dsimp only); first | assumption | rfl), (by simp only [wr_2_2]), (show 0 ≤ o_v22_3.toInt by first | omega | assumption), (show o_v22_3.toInt ≤ 1000 by first | omega | assumption)⟩, by rw [ht]; exact hP, hD⟩, hS.F ht⟩) hS.2.2 dX0_self_16
set_option maxHeartbeats 4000000 in
set_option maxRecDepth 100000 in
theorem k_F_x_1_2 (l : Launch) (D : va_G) (cs : Nat → ClassId) (A : Nat → Prop) (ad fa fq rv : Nat → Nat) (v : Nat → Int32) (a : Nat → Nat → Int32) (w : Nat → Nat → Int64) (fv fp : Nat → Nat → Int32)  (p3 : Int32) (p4 : Int32) (hr0 : 0 ≤ (v 22).toInt) (hr1 : (v 22).toInt ≤ 23) (hd0 : 0 ≤ p4.toInt) (hd1 : p4.toInt ≤ 37) (iv22_0 : 0 ≤ (v 22).toInt) (iv22_1 : (v 22).toInt ≤ 1000) (iv23_0 : 0 ≤ (v 23).toInt) (iv23_1 : (v 23).toInt ≤ 49) : Met l yX0_from (Cond.code yX0_from cX0_from 8 (some .int) :: gw) ({ frames := 1, cells := 0, slots := 0, locals := 23 }) (va_Pc [.ref (ad 9), .int 1, .int 2, .int p3, .int p4] (XPre D (TY cs) (CW cs ad fa fq rv v a w fv fp) A)) (va_Qi (fun (r : Int32) (z : Int32 × (Nat → Int32)) => (z.1.toInt = (v 22).toInt + 1) ∧ (z.2 = TRW (a 38) (v 22).toInt.toNat [11]) ∧ (r = (p3 ^^^ (v 23))) ∧ (0 ≤ z.1.toInt) ∧ (z.1.toInt ≤ 1000)) (XPo D (fun (z : Int32 × (Nat → Int32)) => CW cs ad fa fq rv (va_up v 22 z.1) (va_up a 38 z.2) w fv fp) A) A) 0 0 A := by
  refine Met.ofW (cc := cX0_from) (maxL := 8) (ret := (some .int)) (by decide) rfl ?_
  intro p e s m args below meth c s₁ B hml hv
  obtain ⟨rfl, hP, hK, hD, hZ⟩ := hv
  have hx := B.exec
  have hb := B.bytes
  have hr := B.returns
  have hts := atoms_spec (ws := (Cond.code yX0_from cX0_from 8 (some .int) :: gw)) B.pre
  have hg : ∀ w ∈ gw, w.before ([.ref (ad 9), .int 1, .int 2, .int p3, .int p4] : List Value).toArray s = true := fun w h => hts w (List.mem_cons_of_mem _ h)
  have hown : s.vm.findClass RX0 = some m.cls := findClass_of_methodNamed B.named
  have hlocks := B.notSynchronized
  have hS : va_S A s.heap s.heap [] := va_S.rf
  have hP : va_P D vwCl (CW cs ad fa fq rv v a w fv fp) s.heap := hP
  have hl := lv_entry ([.ref (ad 9), .int 1, .int 2, .int p3, .int p4]) (n := 8) (Nat.le_of_ble_eq_true rfl)
  rw [lg_entry_eq]
  generalize (lg_sl ([.ref (ad 9), .int 1, .int 2, .int p3, .int p4]) ++ List.replicate (8 - (lg_sl ([.ref (ad 9), .int 1, .int 2, .int p3, .int p4])).length) Slot.unset).toArray = ls at hl ⊢
  have hl : lv_has ls 8 [(0, .ref (ad 9)), (1, .int 1), (2, .int 2), (3, .int p3), (4, .int p4)] := hl
  refine lv_iload_n hx hb dX0_from_0 rfl (lv_at hl 1 rfl) ?_
  refine lv_istore (lv' := [(5, .int 1), (0, .ref (ad 9)), (1, .int 1), (2, .int 2), (3, .int p3), (4, .int p4)]) hx hb dX0_from_1 hl (by decide) rfl (fun ls hl => ?_)
  refine lv_iconst (v := 0) hx hb dX0_from_3 (by decide) ?_
  refine lv_istore (lv' := [(6, .int 0), (5, .int 1), (0, .ref (ad 9)), (1, .int 1), (2, .int 2), (3, .int p3), (4, .int p4)]) hx hb dX0_from_4 hl (by decide) rfl (fun ls hl => ?_)
  refine lv_iload hx hb dX0_from_6 (lv_at hl 0 rfl) ?_
  obtain ⟨t0, t1, t2, ⟨a0, b0⟩, ⟨a1, b1⟩, ⟨a2, b2⟩⟩ := id hZ
  refine va_gets hx hb a2 hS hown (hg _ q4_143) (fun _ h9 => h9) dX0_from_8 ?_
  refine va_tlen hx hb b2 hS (v := 8) rfl dX0_from_11 ?_
  refine lv_icmp_ge (tgt := 73) hx hb dX0_from_12 (by decide) (fun c_1 => absurd c_1 (by decide)) (fun c_1 => ?_)
  refine lv_iload hx hb dX0_from_15 (lv_at hl 1 rfl) ?_
  refine cS_p (As := [.int 1]) (rest := []) ⟨hx, hb, hml, hown, hg⟩ (k_IK_2 l    ) ca_X0_isKind q4_145 ⟨rfl, rfl⟩ ⟨Nat.le_of_ble_eq_true rfl, Nat.le_of_ble_eq_true rfl⟩ rfl hl.1 rfl (Nat.le_of_ble_eq_true rfl) ⟨Nat.zero_le _, Nat.zero_le _⟩ dX0_from_17 (fun r_2 wr_2 => ?_)
  have wr_2 : r_2.toInt = 1 := wr_2
  refine lv_if_eq (tgt := 73) hx hb dX0_from_20 (by decide) (fun c_3 => ?_) (fun c_3 => ?_)
  ·
    have kc_3 : r_2.toInt = (0 : Int) := i_eq c_3
    exfalso; omega
  ·
    have kc_3 : r_2.toInt ≠ (0 : Int) := i_ne c_3
    refine lv_iload hx hb dX0_from_23 (lv_at hl 1 rfl) ?_
    refine lv_iload_n hx hb dX0_from_25 rfl (lv_at hl 4 rfl) ?_
    refine cS_p (As := [.int 1, .int 2]) (rest := []) ⟨hx, hb, hml, hown, hg⟩ (k_B_1_2 l    ) ca_X0_bodyOf q4_146 ⟨rfl, rfl⟩ ⟨Nat.le_of_ble_eq_true rfl, Nat.le_of_ble_eq_true rfl⟩ rfl hl.1 rfl (Nat.le_of_ble_eq_true rfl) ⟨Nat.zero_le _, Nat.zero_le _⟩ dX0_from_26 (fun r_4 wr_4 => ?_)
    have wr_4 : r_4.toInt = 0 := wr_4
    have el_5 : r_4 = 0 := i_inj (wr_4.trans (by rfl))
    subst el_5
    refine lv_istore (lv' := [(7, .int 0), (6, .int 0), (5, .int 1), (0, .ref (ad 9)), (1, .int 1), (2, .int 2), (3, .int p3), (4, .int p4)]) hx hb dX0_from_29 hl (by decide) rfl (fun ls hl => ?_)
    refine lv_iload hx hb dX0_from_31 (lv_at hl 0 rfl) ?_
    refine lv_if_eq (tgt := 59) hx hb dX0_from_33 (by decide) (fun c_6 => ?_) (fun c_6 => absurd c_6 (by decide))
    obtain ⟨t0, t1, t2, ⟨a0, b0⟩, ⟨a1, b1⟩, ⟨a2, b2⟩⟩ := id hZ
    refine va_gets hx hb a2 hS hown (hg _ q4_143) (fun _ h9 => h9) dX0_from_59 ?_
    refine lv_iload hx hb dX0_from_62 (lv_at hl 2 rfl) ?_
    refine va_ti hx hb b2 hS (i_in (by decide) (by decide)) (v := .int 0) rfl dX0_from_64 ?_
    refine lv_istore (lv' := [(5, .int 0), (7, .int 0), (6, .int 0), (0, .ref (ad 9)), (1, .int 1), (2, .int 2), (3, .int p3), (4, .int p4)]) hx hb dX0_from_65 hl (by decide) rfl (fun ls hl => ?_)
    obtain ⟨x_7, ex_7⟩ : ∃ y : Int32, y = 0 + 1 := ⟨_, rfl⟩
    have fx_7 : x_7.toInt = (0 : Int) + 1 := by rw [ex_7]; exact i_add (by first | omega | (show (_ : Int) ≤ (0 : Int) + 1; omega)) (by first | omega | (show (0 : Int) + 1 ≤ (_ : Int); omega))
    refine lv_iinc (v := x_7) (lv' := [(6, .int x_7), (5, .int 0), (7, .int 0), (0, .ref (ad 9)), (1, .int 1), (2, .int 2), (3, .int p3), (4, .int p4)]) hx hb dX0_from_67 hl (k := 2) rfl (by rw [ex_7]; rfl) (by decide) rfl (fun ls hl => ?_)
    refine lv_goto (tgt := 6) hx hb dX0_from_70 (by decide) ?_
    refine lv_iload hx hb dX0_from_6 (lv_at hl 0 rfl) ?_
    obtain ⟨t0, t1, t2, ⟨a0, b0⟩, ⟨a1, b1⟩, ⟨a2, b2⟩⟩ := id hZ
    refine va_gets hx hb a2 hS hown (hg _ q4_143) (fun _ h9 => h9) dX0_from_8 ?_
    refine va_tlen hx hb b2 hS (v := 8) rfl dX0_from_11 ?_
    refine lv_icmp_ge (tgt := 73) hx hb dX0_from_12 (by decide) (fun c_8 => ?_) (fun c_8 => ?_)
    ·
      have kc_8 : (8 : Int) ≤ x_7.toInt := i_le c_8
      exfalso; omega
    ·
      have kc_8 : x_7.toInt < (8 : Int) := i_nle c_8
      refine lv_iload hx hb dX0_from_15 (lv_at hl 1 rfl) ?_
      refine cS_p (As := [.int 0]) (rest := []) ⟨hx, hb, hml, hown, hg⟩ (k_IK_1 l    ) ca_X0_isKind q4_145 ⟨rfl, rfl⟩ ⟨Nat.le_of_ble_eq_true rfl, Nat.le_of_ble_eq_true rfl⟩ rfl hl.1 rfl (Nat.le_of_ble_eq_true rfl) ⟨Nat.zero_le _, Nat.zero_le _⟩ dX0_from_17 (fun r_9 wr_9 => ?_)
      have wr_9 : r_9.toInt = 1 := wr_9
      refine lv_if_eq (tgt := 73) hx hb dX0_from_20 (by decide) (fun c_10 => ?_) (fun c_10 => ?_)
      ·
        have kc_10 : r_9.toInt = (0 : Int) := i_eq c_10
        exfalso; omega
      ·
        have kc_10 : r_9.toInt ≠ (0 : Int) := i_ne c_10
        refine lv_iload hx hb dX0_from_23 (lv_at hl 1 rfl) ?_
        refine lv_iload_n hx hb dX0_from_25 rfl (lv_at hl 5 rfl) ?_
        refine cS_p (As := [.int 0, .int 2]) (rest := []) ⟨hx, hb, hml, hown, hg⟩ (k_B_0_2 l    ) ca_X0_bodyOf q4_146 ⟨rfl, rfl⟩ ⟨Nat.le_of_ble_eq_true rfl, Nat.le_of_ble_eq_true rfl⟩ rfl hl.1 rfl (Nat.le_of_ble_eq_true rfl) ⟨Nat.zero_le _, Nat.zero_le _⟩ dX0_from_26 (fun r_11 wr_11 => ?_)
        have wr_11 : r_11.toInt = 11 := wr_11
        have el_12 : r_11 = 11 := i_inj (wr_11.trans (by rfl))
        subst el_12
        refine lv_istore (lv' := [(7, .int 11), (6, .int x_7), (5, .int 0), (0, .ref (ad 9)), (1, .int 1), (2, .int 2), (3, .int p3), (4, .int p4)]) hx hb dX0_from_29 hl (by decide) rfl (fun ls hl => ?_)
        refine lv_iload hx hb dX0_from_31 (lv_at hl 0 rfl) ?_
        refine lv_if_eq (tgt := 59) hx hb dX0_from_33 (by decide) (fun c_13 => absurd c_13 (by decide)) (fun c_13 => ?_)
        refine lv_iload hx hb dX0_from_36 (lv_at hl 7 rfl) ?_
        refine lv_bipush (v := 40) hx hb dX0_from_38 (by decide) ?_
        refine lv_icmp_ge (tgt := 57) hx hb dX0_from_40 (by decide) (fun c_14 => ?_) (fun c_14 => ?_)
        ·
          have kc_14 : (40 : Int) ≤ p4.toInt := i_le c_14
          exfalso; omega
        ·
          have kc_14 : p4.toInt < (40 : Int) := i_nle c_14
          refine lv_aload_n hx hb dX0_from_43 rfl (lv_at hl 3 rfl) ?_
          refine lv_iload hx hb dX0_from_44 (lv_at hl 0 rfl) ?_
          refine lv_iload_n hx hb dX0_from_46 rfl (lv_at hl 6 rfl) ?_
          refine lv_iload hx hb dX0_from_47 (lv_at hl 7 rfl) ?_
          refine lv_iconst (v := 1) hx hb dX0_from_49 (by decide) ?_
          refine lv_iadd hx hb dX0_from_50 ?_
          refine lv_topi (fun x_15 ex_15 => ?_)
          have fx_15 : x_15.toInt = p4.toInt + (1 : Int) := by rw [ex_15]; exact i_add (by first | omega | (show (_ : Int) ≤ p4.toInt + (1 : Int); omega)) (by first | omega | (show p4.toInt + (1 : Int) ≤ (_ : Int); omega))
          refine cV_i (As := [.int 11, .int p3, .int x_15]) (rest := []) ⟨hx, hb, hml, hown, hg⟩ (k_R_x_11 l D cs A ad fa fq rv v a w fv fp  p3 x_15 (show 0 ≤ (v 22).toInt by first | omega | decide) (show (v 22).toInt ≤ 23 by first | omega | decide) (show 0 ≤ x_15.toInt by first | omega | decide) (show x_15.toInt ≤ 38 by first | omega | decide) (show 0 ≤ (v 22).toInt by first | omega | decide) (show (v 22).toInt ≤ 1000 by first | omega | decide) (show 0 ≤ (v 23).toInt by first | omega | decide) (show (v 23).toInt ≤ 49 by first | omega | decide)) ca_X0_run q4_149 ⟨rfl, rfl⟩ ⟨Nat.le_of_ble_eq_true rfl, Nat.le_of_ble_eq_true rfl⟩ (rc_acts hK hP) hK hP hD hS hZ rfl hl.1 rfl (Nat.le_of_ble_eq_true rfl) ⟨Nat.zero_le _, Nat.zero_le _⟩ dX0_from_51 (fun r_16 z_19 H locs wr_16 hP hD hS => ?_)
          obtain ⟨o_v22_17, o_a38_18⟩ := z_19
          have hP : va_P D vwCl (CW cs ad fa fq rv (va_up v 22 o_v22_17) (va_up a 38 o_a38_18) w fv fp) H := hP
          have hD : va_D A (CW cs ad fa fq rv (va_up v 22 o_v22_17) (va_up a 38 o_a38_18) w fv fp) := hD
          obtain ⟨wr_16_0, wr_16_1, wr_16_2, wr_16_3, wr_16_4⟩ : (o_v22_17.toInt = (v 22).toInt + 1) ∧ (o_a38_18 = TRW (a 38) (v 22).toInt.toNat [11]) ∧ (r_16 = (p3 ^^^ (v 23))) ∧ (0 ≤ o_v22_17.toInt) ∧ (o_v22_17.toInt ≤ 1000) := wr_16
          have kt_20 : o_a38_18 = TRW (a 38) (v 22).toInt.toNat [11] := by rw [wr_16_1]
          refine lv_goto (tgt := 58) hx hb dX0_from_54 (by decide) ?_
          exact W.iret (v := r_16) hx hb hr (fun tt ht hW => ⟨⟨r_16, ⟨o_v22_17, o_a38_18⟩, rfl, ⟨(by first | rfl | omega | trivial | assumption | (dsimp only; first | omega | assumption)), (by (try dsimp only); first | assumption | rfl), (by simp only [wr_16_2, ex_15]), (show 0 ≤ o_v22_17.toInt by first | omega | assumption), (show o_v22_17.toInt ≤ 1000 by first | omega | assumption)⟩, by rw [ht]; exact hP, hD⟩, hS.F ht⟩) hS.2.2 dX0_from_58
set_option maxHeartbeats 4000000 in
set_option maxRecDepth 100000 in
theorem k_S_1_2 (l : Launch) (D : va_G) (cs : Nat → ClassId) (A : Nat → Prop) (ad fa fq rv : Nat → Nat) (v : Nat → Int32) (a : Nat → Nat → Int32) (w : Nat → Nat → Int64) (fv fp : Nat → Nat → Int32)  (p2 : Int32) (p3 : Int32) (hkn : (a 37) (v 23).toNatClampNeg = 1) (hr0 : 0 ≤ (v 22).toInt) (hr1 : (v 22).toInt ≤ 23) (hd0 : 0 ≤ p3.toInt) (hd1 : p3.toInt ≤ 37) (iv23_0 : 0 ≤ (v 23).toInt) (iv23_1 : (v 23).toInt ≤ 49) (ia37_0 : AB 0 7 (a 37)) (iv22_0 : 0 ≤ (v 22).toInt) (iv22_1 : (v 22).toInt ≤ 1000) : Met l yX0_self (Cond.code yX0_self cX0_self 4 (some .int) :: gw) ({ frames := 2, cells := 0, slots := 0, locals := 50 }) (va_Pc [.ref (ad 9), .int 2, .int p2, .int p3] (XPre D (TY cs) (CW cs ad fa fq rv v a w fv fp) A)) (va_Qi (fun (r : Int32) (z : Int32 × (Nat → Int32)) => (z.1.toInt = (v 22).toInt + 1) ∧ (z.2 = TRW (a 38) (v 22).toInt.toNat [11]) ∧ (r = (p2 ^^^ (v 23))) ∧ (0 ≤ z.1.toInt) ∧ (z.1.toInt ≤ 1000)) (XPo D (fun (z : Int32 × (Nat → Int32)) => CW cs ad fa fq rv (va_up v 22 z.1) (va_up a 38 z.2) w fv fp) A) A) 0 0 A := by
  refine Met.ofW (cc := cX0_self) (maxL := 4) (ret := (some .int)) (by decide) rfl ?_
  intro p e s m args below meth c s₁ B hml hv
  obtain ⟨rfl, hP, hK, hD, hZ⟩ := hv
  have hx := B.exec
  have hb := B.bytes
  have hr := B.returns
  have hts := atoms_spec (ws := (Cond.code yX0_self cX0_self 4 (some .int) :: gw)) B.pre
  have hg : ∀ w ∈ gw, w.before ([.ref (ad 9), .int 2, .int p2, .int p3] : List Value).toArray s = true := fun w h => hts w (List.mem_cons_of_mem _ h)
  have hown : s.vm.findClass RX0 = some m.cls := findClass_of_methodNamed B.named
  have hlocks := B.notSynchronized
  have hS : va_S A s.heap s.heap [] := va_S.rf
  have hP : va_P D vwCl (CW cs ad fa fq rv v a w fv fp) s.heap := hP
  have hl := lv_entry ([.ref (ad 9), .int 2, .int p2, .int p3]) (n := 4) (Nat.le_of_ble_eq_true rfl)
  rw [lg_entry_eq]
  generalize (lg_sl ([.ref (ad 9), .int 2, .int p2, .int p3]) ++ List.replicate (4 - (lg_sl ([.ref (ad 9), .int 2, .int p2, .int p3])).length) Slot.unset).toArray = ls at hl ⊢
  have hl : lv_has ls 4 [(0, .ref (ad 9)), (1, .int 2), (2, .int p2), (3, .int p3)] := hl
  refine lv_aload_n hx hb dX0_self_0 rfl (lv_at hl 0 rfl) ?_
  refine lv_aload_n hx hb dX0_self_1 rfl (lv_at hl 0 rfl) ?_
  refine gf_acts_kind hx hb hg hown hK hP rfl (hg _ q1_83) dX0_self_2 ?_
  refine lv_aload_n hx hb dX0_self_5 rfl (lv_at hl 0 rfl) ?_
  refine gf_acts_number hx hb hg hown hK hP (x := (v 23)) rfl (hg _ q1_90) dX0_self_6 ?_
  refine ld_Akind hx hb hK hP (i_in (by omega) (by omega)) dX0_self_9 ?_
  refine lv_topi (fun x_1 ex_1 => ?_)
  have ex_1 : x_1 = (a 37) (v 23).toNatClampNeg := ex_1
  have hx_1 : x_1.toInt = ((a 37) (v 23).toNatClampNeg).toInt := by rw [ex_1]
  have bx_1 := ia37_0 (v 23).toNatClampNeg
  rw [← ex_1] at bx_1
  have fx_1 : x_1 = 1 := by rw [ex_1]; exact hkn
  subst fx_1
  refine lv_iload_n hx hb dX0_self_10 rfl (lv_at hl 1 rfl) ?_
  refine lv_iload_n hx hb dX0_self_11 rfl (lv_at hl 2 rfl) ?_
  refine lv_iload_n hx hb dX0_self_12 rfl (lv_at hl 3 rfl) ?_
  refine cV_i (As := [.int 1, .int 2, .int p2, .int p3]) (rest := []) ⟨hx, hb, hml, hown, hg⟩ (k_F_x_1_2 l D cs A ad fa fq rv v a w fv fp  p2 p3 (show 0 ≤ (v 22).toInt by first | omega | decide) (show (v 22).toInt ≤ 23 by first | omega | decide) (show 0 ≤ p3.toInt by first | omega | decide) (show p3.toInt ≤ 37 by first | omega | decide) (show 0 ≤ (v 22).toInt by first | omega | decide) (show (v 22).toInt ≤ 1000 by first | omega | decide) (show 0 ≤ (v 23).toInt by first | omega | decide) (show (v 23).toInt ≤ 49 by first | omega | decide)) ca_X0_from q4_139 ⟨rfl, rfl⟩ ⟨Nat.le_of_ble_eq_true rfl, Nat.le_of_ble_eq_true rfl⟩ (rc_acts hK hP) hK hP hD hS hZ rfl hl.1 rfl (Nat.le_of_ble_eq_true rfl) ⟨Nat.zero_le _, Nat.zero_le _⟩ dX0_self_13 (fun r_2 z_5 H locs wr_2 hP hD hS => ?_)
  obtain ⟨o_v22_3, o_a38_4⟩ := z_5
  have hP : va_P D vwCl (CW cs ad fa fq rv (va_up v 22 o_v22_3) (va_up a 38 o_a38_4) w fv fp) H := hP
  have hD : va_D A (CW cs ad fa fq rv (va_up v 22 o_v22_3) (va_up a 38 o_a38_4) w fv fp) := hD
  obtain ⟨wr_2_0, wr_2_1, wr_2_2, wr_2_3, wr_2_4⟩ : (o_v22_3.toInt = (v 22).toInt + 1) ∧ (o_a38_4 = TRW (a 38) (v 22).toInt.toNat [11]) ∧ (r_2 = (p2 ^^^ (v 23))) ∧ (0 ≤ o_v22_3.toInt) ∧ (o_v22_3.toInt ≤ 1000) := wr_2
  have kt_6 : o_a38_4 = TRW (a 38) (v 22).toInt.toNat [11] := by rw [wr_2_1]
  exact W.iret (v := r_2) hx hb hr (fun tt ht hW => ⟨⟨r_2, ⟨o_v22_3, o_a38_4⟩, rfl, ⟨(by first | rfl | omega | trivial | assumption | (dsimp only; first | omega | assumption)), (by (try dsimp only); first | assumption | rfl), (by simp only [wr_2_2]), (show 0 ≤ o_v22_3.toInt by first | omega | assumption), (show o_v22_3.toInt ≤ 1000 by first | omega | assumption)⟩, by rw [ht]; exact hP, hD⟩, hS.F ht⟩) hS.2.2 dX0_self_16
set_option maxHeartbeats 4000000 in
set_option maxRecDepth 100000 in
theorem k_R_1_2 (l : Launch) (D : va_G) (cs : Nat → ClassId) (A : Nat → Prop) (ad fa fq rv : Nat → Nat) (v : Nat → Int32) (a : Nat → Nat → Int32) (w : Nat → Nat → Int64) (fv fp : Nat → Nat → Int32)  (p2 : Int32) (p3 : Int32) (hkn : (a 37) (v 23).toNatClampNeg = 1) (hr0 : 0 ≤ (v 22).toInt) (hr1 : (v 22).toInt ≤ 19) (hd0 : 0 ≤ p3.toInt) (hd1 : p3.toInt ≤ 35) (iv22_0 : 0 ≤ (v 22).toInt) (iv22_1 : (v 22).toInt ≤ 1000) (iv23_0 : 0 ≤ (v 23).toInt) (iv23_1 : (v 23).toInt ≤ 49) (ia37_0 : AB 0 7 (a 37)) : Met l yX0_run (Cond.code yX0_run cX0_run 4 (some .int) :: gw) ({ frames := 8, cells := 0, slots := 0, locals := 196 }) (va_Pc [.ref (ad 9), .int 2, .int p2, .int p3] (XPre D (TY cs) (CW cs ad fa fq rv v a w fv fp) A)) (va_Qi (fun (r : Int32) (z : Int32 × (Nat → Int32)) => (z.1.toInt = (v 22).toInt + 5) ∧ (z.2 = TRW (a 38) (v 22).toInt.toNat [2, 10, 20, 1, 11]) ∧ (r = ((((p2 + (v 23)) + 3) * 2) - ((1 : Int32) ^^^ (v 23)))) ∧ (0 ≤ z.1.toInt) ∧ (z.1.toInt ≤ 1000)) (XPo D (fun (z : Int32 × (Nat → Int32)) => CW cs ad fa fq rv (va_up v 22 z.1) (va_up a 38 z.2) w fv fp) A) A) 0 0 A := by
  refine Met.ofW (cc := cX0_run) (maxL := 4) (ret := (some .int)) (by decide) rfl ?_
  intro p e s m args below meth c s₁ B hml hv
  obtain ⟨rfl, hP, hK, hD, hZ⟩ := hv
  have hx := B.exec
  have hb := B.bytes
  have hr := B.returns
  have hts := atoms_spec (ws := (Cond.code yX0_run cX0_run 4 (some .int) :: gw)) B.pre
  have hg : ∀ w ∈ gw, w.before ([.ref (ad 9), .int 2, .int p2, .int p3] : List Value).toArray s = true := fun w h => hts w (List.mem_cons_of_mem _ h)
  have hown : s.vm.findClass RX0 = some m.cls := findClass_of_methodNamed B.named
  have hlocks := B.notSynchronized
  have hS : va_S A s.heap s.heap [] := va_S.rf
  have hP : va_P D vwCl (CW cs ad fa fq rv v a w fv fp) s.heap := hP
  have hl := lv_entry ([.ref (ad 9), .int 2, .int p2, .int p3]) (n := 4) (Nat.le_of_ble_eq_true rfl)
  rw [lg_entry_eq]
  generalize (lg_sl ([.ref (ad 9), .int 2, .int p2, .int p3]) ++ List.replicate (4 - (lg_sl ([.ref (ad 9), .int 2, .int p2, .int p3])).length) Slot.unset).toArray = ls at hl ⊢
  have hl : lv_has ls 4 [(0, .ref (ad 9)), (1, .int 2), (2, .int p2), (3, .int p3)] := hl
  refine lv_aload_n hx hb dX0_run_0 rfl (lv_at hl 0 rfl) ?_
  refine gf_acts_ran hx hb hg hown hK hP (x := (v 22)) rfl (hg _ q1_88) dX0_run_1 ?_
  refine lv_bipush (v := 24) hx hb dX0_run_4 (by decide) ?_
  refine lv_icmp_ge (tgt := 19) hx hb dX0_run_6 (by decide) (fun c_1 => ?_) (fun c_1 => ?_)
  ·
    have kc_1 : (24 : Int) ≤ (v 22).toInt := i_le c_1
    exfalso; omega
  ·
    have kc_1 : (v 22).toInt < (24 : Int) := i_nle c_1
    refine lv_aload_n hx hb dX0_run_9 rfl (lv_at hl 0 rfl) ?_
    refine gf_acts_traced hx hb hg hown hK hP rfl (hg _ q1_86) dX0_run_10 ?_
    refine lv_aload_n hx hb dX0_run_13 rfl (lv_at hl 0 rfl) ?_
    refine gf_acts_ran hx hb hg hown hK hP (x := (v 22)) rfl (hg _ q1_88) dX0_run_14 ?_
    refine lv_iload_n hx hb dX0_run_17 rfl (lv_at hl 1 rfl) ?_
    refine st_Atraced hx hb hK hP hD hS (i_in (by omega) (by omega)) dX0_run_18 (fun H locs hP hD hS => ?_)
    refine lv_aload_n hx hb dX0_run_19 rfl (lv_at hl 0 rfl) ?_
    refine lv_dup hx hb dX0_run_20 rfl ?_
    refine gf_acts_ran hx hb hg hown hK hP (x := (v 22)) rfl (hg _ q1_88) dX0_run_21 ?_
    refine lv_iconst (v := 1) hx hb dX0_run_24 (by decide) ?_
    refine lv_iadd hx hb dX0_run_25 ?_
    refine lv_topi (fun x_2 ex_2 => ?_)
    have fx_2 : x_2.toInt = (v 22).toInt + (1 : Int) := by rw [ex_2]; exact i_add (by first | omega | (show (_ : Int) ≤ (v 22).toInt + (1 : Int); omega)) (by first | omega | (show (v 22).toInt + (1 : Int) ≤ (_ : Int); omega))
    refine pf_acts_ran hx hb hg hown hK hP hD hS (hg _ q1_88) dX0_run_26 (fun H locs hP hD hS => ?_)
    refine lv_iload_n hx hb dX0_run_29 rfl (lv_at hl 1 rfl) ?_
    refine lv_lookup (tgt := 159) hx hb dX0_run_30 (by decide) (off := 129) (by decide) (by decide) ?_
    refine lv_aload_n hx hb dX0_run_159 rfl (lv_at hl 0 rfl) ?_
    refine lv_iconst (v := 1) hx hb dX0_run_160 (by decide) ?_
    refine lv_iload_n hx hb dX0_run_161 rfl (lv_at hl 2 rfl) ?_
    refine lv_iload_n hx hb dX0_run_162 rfl (lv_at hl 3 rfl) ?_
    refine cV_i (As := [.int 1, .int p2, .int p3]) (rest := []) ⟨hx, hb, hml, hown, hg⟩ (k_S_1_1 l D cs A ad fa fq rv (va_up v 22 x_2) (va_up a 38 (upd (a 38) (v 22).toNatClampNeg 2)) w fv fp  p2 p3 hkn (show 0 ≤ x_2.toInt by first | omega | decide) (show x_2.toInt ≤ 21 by first | omega | decide) (show 0 ≤ p3.toInt by first | omega | decide) (show p3.toInt ≤ 35 by first | omega | decide) (show 0 ≤ (v 23).toInt by first | omega | decide) (show (v 23).toInt ≤ 49 by first | omega | decide) ia37_0 (show 0 ≤ x_2.toInt by first | omega | decide) (show x_2.toInt ≤ 1000 by first | omega | decide)) ca_X0_self q4_135 ⟨rfl, rfl⟩ ⟨Nat.le_of_ble_eq_true rfl, Nat.le_of_ble_eq_true rfl⟩ (rc_acts hK hP) hK hP hD hS hZ rfl hl.1 rfl (Nat.le_of_ble_eq_true rfl) ⟨Nat.zero_le _, Nat.zero_le _⟩ dX0_run_163 (fun r_4 z_7 H locs wr_4 hP hD hS => ?_)
    obtain ⟨o_v22_5, o_a38_6⟩ := z_7
    have hP : va_P D vwCl (CW cs ad fa fq rv (va_up v 22 o_v22_5) (va_up a 38 o_a38_6) w fv fp) H := hP
    have hD : va_D A (CW cs ad fa fq rv (va_up v 22 o_v22_5) (va_up a 38 o_a38_6) w fv fp) := hD
    obtain ⟨wr_4_0, wr_4_1, wr_4_2, wr_4_3, wr_4_4⟩ : (o_v22_5.toInt = x_2.toInt + 3) ∧ (o_a38_6 = TRW (upd (a 38) (v 22).toNatClampNeg 2) x_2.toInt.toNat [10, 20, 1]) ∧ (r_4 = (((p2 + (v 23)) + 3) * 2)) ∧ (0 ≤ o_v22_5.toInt) ∧ (o_v22_5.toInt ≤ 1000) := wr_4
    have kt_8 : o_a38_6 = TRW (a 38) (v 22).toInt.toNat [2, 10, 20, 1] := by rw [wr_4_1, show (x_2).toInt.toNat = (v 22).toInt.toNat + 1 from by omega]; rfl
    refine lv_aload_n hx hb dX0_run_166 rfl (lv_at hl 0 rfl) ?_
    refine lv_iconst (v := 2) hx hb dX0_run_167 (by decide) ?_
    refine lv_iconst (v := 1) hx hb dX0_run_168 (by decide) ?_
    refine lv_iload_n hx hb dX0_run_169 rfl (lv_at hl 3 rfl) ?_
    refine cV_i (As := [.int 2, .int 1, .int p3]) (rest := [.int r_4]) ⟨hx, hb, hml, hown, hg⟩ (k_S_1_2 l D cs A ad fa fq rv (va_up v 22 o_v22_5) (va_up a 38 o_a38_6) w fv fp  1 p3 hkn (show 0 ≤ o_v22_5.toInt by first | omega | decide) (show o_v22_5.toInt ≤ 23 by first | omega | decide) (show 0 ≤ p3.toInt by first | omega | decide) (show p3.toInt ≤ 37 by first | omega | decide) (show 0 ≤ (v 23).toInt by first | omega | decide) (show (v 23).toInt ≤ 49 by first | omega | decide) ia37_0 (show 0 ≤ o_v22_5.toInt by first | omega | decide) (show o_v22_5.toInt ≤ 1000 by first | omega | decide)) ca_X0_self q4_135 ⟨rfl, rfl⟩ ⟨Nat.le_of_ble_eq_true rfl, Nat.le_of_ble_eq_true rfl⟩ (rc_acts hK hP) hK hP hD hS hZ rfl hl.1 rfl (Nat.le_of_ble_eq_true rfl) ⟨Nat.zero_le _, Nat.zero_le _⟩ dX0_run_170 (fun r_9 z_12 H locs wr_9 hP hD hS => ?_)
    obtain ⟨o_v22_10, o_a38_11⟩ := z_12
    have hP : va_P D vwCl (CW cs ad fa fq rv (va_up v 22 o_v22_10) (va_up a 38 o_a38_11) w fv fp) H := hP
    have hD : va_D A (CW cs ad fa fq rv (va_up v 22 o_v22_10) (va_up a 38 o_a38_11) w fv fp) := hD
    obtain ⟨wr_9_0, wr_9_1, wr_9_2, wr_9_3, wr_9_4⟩ : (o_v22_10.toInt = o_v22_5.toInt + 1) ∧ (o_a38_11 = TRW o_a38_6 o_v22_5.toInt.toNat [11]) ∧ (r_9 = ((1 : Int32) ^^^ (v 23))) ∧ (0 ≤ o_v22_10.toInt) ∧ (o_v22_10.toInt ≤ 1000) := wr_9
    have kt_13 : o_a38_11 = TRW (a 38) (v 22).toInt.toNat [2, 10, 20, 1, 11] := by rw [wr_9_1, kt_8, show (o_v22_5).toInt.toNat = (v 22).toInt.toNat + 4 from by omega]; rfl
    refine lv_isub hx hb dX0_run_173 ?_
    refine lv_topi (fun x_14 ex_14 => ?_)
    exact W.iret (v := x_14) hx hb hr (fun tt ht hW => ⟨⟨x_14, ⟨o_v22_10, o_a38_11⟩, rfl, ⟨(by first | rfl | omega | trivial | assumption | (dsimp only; first | omega | assumption)), (by (try dsimp only); first | assumption | rfl), (by simp only [ex_14, wr_9_2, wr_4_2, ex_2]), (show 0 ≤ o_v22_10.toInt by first | omega | assumption), (show o_v22_10.toInt ≤ 1000 by first | omega | assumption)⟩, by rw [ht]; exact hP, hD⟩, hS.F ht⟩) hS.2.2 dX0_run_174
set_option maxHeartbeats 4000000 in
set_option maxRecDepth 100000 in
theorem k_F_1_1_3 (l : Launch) (D : va_G) (cs : Nat → ClassId) (A : Nat → Prop) (ad fa fq rv : Nat → Nat) (v : Nat → Int32) (a : Nat → Nat → Int32) (w : Nat → Nat → Int64) (fv fp : Nat → Nat → Int32)  (p3 : Int32) (p4 : Int32) (hkn : (a 37) (v 23).toNatClampNeg = 1) (hr0 : 0 ≤ (v 22).toInt) (hr1 : (v 22).toInt ≤ 19) (hd0 : 0 ≤ p4.toInt) (hd1 : p4.toInt ≤ 34) (iv22_0 : 0 ≤ (v 22).toInt) (iv22_1 : (v 22).toInt ≤ 1000) (iv23_0 : 0 ≤ (v 23).toInt) (iv23_1 : (v 23).toInt ≤ 49) (ia37_0 : AB 0 7 (a 37)) : Met l yX0_from (Cond.code yX0_from cX0_from 8 (some .int) :: gw) ({ frames := 9, cells := 0, slots := 0, locals := 219 }) (va_Pc [.ref (ad 9), .int 1, .int 3, .int p3, .int p4] (XPre D (TY cs) (CW cs ad fa fq rv v a w fv fp) A)) (va_Qi (fun (r : Int32) (z : Int32 × (Nat → Int32)) => (z.1.toInt = (v 22).toInt + 5) ∧ (z.2 = TRW (a 38) (v 22).toInt.toNat [2, 10, 20, 1, 11]) ∧ (r = ((((p3 + (v 23)) + 3) * 2) - ((1 : Int32) ^^^ (v 23)))) ∧ (0 ≤ z.1.toInt) ∧ (z.1.toInt ≤ 1000)) (XPo D (fun (z : Int32 × (Nat → Int32)) => CW cs ad fa fq rv (va_up v 22 z.1) (va_up a 38 z.2) w fv fp) A) A) 0 0 A := by
  refine Met.ofW (cc := cX0_from) (maxL := 8) (ret := (some .int)) (by decide) rfl ?_
  intro p e s m args below meth c s₁ B hml hv
  obtain ⟨rfl, hP, hK, hD, hZ⟩ := hv
  have hx := B.exec
  have hb := B.bytes
  have hr := B.returns
  have hts := atoms_spec (ws := (Cond.code yX0_from cX0_from 8 (some .int) :: gw)) B.pre
  have hg : ∀ w ∈ gw, w.before ([.ref (ad 9), .int 1, .int 3, .int p3, .int p4] : List Value).toArray s = true := fun w h => hts w (List.mem_cons_of_mem _ h)
  have hown : s.vm.findClass RX0 = some m.cls := findClass_of_methodNamed B.named
  have hlocks := B.notSynchronized
  have hS : va_S A s.heap s.heap [] := va_S.rf
  have hP : va_P D vwCl (CW cs ad fa fq rv v a w fv fp) s.heap := hP
  have hl := lv_entry ([.ref (ad 9), .int 1, .int 3, .int p3, .int p4]) (n := 8) (Nat.le_of_ble_eq_true rfl)
  rw [lg_entry_eq]
  generalize (lg_sl ([.ref (ad 9), .int 1, .int 3, .int p3, .int p4]) ++ List.replicate (8 - (lg_sl ([.ref (ad 9), .int 1, .int 3, .int p3, .int p4])).length) Slot.unset).toArray = ls at hl ⊢
  have hl : lv_has ls 8 [(0, .ref (ad 9)), (1, .int 1), (2, .int 3), (3, .int p3), (4, .int p4)] := hl
  refine lv_iload_n hx hb dX0_from_0 rfl (lv_at hl 1 rfl) ?_
  refine lv_istore (lv' := [(5, .int 1), (0, .ref (ad 9)), (1, .int 1), (2, .int 3), (3, .int p3), (4, .int p4)]) hx hb dX0_from_1 hl (by decide) rfl (fun ls hl => ?_)
  refine lv_iconst (v := 0) hx hb dX0_from_3 (by decide) ?_
  refine lv_istore (lv' := [(6, .int 0), (5, .int 1), (0, .ref (ad 9)), (1, .int 1), (2, .int 3), (3, .int p3), (4, .int p4)]) hx hb dX0_from_4 hl (by decide) rfl (fun ls hl => ?_)
  refine lv_iload hx hb dX0_from_6 (lv_at hl 0 rfl) ?_
  obtain ⟨t0, t1, t2, ⟨a0, b0⟩, ⟨a1, b1⟩, ⟨a2, b2⟩⟩ := id hZ
  refine va_gets hx hb a2 hS hown (hg _ q4_143) (fun _ h9 => h9) dX0_from_8 ?_
  refine va_tlen hx hb b2 hS (v := 8) rfl dX0_from_11 ?_
  refine lv_icmp_ge (tgt := 73) hx hb dX0_from_12 (by decide) (fun c_1 => absurd c_1 (by decide)) (fun c_1 => ?_)
  refine lv_iload hx hb dX0_from_15 (lv_at hl 1 rfl) ?_
  refine cS_p (As := [.int 1]) (rest := []) ⟨hx, hb, hml, hown, hg⟩ (k_IK_2 l    ) ca_X0_isKind q4_145 ⟨rfl, rfl⟩ ⟨Nat.le_of_ble_eq_true rfl, Nat.le_of_ble_eq_true rfl⟩ rfl hl.1 rfl (Nat.le_of_ble_eq_true rfl) ⟨Nat.zero_le _, Nat.zero_le _⟩ dX0_from_17 (fun r_2 wr_2 => ?_)
  have wr_2 : r_2.toInt = 1 := wr_2
  refine lv_if_eq (tgt := 73) hx hb dX0_from_20 (by decide) (fun c_3 => ?_) (fun c_3 => ?_)
  ·
    have kc_3 : r_2.toInt = (0 : Int) := i_eq c_3
    exfalso; omega
  ·
    have kc_3 : r_2.toInt ≠ (0 : Int) := i_ne c_3
    refine lv_iload hx hb dX0_from_23 (lv_at hl 1 rfl) ?_
    refine lv_iload_n hx hb dX0_from_25 rfl (lv_at hl 4 rfl) ?_
    refine cS_p (As := [.int 1, .int 3]) (rest := []) ⟨hx, hb, hml, hown, hg⟩ (k_B_1_3 l    ) ca_X0_bodyOf q4_146 ⟨rfl, rfl⟩ ⟨Nat.le_of_ble_eq_true rfl, Nat.le_of_ble_eq_true rfl⟩ rfl hl.1 rfl (Nat.le_of_ble_eq_true rfl) ⟨Nat.zero_le _, Nat.zero_le _⟩ dX0_from_26 (fun r_4 wr_4 => ?_)
    have wr_4 : r_4.toInt = 0 := wr_4
    have el_5 : r_4 = 0 := i_inj (wr_4.trans (by rfl))
    subst el_5
    refine lv_istore (lv' := [(7, .int 0), (6, .int 0), (5, .int 1), (0, .ref (ad 9)), (1, .int 1), (2, .int 3), (3, .int p3), (4, .int p4)]) hx hb dX0_from_29 hl (by decide) rfl (fun ls hl => ?_)
    refine lv_iload hx hb dX0_from_31 (lv_at hl 0 rfl) ?_
    refine lv_if_eq (tgt := 59) hx hb dX0_from_33 (by decide) (fun c_6 => ?_) (fun c_6 => absurd c_6 (by decide))
    obtain ⟨t0, t1, t2, ⟨a0, b0⟩, ⟨a1, b1⟩, ⟨a2, b2⟩⟩ := id hZ
    refine va_gets hx hb a2 hS hown (hg _ q4_143) (fun _ h9 => h9) dX0_from_59 ?_
    refine lv_iload hx hb dX0_from_62 (lv_at hl 2 rfl) ?_
    refine va_ti hx hb b2 hS (i_in (by decide) (by decide)) (v := .int 0) rfl dX0_from_64 ?_
    refine lv_istore (lv' := [(5, .int 0), (7, .int 0), (6, .int 0), (0, .ref (ad 9)), (1, .int 1), (2, .int 3), (3, .int p3), (4, .int p4)]) hx hb dX0_from_65 hl (by decide) rfl (fun ls hl => ?_)
    obtain ⟨x_7, ex_7⟩ : ∃ y : Int32, y = 0 + 1 := ⟨_, rfl⟩
    have fx_7 : x_7.toInt = (0 : Int) + 1 := by rw [ex_7]; exact i_add (by first | omega | (show (_ : Int) ≤ (0 : Int) + 1; omega)) (by first | omega | (show (0 : Int) + 1 ≤ (_ : Int); omega))
    refine lv_iinc (v := x_7) (lv' := [(6, .int x_7), (5, .int 0), (7, .int 0), (0, .ref (ad 9)), (1, .int 1), (2, .int 3), (3, .int p3), (4, .int p4)]) hx hb dX0_from_67 hl (k := 2) rfl (by rw [ex_7]; rfl) (by decide) rfl (fun ls hl => ?_)
    refine lv_goto (tgt := 6) hx hb dX0_from_70 (by decide) ?_
    refine lv_iload hx hb dX0_from_6 (lv_at hl 0 rfl) ?_
    obtain ⟨t0, t1, t2, ⟨a0, b0⟩, ⟨a1, b1⟩, ⟨a2, b2⟩⟩ := id hZ
    refine va_gets hx hb a2 hS hown (hg _ q4_143) (fun _ h9 => h9) dX0_from_8 ?_
    refine va_tlen hx hb b2 hS (v := 8) rfl dX0_from_11 ?_
    refine lv_icmp_ge (tgt := 73) hx hb dX0_from_12 (by decide) (fun c_8 => ?_) (fun c_8 => ?_)
    ·
      have kc_8 : (8 : Int) ≤ x_7.toInt := i_le c_8
      exfalso; omega
    ·
      have kc_8 : x_7.toInt < (8 : Int) := i_nle c_8
      refine lv_iload hx hb dX0_from_15 (lv_at hl 1 rfl) ?_
      refine cS_p (As := [.int 0]) (rest := []) ⟨hx, hb, hml, hown, hg⟩ (k_IK_1 l    ) ca_X0_isKind q4_145 ⟨rfl, rfl⟩ ⟨Nat.le_of_ble_eq_true rfl, Nat.le_of_ble_eq_true rfl⟩ rfl hl.1 rfl (Nat.le_of_ble_eq_true rfl) ⟨Nat.zero_le _, Nat.zero_le _⟩ dX0_from_17 (fun r_9 wr_9 => ?_)
      have wr_9 : r_9.toInt = 1 := wr_9
      refine lv_if_eq (tgt := 73) hx hb dX0_from_20 (by decide) (fun c_10 => ?_) (fun c_10 => ?_)
      ·
        have kc_10 : r_9.toInt = (0 : Int) := i_eq c_10
        exfalso; omega
      ·
        have kc_10 : r_9.toInt ≠ (0 : Int) := i_ne c_10
        refine lv_iload hx hb dX0_from_23 (lv_at hl 1 rfl) ?_
        refine lv_iload_n hx hb dX0_from_25 rfl (lv_at hl 5 rfl) ?_
        refine cS_p (As := [.int 0, .int 3]) (rest := []) ⟨hx, hb, hml, hown, hg⟩ (k_B_0_3 l    ) ca_X0_bodyOf q4_146 ⟨rfl, rfl⟩ ⟨Nat.le_of_ble_eq_true rfl, Nat.le_of_ble_eq_true rfl⟩ rfl hl.1 rfl (Nat.le_of_ble_eq_true rfl) ⟨Nat.zero_le _, Nat.zero_le _⟩ dX0_from_26 (fun r_11 wr_11 => ?_)
        have wr_11 : r_11.toInt = 2 := wr_11
        have el_12 : r_11 = 2 := i_inj (wr_11.trans (by rfl))
        subst el_12
        refine lv_istore (lv' := [(7, .int 2), (6, .int x_7), (5, .int 0), (0, .ref (ad 9)), (1, .int 1), (2, .int 3), (3, .int p3), (4, .int p4)]) hx hb dX0_from_29 hl (by decide) rfl (fun ls hl => ?_)
        refine lv_iload hx hb dX0_from_31 (lv_at hl 0 rfl) ?_
        refine lv_if_eq (tgt := 59) hx hb dX0_from_33 (by decide) (fun c_13 => absurd c_13 (by decide)) (fun c_13 => ?_)
        refine lv_iload hx hb dX0_from_36 (lv_at hl 7 rfl) ?_
        refine lv_bipush (v := 40) hx hb dX0_from_38 (by decide) ?_
        refine lv_icmp_ge (tgt := 57) hx hb dX0_from_40 (by decide) (fun c_14 => ?_) (fun c_14 => ?_)
        ·
          have kc_14 : (40 : Int) ≤ p4.toInt := i_le c_14
          exfalso; omega
        ·
          have kc_14 : p4.toInt < (40 : Int) := i_nle c_14
          refine lv_aload_n hx hb dX0_from_43 rfl (lv_at hl 3 rfl) ?_
          refine lv_iload hx hb dX0_from_44 (lv_at hl 0 rfl) ?_
          refine lv_iload_n hx hb dX0_from_46 rfl (lv_at hl 6 rfl) ?_
          refine lv_iload hx hb dX0_from_47 (lv_at hl 7 rfl) ?_
          refine lv_iconst (v := 1) hx hb dX0_from_49 (by decide) ?_
          refine lv_iadd hx hb dX0_from_50 ?_
          refine lv_topi (fun x_15 ex_15 => ?_)
          have fx_15 : x_15.toInt = p4.toInt + (1 : Int) := by rw [ex_15]; exact i_add (by first | omega | (show (_ : Int) ≤ p4.toInt + (1 : Int); omega)) (by first | omega | (show p4.toInt + (1 : Int) ≤ (_ : Int); omega))
          refine cV_i (As := [.int 2, .int p3, .int x_15]) (rest := []) ⟨hx, hb, hml, hown, hg⟩ (k_R_1_2 l D cs A ad fa fq rv v a w fv fp  p3 x_15 hkn (show 0 ≤ (v 22).toInt by first | omega | decide) (show (v 22).toInt ≤ 19 by first | omega | decide) (show 0 ≤ x_15.toInt by first | omega | decide) (show x_15.toInt ≤ 35 by first | omega | decide) (show 0 ≤ (v 22).toInt by first | omega | decide) (show (v 22).toInt ≤ 1000 by first | omega | decide) (show 0 ≤ (v 23).toInt by first | omega | decide) (show (v 23).toInt ≤ 49 by first | omega | decide) ia37_0) ca_X0_run q4_149 ⟨rfl, rfl⟩ ⟨Nat.le_of_ble_eq_true rfl, Nat.le_of_ble_eq_true rfl⟩ (rc_acts hK hP) hK hP hD hS hZ rfl hl.1 rfl (Nat.le_of_ble_eq_true rfl) ⟨Nat.zero_le _, Nat.zero_le _⟩ dX0_from_51 (fun r_16 z_19 H locs wr_16 hP hD hS => ?_)
          obtain ⟨o_v22_17, o_a38_18⟩ := z_19
          have hP : va_P D vwCl (CW cs ad fa fq rv (va_up v 22 o_v22_17) (va_up a 38 o_a38_18) w fv fp) H := hP
          have hD : va_D A (CW cs ad fa fq rv (va_up v 22 o_v22_17) (va_up a 38 o_a38_18) w fv fp) := hD
          obtain ⟨wr_16_0, wr_16_1, wr_16_2, wr_16_3, wr_16_4⟩ : (o_v22_17.toInt = (v 22).toInt + 5) ∧ (o_a38_18 = TRW (a 38) (v 22).toInt.toNat [2, 10, 20, 1, 11]) ∧ (r_16 = ((((p3 + (v 23)) + 3) * 2) - ((1 : Int32) ^^^ (v 23)))) ∧ (0 ≤ o_v22_17.toInt) ∧ (o_v22_17.toInt ≤ 1000) := wr_16
          have kt_20 : o_a38_18 = TRW (a 38) (v 22).toInt.toNat [2, 10, 20, 1, 11] := by rw [wr_16_1]
          refine lv_goto (tgt := 58) hx hb dX0_from_54 (by decide) ?_
          exact W.iret (v := r_16) hx hb hr (fun tt ht hW => ⟨⟨r_16, ⟨o_v22_17, o_a38_18⟩, rfl, ⟨(by first | rfl | omega | trivial | assumption | (dsimp only; first | omega | assumption)), (by (try dsimp only); first | assumption | rfl), (by simp only [wr_16_2, ex_15]), (show 0 ≤ o_v22_17.toInt by first | omega | assumption), (show o_v22_17.toInt ≤ 1000 by first | omega | assumption)⟩, by rw [ht]; exact hP, hD⟩, hS.F ht⟩) hS.2.2 dX0_from_58
set_option maxHeartbeats 4000000 in
set_option maxRecDepth 100000 in
theorem k_S_1_3 (l : Launch) (D : va_G) (cs : Nat → ClassId) (A : Nat → Prop) (ad fa fq rv : Nat → Nat) (v : Nat → Int32) (a : Nat → Nat → Int32) (w : Nat → Nat → Int64) (fv fp : Nat → Nat → Int32)  (p2 : Int32) (p3 : Int32) (hkn : (a 37) (v 23).toNatClampNeg = 1) (hr0 : 0 ≤ (v 22).toInt) (hr1 : (v 22).toInt ≤ 19) (hd0 : 0 ≤ p3.toInt) (hd1 : p3.toInt ≤ 34) (iv23_0 : 0 ≤ (v 23).toInt) (iv23_1 : (v 23).toInt ≤ 49) (ia37_0 : AB 0 7 (a 37)) (iv22_0 : 0 ≤ (v 22).toInt) (iv22_1 : (v 22).toInt ≤ 1000) : Met l yX0_self (Cond.code yX0_self cX0_self 4 (some .int) :: gw) ({ frames := 10, cells := 0, slots := 0, locals := 246 }) (va_Pc [.ref (ad 9), .int 3, .int p2, .int p3] (XPre D (TY cs) (CW cs ad fa fq rv v a w fv fp) A)) (va_Qi (fun (r : Int32) (z : Int32 × (Nat → Int32)) => (z.1.toInt = (v 22).toInt + 5) ∧ (z.2 = TRW (a 38) (v 22).toInt.toNat [2, 10, 20, 1, 11]) ∧ (r = ((((p2 + (v 23)) + 3) * 2) - ((1 : Int32) ^^^ (v 23)))) ∧ (0 ≤ z.1.toInt) ∧ (z.1.toInt ≤ 1000)) (XPo D (fun (z : Int32 × (Nat → Int32)) => CW cs ad fa fq rv (va_up v 22 z.1) (va_up a 38 z.2) w fv fp) A) A) 0 0 A := by
  refine Met.ofW (cc := cX0_self) (maxL := 4) (ret := (some .int)) (by decide) rfl ?_
  intro p e s m args below meth c s₁ B hml hv
  obtain ⟨rfl, hP, hK, hD, hZ⟩ := hv
  have hx := B.exec
  have hb := B.bytes
  have hr := B.returns
  have hts := atoms_spec (ws := (Cond.code yX0_self cX0_self 4 (some .int) :: gw)) B.pre
  have hg : ∀ w ∈ gw, w.before ([.ref (ad 9), .int 3, .int p2, .int p3] : List Value).toArray s = true := fun w h => hts w (List.mem_cons_of_mem _ h)
  have hown : s.vm.findClass RX0 = some m.cls := findClass_of_methodNamed B.named
  have hlocks := B.notSynchronized
  have hS : va_S A s.heap s.heap [] := va_S.rf
  have hP : va_P D vwCl (CW cs ad fa fq rv v a w fv fp) s.heap := hP
  have hl := lv_entry ([.ref (ad 9), .int 3, .int p2, .int p3]) (n := 4) (Nat.le_of_ble_eq_true rfl)
  rw [lg_entry_eq]
  generalize (lg_sl ([.ref (ad 9), .int 3, .int p2, .int p3]) ++ List.replicate (4 - (lg_sl ([.ref (ad 9), .int 3, .int p2, .int p3])).length) Slot.unset).toArray = ls at hl ⊢
  have hl : lv_has ls 4 [(0, .ref (ad 9)), (1, .int 3), (2, .int p2), (3, .int p3)] := hl
  refine lv_aload_n hx hb dX0_self_0 rfl (lv_at hl 0 rfl) ?_
  refine lv_aload_n hx hb dX0_self_1 rfl (lv_at hl 0 rfl) ?_
  refine gf_acts_kind hx hb hg hown hK hP rfl (hg _ q1_83) dX0_self_2 ?_
  refine lv_aload_n hx hb dX0_self_5 rfl (lv_at hl 0 rfl) ?_
  refine gf_acts_number hx hb hg hown hK hP (x := (v 23)) rfl (hg _ q1_90) dX0_self_6 ?_
  refine ld_Akind hx hb hK hP (i_in (by omega) (by omega)) dX0_self_9 ?_
  refine lv_topi (fun x_1 ex_1 => ?_)
  have ex_1 : x_1 = (a 37) (v 23).toNatClampNeg := ex_1
  have hx_1 : x_1.toInt = ((a 37) (v 23).toNatClampNeg).toInt := by rw [ex_1]
  have bx_1 := ia37_0 (v 23).toNatClampNeg
  rw [← ex_1] at bx_1
  have fx_1 : x_1 = 1 := by rw [ex_1]; exact hkn
  subst fx_1
  refine lv_iload_n hx hb dX0_self_10 rfl (lv_at hl 1 rfl) ?_
  refine lv_iload_n hx hb dX0_self_11 rfl (lv_at hl 2 rfl) ?_
  refine lv_iload_n hx hb dX0_self_12 rfl (lv_at hl 3 rfl) ?_
  refine cV_i (As := [.int 1, .int 3, .int p2, .int p3]) (rest := []) ⟨hx, hb, hml, hown, hg⟩ (k_F_1_1_3 l D cs A ad fa fq rv v a w fv fp  p2 p3 hkn (show 0 ≤ (v 22).toInt by first | omega | decide) (show (v 22).toInt ≤ 19 by first | omega | decide) (show 0 ≤ p3.toInt by first | omega | decide) (show p3.toInt ≤ 34 by first | omega | decide) (show 0 ≤ (v 22).toInt by first | omega | decide) (show (v 22).toInt ≤ 1000 by first | omega | decide) (show 0 ≤ (v 23).toInt by first | omega | decide) (show (v 23).toInt ≤ 49 by first | omega | decide) ia37_0) ca_X0_from q4_139 ⟨rfl, rfl⟩ ⟨Nat.le_of_ble_eq_true rfl, Nat.le_of_ble_eq_true rfl⟩ (rc_acts hK hP) hK hP hD hS hZ rfl hl.1 rfl (Nat.le_of_ble_eq_true rfl) ⟨Nat.zero_le _, Nat.zero_le _⟩ dX0_self_13 (fun r_2 z_5 H locs wr_2 hP hD hS => ?_)
  obtain ⟨o_v22_3, o_a38_4⟩ := z_5
  have hP : va_P D vwCl (CW cs ad fa fq rv (va_up v 22 o_v22_3) (va_up a 38 o_a38_4) w fv fp) H := hP
  have hD : va_D A (CW cs ad fa fq rv (va_up v 22 o_v22_3) (va_up a 38 o_a38_4) w fv fp) := hD
  obtain ⟨wr_2_0, wr_2_1, wr_2_2, wr_2_3, wr_2_4⟩ : (o_v22_3.toInt = (v 22).toInt + 5) ∧ (o_a38_4 = TRW (a 38) (v 22).toInt.toNat [2, 10, 20, 1, 11]) ∧ (r_2 = ((((p2 + (v 23)) + 3) * 2) - ((1 : Int32) ^^^ (v 23)))) ∧ (0 ≤ o_v22_3.toInt) ∧ (o_v22_3.toInt ≤ 1000) := wr_2
  have kt_6 : o_a38_4 = TRW (a 38) (v 22).toInt.toNat [2, 10, 20, 1, 11] := by rw [wr_2_1]
  exact W.iret (v := r_2) hx hb hr (fun tt ht hW => ⟨⟨r_2, ⟨o_v22_3, o_a38_4⟩, rfl, ⟨(by first | rfl | omega | trivial | assumption | (dsimp only; first | omega | assumption)), (by (try dsimp only); first | assumption | rfl), (by simp only [wr_2_2]), (show 0 ≤ o_v22_3.toInt by first | omega | assumption), (show o_v22_3.toInt ≤ 1000 by first | omega | assumption)⟩, by rw [ht]; exact hP, hD⟩, hS.F ht⟩) hS.2.2 dX0_self_16
set_option maxHeartbeats 4000000 in
set_option maxRecDepth 100000 in
theorem k_F_x_2_0 (l : Launch) (D : va_G) (cs : Nat → ClassId) (A : Nat → Prop) (ad fa fq rv : Nat → Nat) (v : Nat → Int32) (a : Nat → Nat → Int32) (w : Nat → Nat → Int64) (fv fp : Nat → Nat → Int32)  (p3 : Int32) (p4 : Int32) (hr0 : 0 ≤ (v 22).toInt) (hr1 : (v 22).toInt ≤ 23) (hd0 : 0 ≤ p4.toInt) (hd1 : p4.toInt ≤ 37) (iv22_0 : 0 ≤ (v 22).toInt) (iv22_1 : (v 22).toInt ≤ 1000) (iv23_0 : 0 ≤ (v 23).toInt) (iv23_1 : (v 23).toInt ≤ 49) : Met l yX0_from (Cond.code yX0_from cX0_from 8 (some .int) :: gw) ({ frames := 1, cells := 0, slots := 0, locals := 23 }) (va_Pc [.ref (ad 9), .int 2, .int 0, .int p3, .int p4] (XPre D (TY cs) (CW cs ad fa fq rv v a w fv fp) A)) (va_Qi (fun (r : Int32) (z : Int32 × (Nat → Int32)) => (z.1.toInt = (v 22).toInt + 1) ∧ (z.2 = TRW (a 38) (v 22).toInt.toNat [1]) ∧ (r = (p3 + (v 23))) ∧ (0 ≤ z.1.toInt) ∧ (z.1.toInt ≤ 1000)) (XPo D (fun (z : Int32 × (Nat → Int32)) => CW cs ad fa fq rv (va_up v 22 z.1) (va_up a 38 z.2) w fv fp) A) A) 0 0 A := by
  refine Met.ofW (cc := cX0_from) (maxL := 8) (ret := (some .int)) (by decide) rfl ?_
  intro p e s m args below meth c s₁ B hml hv
  obtain ⟨rfl, hP, hK, hD, hZ⟩ := hv
  have hx := B.exec
  have hb := B.bytes
  have hr := B.returns
  have hts := atoms_spec (ws := (Cond.code yX0_from cX0_from 8 (some .int) :: gw)) B.pre
  have hg : ∀ w ∈ gw, w.before ([.ref (ad 9), .int 2, .int 0, .int p3, .int p4] : List Value).toArray s = true := fun w h => hts w (List.mem_cons_of_mem _ h)
  have hown : s.vm.findClass RX0 = some m.cls := findClass_of_methodNamed B.named
  have hlocks := B.notSynchronized
  have hS : va_S A s.heap s.heap [] := va_S.rf
  have hP : va_P D vwCl (CW cs ad fa fq rv v a w fv fp) s.heap := hP
  have hl := lv_entry ([.ref (ad 9), .int 2, .int 0, .int p3, .int p4]) (n := 8) (Nat.le_of_ble_eq_true rfl)
  rw [lg_entry_eq]
  generalize (lg_sl ([.ref (ad 9), .int 2, .int 0, .int p3, .int p4]) ++ List.replicate (8 - (lg_sl ([.ref (ad 9), .int 2, .int 0, .int p3, .int p4])).length) Slot.unset).toArray = ls at hl ⊢
  have hl : lv_has ls 8 [(0, .ref (ad 9)), (1, .int 2), (2, .int 0), (3, .int p3), (4, .int p4)] := hl
  refine lv_iload_n hx hb dX0_from_0 rfl (lv_at hl 1 rfl) ?_
  refine lv_istore (lv' := [(5, .int 2), (0, .ref (ad 9)), (1, .int 2), (2, .int 0), (3, .int p3), (4, .int p4)]) hx hb dX0_from_1 hl (by decide) rfl (fun ls hl => ?_)
  refine lv_iconst (v := 0) hx hb dX0_from_3 (by decide) ?_
  refine lv_istore (lv' := [(6, .int 0), (5, .int 2), (0, .ref (ad 9)), (1, .int 2), (2, .int 0), (3, .int p3), (4, .int p4)]) hx hb dX0_from_4 hl (by decide) rfl (fun ls hl => ?_)
  refine lv_iload hx hb dX0_from_6 (lv_at hl 0 rfl) ?_
  obtain ⟨t0, t1, t2, ⟨a0, b0⟩, ⟨a1, b1⟩, ⟨a2, b2⟩⟩ := id hZ
  refine va_gets hx hb a2 hS hown (hg _ q4_143) (fun _ h9 => h9) dX0_from_8 ?_
  refine va_tlen hx hb b2 hS (v := 8) rfl dX0_from_11 ?_
  refine lv_icmp_ge (tgt := 73) hx hb dX0_from_12 (by decide) (fun c_1 => absurd c_1 (by decide)) (fun c_1 => ?_)
  refine lv_iload hx hb dX0_from_15 (lv_at hl 1 rfl) ?_
  refine cS_p (As := [.int 2]) (rest := []) ⟨hx, hb, hml, hown, hg⟩ (k_IK_3 l    ) ca_X0_isKind q4_145 ⟨rfl, rfl⟩ ⟨Nat.le_of_ble_eq_true rfl, Nat.le_of_ble_eq_true rfl⟩ rfl hl.1 rfl (Nat.le_of_ble_eq_true rfl) ⟨Nat.zero_le _, Nat.zero_le _⟩ dX0_from_17 (fun r_2 wr_2 => ?_)
  have wr_2 : r_2.toInt = 1 := wr_2
  refine lv_if_eq (tgt := 73) hx hb dX0_from_20 (by decide) (fun c_3 => ?_) (fun c_3 => ?_)
  ·
    have kc_3 : r_2.toInt = (0 : Int) := i_eq c_3
    exfalso; omega
  ·
    have kc_3 : r_2.toInt ≠ (0 : Int) := i_ne c_3
    refine lv_iload hx hb dX0_from_23 (lv_at hl 1 rfl) ?_
    refine lv_iload_n hx hb dX0_from_25 rfl (lv_at hl 4 rfl) ?_
    refine cS_p (As := [.int 2, .int 0]) (rest := []) ⟨hx, hb, hml, hown, hg⟩ (k_B_2_0 l    ) ca_X0_bodyOf q4_146 ⟨rfl, rfl⟩ ⟨Nat.le_of_ble_eq_true rfl, Nat.le_of_ble_eq_true rfl⟩ rfl hl.1 rfl (Nat.le_of_ble_eq_true rfl) ⟨Nat.zero_le _, Nat.zero_le _⟩ dX0_from_26 (fun r_4 wr_4 => ?_)
    have wr_4 : r_4.toInt = 0 := wr_4
    have el_5 : r_4 = 0 := i_inj (wr_4.trans (by rfl))
    subst el_5
    refine lv_istore (lv' := [(7, .int 0), (6, .int 0), (5, .int 2), (0, .ref (ad 9)), (1, .int 2), (2, .int 0), (3, .int p3), (4, .int p4)]) hx hb dX0_from_29 hl (by decide) rfl (fun ls hl => ?_)
    refine lv_iload hx hb dX0_from_31 (lv_at hl 0 rfl) ?_
    refine lv_if_eq (tgt := 59) hx hb dX0_from_33 (by decide) (fun c_6 => ?_) (fun c_6 => absurd c_6 (by decide))
    obtain ⟨t0, t1, t2, ⟨a0, b0⟩, ⟨a1, b1⟩, ⟨a2, b2⟩⟩ := id hZ
    refine va_gets hx hb a2 hS hown (hg _ q4_143) (fun _ h9 => h9) dX0_from_59 ?_
    refine lv_iload hx hb dX0_from_62 (lv_at hl 2 rfl) ?_
    refine va_ti hx hb b2 hS (i_in (by decide) (by decide)) (v := .int 0) rfl dX0_from_64 ?_
    refine lv_istore (lv' := [(5, .int 0), (7, .int 0), (6, .int 0), (0, .ref (ad 9)), (1, .int 2), (2, .int 0), (3, .int p3), (4, .int p4)]) hx hb dX0_from_65 hl (by decide) rfl (fun ls hl => ?_)
    obtain ⟨x_7, ex_7⟩ : ∃ y : Int32, y = 0 + 1 := ⟨_, rfl⟩
    have fx_7 : x_7.toInt = (0 : Int) + 1 := by rw [ex_7]; exact i_add (by first | omega | (show (_ : Int) ≤ (0 : Int) + 1; omega)) (by first | omega | (show (0 : Int) + 1 ≤ (_ : Int); omega))
    refine lv_iinc (v := x_7) (lv' := [(6, .int x_7), (5, .int 0), (7, .int 0), (0, .ref (ad 9)), (1, .int 2), (2, .int 0), (3, .int p3), (4, .int p4)]) hx hb dX0_from_67 hl (k := 2) rfl (by rw [ex_7]; rfl) (by decide) rfl (fun ls hl => ?_)
    refine lv_goto (tgt := 6) hx hb dX0_from_70 (by decide) ?_
    refine lv_iload hx hb dX0_from_6 (lv_at hl 0 rfl) ?_
    obtain ⟨t0, t1, t2, ⟨a0, b0⟩, ⟨a1, b1⟩, ⟨a2, b2⟩⟩ := id hZ
    refine va_gets hx hb a2 hS hown (hg _ q4_143) (fun _ h9 => h9) dX0_from_8 ?_
    refine va_tlen hx hb b2 hS (v := 8) rfl dX0_from_11 ?_
    refine lv_icmp_ge (tgt := 73) hx hb dX0_from_12 (by decide) (fun c_8 => ?_) (fun c_8 => ?_)
    ·
      have kc_8 : (8 : Int) ≤ x_7.toInt := i_le c_8
      exfalso; omega
    ·
      have kc_8 : x_7.toInt < (8 : Int) := i_nle c_8
      refine lv_iload hx hb dX0_from_15 (lv_at hl 1 rfl) ?_
      refine cS_p (As := [.int 0]) (rest := []) ⟨hx, hb, hml, hown, hg⟩ (k_IK_1 l    ) ca_X0_isKind q4_145 ⟨rfl, rfl⟩ ⟨Nat.le_of_ble_eq_true rfl, Nat.le_of_ble_eq_true rfl⟩ rfl hl.1 rfl (Nat.le_of_ble_eq_true rfl) ⟨Nat.zero_le _, Nat.zero_le _⟩ dX0_from_17 (fun r_9 wr_9 => ?_)
      have wr_9 : r_9.toInt = 1 := wr_9
      refine lv_if_eq (tgt := 73) hx hb dX0_from_20 (by decide) (fun c_10 => ?_) (fun c_10 => ?_)
      ·
        have kc_10 : r_9.toInt = (0 : Int) := i_eq c_10
        exfalso; omega
      ·
        have kc_10 : r_9.toInt ≠ (0 : Int) := i_ne c_10
        refine lv_iload hx hb dX0_from_23 (lv_at hl 1 rfl) ?_
        refine lv_iload_n hx hb dX0_from_25 rfl (lv_at hl 5 rfl) ?_
        refine cS_p (As := [.int 0, .int 0]) (rest := []) ⟨hx, hb, hml, hown, hg⟩ (k_B_0_0 l    ) ca_X0_bodyOf q4_146 ⟨rfl, rfl⟩ ⟨Nat.le_of_ble_eq_true rfl, Nat.le_of_ble_eq_true rfl⟩ rfl hl.1 rfl (Nat.le_of_ble_eq_true rfl) ⟨Nat.zero_le _, Nat.zero_le _⟩ dX0_from_26 (fun r_11 wr_11 => ?_)
        have wr_11 : r_11.toInt = 1 := wr_11
        have el_12 : r_11 = 1 := i_inj (wr_11.trans (by rfl))
        subst el_12
        refine lv_istore (lv' := [(7, .int 1), (6, .int x_7), (5, .int 0), (0, .ref (ad 9)), (1, .int 2), (2, .int 0), (3, .int p3), (4, .int p4)]) hx hb dX0_from_29 hl (by decide) rfl (fun ls hl => ?_)
        refine lv_iload hx hb dX0_from_31 (lv_at hl 0 rfl) ?_
        refine lv_if_eq (tgt := 59) hx hb dX0_from_33 (by decide) (fun c_13 => absurd c_13 (by decide)) (fun c_13 => ?_)
        refine lv_iload hx hb dX0_from_36 (lv_at hl 7 rfl) ?_
        refine lv_bipush (v := 40) hx hb dX0_from_38 (by decide) ?_
        refine lv_icmp_ge (tgt := 57) hx hb dX0_from_40 (by decide) (fun c_14 => ?_) (fun c_14 => ?_)
        ·
          have kc_14 : (40 : Int) ≤ p4.toInt := i_le c_14
          exfalso; omega
        ·
          have kc_14 : p4.toInt < (40 : Int) := i_nle c_14
          refine lv_aload_n hx hb dX0_from_43 rfl (lv_at hl 3 rfl) ?_
          refine lv_iload hx hb dX0_from_44 (lv_at hl 0 rfl) ?_
          refine lv_iload_n hx hb dX0_from_46 rfl (lv_at hl 6 rfl) ?_
          refine lv_iload hx hb dX0_from_47 (lv_at hl 7 rfl) ?_
          refine lv_iconst (v := 1) hx hb dX0_from_49 (by decide) ?_
          refine lv_iadd hx hb dX0_from_50 ?_
          refine lv_topi (fun x_15 ex_15 => ?_)
          have fx_15 : x_15.toInt = p4.toInt + (1 : Int) := by rw [ex_15]; exact i_add (by first | omega | (show (_ : Int) ≤ p4.toInt + (1 : Int); omega)) (by first | omega | (show p4.toInt + (1 : Int) ≤ (_ : Int); omega))
          refine cV_i (As := [.int 1, .int p3, .int x_15]) (rest := []) ⟨hx, hb, hml, hown, hg⟩ (k_R_x_1 l D cs A ad fa fq rv v a w fv fp  p3 x_15 (show 0 ≤ (v 22).toInt by first | omega | decide) (show (v 22).toInt ≤ 23 by first | omega | decide) (show 0 ≤ x_15.toInt by first | omega | decide) (show x_15.toInt ≤ 38 by first | omega | decide) (show 0 ≤ (v 22).toInt by first | omega | decide) (show (v 22).toInt ≤ 1000 by first | omega | decide) (show 0 ≤ (v 23).toInt by first | omega | decide) (show (v 23).toInt ≤ 49 by first | omega | decide)) ca_X0_run q4_149 ⟨rfl, rfl⟩ ⟨Nat.le_of_ble_eq_true rfl, Nat.le_of_ble_eq_true rfl⟩ (rc_acts hK hP) hK hP hD hS hZ rfl hl.1 rfl (Nat.le_of_ble_eq_true rfl) ⟨Nat.zero_le _, Nat.zero_le _⟩ dX0_from_51 (fun r_16 z_19 H locs wr_16 hP hD hS => ?_)
          obtain ⟨o_v22_17, o_a38_18⟩ := z_19
          have hP : va_P D vwCl (CW cs ad fa fq rv (va_up v 22 o_v22_17) (va_up a 38 o_a38_18) w fv fp) H := hP
          have hD : va_D A (CW cs ad fa fq rv (va_up v 22 o_v22_17) (va_up a 38 o_a38_18) w fv fp) := hD
          obtain ⟨wr_16_0, wr_16_1, wr_16_2, wr_16_3, wr_16_4⟩ : (o_v22_17.toInt = (v 22).toInt + 1) ∧ (o_a38_18 = TRW (a 38) (v 22).toInt.toNat [1]) ∧ (r_16 = (p3 + (v 23))) ∧ (0 ≤ o_v22_17.toInt) ∧ (o_v22_17.toInt ≤ 1000) := wr_16
          have kt_20 : o_a38_18 = TRW (a 38) (v 22).toInt.toNat [1] := by rw [wr_16_1]
          refine lv_goto (tgt := 58) hx hb dX0_from_54 (by decide) ?_
          exact W.iret (v := r_16) hx hb hr (fun tt ht hW => ⟨⟨r_16, ⟨o_v22_17, o_a38_18⟩, rfl, ⟨(by first | rfl | omega | trivial | assumption | (dsimp only; first | omega | assumption)), (by (try dsimp only); first | assumption | rfl), (by simp only [wr_16_2, ex_15]), (show 0 ≤ o_v22_17.toInt by first | omega | assumption), (show o_v22_17.toInt ≤ 1000 by first | omega | assumption)⟩, by rw [ht]; exact hP, hD⟩, hS.F ht⟩) hS.2.2 dX0_from_58
set_option maxHeartbeats 4000000 in
set_option maxRecDepth 100000 in
theorem k_S_2_0 (l : Launch) (D : va_G) (cs : Nat → ClassId) (A : Nat → Prop) (ad fa fq rv : Nat → Nat) (v : Nat → Int32) (a : Nat → Nat → Int32) (w : Nat → Nat → Int64) (fv fp : Nat → Nat → Int32)  (p2 : Int32) (p3 : Int32) (hkn : (a 37) (v 23).toNatClampNeg = 2) (hr0 : 0 ≤ (v 22).toInt) (hr1 : (v 22).toInt ≤ 23) (hd0 : 0 ≤ p3.toInt) (hd1 : p3.toInt ≤ 37) (iv23_0 : 0 ≤ (v 23).toInt) (iv23_1 : (v 23).toInt ≤ 49) (ia37_0 : AB 0 7 (a 37)) (iv22_0 : 0 ≤ (v 22).toInt) (iv22_1 : (v 22).toInt ≤ 1000) : Met l yX0_self (Cond.code yX0_self cX0_self 4 (some .int) :: gw) ({ frames := 2, cells := 0, slots := 0, locals := 50 }) (va_Pc [.ref (ad 9), .int 0, .int p2, .int p3] (XPre D (TY cs) (CW cs ad fa fq rv v a w fv fp) A)) (va_Qi (fun (r : Int32) (z : Int32 × (Nat → Int32)) => (z.1.toInt = (v 22).toInt + 1) ∧ (z.2 = TRW (a 38) (v 22).toInt.toNat [1]) ∧ (r = (p2 + (v 23))) ∧ (0 ≤ z.1.toInt) ∧ (z.1.toInt ≤ 1000)) (XPo D (fun (z : Int32 × (Nat → Int32)) => CW cs ad fa fq rv (va_up v 22 z.1) (va_up a 38 z.2) w fv fp) A) A) 0 0 A := by
  refine Met.ofW (cc := cX0_self) (maxL := 4) (ret := (some .int)) (by decide) rfl ?_
  intro p e s m args below meth c s₁ B hml hv
  obtain ⟨rfl, hP, hK, hD, hZ⟩ := hv
  have hx := B.exec
  have hb := B.bytes
  have hr := B.returns
  have hts := atoms_spec (ws := (Cond.code yX0_self cX0_self 4 (some .int) :: gw)) B.pre
  have hg : ∀ w ∈ gw, w.before ([.ref (ad 9), .int 0, .int p2, .int p3] : List Value).toArray s = true := fun w h => hts w (List.mem_cons_of_mem _ h)
  have hown : s.vm.findClass RX0 = some m.cls := findClass_of_methodNamed B.named
  have hlocks := B.notSynchronized
  have hS : va_S A s.heap s.heap [] := va_S.rf
  have hP : va_P D vwCl (CW cs ad fa fq rv v a w fv fp) s.heap := hP
  have hl := lv_entry ([.ref (ad 9), .int 0, .int p2, .int p3]) (n := 4) (Nat.le_of_ble_eq_true rfl)
  rw [lg_entry_eq]
  generalize (lg_sl ([.ref (ad 9), .int 0, .int p2, .int p3]) ++ List.replicate (4 - (lg_sl ([.ref (ad 9), .int 0, .int p2, .int p3])).length) Slot.unset).toArray = ls at hl ⊢
  have hl : lv_has ls 4 [(0, .ref (ad 9)), (1, .int 0), (2, .int p2), (3, .int p3)] := hl
  refine lv_aload_n hx hb dX0_self_0 rfl (lv_at hl 0 rfl) ?_
  refine lv_aload_n hx hb dX0_self_1 rfl (lv_at hl 0 rfl) ?_
  refine gf_acts_kind hx hb hg hown hK hP rfl (hg _ q1_83) dX0_self_2 ?_
  refine lv_aload_n hx hb dX0_self_5 rfl (lv_at hl 0 rfl) ?_
  refine gf_acts_number hx hb hg hown hK hP (x := (v 23)) rfl (hg _ q1_90) dX0_self_6 ?_
  refine ld_Akind hx hb hK hP (i_in (by omega) (by omega)) dX0_self_9 ?_
  refine lv_topi (fun x_1 ex_1 => ?_)
  have ex_1 : x_1 = (a 37) (v 23).toNatClampNeg := ex_1
  have hx_1 : x_1.toInt = ((a 37) (v 23).toNatClampNeg).toInt := by rw [ex_1]
  have bx_1 := ia37_0 (v 23).toNatClampNeg
  rw [← ex_1] at bx_1
  have fx_1 : x_1 = 2 := by rw [ex_1]; exact hkn
  subst fx_1
  refine lv_iload_n hx hb dX0_self_10 rfl (lv_at hl 1 rfl) ?_
  refine lv_iload_n hx hb dX0_self_11 rfl (lv_at hl 2 rfl) ?_
  refine lv_iload_n hx hb dX0_self_12 rfl (lv_at hl 3 rfl) ?_
  refine cV_i (As := [.int 2, .int 0, .int p2, .int p3]) (rest := []) ⟨hx, hb, hml, hown, hg⟩ (k_F_x_2_0 l D cs A ad fa fq rv v a w fv fp  p2 p3 (show 0 ≤ (v 22).toInt by first | omega | decide) (show (v 22).toInt ≤ 23 by first | omega | decide) (show 0 ≤ p3.toInt by first | omega | decide) (show p3.toInt ≤ 37 by first | omega | decide) (show 0 ≤ (v 22).toInt by first | omega | decide) (show (v 22).toInt ≤ 1000 by first | omega | decide) (show 0 ≤ (v 23).toInt by first | omega | decide) (show (v 23).toInt ≤ 49 by first | omega | decide)) ca_X0_from q4_139 ⟨rfl, rfl⟩ ⟨Nat.le_of_ble_eq_true rfl, Nat.le_of_ble_eq_true rfl⟩ (rc_acts hK hP) hK hP hD hS hZ rfl hl.1 rfl (Nat.le_of_ble_eq_true rfl) ⟨Nat.zero_le _, Nat.zero_le _⟩ dX0_self_13 (fun r_2 z_5 H locs wr_2 hP hD hS => ?_)
  obtain ⟨o_v22_3, o_a38_4⟩ := z_5
  have hP : va_P D vwCl (CW cs ad fa fq rv (va_up v 22 o_v22_3) (va_up a 38 o_a38_4) w fv fp) H := hP
  have hD : va_D A (CW cs ad fa fq rv (va_up v 22 o_v22_3) (va_up a 38 o_a38_4) w fv fp) := hD
  obtain ⟨wr_2_0, wr_2_1, wr_2_2, wr_2_3, wr_2_4⟩ : (o_v22_3.toInt = (v 22).toInt + 1) ∧ (o_a38_4 = TRW (a 38) (v 22).toInt.toNat [1]) ∧ (r_2 = (p2 + (v 23))) ∧ (0 ≤ o_v22_3.toInt) ∧ (o_v22_3.toInt ≤ 1000) := wr_2
  have kt_6 : o_a38_4 = TRW (a 38) (v 22).toInt.toNat [1] := by rw [wr_2_1]
  exact W.iret (v := r_2) hx hb hr (fun tt ht hW => ⟨⟨r_2, ⟨o_v22_3, o_a38_4⟩, rfl, ⟨(by first | rfl | omega | trivial | assumption | (dsimp only; first | omega | assumption)), (by (try dsimp only); first | assumption | rfl), (by simp only [wr_2_2]), (show 0 ≤ o_v22_3.toInt by first | omega | assumption), (show o_v22_3.toInt ≤ 1000 by first | omega | assumption)⟩, by rw [ht]; exact hP, hD⟩, hS.F ht⟩) hS.2.2 dX0_self_16
set_option maxHeartbeats 4000000 in
set_option maxRecDepth 100000 in
theorem k_R_2_10 (l : Launch) (D : va_G) (cs : Nat → ClassId) (A : Nat → Prop) (ad fa fq rv : Nat → Nat) (v : Nat → Int32) (a : Nat → Nat → Int32) (w : Nat → Nat → Int64) (fv fp : Nat → Nat → Int32)  (p2 : Int32) (p3 : Int32) (hkn : (a 37) (v 23).toNatClampNeg = 2) (hr0 : 0 ≤ (v 22).toInt) (hr1 : (v 22).toInt ≤ 22) (hd0 : 0 ≤ p3.toInt) (hd1 : p3.toInt ≤ 37) (iv22_0 : 0 ≤ (v 22).toInt) (iv22_1 : (v 22).toInt ≤ 1000) (iv23_0 : 0 ≤ (v 23).toInt) (iv23_1 : (v 23).toInt ≤ 49) (ia37_0 : AB 0 7 (a 37)) : Met l yX0_run (Cond.code yX0_run cX0_run 4 (some .int) :: gw) ({ frames := 3, cells := 0, slots := 0, locals := 73 }) (va_Pc [.ref (ad 9), .int 10, .int p2, .int p3] (XPre D (TY cs) (CW cs ad fa fq rv v a w fv fp) A)) (va_Qi (fun (r : Int32) (z : Int32 × (Nat → Int32)) => (z.1.toInt = (v 22).toInt + 2) ∧ (z.2 = TRW (a 38) (v 22).toInt.toNat [10, 1]) ∧ (r = ((p2 + (v 23)) * 2)) ∧ (0 ≤ z.1.toInt) ∧ (z.1.toInt ≤ 1000)) (XPo D (fun (z : Int32 × (Nat → Int32)) => CW cs ad fa fq rv (va_up v 22 z.1) (va_up a 38 z.2) w fv fp) A) A) 0 0 A := by
  refine Met.ofW (cc := cX0_run) (maxL := 4) (ret := (some .int)) (by decide) rfl ?_
  intro p e s m args below meth c s₁ B hml hv
  obtain ⟨rfl, hP, hK, hD, hZ⟩ := hv
  have hx := B.exec
  have hb := B.bytes
  have hr := B.returns
  have hts := atoms_spec (ws := (Cond.code yX0_run cX0_run 4 (some .int) :: gw)) B.pre
  have hg : ∀ w ∈ gw, w.before ([.ref (ad 9), .int 10, .int p2, .int p3] : List Value).toArray s = true := fun w h => hts w (List.mem_cons_of_mem _ h)
  have hown : s.vm.findClass RX0 = some m.cls := findClass_of_methodNamed B.named
  have hlocks := B.notSynchronized
  have hS : va_S A s.heap s.heap [] := va_S.rf
  have hP : va_P D vwCl (CW cs ad fa fq rv v a w fv fp) s.heap := hP
  have hl := lv_entry ([.ref (ad 9), .int 10, .int p2, .int p3]) (n := 4) (Nat.le_of_ble_eq_true rfl)
  rw [lg_entry_eq]
  generalize (lg_sl ([.ref (ad 9), .int 10, .int p2, .int p3]) ++ List.replicate (4 - (lg_sl ([.ref (ad 9), .int 10, .int p2, .int p3])).length) Slot.unset).toArray = ls at hl ⊢
  have hl : lv_has ls 4 [(0, .ref (ad 9)), (1, .int 10), (2, .int p2), (3, .int p3)] := hl
  refine lv_aload_n hx hb dX0_run_0 rfl (lv_at hl 0 rfl) ?_
  refine gf_acts_ran hx hb hg hown hK hP (x := (v 22)) rfl (hg _ q1_88) dX0_run_1 ?_
  refine lv_bipush (v := 24) hx hb dX0_run_4 (by decide) ?_
  refine lv_icmp_ge (tgt := 19) hx hb dX0_run_6 (by decide) (fun c_1 => ?_) (fun c_1 => ?_)
  ·
    have kc_1 : (24 : Int) ≤ (v 22).toInt := i_le c_1
    exfalso; omega
  ·
    have kc_1 : (v 22).toInt < (24 : Int) := i_nle c_1
    refine lv_aload_n hx hb dX0_run_9 rfl (lv_at hl 0 rfl) ?_
    refine gf_acts_traced hx hb hg hown hK hP rfl (hg _ q1_86) dX0_run_10 ?_
    refine lv_aload_n hx hb dX0_run_13 rfl (lv_at hl 0 rfl) ?_
    refine gf_acts_ran hx hb hg hown hK hP (x := (v 22)) rfl (hg _ q1_88) dX0_run_14 ?_
    refine lv_iload_n hx hb dX0_run_17 rfl (lv_at hl 1 rfl) ?_
    refine st_Atraced hx hb hK hP hD hS (i_in (by omega) (by omega)) dX0_run_18 (fun H locs hP hD hS => ?_)
    refine lv_aload_n hx hb dX0_run_19 rfl (lv_at hl 0 rfl) ?_
    refine lv_dup hx hb dX0_run_20 rfl ?_
    refine gf_acts_ran hx hb hg hown hK hP (x := (v 22)) rfl (hg _ q1_88) dX0_run_21 ?_
    refine lv_iconst (v := 1) hx hb dX0_run_24 (by decide) ?_
    refine lv_iadd hx hb dX0_run_25 ?_
    refine lv_topi (fun x_2 ex_2 => ?_)
    have fx_2 : x_2.toInt = (v 22).toInt + (1 : Int) := by rw [ex_2]; exact i_add (by first | omega | (show (_ : Int) ≤ (v 22).toInt + (1 : Int); omega)) (by first | omega | (show (v 22).toInt + (1 : Int) ≤ (_ : Int); omega))
    refine pf_acts_ran hx hb hg hown hK hP hD hS (hg _ q1_88) dX0_run_26 (fun H locs hP hD hS => ?_)
    refine lv_iload_n hx hb dX0_run_29 rfl (lv_at hl 1 rfl) ?_
    refine lv_lookup (tgt := 175) hx hb dX0_run_30 (by decide) (off := 145) (by decide) (by decide) ?_
    refine lv_aload_n hx hb dX0_run_175 rfl (lv_at hl 0 rfl) ?_
    refine lv_iconst (v := 0) hx hb dX0_run_176 (by decide) ?_
    refine lv_iload_n hx hb dX0_run_177 rfl (lv_at hl 2 rfl) ?_
    refine lv_iload_n hx hb dX0_run_178 rfl (lv_at hl 3 rfl) ?_
    refine cV_i (As := [.int 0, .int p2, .int p3]) (rest := []) ⟨hx, hb, hml, hown, hg⟩ (k_S_2_0 l D cs A ad fa fq rv (va_up v 22 x_2) (va_up a 38 (upd (a 38) (v 22).toNatClampNeg 10)) w fv fp  p2 p3 hkn (show 0 ≤ x_2.toInt by first | omega | decide) (show x_2.toInt ≤ 23 by first | omega | decide) (show 0 ≤ p3.toInt by first | omega | decide) (show p3.toInt ≤ 37 by first | omega | decide) (show 0 ≤ (v 23).toInt by first | omega | decide) (show (v 23).toInt ≤ 49 by first | omega | decide) ia37_0 (show 0 ≤ x_2.toInt by first | omega | decide) (show x_2.toInt ≤ 1000 by first | omega | decide)) ca_X0_self q4_135 ⟨rfl, rfl⟩ ⟨Nat.le_of_ble_eq_true rfl, Nat.le_of_ble_eq_true rfl⟩ (rc_acts hK hP) hK hP hD hS hZ rfl hl.1 rfl (Nat.le_of_ble_eq_true rfl) ⟨Nat.zero_le _, Nat.zero_le _⟩ dX0_run_179 (fun r_4 z_7 H locs wr_4 hP hD hS => ?_)
    obtain ⟨o_v22_5, o_a38_6⟩ := z_7
    have hP : va_P D vwCl (CW cs ad fa fq rv (va_up v 22 o_v22_5) (va_up a 38 o_a38_6) w fv fp) H := hP
    have hD : va_D A (CW cs ad fa fq rv (va_up v 22 o_v22_5) (va_up a 38 o_a38_6) w fv fp) := hD
    obtain ⟨wr_4_0, wr_4_1, wr_4_2, wr_4_3, wr_4_4⟩ : (o_v22_5.toInt = x_2.toInt + 1) ∧ (o_a38_6 = TRW (upd (a 38) (v 22).toNatClampNeg 10) x_2.toInt.toNat [1]) ∧ (r_4 = (p2 + (v 23))) ∧ (0 ≤ o_v22_5.toInt) ∧ (o_v22_5.toInt ≤ 1000) := wr_4
    have kt_8 : o_a38_6 = TRW (a 38) (v 22).toInt.toNat [10, 1] := by rw [wr_4_1, show (x_2).toInt.toNat = (v 22).toInt.toNat + 1 from by omega]; rfl
    refine lv_iconst (v := 2) hx hb dX0_run_182 (by decide) ?_
    refine lv_imul hx hb dX0_run_183 ?_
    refine lv_topi (fun x_9 ex_9 => ?_)
    exact W.iret (v := x_9) hx hb hr (fun tt ht hW => ⟨⟨x_9, ⟨o_v22_5, o_a38_6⟩, rfl, ⟨(by first | rfl | omega | trivial | assumption | (dsimp only; first | omega | assumption)), (by (try dsimp only); first | assumption | rfl), (by simp only [ex_9, wr_4_2, ex_2]), (show 0 ≤ o_v22_5.toInt by first | omega | assumption), (show o_v22_5.toInt ≤ 1000 by first | omega | assumption)⟩, by rw [ht]; exact hP, hD⟩, hS.F ht⟩) hS.2.2 dX0_run_184
set_option maxHeartbeats 4000000 in
set_option maxRecDepth 100000 in
theorem k_F_2_0_1 (l : Launch) (D : va_G) (cs : Nat → ClassId) (A : Nat → Prop) (ad fa fq rv : Nat → Nat) (v : Nat → Int32) (a : Nat → Nat → Int32) (w : Nat → Nat → Int64) (fv fp : Nat → Nat → Int32)  (p3 : Int32) (p4 : Int32) (hkn : (a 37) (v 23).toNatClampNeg = 2) (hr0 : 0 ≤ (v 22).toInt) (hr1 : (v 22).toInt ≤ 22) (hd0 : 0 ≤ p4.toInt) (hd1 : p4.toInt ≤ 36) (iv22_0 : 0 ≤ (v 22).toInt) (iv22_1 : (v 22).toInt ≤ 1000) (iv23_0 : 0 ≤ (v 23).toInt) (iv23_1 : (v 23).toInt ≤ 49) (ia37_0 : AB 0 7 (a 37)) : Met l yX0_from (Cond.code yX0_from cX0_from 8 (some .int) :: gw) ({ frames := 4, cells := 0, slots := 0, locals := 96 }) (va_Pc [.ref (ad 9), .int 0, .int 1, .int p3, .int p4] (XPre D (TY cs) (CW cs ad fa fq rv v a w fv fp) A)) (va_Qi (fun (r : Int32) (z : Int32 × (Nat → Int32)) => (z.1.toInt = (v 22).toInt + 2) ∧ (z.2 = TRW (a 38) (v 22).toInt.toNat [10, 1]) ∧ (r = ((p3 + (v 23)) * 2)) ∧ (0 ≤ z.1.toInt) ∧ (z.1.toInt ≤ 1000)) (XPo D (fun (z : Int32 × (Nat → Int32)) => CW cs ad fa fq rv (va_up v 22 z.1) (va_up a 38 z.2) w fv fp) A) A) 0 0 A := by
  refine Met.ofW (cc := cX0_from) (maxL := 8) (ret := (some .int)) (by decide) rfl ?_
  intro p e s m args below meth c s₁ B hml hv
  obtain ⟨rfl, hP, hK, hD, hZ⟩ := hv
  have hx := B.exec
  have hb := B.bytes
  have hr := B.returns
  have hts := atoms_spec (ws := (Cond.code yX0_from cX0_from 8 (some .int) :: gw)) B.pre
  have hg : ∀ w ∈ gw, w.before ([.ref (ad 9), .int 0, .int 1, .int p3, .int p4] : List Value).toArray s = true := fun w h => hts w (List.mem_cons_of_mem _ h)
  have hown : s.vm.findClass RX0 = some m.cls := findClass_of_methodNamed B.named
  have hlocks := B.notSynchronized
  have hS : va_S A s.heap s.heap [] := va_S.rf
  have hP : va_P D vwCl (CW cs ad fa fq rv v a w fv fp) s.heap := hP
  have hl := lv_entry ([.ref (ad 9), .int 0, .int 1, .int p3, .int p4]) (n := 8) (Nat.le_of_ble_eq_true rfl)
  rw [lg_entry_eq]
  generalize (lg_sl ([.ref (ad 9), .int 0, .int 1, .int p3, .int p4]) ++ List.replicate (8 - (lg_sl ([.ref (ad 9), .int 0, .int 1, .int p3, .int p4])).length) Slot.unset).toArray = ls at hl ⊢
  have hl : lv_has ls 8 [(0, .ref (ad 9)), (1, .int 0), (2, .int 1), (3, .int p3), (4, .int p4)] := hl
  refine lv_iload_n hx hb dX0_from_0 rfl (lv_at hl 1 rfl) ?_
  refine lv_istore (lv' := [(5, .int 0), (0, .ref (ad 9)), (1, .int 0), (2, .int 1), (3, .int p3), (4, .int p4)]) hx hb dX0_from_1 hl (by decide) rfl (fun ls hl => ?_)
  refine lv_iconst (v := 0) hx hb dX0_from_3 (by decide) ?_
  refine lv_istore (lv' := [(6, .int 0), (5, .int 0), (0, .ref (ad 9)), (1, .int 0), (2, .int 1), (3, .int p3), (4, .int p4)]) hx hb dX0_from_4 hl (by decide) rfl (fun ls hl => ?_)
  refine lv_iload hx hb dX0_from_6 (lv_at hl 0 rfl) ?_
  obtain ⟨t0, t1, t2, ⟨a0, b0⟩, ⟨a1, b1⟩, ⟨a2, b2⟩⟩ := id hZ
  refine va_gets hx hb a2 hS hown (hg _ q4_143) (fun _ h9 => h9) dX0_from_8 ?_
  refine va_tlen hx hb b2 hS (v := 8) rfl dX0_from_11 ?_
  refine lv_icmp_ge (tgt := 73) hx hb dX0_from_12 (by decide) (fun c_1 => absurd c_1 (by decide)) (fun c_1 => ?_)
  refine lv_iload hx hb dX0_from_15 (lv_at hl 1 rfl) ?_
  refine cS_p (As := [.int 0]) (rest := []) ⟨hx, hb, hml, hown, hg⟩ (k_IK_1 l    ) ca_X0_isKind q4_145 ⟨rfl, rfl⟩ ⟨Nat.le_of_ble_eq_true rfl, Nat.le_of_ble_eq_true rfl⟩ rfl hl.1 rfl (Nat.le_of_ble_eq_true rfl) ⟨Nat.zero_le _, Nat.zero_le _⟩ dX0_from_17 (fun r_2 wr_2 => ?_)
  have wr_2 : r_2.toInt = 1 := wr_2
  refine lv_if_eq (tgt := 73) hx hb dX0_from_20 (by decide) (fun c_3 => ?_) (fun c_3 => ?_)
  ·
    have kc_3 : r_2.toInt = (0 : Int) := i_eq c_3
    exfalso; omega
  ·
    have kc_3 : r_2.toInt ≠ (0 : Int) := i_ne c_3
    refine lv_iload hx hb dX0_from_23 (lv_at hl 1 rfl) ?_
    refine lv_iload_n hx hb dX0_from_25 rfl (lv_at hl 4 rfl) ?_
    refine cS_p (As := [.int 0, .int 1]) (rest := []) ⟨hx, hb, hml, hown, hg⟩ (k_B_0_1 l    ) ca_X0_bodyOf q4_146 ⟨rfl, rfl⟩ ⟨Nat.le_of_ble_eq_true rfl, Nat.le_of_ble_eq_true rfl⟩ rfl hl.1 rfl (Nat.le_of_ble_eq_true rfl) ⟨Nat.zero_le _, Nat.zero_le _⟩ dX0_from_26 (fun r_4 wr_4 => ?_)
    have wr_4 : r_4.toInt = 10 := wr_4
    have el_5 : r_4 = 10 := i_inj (wr_4.trans (by rfl))
    subst el_5
    refine lv_istore (lv' := [(7, .int 10), (6, .int 0), (5, .int 0), (0, .ref (ad 9)), (1, .int 0), (2, .int 1), (3, .int p3), (4, .int p4)]) hx hb dX0_from_29 hl (by decide) rfl (fun ls hl => ?_)
    refine lv_iload hx hb dX0_from_31 (lv_at hl 0 rfl) ?_
    refine lv_if_eq (tgt := 59) hx hb dX0_from_33 (by decide) (fun c_6 => absurd c_6 (by decide)) (fun c_6 => ?_)
    refine lv_iload hx hb dX0_from_36 (lv_at hl 7 rfl) ?_
    refine lv_bipush (v := 40) hx hb dX0_from_38 (by decide) ?_
    refine lv_icmp_ge (tgt := 57) hx hb dX0_from_40 (by decide) (fun c_7 => ?_) (fun c_7 => ?_)
    ·
      have kc_7 : (40 : Int) ≤ p4.toInt := i_le c_7
      exfalso; omega
    ·
      have kc_7 : p4.toInt < (40 : Int) := i_nle c_7
      refine lv_aload_n hx hb dX0_from_43 rfl (lv_at hl 3 rfl) ?_
      refine lv_iload hx hb dX0_from_44 (lv_at hl 0 rfl) ?_
      refine lv_iload_n hx hb dX0_from_46 rfl (lv_at hl 6 rfl) ?_
      refine lv_iload hx hb dX0_from_47 (lv_at hl 7 rfl) ?_
      refine lv_iconst (v := 1) hx hb dX0_from_49 (by decide) ?_
      refine lv_iadd hx hb dX0_from_50 ?_
      refine lv_topi (fun x_8 ex_8 => ?_)
      have fx_8 : x_8.toInt = p4.toInt + (1 : Int) := by rw [ex_8]; exact i_add (by first | omega | (show (_ : Int) ≤ p4.toInt + (1 : Int); omega)) (by first | omega | (show p4.toInt + (1 : Int) ≤ (_ : Int); omega))
      refine cV_i (As := [.int 10, .int p3, .int x_8]) (rest := []) ⟨hx, hb, hml, hown, hg⟩ (k_R_2_10 l D cs A ad fa fq rv v a w fv fp  p3 x_8 hkn (show 0 ≤ (v 22).toInt by first | omega | decide) (show (v 22).toInt ≤ 22 by first | omega | decide) (show 0 ≤ x_8.toInt by first | omega | decide) (show x_8.toInt ≤ 37 by first | omega | decide) (show 0 ≤ (v 22).toInt by first | omega | decide) (show (v 22).toInt ≤ 1000 by first | omega | decide) (show 0 ≤ (v 23).toInt by first | omega | decide) (show (v 23).toInt ≤ 49 by first | omega | decide) ia37_0) ca_X0_run q4_149 ⟨rfl, rfl⟩ ⟨Nat.le_of_ble_eq_true rfl, Nat.le_of_ble_eq_true rfl⟩ (rc_acts hK hP) hK hP hD hS hZ rfl hl.1 rfl (Nat.le_of_ble_eq_true rfl) ⟨Nat.zero_le _, Nat.zero_le _⟩ dX0_from_51 (fun r_9 z_12 H locs wr_9 hP hD hS => ?_)
      obtain ⟨o_v22_10, o_a38_11⟩ := z_12
      have hP : va_P D vwCl (CW cs ad fa fq rv (va_up v 22 o_v22_10) (va_up a 38 o_a38_11) w fv fp) H := hP
      have hD : va_D A (CW cs ad fa fq rv (va_up v 22 o_v22_10) (va_up a 38 o_a38_11) w fv fp) := hD
      obtain ⟨wr_9_0, wr_9_1, wr_9_2, wr_9_3, wr_9_4⟩ : (o_v22_10.toInt = (v 22).toInt + 2) ∧ (o_a38_11 = TRW (a 38) (v 22).toInt.toNat [10, 1]) ∧ (r_9 = ((p3 + (v 23)) * 2)) ∧ (0 ≤ o_v22_10.toInt) ∧ (o_v22_10.toInt ≤ 1000) := wr_9
      have kt_13 : o_a38_11 = TRW (a 38) (v 22).toInt.toNat [10, 1] := by rw [wr_9_1]
      refine lv_goto (tgt := 58) hx hb dX0_from_54 (by decide) ?_
      exact W.iret (v := r_9) hx hb hr (fun tt ht hW => ⟨⟨r_9, ⟨o_v22_10, o_a38_11⟩, rfl, ⟨(by first | rfl | omega | trivial | assumption | (dsimp only; first | omega | assumption)), (by (try dsimp only); first | assumption | rfl), (by simp only [wr_9_2, ex_8]), (show 0 ≤ o_v22_10.toInt by first | omega | assumption), (show o_v22_10.toInt ≤ 1000 by first | omega | assumption)⟩, by rw [ht]; exact hP, hD⟩, hS.F ht⟩) hS.2.2 dX0_from_58
set_option maxHeartbeats 4000000 in
set_option maxRecDepth 100000 in
theorem k_R_2_30 (l : Launch) (D : va_G) (cs : Nat → ClassId) (A : Nat → Prop) (ad fa fq rv : Nat → Nat) (v : Nat → Int32) (a : Nat → Nat → Int32) (w : Nat → Nat → Int64) (fv fp : Nat → Nat → Int32)  (p2 : Int32) (p3 : Int32) (hkn : (a 37) (v 23).toNatClampNeg = 2) (hr0 : 0 ≤ (v 22).toInt) (hr1 : (v 22).toInt ≤ 21) (hd0 : 0 ≤ p3.toInt) (hd1 : p3.toInt ≤ 36) (iv22_0 : 0 ≤ (v 22).toInt) (iv22_1 : (v 22).toInt ≤ 1000) (iv23_0 : 0 ≤ (v 23).toInt) (iv23_1 : (v 23).toInt ≤ 49) (ia37_0 : AB 0 7 (a 37)) : Met l yX0_run (Cond.code yX0_run cX0_run 4 (some .int) :: gw) ({ frames := 5, cells := 0, slots := 0, locals := 123 }) (va_Pc [.ref (ad 9), .int 30, .int p2, .int p3] (XPre D (TY cs) (CW cs ad fa fq rv v a w fv fp) A)) (va_Qi (fun (r : Int32) (z : Int32 × (Nat → Int32)) => (z.1.toInt = (v 22).toInt + 3) ∧ (z.2 = TRW (a 38) (v 22).toInt.toNat [30, 10, 1]) ∧ (r = (-((p2 + (v 23)) * 2))) ∧ (0 ≤ z.1.toInt) ∧ (z.1.toInt ≤ 1000)) (XPo D (fun (z : Int32 × (Nat → Int32)) => CW cs ad fa fq rv (va_up v 22 z.1) (va_up a 38 z.2) w fv fp) A) A) 0 0 A := by
  refine Met.ofW (cc := cX0_run) (maxL := 4) (ret := (some .int)) (by decide) rfl ?_
  intro p e s m args below meth c s₁ B hml hv
  obtain ⟨rfl, hP, hK, hD, hZ⟩ := hv
  have hx := B.exec
  have hb := B.bytes
  have hr := B.returns
  have hts := atoms_spec (ws := (Cond.code yX0_run cX0_run 4 (some .int) :: gw)) B.pre
  have hg : ∀ w ∈ gw, w.before ([.ref (ad 9), .int 30, .int p2, .int p3] : List Value).toArray s = true := fun w h => hts w (List.mem_cons_of_mem _ h)
  have hown : s.vm.findClass RX0 = some m.cls := findClass_of_methodNamed B.named
  have hlocks := B.notSynchronized
  have hS : va_S A s.heap s.heap [] := va_S.rf
  have hP : va_P D vwCl (CW cs ad fa fq rv v a w fv fp) s.heap := hP
  have hl := lv_entry ([.ref (ad 9), .int 30, .int p2, .int p3]) (n := 4) (Nat.le_of_ble_eq_true rfl)
  rw [lg_entry_eq]
  generalize (lg_sl ([.ref (ad 9), .int 30, .int p2, .int p3]) ++ List.replicate (4 - (lg_sl ([.ref (ad 9), .int 30, .int p2, .int p3])).length) Slot.unset).toArray = ls at hl ⊢
  have hl : lv_has ls 4 [(0, .ref (ad 9)), (1, .int 30), (2, .int p2), (3, .int p3)] := hl
  refine lv_aload_n hx hb dX0_run_0 rfl (lv_at hl 0 rfl) ?_
  refine gf_acts_ran hx hb hg hown hK hP (x := (v 22)) rfl (hg _ q1_88) dX0_run_1 ?_
  refine lv_bipush (v := 24) hx hb dX0_run_4 (by decide) ?_
  refine lv_icmp_ge (tgt := 19) hx hb dX0_run_6 (by decide) (fun c_1 => ?_) (fun c_1 => ?_)
  ·
    have kc_1 : (24 : Int) ≤ (v 22).toInt := i_le c_1
    exfalso; omega
  ·
    have kc_1 : (v 22).toInt < (24 : Int) := i_nle c_1
    refine lv_aload_n hx hb dX0_run_9 rfl (lv_at hl 0 rfl) ?_
    refine gf_acts_traced hx hb hg hown hK hP rfl (hg _ q1_86) dX0_run_10 ?_
    refine lv_aload_n hx hb dX0_run_13 rfl (lv_at hl 0 rfl) ?_
    refine gf_acts_ran hx hb hg hown hK hP (x := (v 22)) rfl (hg _ q1_88) dX0_run_14 ?_
    refine lv_iload_n hx hb dX0_run_17 rfl (lv_at hl 1 rfl) ?_
    refine st_Atraced hx hb hK hP hD hS (i_in (by omega) (by omega)) dX0_run_18 (fun H locs hP hD hS => ?_)
    refine lv_aload_n hx hb dX0_run_19 rfl (lv_at hl 0 rfl) ?_
    refine lv_dup hx hb dX0_run_20 rfl ?_
    refine gf_acts_ran hx hb hg hown hK hP (x := (v 22)) rfl (hg _ q1_88) dX0_run_21 ?_
    refine lv_iconst (v := 1) hx hb dX0_run_24 (by decide) ?_
    refine lv_iadd hx hb dX0_run_25 ?_
    refine lv_topi (fun x_2 ex_2 => ?_)
    have fx_2 : x_2.toInt = (v 22).toInt + (1 : Int) := by rw [ex_2]; exact i_add (by first | omega | (show (_ : Int) ≤ (v 22).toInt + (1 : Int); omega)) (by first | omega | (show (v 22).toInt + (1 : Int) ≤ (_ : Int); omega))
    refine pf_acts_ran hx hb hg hown hK hP hD hS (hg _ q1_88) dX0_run_26 (fun H locs hP hD hS => ?_)
    refine lv_iload_n hx hb dX0_run_29 rfl (lv_at hl 1 rfl) ?_
    refine lv_lookup (tgt := 207) hx hb dX0_run_30 (by decide) (off := 177) (by decide) (by decide) ?_
    refine lv_aload_n hx hb dX0_run_207 rfl (lv_at hl 0 rfl) ?_
    obtain ⟨t0, t1, t2, ⟨a0, b0⟩, ⟨a1, b1⟩, ⟨a2, b2⟩⟩ := id hZ
    refine va_gets hx hb a2 hS hown (hg _ q4_143) (fun _ h9 => h9) dX0_run_208 ?_
    refine lv_iconst (v := 2) hx hb dX0_run_211 (by decide) ?_
    refine va_ti hx hb b2 hS (i_in (by decide) (by decide)) (v := .int 0) rfl dX0_run_212 ?_
    refine lv_iconst (v := 1) hx hb dX0_run_213 (by decide) ?_
    refine lv_iload_n hx hb dX0_run_214 rfl (lv_at hl 2 rfl) ?_
    refine lv_iload_n hx hb dX0_run_215 rfl (lv_at hl 3 rfl) ?_
    refine cV_i (As := [.int 0, .int 1, .int p2, .int p3]) (rest := []) ⟨hx, hb, hml, hown, hg⟩ (k_F_2_0_1 l D cs A ad fa fq rv (va_up v 22 x_2) (va_up a 38 (upd (a 38) (v 22).toNatClampNeg 30)) w fv fp  p2 p3 hkn (show 0 ≤ x_2.toInt by first | omega | decide) (show x_2.toInt ≤ 22 by first | omega | decide) (show 0 ≤ p3.toInt by first | omega | decide) (show p3.toInt ≤ 36 by first | omega | decide) (show 0 ≤ x_2.toInt by first | omega | decide) (show x_2.toInt ≤ 1000 by first | omega | decide) (show 0 ≤ (v 23).toInt by first | omega | decide) (show (v 23).toInt ≤ 49 by first | omega | decide) ia37_0) ca_X0_from q4_139 ⟨rfl, rfl⟩ ⟨Nat.le_of_ble_eq_true rfl, Nat.le_of_ble_eq_true rfl⟩ (rc_acts hK hP) hK hP hD hS hZ rfl hl.1 rfl (Nat.le_of_ble_eq_true rfl) ⟨Nat.zero_le _, Nat.zero_le _⟩ dX0_run_216 (fun r_4 z_7 H locs wr_4 hP hD hS => ?_)
    obtain ⟨o_v22_5, o_a38_6⟩ := z_7
    have hP : va_P D vwCl (CW cs ad fa fq rv (va_up v 22 o_v22_5) (va_up a 38 o_a38_6) w fv fp) H := hP
    have hD : va_D A (CW cs ad fa fq rv (va_up v 22 o_v22_5) (va_up a 38 o_a38_6) w fv fp) := hD
    obtain ⟨wr_4_0, wr_4_1, wr_4_2, wr_4_3, wr_4_4⟩ : (o_v22_5.toInt = x_2.toInt + 2) ∧ (o_a38_6 = TRW (upd (a 38) (v 22).toNatClampNeg 30) x_2.toInt.toNat [10, 1]) ∧ (r_4 = ((p2 + (v 23)) * 2)) ∧ (0 ≤ o_v22_5.toInt) ∧ (o_v22_5.toInt ≤ 1000) := wr_4
    have kt_8 : o_a38_6 = TRW (a 38) (v 22).toInt.toNat [30, 10, 1] := by rw [wr_4_1, show (x_2).toInt.toNat = (v 22).toInt.toNat + 1 from by omega]; rfl
    refine lv_ineg hx hb dX0_run_219 ?_
    refine lv_topi (fun x_9 ex_9 => ?_)
    exact W.iret (v := x_9) hx hb hr (fun tt ht hW => ⟨⟨x_9, ⟨o_v22_5, o_a38_6⟩, rfl, ⟨(by first | rfl | omega | trivial | assumption | (dsimp only; first | omega | assumption)), (by (try dsimp only); first | assumption | rfl), (by simp only [ex_9, wr_4_2, ex_2]), (show 0 ≤ o_v22_5.toInt by first | omega | assumption), (show o_v22_5.toInt ≤ 1000 by first | omega | assumption)⟩, by rw [ht]; exact hP, hD⟩, hS.F ht⟩) hS.2.2 dX0_run_220
set_option maxHeartbeats 4000000 in
set_option maxRecDepth 100000 in
theorem k_F_2_2_1 (l : Launch) (D : va_G) (cs : Nat → ClassId) (A : Nat → Prop) (ad fa fq rv : Nat → Nat) (v : Nat → Int32) (a : Nat → Nat → Int32) (w : Nat → Nat → Int64) (fv fp : Nat → Nat → Int32)  (p3 : Int32) (p4 : Int32) (hkn : (a 37) (v 23).toNatClampNeg = 2) (hr0 : 0 ≤ (v 22).toInt) (hr1 : (v 22).toInt ≤ 21) (hd0 : 0 ≤ p4.toInt) (hd1 : p4.toInt ≤ 35) (iv22_0 : 0 ≤ (v 22).toInt) (iv22_1 : (v 22).toInt ≤ 1000) (iv23_0 : 0 ≤ (v 23).toInt) (iv23_1 : (v 23).toInt ≤ 49) (ia37_0 : AB 0 7 (a 37)) : Met l yX0_from (Cond.code yX0_from cX0_from 8 (some .int) :: gw) ({ frames := 6, cells := 0, slots := 0, locals := 146 }) (va_Pc [.ref (ad 9), .int 2, .int 1, .int p3, .int p4] (XPre D (TY cs) (CW cs ad fa fq rv v a w fv fp) A)) (va_Qi (fun (r : Int32) (z : Int32 × (Nat → Int32)) => (z.1.toInt = (v 22).toInt + 3) ∧ (z.2 = TRW (a 38) (v 22).toInt.toNat [30, 10, 1]) ∧ (r = (-((p3 + (v 23)) * 2))) ∧ (0 ≤ z.1.toInt) ∧ (z.1.toInt ≤ 1000)) (XPo D (fun (z : Int32 × (Nat → Int32)) => CW cs ad fa fq rv (va_up v 22 z.1) (va_up a 38 z.2) w fv fp) A) A) 0 0 A := by
  refine Met.ofW (cc := cX0_from) (maxL := 8) (ret := (some .int)) (by decide) rfl ?_
  intro p e s m args below meth c s₁ B hml hv
  obtain ⟨rfl, hP, hK, hD, hZ⟩ := hv
  have hx := B.exec
  have hb := B.bytes
  have hr := B.returns
  have hts := atoms_spec (ws := (Cond.code yX0_from cX0_from 8 (some .int) :: gw)) B.pre
  have hg : ∀ w ∈ gw, w.before ([.ref (ad 9), .int 2, .int 1, .int p3, .int p4] : List Value).toArray s = true := fun w h => hts w (List.mem_cons_of_mem _ h)
  have hown : s.vm.findClass RX0 = some m.cls := findClass_of_methodNamed B.named
  have hlocks := B.notSynchronized
  have hS : va_S A s.heap s.heap [] := va_S.rf
  have hP : va_P D vwCl (CW cs ad fa fq rv v a w fv fp) s.heap := hP
  have hl := lv_entry ([.ref (ad 9), .int 2, .int 1, .int p3, .int p4]) (n := 8) (Nat.le_of_ble_eq_true rfl)
  rw [lg_entry_eq]
  generalize (lg_sl ([.ref (ad 9), .int 2, .int 1, .int p3, .int p4]) ++ List.replicate (8 - (lg_sl ([.ref (ad 9), .int 2, .int 1, .int p3, .int p4])).length) Slot.unset).toArray = ls at hl ⊢
  have hl : lv_has ls 8 [(0, .ref (ad 9)), (1, .int 2), (2, .int 1), (3, .int p3), (4, .int p4)] := hl
  refine lv_iload_n hx hb dX0_from_0 rfl (lv_at hl 1 rfl) ?_
  refine lv_istore (lv' := [(5, .int 2), (0, .ref (ad 9)), (1, .int 2), (2, .int 1), (3, .int p3), (4, .int p4)]) hx hb dX0_from_1 hl (by decide) rfl (fun ls hl => ?_)
  refine lv_iconst (v := 0) hx hb dX0_from_3 (by decide) ?_
  refine lv_istore (lv' := [(6, .int 0), (5, .int 2), (0, .ref (ad 9)), (1, .int 2), (2, .int 1), (3, .int p3), (4, .int p4)]) hx hb dX0_from_4 hl (by decide) rfl (fun ls hl => ?_)
  refine lv_iload hx hb dX0_from_6 (lv_at hl 0 rfl) ?_
  obtain ⟨t0, t1, t2, ⟨a0, b0⟩, ⟨a1, b1⟩, ⟨a2, b2⟩⟩ := id hZ
  refine va_gets hx hb a2 hS hown (hg _ q4_143) (fun _ h9 => h9) dX0_from_8 ?_
  refine va_tlen hx hb b2 hS (v := 8) rfl dX0_from_11 ?_
  refine lv_icmp_ge (tgt := 73) hx hb dX0_from_12 (by decide) (fun c_1 => absurd c_1 (by decide)) (fun c_1 => ?_)
  refine lv_iload hx hb dX0_from_15 (lv_at hl 1 rfl) ?_
  refine cS_p (As := [.int 2]) (rest := []) ⟨hx, hb, hml, hown, hg⟩ (k_IK_3 l    ) ca_X0_isKind q4_145 ⟨rfl, rfl⟩ ⟨Nat.le_of_ble_eq_true rfl, Nat.le_of_ble_eq_true rfl⟩ rfl hl.1 rfl (Nat.le_of_ble_eq_true rfl) ⟨Nat.zero_le _, Nat.zero_le _⟩ dX0_from_17 (fun r_2 wr_2 => ?_)
  have wr_2 : r_2.toInt = 1 := wr_2
  refine lv_if_eq (tgt := 73) hx hb dX0_from_20 (by decide) (fun c_3 => ?_) (fun c_3 => ?_)
  ·
    have kc_3 : r_2.toInt = (0 : Int) := i_eq c_3
    exfalso; omega
  ·
    have kc_3 : r_2.toInt ≠ (0 : Int) := i_ne c_3
    refine lv_iload hx hb dX0_from_23 (lv_at hl 1 rfl) ?_
    refine lv_iload_n hx hb dX0_from_25 rfl (lv_at hl 4 rfl) ?_
    refine cS_p (As := [.int 2, .int 1]) (rest := []) ⟨hx, hb, hml, hown, hg⟩ (k_B_2_1 l    ) ca_X0_bodyOf q4_146 ⟨rfl, rfl⟩ ⟨Nat.le_of_ble_eq_true rfl, Nat.le_of_ble_eq_true rfl⟩ rfl hl.1 rfl (Nat.le_of_ble_eq_true rfl) ⟨Nat.zero_le _, Nat.zero_le _⟩ dX0_from_26 (fun r_4 wr_4 => ?_)
    have wr_4 : r_4.toInt = 30 := wr_4
    have el_5 : r_4 = 30 := i_inj (wr_4.trans (by rfl))
    subst el_5
    refine lv_istore (lv' := [(7, .int 30), (6, .int 0), (5, .int 2), (0, .ref (ad 9)), (1, .int 2), (2, .int 1), (3, .int p3), (4, .int p4)]) hx hb dX0_from_29 hl (by decide) rfl (fun ls hl => ?_)
    refine lv_iload hx hb dX0_from_31 (lv_at hl 0 rfl) ?_
    refine lv_if_eq (tgt := 59) hx hb dX0_from_33 (by decide) (fun c_6 => absurd c_6 (by decide)) (fun c_6 => ?_)
    refine lv_iload hx hb dX0_from_36 (lv_at hl 7 rfl) ?_
    refine lv_bipush (v := 40) hx hb dX0_from_38 (by decide) ?_
    refine lv_icmp_ge (tgt := 57) hx hb dX0_from_40 (by decide) (fun c_7 => ?_) (fun c_7 => ?_)
    ·
      have kc_7 : (40 : Int) ≤ p4.toInt := i_le c_7
      exfalso; omega
    ·
      have kc_7 : p4.toInt < (40 : Int) := i_nle c_7
      refine lv_aload_n hx hb dX0_from_43 rfl (lv_at hl 3 rfl) ?_
      refine lv_iload hx hb dX0_from_44 (lv_at hl 0 rfl) ?_
      refine lv_iload_n hx hb dX0_from_46 rfl (lv_at hl 6 rfl) ?_
      refine lv_iload hx hb dX0_from_47 (lv_at hl 7 rfl) ?_
      refine lv_iconst (v := 1) hx hb dX0_from_49 (by decide) ?_
      refine lv_iadd hx hb dX0_from_50 ?_
      refine lv_topi (fun x_8 ex_8 => ?_)
      have fx_8 : x_8.toInt = p4.toInt + (1 : Int) := by rw [ex_8]; exact i_add (by first | omega | (show (_ : Int) ≤ p4.toInt + (1 : Int); omega)) (by first | omega | (show p4.toInt + (1 : Int) ≤ (_ : Int); omega))
      refine cV_i (As := [.int 30, .int p3, .int x_8]) (rest := []) ⟨hx, hb, hml, hown, hg⟩ (k_R_2_30 l D cs A ad fa fq rv v a w fv fp  p3 x_8 hkn (show 0 ≤ (v 22).toInt by first | omega | decide) (show (v 22).toInt ≤ 21 by first | omega | decide) (show 0 ≤ x_8.toInt by first | omega | decide) (show x_8.toInt ≤ 36 by first | omega | decide) (show 0 ≤ (v 22).toInt by first | omega | decide) (show (v 22).toInt ≤ 1000 by first | omega | decide) (show 0 ≤ (v 23).toInt by first | omega | decide) (show (v 23).toInt ≤ 49 by first | omega | decide) ia37_0) ca_X0_run q4_149 ⟨rfl, rfl⟩ ⟨Nat.le_of_ble_eq_true rfl, Nat.le_of_ble_eq_true rfl⟩ (rc_acts hK hP) hK hP hD hS hZ rfl hl.1 rfl (Nat.le_of_ble_eq_true rfl) ⟨Nat.zero_le _, Nat.zero_le _⟩ dX0_from_51 (fun r_9 z_12 H locs wr_9 hP hD hS => ?_)
      obtain ⟨o_v22_10, o_a38_11⟩ := z_12
      have hP : va_P D vwCl (CW cs ad fa fq rv (va_up v 22 o_v22_10) (va_up a 38 o_a38_11) w fv fp) H := hP
      have hD : va_D A (CW cs ad fa fq rv (va_up v 22 o_v22_10) (va_up a 38 o_a38_11) w fv fp) := hD
      obtain ⟨wr_9_0, wr_9_1, wr_9_2, wr_9_3, wr_9_4⟩ : (o_v22_10.toInt = (v 22).toInt + 3) ∧ (o_a38_11 = TRW (a 38) (v 22).toInt.toNat [30, 10, 1]) ∧ (r_9 = (-((p3 + (v 23)) * 2))) ∧ (0 ≤ o_v22_10.toInt) ∧ (o_v22_10.toInt ≤ 1000) := wr_9
      have kt_13 : o_a38_11 = TRW (a 38) (v 22).toInt.toNat [30, 10, 1] := by rw [wr_9_1]
      refine lv_goto (tgt := 58) hx hb dX0_from_54 (by decide) ?_
      exact W.iret (v := r_9) hx hb hr (fun tt ht hW => ⟨⟨r_9, ⟨o_v22_10, o_a38_11⟩, rfl, ⟨(by first | rfl | omega | trivial | assumption | (dsimp only; first | omega | assumption)), (by (try dsimp only); first | assumption | rfl), (by simp only [wr_9_2, ex_8]), (show 0 ≤ o_v22_10.toInt by first | omega | assumption), (show o_v22_10.toInt ≤ 1000 by first | omega | assumption)⟩, by rw [ht]; exact hP, hD⟩, hS.F ht⟩) hS.2.2 dX0_from_58
set_option maxHeartbeats 4000000 in
set_option maxRecDepth 100000 in
theorem k_S_2_1 (l : Launch) (D : va_G) (cs : Nat → ClassId) (A : Nat → Prop) (ad fa fq rv : Nat → Nat) (v : Nat → Int32) (a : Nat → Nat → Int32) (w : Nat → Nat → Int64) (fv fp : Nat → Nat → Int32)  (p2 : Int32) (p3 : Int32) (hkn : (a 37) (v 23).toNatClampNeg = 2) (hr0 : 0 ≤ (v 22).toInt) (hr1 : (v 22).toInt ≤ 21) (hd0 : 0 ≤ p3.toInt) (hd1 : p3.toInt ≤ 35) (iv23_0 : 0 ≤ (v 23).toInt) (iv23_1 : (v 23).toInt ≤ 49) (ia37_0 : AB 0 7 (a 37)) (iv22_0 : 0 ≤ (v 22).toInt) (iv22_1 : (v 22).toInt ≤ 1000) : Met l yX0_self (Cond.code yX0_self cX0_self 4 (some .int) :: gw) ({ frames := 7, cells := 0, slots := 0, locals := 173 }) (va_Pc [.ref (ad 9), .int 1, .int p2, .int p3] (XPre D (TY cs) (CW cs ad fa fq rv v a w fv fp) A)) (va_Qi (fun (r : Int32) (z : Int32 × (Nat → Int32)) => (z.1.toInt = (v 22).toInt + 3) ∧ (z.2 = TRW (a 38) (v 22).toInt.toNat [30, 10, 1]) ∧ (r = (-((p2 + (v 23)) * 2))) ∧ (0 ≤ z.1.toInt) ∧ (z.1.toInt ≤ 1000)) (XPo D (fun (z : Int32 × (Nat → Int32)) => CW cs ad fa fq rv (va_up v 22 z.1) (va_up a 38 z.2) w fv fp) A) A) 0 0 A := by
  refine Met.ofW (cc := cX0_self) (maxL := 4) (ret := (some .int)) (by decide) rfl ?_
  intro p e s m args below meth c s₁ B hml hv
  obtain ⟨rfl, hP, hK, hD, hZ⟩ := hv
  have hx := B.exec
  have hb := B.bytes
  have hr := B.returns
  have hts := atoms_spec (ws := (Cond.code yX0_self cX0_self 4 (some .int) :: gw)) B.pre
  have hg : ∀ w ∈ gw, w.before ([.ref (ad 9), .int 1, .int p2, .int p3] : List Value).toArray s = true := fun w h => hts w (List.mem_cons_of_mem _ h)
  have hown : s.vm.findClass RX0 = some m.cls := findClass_of_methodNamed B.named
  have hlocks := B.notSynchronized
  have hS : va_S A s.heap s.heap [] := va_S.rf
  have hP : va_P D vwCl (CW cs ad fa fq rv v a w fv fp) s.heap := hP
  have hl := lv_entry ([.ref (ad 9), .int 1, .int p2, .int p3]) (n := 4) (Nat.le_of_ble_eq_true rfl)
  rw [lg_entry_eq]
  generalize (lg_sl ([.ref (ad 9), .int 1, .int p2, .int p3]) ++ List.replicate (4 - (lg_sl ([.ref (ad 9), .int 1, .int p2, .int p3])).length) Slot.unset).toArray = ls at hl ⊢
  have hl : lv_has ls 4 [(0, .ref (ad 9)), (1, .int 1), (2, .int p2), (3, .int p3)] := hl
  refine lv_aload_n hx hb dX0_self_0 rfl (lv_at hl 0 rfl) ?_
  refine lv_aload_n hx hb dX0_self_1 rfl (lv_at hl 0 rfl) ?_
  refine gf_acts_kind hx hb hg hown hK hP rfl (hg _ q1_83) dX0_self_2 ?_
  refine lv_aload_n hx hb dX0_self_5 rfl (lv_at hl 0 rfl) ?_
  refine gf_acts_number hx hb hg hown hK hP (x := (v 23)) rfl (hg _ q1_90) dX0_self_6 ?_
  refine ld_Akind hx hb hK hP (i_in (by omega) (by omega)) dX0_self_9 ?_
  refine lv_topi (fun x_1 ex_1 => ?_)
  have ex_1 : x_1 = (a 37) (v 23).toNatClampNeg := ex_1
  have hx_1 : x_1.toInt = ((a 37) (v 23).toNatClampNeg).toInt := by rw [ex_1]
  have bx_1 := ia37_0 (v 23).toNatClampNeg
  rw [← ex_1] at bx_1
  have fx_1 : x_1 = 2 := by rw [ex_1]; exact hkn
  subst fx_1
  refine lv_iload_n hx hb dX0_self_10 rfl (lv_at hl 1 rfl) ?_
  refine lv_iload_n hx hb dX0_self_11 rfl (lv_at hl 2 rfl) ?_
  refine lv_iload_n hx hb dX0_self_12 rfl (lv_at hl 3 rfl) ?_
  refine cV_i (As := [.int 2, .int 1, .int p2, .int p3]) (rest := []) ⟨hx, hb, hml, hown, hg⟩ (k_F_2_2_1 l D cs A ad fa fq rv v a w fv fp  p2 p3 hkn (show 0 ≤ (v 22).toInt by first | omega | decide) (show (v 22).toInt ≤ 21 by first | omega | decide) (show 0 ≤ p3.toInt by first | omega | decide) (show p3.toInt ≤ 35 by first | omega | decide) (show 0 ≤ (v 22).toInt by first | omega | decide) (show (v 22).toInt ≤ 1000 by first | omega | decide) (show 0 ≤ (v 23).toInt by first | omega | decide) (show (v 23).toInt ≤ 49 by first | omega | decide) ia37_0) ca_X0_from q4_139 ⟨rfl, rfl⟩ ⟨Nat.le_of_ble_eq_true rfl, Nat.le_of_ble_eq_true rfl⟩ (rc_acts hK hP) hK hP hD hS hZ rfl hl.1 rfl (Nat.le_of_ble_eq_true rfl) ⟨Nat.zero_le _, Nat.zero_le _⟩ dX0_self_13 (fun r_2 z_5 H locs wr_2 hP hD hS => ?_)
  obtain ⟨o_v22_3, o_a38_4⟩ := z_5
  have hP : va_P D vwCl (CW cs ad fa fq rv (va_up v 22 o_v22_3) (va_up a 38 o_a38_4) w fv fp) H := hP
  have hD : va_D A (CW cs ad fa fq rv (va_up v 22 o_v22_3) (va_up a 38 o_a38_4) w fv fp) := hD
  obtain ⟨wr_2_0, wr_2_1, wr_2_2, wr_2_3, wr_2_4⟩ : (o_v22_3.toInt = (v 22).toInt + 3) ∧ (o_a38_4 = TRW (a 38) (v 22).toInt.toNat [30, 10, 1]) ∧ (r_2 = (-((p2 + (v 23)) * 2))) ∧ (0 ≤ o_v22_3.toInt) ∧ (o_v22_3.toInt ≤ 1000) := wr_2
  have kt_6 : o_a38_4 = TRW (a 38) (v 22).toInt.toNat [30, 10, 1] := by rw [wr_2_1]
  exact W.iret (v := r_2) hx hb hr (fun tt ht hW => ⟨⟨r_2, ⟨o_v22_3, o_a38_4⟩, rfl, ⟨(by first | rfl | omega | trivial | assumption | (dsimp only; first | omega | assumption)), (by (try dsimp only); first | assumption | rfl), (by simp only [wr_2_2]), (show 0 ≤ o_v22_3.toInt by first | omega | assumption), (show o_v22_3.toInt ≤ 1000 by first | omega | assumption)⟩, by rw [ht]; exact hP, hD⟩, hS.F ht⟩) hS.2.2 dX0_self_16
set_option maxHeartbeats 4000000 in
set_option maxRecDepth 100000 in
theorem k_F_x_2_2 (l : Launch) (D : va_G) (cs : Nat → ClassId) (A : Nat → Prop) (ad fa fq rv : Nat → Nat) (v : Nat → Int32) (a : Nat → Nat → Int32) (w : Nat → Nat → Int64) (fv fp : Nat → Nat → Int32)  (p3 : Int32) (p4 : Int32) (hr0 : 0 ≤ (v 22).toInt) (hr1 : (v 22).toInt ≤ 23) (hd0 : 0 ≤ p4.toInt) (hd1 : p4.toInt ≤ 37) (iv22_0 : 0 ≤ (v 22).toInt) (iv22_1 : (v 22).toInt ≤ 1000) (iv23_0 : 0 ≤ (v 23).toInt) (iv23_1 : (v 23).toInt ≤ 49) : Met l yX0_from (Cond.code yX0_from cX0_from 8 (some .int) :: gw) ({ frames := 1, cells := 0, slots := 0, locals := 23 }) (va_Pc [.ref (ad 9), .int 2, .int 2, .int p3, .int p4] (XPre D (TY cs) (CW cs ad fa fq rv v a w fv fp) A)) (va_Qi (fun (r : Int32) (z : Int32 × (Nat → Int32)) => (z.1.toInt = (v 22).toInt + 1) ∧ (z.2 = TRW (a 38) (v 22).toInt.toNat [11]) ∧ (r = (p3 ^^^ (v 23))) ∧ (0 ≤ z.1.toInt) ∧ (z.1.toInt ≤ 1000)) (XPo D (fun (z : Int32 × (Nat → Int32)) => CW cs ad fa fq rv (va_up v 22 z.1) (va_up a 38 z.2) w fv fp) A) A) 0 0 A := by
  refine Met.ofW (cc := cX0_from) (maxL := 8) (ret := (some .int)) (by decide) rfl ?_
  intro p e s m args below meth c s₁ B hml hv
  obtain ⟨rfl, hP, hK, hD, hZ⟩ := hv
  have hx := B.exec
  have hb := B.bytes
  have hr := B.returns
  have hts := atoms_spec (ws := (Cond.code yX0_from cX0_from 8 (some .int) :: gw)) B.pre
  have hg : ∀ w ∈ gw, w.before ([.ref (ad 9), .int 2, .int 2, .int p3, .int p4] : List Value).toArray s = true := fun w h => hts w (List.mem_cons_of_mem _ h)
  have hown : s.vm.findClass RX0 = some m.cls := findClass_of_methodNamed B.named
  have hlocks := B.notSynchronized
  have hS : va_S A s.heap s.heap [] := va_S.rf
  have hP : va_P D vwCl (CW cs ad fa fq rv v a w fv fp) s.heap := hP
  have hl := lv_entry ([.ref (ad 9), .int 2, .int 2, .int p3, .int p4]) (n := 8) (Nat.le_of_ble_eq_true rfl)
  rw [lg_entry_eq]
  generalize (lg_sl ([.ref (ad 9), .int 2, .int 2, .int p3, .int p4]) ++ List.replicate (8 - (lg_sl ([.ref (ad 9), .int 2, .int 2, .int p3, .int p4])).length) Slot.unset).toArray = ls at hl ⊢
  have hl : lv_has ls 8 [(0, .ref (ad 9)), (1, .int 2), (2, .int 2), (3, .int p3), (4, .int p4)] := hl
  refine lv_iload_n hx hb dX0_from_0 rfl (lv_at hl 1 rfl) ?_
  refine lv_istore (lv' := [(5, .int 2), (0, .ref (ad 9)), (1, .int 2), (2, .int 2), (3, .int p3), (4, .int p4)]) hx hb dX0_from_1 hl (by decide) rfl (fun ls hl => ?_)
  refine lv_iconst (v := 0) hx hb dX0_from_3 (by decide) ?_
  refine lv_istore (lv' := [(6, .int 0), (5, .int 2), (0, .ref (ad 9)), (1, .int 2), (2, .int 2), (3, .int p3), (4, .int p4)]) hx hb dX0_from_4 hl (by decide) rfl (fun ls hl => ?_)
  refine lv_iload hx hb dX0_from_6 (lv_at hl 0 rfl) ?_
  obtain ⟨t0, t1, t2, ⟨a0, b0⟩, ⟨a1, b1⟩, ⟨a2, b2⟩⟩ := id hZ
  refine va_gets hx hb a2 hS hown (hg _ q4_143) (fun _ h9 => h9) dX0_from_8 ?_
  refine va_tlen hx hb b2 hS (v := 8) rfl dX0_from_11 ?_
  refine lv_icmp_ge (tgt := 73) hx hb dX0_from_12 (by decide) (fun c_1 => absurd c_1 (by decide)) (fun c_1 => ?_)
  refine lv_iload hx hb dX0_from_15 (lv_at hl 1 rfl) ?_
  refine cS_p (As := [.int 2]) (rest := []) ⟨hx, hb, hml, hown, hg⟩ (k_IK_3 l    ) ca_X0_isKind q4_145 ⟨rfl, rfl⟩ ⟨Nat.le_of_ble_eq_true rfl, Nat.le_of_ble_eq_true rfl⟩ rfl hl.1 rfl (Nat.le_of_ble_eq_true rfl) ⟨Nat.zero_le _, Nat.zero_le _⟩ dX0_from_17 (fun r_2 wr_2 => ?_)
  have wr_2 : r_2.toInt = 1 := wr_2
  refine lv_if_eq (tgt := 73) hx hb dX0_from_20 (by decide) (fun c_3 => ?_) (fun c_3 => ?_)
  ·
    have kc_3 : r_2.toInt = (0 : Int) := i_eq c_3
    exfalso; omega
  ·
    have kc_3 : r_2.toInt ≠ (0 : Int) := i_ne c_3
    refine lv_iload hx hb dX0_from_23 (lv_at hl 1 rfl) ?_
    refine lv_iload_n hx hb dX0_from_25 rfl (lv_at hl 4 rfl) ?_
    refine cS_p (As := [.int 2, .int 2]) (rest := []) ⟨hx, hb, hml, hown, hg⟩ (k_B_2_2 l    ) ca_X0_bodyOf q4_146 ⟨rfl, rfl⟩ ⟨Nat.le_of_ble_eq_true rfl, Nat.le_of_ble_eq_true rfl⟩ rfl hl.1 rfl (Nat.le_of_ble_eq_true rfl) ⟨Nat.zero_le _, Nat.zero_le _⟩ dX0_from_26 (fun r_4 wr_4 => ?_)
    have wr_4 : r_4.toInt = 0 := wr_4
    have el_5 : r_4 = 0 := i_inj (wr_4.trans (by rfl))
    subst el_5
    refine lv_istore (lv' := [(7, .int 0), (6, .int 0), (5, .int 2), (0, .ref (ad 9)), (1, .int 2), (2, .int 2), (3, .int p3), (4, .int p4)]) hx hb dX0_from_29 hl (by decide) rfl (fun ls hl => ?_)
    refine lv_iload hx hb dX0_from_31 (lv_at hl 0 rfl) ?_
    refine lv_if_eq (tgt := 59) hx hb dX0_from_33 (by decide) (fun c_6 => ?_) (fun c_6 => absurd c_6 (by decide))
    obtain ⟨t0, t1, t2, ⟨a0, b0⟩, ⟨a1, b1⟩, ⟨a2, b2⟩⟩ := id hZ
    refine va_gets hx hb a2 hS hown (hg _ q4_143) (fun _ h9 => h9) dX0_from_59 ?_
    refine lv_iload hx hb dX0_from_62 (lv_at hl 2 rfl) ?_
    refine va_ti hx hb b2 hS (i_in (by decide) (by decide)) (v := .int 0) rfl dX0_from_64 ?_
    refine lv_istore (lv' := [(5, .int 0), (7, .int 0), (6, .int 0), (0, .ref (ad 9)), (1, .int 2), (2, .int 2), (3, .int p3), (4, .int p4)]) hx hb dX0_from_65 hl (by decide) rfl (fun ls hl => ?_)
    obtain ⟨x_7, ex_7⟩ : ∃ y : Int32, y = 0 + 1 := ⟨_, rfl⟩
    have fx_7 : x_7.toInt = (0 : Int) + 1 := by rw [ex_7]; exact i_add (by first | omega | (show (_ : Int) ≤ (0 : Int) + 1; omega)) (by first | omega | (show (0 : Int) + 1 ≤ (_ : Int); omega))
    refine lv_iinc (v := x_7) (lv' := [(6, .int x_7), (5, .int 0), (7, .int 0), (0, .ref (ad 9)), (1, .int 2), (2, .int 2), (3, .int p3), (4, .int p4)]) hx hb dX0_from_67 hl (k := 2) rfl (by rw [ex_7]; rfl) (by decide) rfl (fun ls hl => ?_)
    refine lv_goto (tgt := 6) hx hb dX0_from_70 (by decide) ?_
    refine lv_iload hx hb dX0_from_6 (lv_at hl 0 rfl) ?_
    obtain ⟨t0, t1, t2, ⟨a0, b0⟩, ⟨a1, b1⟩, ⟨a2, b2⟩⟩ := id hZ
    refine va_gets hx hb a2 hS hown (hg _ q4_143) (fun _ h9 => h9) dX0_from_8 ?_
    refine va_tlen hx hb b2 hS (v := 8) rfl dX0_from_11 ?_
    refine lv_icmp_ge (tgt := 73) hx hb dX0_from_12 (by decide) (fun c_8 => ?_) (fun c_8 => ?_)
    ·
      have kc_8 : (8 : Int) ≤ x_7.toInt := i_le c_8
      exfalso; omega
    ·
      have kc_8 : x_7.toInt < (8 : Int) := i_nle c_8
      refine lv_iload hx hb dX0_from_15 (lv_at hl 1 rfl) ?_
      refine cS_p (As := [.int 0]) (rest := []) ⟨hx, hb, hml, hown, hg⟩ (k_IK_1 l    ) ca_X0_isKind q4_145 ⟨rfl, rfl⟩ ⟨Nat.le_of_ble_eq_true rfl, Nat.le_of_ble_eq_true rfl⟩ rfl hl.1 rfl (Nat.le_of_ble_eq_true rfl) ⟨Nat.zero_le _, Nat.zero_le _⟩ dX0_from_17 (fun r_9 wr_9 => ?_)
      have wr_9 : r_9.toInt = 1 := wr_9
      refine lv_if_eq (tgt := 73) hx hb dX0_from_20 (by decide) (fun c_10 => ?_) (fun c_10 => ?_)
      ·
        have kc_10 : r_9.toInt = (0 : Int) := i_eq c_10
        exfalso; omega
      ·
        have kc_10 : r_9.toInt ≠ (0 : Int) := i_ne c_10
        refine lv_iload hx hb dX0_from_23 (lv_at hl 1 rfl) ?_
        refine lv_iload_n hx hb dX0_from_25 rfl (lv_at hl 5 rfl) ?_
        refine cS_p (As := [.int 0, .int 2]) (rest := []) ⟨hx, hb, hml, hown, hg⟩ (k_B_0_2 l    ) ca_X0_bodyOf q4_146 ⟨rfl, rfl⟩ ⟨Nat.le_of_ble_eq_true rfl, Nat.le_of_ble_eq_true rfl⟩ rfl hl.1 rfl (Nat.le_of_ble_eq_true rfl) ⟨Nat.zero_le _, Nat.zero_le _⟩ dX0_from_26 (fun r_11 wr_11 => ?_)
        have wr_11 : r_11.toInt = 11 := wr_11
        have el_12 : r_11 = 11 := i_inj (wr_11.trans (by rfl))
        subst el_12
        refine lv_istore (lv' := [(7, .int 11), (6, .int x_7), (5, .int 0), (0, .ref (ad 9)), (1, .int 2), (2, .int 2), (3, .int p3), (4, .int p4)]) hx hb dX0_from_29 hl (by decide) rfl (fun ls hl => ?_)
        refine lv_iload hx hb dX0_from_31 (lv_at hl 0 rfl) ?_
        refine lv_if_eq (tgt := 59) hx hb dX0_from_33 (by decide) (fun c_13 => absurd c_13 (by decide)) (fun c_13 => ?_)
        refine lv_iload hx hb dX0_from_36 (lv_at hl 7 rfl) ?_
        refine lv_bipush (v := 40) hx hb dX0_from_38 (by decide) ?_
        refine lv_icmp_ge (tgt := 57) hx hb dX0_from_40 (by decide) (fun c_14 => ?_) (fun c_14 => ?_)
        ·
          have kc_14 : (40 : Int) ≤ p4.toInt := i_le c_14
          exfalso; omega
        ·
          have kc_14 : p4.toInt < (40 : Int) := i_nle c_14
          refine lv_aload_n hx hb dX0_from_43 rfl (lv_at hl 3 rfl) ?_
          refine lv_iload hx hb dX0_from_44 (lv_at hl 0 rfl) ?_
          refine lv_iload_n hx hb dX0_from_46 rfl (lv_at hl 6 rfl) ?_
          refine lv_iload hx hb dX0_from_47 (lv_at hl 7 rfl) ?_
          refine lv_iconst (v := 1) hx hb dX0_from_49 (by decide) ?_
          refine lv_iadd hx hb dX0_from_50 ?_
          refine lv_topi (fun x_15 ex_15 => ?_)
          have fx_15 : x_15.toInt = p4.toInt + (1 : Int) := by rw [ex_15]; exact i_add (by first | omega | (show (_ : Int) ≤ p4.toInt + (1 : Int); omega)) (by first | omega | (show p4.toInt + (1 : Int) ≤ (_ : Int); omega))
          refine cV_i (As := [.int 11, .int p3, .int x_15]) (rest := []) ⟨hx, hb, hml, hown, hg⟩ (k_R_x_11 l D cs A ad fa fq rv v a w fv fp  p3 x_15 (show 0 ≤ (v 22).toInt by first | omega | decide) (show (v 22).toInt ≤ 23 by first | omega | decide) (show 0 ≤ x_15.toInt by first | omega | decide) (show x_15.toInt ≤ 38 by first | omega | decide) (show 0 ≤ (v 22).toInt by first | omega | decide) (show (v 22).toInt ≤ 1000 by first | omega | decide) (show 0 ≤ (v 23).toInt by first | omega | decide) (show (v 23).toInt ≤ 49 by first | omega | decide)) ca_X0_run q4_149 ⟨rfl, rfl⟩ ⟨Nat.le_of_ble_eq_true rfl, Nat.le_of_ble_eq_true rfl⟩ (rc_acts hK hP) hK hP hD hS hZ rfl hl.1 rfl (Nat.le_of_ble_eq_true rfl) ⟨Nat.zero_le _, Nat.zero_le _⟩ dX0_from_51 (fun r_16 z_19 H locs wr_16 hP hD hS => ?_)
          obtain ⟨o_v22_17, o_a38_18⟩ := z_19
          have hP : va_P D vwCl (CW cs ad fa fq rv (va_up v 22 o_v22_17) (va_up a 38 o_a38_18) w fv fp) H := hP
          have hD : va_D A (CW cs ad fa fq rv (va_up v 22 o_v22_17) (va_up a 38 o_a38_18) w fv fp) := hD
          obtain ⟨wr_16_0, wr_16_1, wr_16_2, wr_16_3, wr_16_4⟩ : (o_v22_17.toInt = (v 22).toInt + 1) ∧ (o_a38_18 = TRW (a 38) (v 22).toInt.toNat [11]) ∧ (r_16 = (p3 ^^^ (v 23))) ∧ (0 ≤ o_v22_17.toInt) ∧ (o_v22_17.toInt ≤ 1000) := wr_16
          have kt_20 : o_a38_18 = TRW (a 38) (v 22).toInt.toNat [11] := by rw [wr_16_1]
          refine lv_goto (tgt := 58) hx hb dX0_from_54 (by decide) ?_
          exact W.iret (v := r_16) hx hb hr (fun tt ht hW => ⟨⟨r_16, ⟨o_v22_17, o_a38_18⟩, rfl, ⟨(by first | rfl | omega | trivial | assumption | (dsimp only; first | omega | assumption)), (by (try dsimp only); first | assumption | rfl), (by simp only [wr_16_2, ex_15]), (show 0 ≤ o_v22_17.toInt by first | omega | assumption), (show o_v22_17.toInt ≤ 1000 by first | omega | assumption)⟩, by rw [ht]; exact hP, hD⟩, hS.F ht⟩) hS.2.2 dX0_from_58
set_option maxHeartbeats 4000000 in
set_option maxRecDepth 100000 in
theorem k_S_2_2 (l : Launch) (D : va_G) (cs : Nat → ClassId) (A : Nat → Prop) (ad fa fq rv : Nat → Nat) (v : Nat → Int32) (a : Nat → Nat → Int32) (w : Nat → Nat → Int64) (fv fp : Nat → Nat → Int32)  (p2 : Int32) (p3 : Int32) (hkn : (a 37) (v 23).toNatClampNeg = 2) (hr0 : 0 ≤ (v 22).toInt) (hr1 : (v 22).toInt ≤ 23) (hd0 : 0 ≤ p3.toInt) (hd1 : p3.toInt ≤ 37) (iv23_0 : 0 ≤ (v 23).toInt) (iv23_1 : (v 23).toInt ≤ 49) (ia37_0 : AB 0 7 (a 37)) (iv22_0 : 0 ≤ (v 22).toInt) (iv22_1 : (v 22).toInt ≤ 1000) : Met l yX0_self (Cond.code yX0_self cX0_self 4 (some .int) :: gw) ({ frames := 2, cells := 0, slots := 0, locals := 50 }) (va_Pc [.ref (ad 9), .int 2, .int p2, .int p3] (XPre D (TY cs) (CW cs ad fa fq rv v a w fv fp) A)) (va_Qi (fun (r : Int32) (z : Int32 × (Nat → Int32)) => (z.1.toInt = (v 22).toInt + 1) ∧ (z.2 = TRW (a 38) (v 22).toInt.toNat [11]) ∧ (r = (p2 ^^^ (v 23))) ∧ (0 ≤ z.1.toInt) ∧ (z.1.toInt ≤ 1000)) (XPo D (fun (z : Int32 × (Nat → Int32)) => CW cs ad fa fq rv (va_up v 22 z.1) (va_up a 38 z.2) w fv fp) A) A) 0 0 A := by
  refine Met.ofW (cc := cX0_self) (maxL := 4) (ret := (some .int)) (by decide) rfl ?_
  intro p e s m args below meth c s₁ B hml hv
  obtain ⟨rfl, hP, hK, hD, hZ⟩ := hv
  have hx := B.exec
  have hb := B.bytes
  have hr := B.returns
  have hts := atoms_spec (ws := (Cond.code yX0_self cX0_self 4 (some .int) :: gw)) B.pre
  have hg : ∀ w ∈ gw, w.before ([.ref (ad 9), .int 2, .int p2, .int p3] : List Value).toArray s = true := fun w h => hts w (List.mem_cons_of_mem _ h)
  have hown : s.vm.findClass RX0 = some m.cls := findClass_of_methodNamed B.named
  have hlocks := B.notSynchronized
  have hS : va_S A s.heap s.heap [] := va_S.rf
  have hP : va_P D vwCl (CW cs ad fa fq rv v a w fv fp) s.heap := hP
  have hl := lv_entry ([.ref (ad 9), .int 2, .int p2, .int p3]) (n := 4) (Nat.le_of_ble_eq_true rfl)
  rw [lg_entry_eq]
  generalize (lg_sl ([.ref (ad 9), .int 2, .int p2, .int p3]) ++ List.replicate (4 - (lg_sl ([.ref (ad 9), .int 2, .int p2, .int p3])).length) Slot.unset).toArray = ls at hl ⊢
  have hl : lv_has ls 4 [(0, .ref (ad 9)), (1, .int 2), (2, .int p2), (3, .int p3)] := hl
  refine lv_aload_n hx hb dX0_self_0 rfl (lv_at hl 0 rfl) ?_
  refine lv_aload_n hx hb dX0_self_1 rfl (lv_at hl 0 rfl) ?_
  refine gf_acts_kind hx hb hg hown hK hP rfl (hg _ q1_83) dX0_self_2 ?_
  refine lv_aload_n hx hb dX0_self_5 rfl (lv_at hl 0 rfl) ?_
  refine gf_acts_number hx hb hg hown hK hP (x := (v 23)) rfl (hg _ q1_90) dX0_self_6 ?_
  refine ld_Akind hx hb hK hP (i_in (by omega) (by omega)) dX0_self_9 ?_
  refine lv_topi (fun x_1 ex_1 => ?_)
  have ex_1 : x_1 = (a 37) (v 23).toNatClampNeg := ex_1
  have hx_1 : x_1.toInt = ((a 37) (v 23).toNatClampNeg).toInt := by rw [ex_1]
  have bx_1 := ia37_0 (v 23).toNatClampNeg
  rw [← ex_1] at bx_1
  have fx_1 : x_1 = 2 := by rw [ex_1]; exact hkn
  subst fx_1
  refine lv_iload_n hx hb dX0_self_10 rfl (lv_at hl 1 rfl) ?_
  refine lv_iload_n hx hb dX0_self_11 rfl (lv_at hl 2 rfl) ?_
  refine lv_iload_n hx hb dX0_self_12 rfl (lv_at hl 3 rfl) ?_
  refine cV_i (As := [.int 2, .int 2, .int p2, .int p3]) (rest := []) ⟨hx, hb, hml, hown, hg⟩ (k_F_x_2_2 l D cs A ad fa fq rv v a w fv fp  p2 p3 (show 0 ≤ (v 22).toInt by first | omega | decide) (show (v 22).toInt ≤ 23 by first | omega | decide) (show 0 ≤ p3.toInt by first | omega | decide) (show p3.toInt ≤ 37 by first | omega | decide) (show 0 ≤ (v 22).toInt by first | omega | decide) (show (v 22).toInt ≤ 1000 by first | omega | decide) (show 0 ≤ (v 23).toInt by first | omega | decide) (show (v 23).toInt ≤ 49 by first | omega | decide)) ca_X0_from q4_139 ⟨rfl, rfl⟩ ⟨Nat.le_of_ble_eq_true rfl, Nat.le_of_ble_eq_true rfl⟩ (rc_acts hK hP) hK hP hD hS hZ rfl hl.1 rfl (Nat.le_of_ble_eq_true rfl) ⟨Nat.zero_le _, Nat.zero_le _⟩ dX0_self_13 (fun r_2 z_5 H locs wr_2 hP hD hS => ?_)
  obtain ⟨o_v22_3, o_a38_4⟩ := z_5
  have hP : va_P D vwCl (CW cs ad fa fq rv (va_up v 22 o_v22_3) (va_up a 38 o_a38_4) w fv fp) H := hP
  have hD : va_D A (CW cs ad fa fq rv (va_up v 22 o_v22_3) (va_up a 38 o_a38_4) w fv fp) := hD
  obtain ⟨wr_2_0, wr_2_1, wr_2_2, wr_2_3, wr_2_4⟩ : (o_v22_3.toInt = (v 22).toInt + 1) ∧ (o_a38_4 = TRW (a 38) (v 22).toInt.toNat [11]) ∧ (r_2 = (p2 ^^^ (v 23))) ∧ (0 ≤ o_v22_3.toInt) ∧ (o_v22_3.toInt ≤ 1000) := wr_2
  have kt_6 : o_a38_4 = TRW (a 38) (v 22).toInt.toNat [11] := by rw [wr_2_1]
  exact W.iret (v := r_2) hx hb hr (fun tt ht hW => ⟨⟨r_2, ⟨o_v22_3, o_a38_4⟩, rfl, ⟨(by first | rfl | omega | trivial | assumption | (dsimp only; first | omega | assumption)), (by (try dsimp only); first | assumption | rfl), (by simp only [wr_2_2]), (show 0 ≤ o_v22_3.toInt by first | omega | assumption), (show o_v22_3.toInt ≤ 1000 by first | omega | assumption)⟩, by rw [ht]; exact hP, hD⟩, hS.F ht⟩) hS.2.2 dX0_self_16
set_option maxHeartbeats 4000000 in
set_option maxRecDepth 100000 in
theorem k_R_2_2 (l : Launch) (D : va_G) (cs : Nat → ClassId) (A : Nat → Prop) (ad fa fq rv : Nat → Nat) (v : Nat → Int32) (a : Nat → Nat → Int32) (w : Nat → Nat → Int64) (fv fp : Nat → Nat → Int32)  (p2 : Int32) (p3 : Int32) (hkn : (a 37) (v 23).toNatClampNeg = 2) (hr0 : 0 ≤ (v 22).toInt) (hr1 : (v 22).toInt ≤ 19) (hd0 : 0 ≤ p3.toInt) (hd1 : p3.toInt ≤ 35) (iv22_0 : 0 ≤ (v 22).toInt) (iv22_1 : (v 22).toInt ≤ 1000) (iv23_0 : 0 ≤ (v 23).toInt) (iv23_1 : (v 23).toInt ≤ 49) (ia37_0 : AB 0 7 (a 37)) : Met l yX0_run (Cond.code yX0_run cX0_run 4 (some .int) :: gw) ({ frames := 8, cells := 0, slots := 0, locals := 196 }) (va_Pc [.ref (ad 9), .int 2, .int p2, .int p3] (XPre D (TY cs) (CW cs ad fa fq rv v a w fv fp) A)) (va_Qi (fun (r : Int32) (z : Int32 × (Nat → Int32)) => (z.1.toInt = (v 22).toInt + 5) ∧ (z.2 = TRW (a 38) (v 22).toInt.toNat [2, 30, 10, 1, 11]) ∧ (r = ((-((p2 + (v 23)) * 2)) - ((1 : Int32) ^^^ (v 23)))) ∧ (0 ≤ z.1.toInt) ∧ (z.1.toInt ≤ 1000)) (XPo D (fun (z : Int32 × (Nat → Int32)) => CW cs ad fa fq rv (va_up v 22 z.1) (va_up a 38 z.2) w fv fp) A) A) 0 0 A := by
  refine Met.ofW (cc := cX0_run) (maxL := 4) (ret := (some .int)) (by decide) rfl ?_
  intro p e s m args below meth c s₁ B hml hv
  obtain ⟨rfl, hP, hK, hD, hZ⟩ := hv
  have hx := B.exec
  have hb := B.bytes
  have hr := B.returns
  have hts := atoms_spec (ws := (Cond.code yX0_run cX0_run 4 (some .int) :: gw)) B.pre
  have hg : ∀ w ∈ gw, w.before ([.ref (ad 9), .int 2, .int p2, .int p3] : List Value).toArray s = true := fun w h => hts w (List.mem_cons_of_mem _ h)
  have hown : s.vm.findClass RX0 = some m.cls := findClass_of_methodNamed B.named
  have hlocks := B.notSynchronized
  have hS : va_S A s.heap s.heap [] := va_S.rf
  have hP : va_P D vwCl (CW cs ad fa fq rv v a w fv fp) s.heap := hP
  have hl := lv_entry ([.ref (ad 9), .int 2, .int p2, .int p3]) (n := 4) (Nat.le_of_ble_eq_true rfl)
  rw [lg_entry_eq]
  generalize (lg_sl ([.ref (ad 9), .int 2, .int p2, .int p3]) ++ List.replicate (4 - (lg_sl ([.ref (ad 9), .int 2, .int p2, .int p3])).length) Slot.unset).toArray = ls at hl ⊢
  have hl : lv_has ls 4 [(0, .ref (ad 9)), (1, .int 2), (2, .int p2), (3, .int p3)] := hl
  refine lv_aload_n hx hb dX0_run_0 rfl (lv_at hl 0 rfl) ?_
  refine gf_acts_ran hx hb hg hown hK hP (x := (v 22)) rfl (hg _ q1_88) dX0_run_1 ?_
  refine lv_bipush (v := 24) hx hb dX0_run_4 (by decide) ?_
  refine lv_icmp_ge (tgt := 19) hx hb dX0_run_6 (by decide) (fun c_1 => ?_) (fun c_1 => ?_)
  ·
    have kc_1 : (24 : Int) ≤ (v 22).toInt := i_le c_1
    exfalso; omega
  ·
    have kc_1 : (v 22).toInt < (24 : Int) := i_nle c_1
    refine lv_aload_n hx hb dX0_run_9 rfl (lv_at hl 0 rfl) ?_
    refine gf_acts_traced hx hb hg hown hK hP rfl (hg _ q1_86) dX0_run_10 ?_
    refine lv_aload_n hx hb dX0_run_13 rfl (lv_at hl 0 rfl) ?_
    refine gf_acts_ran hx hb hg hown hK hP (x := (v 22)) rfl (hg _ q1_88) dX0_run_14 ?_
    refine lv_iload_n hx hb dX0_run_17 rfl (lv_at hl 1 rfl) ?_
    refine st_Atraced hx hb hK hP hD hS (i_in (by omega) (by omega)) dX0_run_18 (fun H locs hP hD hS => ?_)
    refine lv_aload_n hx hb dX0_run_19 rfl (lv_at hl 0 rfl) ?_
    refine lv_dup hx hb dX0_run_20 rfl ?_
    refine gf_acts_ran hx hb hg hown hK hP (x := (v 22)) rfl (hg _ q1_88) dX0_run_21 ?_
    refine lv_iconst (v := 1) hx hb dX0_run_24 (by decide) ?_
    refine lv_iadd hx hb dX0_run_25 ?_
    refine lv_topi (fun x_2 ex_2 => ?_)
    have fx_2 : x_2.toInt = (v 22).toInt + (1 : Int) := by rw [ex_2]; exact i_add (by first | omega | (show (_ : Int) ≤ (v 22).toInt + (1 : Int); omega)) (by first | omega | (show (v 22).toInt + (1 : Int) ≤ (_ : Int); omega))
    refine pf_acts_ran hx hb hg hown hK hP hD hS (hg _ q1_88) dX0_run_26 (fun H locs hP hD hS => ?_)
    refine lv_iload_n hx hb dX0_run_29 rfl (lv_at hl 1 rfl) ?_
    refine lv_lookup (tgt := 159) hx hb dX0_run_30 (by decide) (off := 129) (by decide) (by decide) ?_
    refine lv_aload_n hx hb dX0_run_159 rfl (lv_at hl 0 rfl) ?_
    refine lv_iconst (v := 1) hx hb dX0_run_160 (by decide) ?_
    refine lv_iload_n hx hb dX0_run_161 rfl (lv_at hl 2 rfl) ?_
    refine lv_iload_n hx hb dX0_run_162 rfl (lv_at hl 3 rfl) ?_
    refine cV_i (As := [.int 1, .int p2, .int p3]) (rest := []) ⟨hx, hb, hml, hown, hg⟩ (k_S_2_1 l D cs A ad fa fq rv (va_up v 22 x_2) (va_up a 38 (upd (a 38) (v 22).toNatClampNeg 2)) w fv fp  p2 p3 hkn (show 0 ≤ x_2.toInt by first | omega | decide) (show x_2.toInt ≤ 21 by first | omega | decide) (show 0 ≤ p3.toInt by first | omega | decide) (show p3.toInt ≤ 35 by first | omega | decide) (show 0 ≤ (v 23).toInt by first | omega | decide) (show (v 23).toInt ≤ 49 by first | omega | decide) ia37_0 (show 0 ≤ x_2.toInt by first | omega | decide) (show x_2.toInt ≤ 1000 by first | omega | decide)) ca_X0_self q4_135 ⟨rfl, rfl⟩ ⟨Nat.le_of_ble_eq_true rfl, Nat.le_of_ble_eq_true rfl⟩ (rc_acts hK hP) hK hP hD hS hZ rfl hl.1 rfl (Nat.le_of_ble_eq_true rfl) ⟨Nat.zero_le _, Nat.zero_le _⟩ dX0_run_163 (fun r_4 z_7 H locs wr_4 hP hD hS => ?_)
    obtain ⟨o_v22_5, o_a38_6⟩ := z_7
    have hP : va_P D vwCl (CW cs ad fa fq rv (va_up v 22 o_v22_5) (va_up a 38 o_a38_6) w fv fp) H := hP
    have hD : va_D A (CW cs ad fa fq rv (va_up v 22 o_v22_5) (va_up a 38 o_a38_6) w fv fp) := hD
    obtain ⟨wr_4_0, wr_4_1, wr_4_2, wr_4_3, wr_4_4⟩ : (o_v22_5.toInt = x_2.toInt + 3) ∧ (o_a38_6 = TRW (upd (a 38) (v 22).toNatClampNeg 2) x_2.toInt.toNat [30, 10, 1]) ∧ (r_4 = (-((p2 + (v 23)) * 2))) ∧ (0 ≤ o_v22_5.toInt) ∧ (o_v22_5.toInt ≤ 1000) := wr_4
    have kt_8 : o_a38_6 = TRW (a 38) (v 22).toInt.toNat [2, 30, 10, 1] := by rw [wr_4_1, show (x_2).toInt.toNat = (v 22).toInt.toNat + 1 from by omega]; rfl
    refine lv_aload_n hx hb dX0_run_166 rfl (lv_at hl 0 rfl) ?_
    refine lv_iconst (v := 2) hx hb dX0_run_167 (by decide) ?_
    refine lv_iconst (v := 1) hx hb dX0_run_168 (by decide) ?_
    refine lv_iload_n hx hb dX0_run_169 rfl (lv_at hl 3 rfl) ?_
    refine cV_i (As := [.int 2, .int 1, .int p3]) (rest := [.int r_4]) ⟨hx, hb, hml, hown, hg⟩ (k_S_2_2 l D cs A ad fa fq rv (va_up v 22 o_v22_5) (va_up a 38 o_a38_6) w fv fp  1 p3 hkn (show 0 ≤ o_v22_5.toInt by first | omega | decide) (show o_v22_5.toInt ≤ 23 by first | omega | decide) (show 0 ≤ p3.toInt by first | omega | decide) (show p3.toInt ≤ 37 by first | omega | decide) (show 0 ≤ (v 23).toInt by first | omega | decide) (show (v 23).toInt ≤ 49 by first | omega | decide) ia37_0 (show 0 ≤ o_v22_5.toInt by first | omega | decide) (show o_v22_5.toInt ≤ 1000 by first | omega | decide)) ca_X0_self q4_135 ⟨rfl, rfl⟩ ⟨Nat.le_of_ble_eq_true rfl, Nat.le_of_ble_eq_true rfl⟩ (rc_acts hK hP) hK hP hD hS hZ rfl hl.1 rfl (Nat.le_of_ble_eq_true rfl) ⟨Nat.zero_le _, Nat.zero_le _⟩ dX0_run_170 (fun r_9 z_12 H locs wr_9 hP hD hS => ?_)
    obtain ⟨o_v22_10, o_a38_11⟩ := z_12
    have hP : va_P D vwCl (CW cs ad fa fq rv (va_up v 22 o_v22_10) (va_up a 38 o_a38_11) w fv fp) H := hP
    have hD : va_D A (CW cs ad fa fq rv (va_up v 22 o_v22_10) (va_up a 38 o_a38_11) w fv fp) := hD
    obtain ⟨wr_9_0, wr_9_1, wr_9_2, wr_9_3, wr_9_4⟩ : (o_v22_10.toInt = o_v22_5.toInt + 1) ∧ (o_a38_11 = TRW o_a38_6 o_v22_5.toInt.toNat [11]) ∧ (r_9 = ((1 : Int32) ^^^ (v 23))) ∧ (0 ≤ o_v22_10.toInt) ∧ (o_v22_10.toInt ≤ 1000) := wr_9
    have kt_13 : o_a38_11 = TRW (a 38) (v 22).toInt.toNat [2, 30, 10, 1, 11] := by rw [wr_9_1, kt_8, show (o_v22_5).toInt.toNat = (v 22).toInt.toNat + 4 from by omega]; rfl
    refine lv_isub hx hb dX0_run_173 ?_
    refine lv_topi (fun x_14 ex_14 => ?_)
    exact W.iret (v := x_14) hx hb hr (fun tt ht hW => ⟨⟨x_14, ⟨o_v22_10, o_a38_11⟩, rfl, ⟨(by first | rfl | omega | trivial | assumption | (dsimp only; first | omega | assumption)), (by (try dsimp only); first | assumption | rfl), (by simp only [ex_14, wr_9_2, wr_4_2, ex_2]), (show 0 ≤ o_v22_10.toInt by first | omega | assumption), (show o_v22_10.toInt ≤ 1000 by first | omega | assumption)⟩, by rw [ht]; exact hP, hD⟩, hS.F ht⟩) hS.2.2 dX0_run_174
set_option maxHeartbeats 4000000 in
set_option maxRecDepth 100000 in
theorem k_F_2_2_3 (l : Launch) (D : va_G) (cs : Nat → ClassId) (A : Nat → Prop) (ad fa fq rv : Nat → Nat) (v : Nat → Int32) (a : Nat → Nat → Int32) (w : Nat → Nat → Int64) (fv fp : Nat → Nat → Int32)  (p3 : Int32) (p4 : Int32) (hkn : (a 37) (v 23).toNatClampNeg = 2) (hr0 : 0 ≤ (v 22).toInt) (hr1 : (v 22).toInt ≤ 19) (hd0 : 0 ≤ p4.toInt) (hd1 : p4.toInt ≤ 34) (iv22_0 : 0 ≤ (v 22).toInt) (iv22_1 : (v 22).toInt ≤ 1000) (iv23_0 : 0 ≤ (v 23).toInt) (iv23_1 : (v 23).toInt ≤ 49) (ia37_0 : AB 0 7 (a 37)) : Met l yX0_from (Cond.code yX0_from cX0_from 8 (some .int) :: gw) ({ frames := 9, cells := 0, slots := 0, locals := 219 }) (va_Pc [.ref (ad 9), .int 2, .int 3, .int p3, .int p4] (XPre D (TY cs) (CW cs ad fa fq rv v a w fv fp) A)) (va_Qi (fun (r : Int32) (z : Int32 × (Nat → Int32)) => (z.1.toInt = (v 22).toInt + 5) ∧ (z.2 = TRW (a 38) (v 22).toInt.toNat [2, 30, 10, 1, 11]) ∧ (r = ((-((p3 + (v 23)) * 2)) - ((1 : Int32) ^^^ (v 23)))) ∧ (0 ≤ z.1.toInt) ∧ (z.1.toInt ≤ 1000)) (XPo D (fun (z : Int32 × (Nat → Int32)) => CW cs ad fa fq rv (va_up v 22 z.1) (va_up a 38 z.2) w fv fp) A) A) 0 0 A := by
  refine Met.ofW (cc := cX0_from) (maxL := 8) (ret := (some .int)) (by decide) rfl ?_
  intro p e s m args below meth c s₁ B hml hv
  obtain ⟨rfl, hP, hK, hD, hZ⟩ := hv
  have hx := B.exec
  have hb := B.bytes
  have hr := B.returns
  have hts := atoms_spec (ws := (Cond.code yX0_from cX0_from 8 (some .int) :: gw)) B.pre
  have hg : ∀ w ∈ gw, w.before ([.ref (ad 9), .int 2, .int 3, .int p3, .int p4] : List Value).toArray s = true := fun w h => hts w (List.mem_cons_of_mem _ h)
  have hown : s.vm.findClass RX0 = some m.cls := findClass_of_methodNamed B.named
  have hlocks := B.notSynchronized
  have hS : va_S A s.heap s.heap [] := va_S.rf
  have hP : va_P D vwCl (CW cs ad fa fq rv v a w fv fp) s.heap := hP
  have hl := lv_entry ([.ref (ad 9), .int 2, .int 3, .int p3, .int p4]) (n := 8) (Nat.le_of_ble_eq_true rfl)
  rw [lg_entry_eq]
  generalize (lg_sl ([.ref (ad 9), .int 2, .int 3, .int p3, .int p4]) ++ List.replicate (8 - (lg_sl ([.ref (ad 9), .int 2, .int 3, .int p3, .int p4])).length) Slot.unset).toArray = ls at hl ⊢
  have hl : lv_has ls 8 [(0, .ref (ad 9)), (1, .int 2), (2, .int 3), (3, .int p3), (4, .int p4)] := hl
  refine lv_iload_n hx hb dX0_from_0 rfl (lv_at hl 1 rfl) ?_
  refine lv_istore (lv' := [(5, .int 2), (0, .ref (ad 9)), (1, .int 2), (2, .int 3), (3, .int p3), (4, .int p4)]) hx hb dX0_from_1 hl (by decide) rfl (fun ls hl => ?_)
  refine lv_iconst (v := 0) hx hb dX0_from_3 (by decide) ?_
  refine lv_istore (lv' := [(6, .int 0), (5, .int 2), (0, .ref (ad 9)), (1, .int 2), (2, .int 3), (3, .int p3), (4, .int p4)]) hx hb dX0_from_4 hl (by decide) rfl (fun ls hl => ?_)
  refine lv_iload hx hb dX0_from_6 (lv_at hl 0 rfl) ?_
  obtain ⟨t0, t1, t2, ⟨a0, b0⟩, ⟨a1, b1⟩, ⟨a2, b2⟩⟩ := id hZ
  refine va_gets hx hb a2 hS hown (hg _ q4_143) (fun _ h9 => h9) dX0_from_8 ?_
  refine va_tlen hx hb b2 hS (v := 8) rfl dX0_from_11 ?_
  refine lv_icmp_ge (tgt := 73) hx hb dX0_from_12 (by decide) (fun c_1 => absurd c_1 (by decide)) (fun c_1 => ?_)
  refine lv_iload hx hb dX0_from_15 (lv_at hl 1 rfl) ?_
  refine cS_p (As := [.int 2]) (rest := []) ⟨hx, hb, hml, hown, hg⟩ (k_IK_3 l    ) ca_X0_isKind q4_145 ⟨rfl, rfl⟩ ⟨Nat.le_of_ble_eq_true rfl, Nat.le_of_ble_eq_true rfl⟩ rfl hl.1 rfl (Nat.le_of_ble_eq_true rfl) ⟨Nat.zero_le _, Nat.zero_le _⟩ dX0_from_17 (fun r_2 wr_2 => ?_)
  have wr_2 : r_2.toInt = 1 := wr_2
  refine lv_if_eq (tgt := 73) hx hb dX0_from_20 (by decide) (fun c_3 => ?_) (fun c_3 => ?_)
  ·
    have kc_3 : r_2.toInt = (0 : Int) := i_eq c_3
    exfalso; omega
  ·
    have kc_3 : r_2.toInt ≠ (0 : Int) := i_ne c_3
    refine lv_iload hx hb dX0_from_23 (lv_at hl 1 rfl) ?_
    refine lv_iload_n hx hb dX0_from_25 rfl (lv_at hl 4 rfl) ?_
    refine cS_p (As := [.int 2, .int 3]) (rest := []) ⟨hx, hb, hml, hown, hg⟩ (k_B_2_3 l    ) ca_X0_bodyOf q4_146 ⟨rfl, rfl⟩ ⟨Nat.le_of_ble_eq_true rfl, Nat.le_of_ble_eq_true rfl⟩ rfl hl.1 rfl (Nat.le_of_ble_eq_true rfl) ⟨Nat.zero_le _, Nat.zero_le _⟩ dX0_from_26 (fun r_4 wr_4 => ?_)
    have wr_4 : r_4.toInt = 0 := wr_4
    have el_5 : r_4 = 0 := i_inj (wr_4.trans (by rfl))
    subst el_5
    refine lv_istore (lv' := [(7, .int 0), (6, .int 0), (5, .int 2), (0, .ref (ad 9)), (1, .int 2), (2, .int 3), (3, .int p3), (4, .int p4)]) hx hb dX0_from_29 hl (by decide) rfl (fun ls hl => ?_)
    refine lv_iload hx hb dX0_from_31 (lv_at hl 0 rfl) ?_
    refine lv_if_eq (tgt := 59) hx hb dX0_from_33 (by decide) (fun c_6 => ?_) (fun c_6 => absurd c_6 (by decide))
    obtain ⟨t0, t1, t2, ⟨a0, b0⟩, ⟨a1, b1⟩, ⟨a2, b2⟩⟩ := id hZ
    refine va_gets hx hb a2 hS hown (hg _ q4_143) (fun _ h9 => h9) dX0_from_59 ?_
    refine lv_iload hx hb dX0_from_62 (lv_at hl 2 rfl) ?_
    refine va_ti hx hb b2 hS (i_in (by decide) (by decide)) (v := .int 0) rfl dX0_from_64 ?_
    refine lv_istore (lv' := [(5, .int 0), (7, .int 0), (6, .int 0), (0, .ref (ad 9)), (1, .int 2), (2, .int 3), (3, .int p3), (4, .int p4)]) hx hb dX0_from_65 hl (by decide) rfl (fun ls hl => ?_)
    obtain ⟨x_7, ex_7⟩ : ∃ y : Int32, y = 0 + 1 := ⟨_, rfl⟩
    have fx_7 : x_7.toInt = (0 : Int) + 1 := by rw [ex_7]; exact i_add (by first | omega | (show (_ : Int) ≤ (0 : Int) + 1; omega)) (by first | omega | (show (0 : Int) + 1 ≤ (_ : Int); omega))
    refine lv_iinc (v := x_7) (lv' := [(6, .int x_7), (5, .int 0), (7, .int 0), (0, .ref (ad 9)), (1, .int 2), (2, .int 3), (3, .int p3), (4, .int p4)]) hx hb dX0_from_67 hl (k := 2) rfl (by rw [ex_7]; rfl) (by decide) rfl (fun ls hl => ?_)
    refine lv_goto (tgt := 6) hx hb dX0_from_70 (by decide) ?_
    refine lv_iload hx hb dX0_from_6 (lv_at hl 0 rfl) ?_
    obtain ⟨t0, t1, t2, ⟨a0, b0⟩, ⟨a1, b1⟩, ⟨a2, b2⟩⟩ := id hZ
    refine va_gets hx hb a2 hS hown (hg _ q4_143) (fun _ h9 => h9) dX0_from_8 ?_
    refine va_tlen hx hb b2 hS (v := 8) rfl dX0_from_11 ?_
    refine lv_icmp_ge (tgt := 73) hx hb dX0_from_12 (by decide) (fun c_8 => ?_) (fun c_8 => ?_)
    ·
      have kc_8 : (8 : Int) ≤ x_7.toInt := i_le c_8
      exfalso; omega
    ·
      have kc_8 : x_7.toInt < (8 : Int) := i_nle c_8
      refine lv_iload hx hb dX0_from_15 (lv_at hl 1 rfl) ?_
      refine cS_p (As := [.int 0]) (rest := []) ⟨hx, hb, hml, hown, hg⟩ (k_IK_1 l    ) ca_X0_isKind q4_145 ⟨rfl, rfl⟩ ⟨Nat.le_of_ble_eq_true rfl, Nat.le_of_ble_eq_true rfl⟩ rfl hl.1 rfl (Nat.le_of_ble_eq_true rfl) ⟨Nat.zero_le _, Nat.zero_le _⟩ dX0_from_17 (fun r_9 wr_9 => ?_)
      have wr_9 : r_9.toInt = 1 := wr_9
      refine lv_if_eq (tgt := 73) hx hb dX0_from_20 (by decide) (fun c_10 => ?_) (fun c_10 => ?_)
      ·
        have kc_10 : r_9.toInt = (0 : Int) := i_eq c_10
        exfalso; omega
      ·
        have kc_10 : r_9.toInt ≠ (0 : Int) := i_ne c_10
        refine lv_iload hx hb dX0_from_23 (lv_at hl 1 rfl) ?_
        refine lv_iload_n hx hb dX0_from_25 rfl (lv_at hl 5 rfl) ?_
        refine cS_p (As := [.int 0, .int 3]) (rest := []) ⟨hx, hb, hml, hown, hg⟩ (k_B_0_3 l    ) ca_X0_bodyOf q4_146 ⟨rfl, rfl⟩ ⟨Nat.le_of_ble_eq_true rfl, Nat.le_of_ble_eq_true rfl⟩ rfl hl.1 rfl (Nat.le_of_ble_eq_true rfl) ⟨Nat.zero_le _, Nat.zero_le _⟩ dX0_from_26 (fun r_11 wr_11 => ?_)
        have wr_11 : r_11.toInt = 2 := wr_11
        have el_12 : r_11 = 2 := i_inj (wr_11.trans (by rfl))
        subst el_12
        refine lv_istore (lv' := [(7, .int 2), (6, .int x_7), (5, .int 0), (0, .ref (ad 9)), (1, .int 2), (2, .int 3), (3, .int p3), (4, .int p4)]) hx hb dX0_from_29 hl (by decide) rfl (fun ls hl => ?_)
        refine lv_iload hx hb dX0_from_31 (lv_at hl 0 rfl) ?_
        refine lv_if_eq (tgt := 59) hx hb dX0_from_33 (by decide) (fun c_13 => absurd c_13 (by decide)) (fun c_13 => ?_)
        refine lv_iload hx hb dX0_from_36 (lv_at hl 7 rfl) ?_
        refine lv_bipush (v := 40) hx hb dX0_from_38 (by decide) ?_
        refine lv_icmp_ge (tgt := 57) hx hb dX0_from_40 (by decide) (fun c_14 => ?_) (fun c_14 => ?_)
        ·
          have kc_14 : (40 : Int) ≤ p4.toInt := i_le c_14
          exfalso; omega
        ·
          have kc_14 : p4.toInt < (40 : Int) := i_nle c_14
          refine lv_aload_n hx hb dX0_from_43 rfl (lv_at hl 3 rfl) ?_
          refine lv_iload hx hb dX0_from_44 (lv_at hl 0 rfl) ?_
          refine lv_iload_n hx hb dX0_from_46 rfl (lv_at hl 6 rfl) ?_
          refine lv_iload hx hb dX0_from_47 (lv_at hl 7 rfl) ?_
          refine lv_iconst (v := 1) hx hb dX0_from_49 (by decide) ?_
          refine lv_iadd hx hb dX0_from_50 ?_
          refine lv_topi (fun x_15 ex_15 => ?_)
          have fx_15 : x_15.toInt = p4.toInt + (1 : Int) := by rw [ex_15]; exact i_add (by first | omega | (show (_ : Int) ≤ p4.toInt + (1 : Int); omega)) (by first | omega | (show p4.toInt + (1 : Int) ≤ (_ : Int); omega))
          refine cV_i (As := [.int 2, .int p3, .int x_15]) (rest := []) ⟨hx, hb, hml, hown, hg⟩ (k_R_2_2 l D cs A ad fa fq rv v a w fv fp  p3 x_15 hkn (show 0 ≤ (v 22).toInt by first | omega | decide) (show (v 22).toInt ≤ 19 by first | omega | decide) (show 0 ≤ x_15.toInt by first | omega | decide) (show x_15.toInt ≤ 35 by first | omega | decide) (show 0 ≤ (v 22).toInt by first | omega | decide) (show (v 22).toInt ≤ 1000 by first | omega | decide) (show 0 ≤ (v 23).toInt by first | omega | decide) (show (v 23).toInt ≤ 49 by first | omega | decide) ia37_0) ca_X0_run q4_149 ⟨rfl, rfl⟩ ⟨Nat.le_of_ble_eq_true rfl, Nat.le_of_ble_eq_true rfl⟩ (rc_acts hK hP) hK hP hD hS hZ rfl hl.1 rfl (Nat.le_of_ble_eq_true rfl) ⟨Nat.zero_le _, Nat.zero_le _⟩ dX0_from_51 (fun r_16 z_19 H locs wr_16 hP hD hS => ?_)
          obtain ⟨o_v22_17, o_a38_18⟩ := z_19
          have hP : va_P D vwCl (CW cs ad fa fq rv (va_up v 22 o_v22_17) (va_up a 38 o_a38_18) w fv fp) H := hP
          have hD : va_D A (CW cs ad fa fq rv (va_up v 22 o_v22_17) (va_up a 38 o_a38_18) w fv fp) := hD
          obtain ⟨wr_16_0, wr_16_1, wr_16_2, wr_16_3, wr_16_4⟩ : (o_v22_17.toInt = (v 22).toInt + 5) ∧ (o_a38_18 = TRW (a 38) (v 22).toInt.toNat [2, 30, 10, 1, 11]) ∧ (r_16 = ((-((p3 + (v 23)) * 2)) - ((1 : Int32) ^^^ (v 23)))) ∧ (0 ≤ o_v22_17.toInt) ∧ (o_v22_17.toInt ≤ 1000) := wr_16
          have kt_20 : o_a38_18 = TRW (a 38) (v 22).toInt.toNat [2, 30, 10, 1, 11] := by rw [wr_16_1]
          refine lv_goto (tgt := 58) hx hb dX0_from_54 (by decide) ?_
          exact W.iret (v := r_16) hx hb hr (fun tt ht hW => ⟨⟨r_16, ⟨o_v22_17, o_a38_18⟩, rfl, ⟨(by first | rfl | omega | trivial | assumption | (dsimp only; first | omega | assumption)), (by (try dsimp only); first | assumption | rfl), (by simp only [wr_16_2, ex_15]), (show 0 ≤ o_v22_17.toInt by first | omega | assumption), (show o_v22_17.toInt ≤ 1000 by first | omega | assumption)⟩, by rw [ht]; exact hP, hD⟩, hS.F ht⟩) hS.2.2 dX0_from_58
set_option maxHeartbeats 4000000 in
set_option maxRecDepth 100000 in
theorem k_S_2_3 (l : Launch) (D : va_G) (cs : Nat → ClassId) (A : Nat → Prop) (ad fa fq rv : Nat → Nat) (v : Nat → Int32) (a : Nat → Nat → Int32) (w : Nat → Nat → Int64) (fv fp : Nat → Nat → Int32)  (p2 : Int32) (p3 : Int32) (hkn : (a 37) (v 23).toNatClampNeg = 2) (hr0 : 0 ≤ (v 22).toInt) (hr1 : (v 22).toInt ≤ 19) (hd0 : 0 ≤ p3.toInt) (hd1 : p3.toInt ≤ 34) (iv23_0 : 0 ≤ (v 23).toInt) (iv23_1 : (v 23).toInt ≤ 49) (ia37_0 : AB 0 7 (a 37)) (iv22_0 : 0 ≤ (v 22).toInt) (iv22_1 : (v 22).toInt ≤ 1000) : Met l yX0_self (Cond.code yX0_self cX0_self 4 (some .int) :: gw) ({ frames := 10, cells := 0, slots := 0, locals := 246 }) (va_Pc [.ref (ad 9), .int 3, .int p2, .int p3] (XPre D (TY cs) (CW cs ad fa fq rv v a w fv fp) A)) (va_Qi (fun (r : Int32) (z : Int32 × (Nat → Int32)) => (z.1.toInt = (v 22).toInt + 5) ∧ (z.2 = TRW (a 38) (v 22).toInt.toNat [2, 30, 10, 1, 11]) ∧ (r = ((-((p2 + (v 23)) * 2)) - ((1 : Int32) ^^^ (v 23)))) ∧ (0 ≤ z.1.toInt) ∧ (z.1.toInt ≤ 1000)) (XPo D (fun (z : Int32 × (Nat → Int32)) => CW cs ad fa fq rv (va_up v 22 z.1) (va_up a 38 z.2) w fv fp) A) A) 0 0 A := by
  refine Met.ofW (cc := cX0_self) (maxL := 4) (ret := (some .int)) (by decide) rfl ?_
  intro p e s m args below meth c s₁ B hml hv
  obtain ⟨rfl, hP, hK, hD, hZ⟩ := hv
  have hx := B.exec
  have hb := B.bytes
  have hr := B.returns
  have hts := atoms_spec (ws := (Cond.code yX0_self cX0_self 4 (some .int) :: gw)) B.pre
  have hg : ∀ w ∈ gw, w.before ([.ref (ad 9), .int 3, .int p2, .int p3] : List Value).toArray s = true := fun w h => hts w (List.mem_cons_of_mem _ h)
  have hown : s.vm.findClass RX0 = some m.cls := findClass_of_methodNamed B.named
  have hlocks := B.notSynchronized
  have hS : va_S A s.heap s.heap [] := va_S.rf
  have hP : va_P D vwCl (CW cs ad fa fq rv v a w fv fp) s.heap := hP
  have hl := lv_entry ([.ref (ad 9), .int 3, .int p2, .int p3]) (n := 4) (Nat.le_of_ble_eq_true rfl)
  rw [lg_entry_eq]
  generalize (lg_sl ([.ref (ad 9), .int 3, .int p2, .int p3]) ++ List.replicate (4 - (lg_sl ([.ref (ad 9), .int 3, .int p2, .int p3])).length) Slot.unset).toArray = ls at hl ⊢
  have hl : lv_has ls 4 [(0, .ref (ad 9)), (1, .int 3), (2, .int p2), (3, .int p3)] := hl
  refine lv_aload_n hx hb dX0_self_0 rfl (lv_at hl 0 rfl) ?_
  refine lv_aload_n hx hb dX0_self_1 rfl (lv_at hl 0 rfl) ?_
  refine gf_acts_kind hx hb hg hown hK hP rfl (hg _ q1_83) dX0_self_2 ?_
  refine lv_aload_n hx hb dX0_self_5 rfl (lv_at hl 0 rfl) ?_
  refine gf_acts_number hx hb hg hown hK hP (x := (v 23)) rfl (hg _ q1_90) dX0_self_6 ?_
  refine ld_Akind hx hb hK hP (i_in (by omega) (by omega)) dX0_self_9 ?_
  refine lv_topi (fun x_1 ex_1 => ?_)
  have ex_1 : x_1 = (a 37) (v 23).toNatClampNeg := ex_1
  have hx_1 : x_1.toInt = ((a 37) (v 23).toNatClampNeg).toInt := by rw [ex_1]
  have bx_1 := ia37_0 (v 23).toNatClampNeg
  rw [← ex_1] at bx_1
  have fx_1 : x_1 = 2 := by rw [ex_1]; exact hkn
  subst fx_1
  refine lv_iload_n hx hb dX0_self_10 rfl (lv_at hl 1 rfl) ?_
  refine lv_iload_n hx hb dX0_self_11 rfl (lv_at hl 2 rfl) ?_
  refine lv_iload_n hx hb dX0_self_12 rfl (lv_at hl 3 rfl) ?_
  refine cV_i (As := [.int 2, .int 3, .int p2, .int p3]) (rest := []) ⟨hx, hb, hml, hown, hg⟩ (k_F_2_2_3 l D cs A ad fa fq rv v a w fv fp  p2 p3 hkn (show 0 ≤ (v 22).toInt by first | omega | decide) (show (v 22).toInt ≤ 19 by first | omega | decide) (show 0 ≤ p3.toInt by first | omega | decide) (show p3.toInt ≤ 34 by first | omega | decide) (show 0 ≤ (v 22).toInt by first | omega | decide) (show (v 22).toInt ≤ 1000 by first | omega | decide) (show 0 ≤ (v 23).toInt by first | omega | decide) (show (v 23).toInt ≤ 49 by first | omega | decide) ia37_0) ca_X0_from q4_139 ⟨rfl, rfl⟩ ⟨Nat.le_of_ble_eq_true rfl, Nat.le_of_ble_eq_true rfl⟩ (rc_acts hK hP) hK hP hD hS hZ rfl hl.1 rfl (Nat.le_of_ble_eq_true rfl) ⟨Nat.zero_le _, Nat.zero_le _⟩ dX0_self_13 (fun r_2 z_5 H locs wr_2 hP hD hS => ?_)
  obtain ⟨o_v22_3, o_a38_4⟩ := z_5
  have hP : va_P D vwCl (CW cs ad fa fq rv (va_up v 22 o_v22_3) (va_up a 38 o_a38_4) w fv fp) H := hP
  have hD : va_D A (CW cs ad fa fq rv (va_up v 22 o_v22_3) (va_up a 38 o_a38_4) w fv fp) := hD
  obtain ⟨wr_2_0, wr_2_1, wr_2_2, wr_2_3, wr_2_4⟩ : (o_v22_3.toInt = (v 22).toInt + 5) ∧ (o_a38_4 = TRW (a 38) (v 22).toInt.toNat [2, 30, 10, 1, 11]) ∧ (r_2 = ((-((p2 + (v 23)) * 2)) - ((1 : Int32) ^^^ (v 23)))) ∧ (0 ≤ o_v22_3.toInt) ∧ (o_v22_3.toInt ≤ 1000) := wr_2
  have kt_6 : o_a38_4 = TRW (a 38) (v 22).toInt.toNat [2, 30, 10, 1, 11] := by rw [wr_2_1]
  exact W.iret (v := r_2) hx hb hr (fun tt ht hW => ⟨⟨r_2, ⟨o_v22_3, o_a38_4⟩, rfl, ⟨(by first | rfl | omega | trivial | assumption | (dsimp only; first | omega | assumption)), (by (try dsimp only); first | assumption | rfl), (by simp only [wr_2_2]), (show 0 ≤ o_v22_3.toInt by first | omega | assumption), (show o_v22_3.toInt ≤ 1000 by first | omega | assumption)⟩, by rw [ht]; exact hP, hD⟩, hS.F ht⟩) hS.2.2 dX0_self_16
set_option maxHeartbeats 4000000 in
set_option maxRecDepth 100000 in
theorem k_F_x_3_0 (l : Launch) (D : va_G) (cs : Nat → ClassId) (A : Nat → Prop) (ad fa fq rv : Nat → Nat) (v : Nat → Int32) (a : Nat → Nat → Int32) (w : Nat → Nat → Int64) (fv fp : Nat → Nat → Int32)  (p3 : Int32) (p4 : Int32) (hr0 : 0 ≤ (v 22).toInt) (hr1 : (v 22).toInt ≤ 23) (hd0 : 0 ≤ p4.toInt) (hd1 : p4.toInt ≤ 37) (iv22_0 : 0 ≤ (v 22).toInt) (iv22_1 : (v 22).toInt ≤ 1000) (iv23_0 : 0 ≤ (v 23).toInt) (iv23_1 : (v 23).toInt ≤ 49) : Met l yX0_from (Cond.code yX0_from cX0_from 8 (some .int) :: gw) ({ frames := 1, cells := 0, slots := 0, locals := 23 }) (va_Pc [.ref (ad 9), .int 3, .int 0, .int p3, .int p4] (XPre D (TY cs) (CW cs ad fa fq rv v a w fv fp) A)) (va_Qi (fun (r : Int32) (z : Int32 × (Nat → Int32)) => (z.1.toInt = (v 22).toInt + 1) ∧ (z.2 = TRW (a 38) (v 22).toInt.toNat [1]) ∧ (r = (p3 + (v 23))) ∧ (0 ≤ z.1.toInt) ∧ (z.1.toInt ≤ 1000)) (XPo D (fun (z : Int32 × (Nat → Int32)) => CW cs ad fa fq rv (va_up v 22 z.1) (va_up a 38 z.2) w fv fp) A) A) 0 0 A := by
  refine Met.ofW (cc := cX0_from) (maxL := 8) (ret := (some .int)) (by decide) rfl ?_
  intro p e s m args below meth c s₁ B hml hv
  obtain ⟨rfl, hP, hK, hD, hZ⟩ := hv
  have hx := B.exec
  have hb := B.bytes
  have hr := B.returns
  have hts := atoms_spec (ws := (Cond.code yX0_from cX0_from 8 (some .int) :: gw)) B.pre
  have hg : ∀ w ∈ gw, w.before ([.ref (ad 9), .int 3, .int 0, .int p3, .int p4] : List Value).toArray s = true := fun w h => hts w (List.mem_cons_of_mem _ h)
  have hown : s.vm.findClass RX0 = some m.cls := findClass_of_methodNamed B.named
  have hlocks := B.notSynchronized
  have hS : va_S A s.heap s.heap [] := va_S.rf
  have hP : va_P D vwCl (CW cs ad fa fq rv v a w fv fp) s.heap := hP
  have hl := lv_entry ([.ref (ad 9), .int 3, .int 0, .int p3, .int p4]) (n := 8) (Nat.le_of_ble_eq_true rfl)
  rw [lg_entry_eq]
  generalize (lg_sl ([.ref (ad 9), .int 3, .int 0, .int p3, .int p4]) ++ List.replicate (8 - (lg_sl ([.ref (ad 9), .int 3, .int 0, .int p3, .int p4])).length) Slot.unset).toArray = ls at hl ⊢
  have hl : lv_has ls 8 [(0, .ref (ad 9)), (1, .int 3), (2, .int 0), (3, .int p3), (4, .int p4)] := hl
  refine lv_iload_n hx hb dX0_from_0 rfl (lv_at hl 1 rfl) ?_
  refine lv_istore (lv' := [(5, .int 3), (0, .ref (ad 9)), (1, .int 3), (2, .int 0), (3, .int p3), (4, .int p4)]) hx hb dX0_from_1 hl (by decide) rfl (fun ls hl => ?_)
  refine lv_iconst (v := 0) hx hb dX0_from_3 (by decide) ?_
  refine lv_istore (lv' := [(6, .int 0), (5, .int 3), (0, .ref (ad 9)), (1, .int 3), (2, .int 0), (3, .int p3), (4, .int p4)]) hx hb dX0_from_4 hl (by decide) rfl (fun ls hl => ?_)
  refine lv_iload hx hb dX0_from_6 (lv_at hl 0 rfl) ?_
  obtain ⟨t0, t1, t2, ⟨a0, b0⟩, ⟨a1, b1⟩, ⟨a2, b2⟩⟩ := id hZ
  refine va_gets hx hb a2 hS hown (hg _ q4_143) (fun _ h9 => h9) dX0_from_8 ?_
  refine va_tlen hx hb b2 hS (v := 8) rfl dX0_from_11 ?_
  refine lv_icmp_ge (tgt := 73) hx hb dX0_from_12 (by decide) (fun c_1 => absurd c_1 (by decide)) (fun c_1 => ?_)
  refine lv_iload hx hb dX0_from_15 (lv_at hl 1 rfl) ?_
  refine cS_p (As := [.int 3]) (rest := []) ⟨hx, hb, hml, hown, hg⟩ (k_IK_4 l    ) ca_X0_isKind q4_145 ⟨rfl, rfl⟩ ⟨Nat.le_of_ble_eq_true rfl, Nat.le_of_ble_eq_true rfl⟩ rfl hl.1 rfl (Nat.le_of_ble_eq_true rfl) ⟨Nat.zero_le _, Nat.zero_le _⟩ dX0_from_17 (fun r_2 wr_2 => ?_)
  have wr_2 : r_2.toInt = 1 := wr_2
  refine lv_if_eq (tgt := 73) hx hb dX0_from_20 (by decide) (fun c_3 => ?_) (fun c_3 => ?_)
  ·
    have kc_3 : r_2.toInt = (0 : Int) := i_eq c_3
    exfalso; omega
  ·
    have kc_3 : r_2.toInt ≠ (0 : Int) := i_ne c_3
    refine lv_iload hx hb dX0_from_23 (lv_at hl 1 rfl) ?_
    refine lv_iload_n hx hb dX0_from_25 rfl (lv_at hl 4 rfl) ?_
    refine cS_p (As := [.int 3, .int 0]) (rest := []) ⟨hx, hb, hml, hown, hg⟩ (k_B_3_0 l    ) ca_X0_bodyOf q4_146 ⟨rfl, rfl⟩ ⟨Nat.le_of_ble_eq_true rfl, Nat.le_of_ble_eq_true rfl⟩ rfl hl.1 rfl (Nat.le_of_ble_eq_true rfl) ⟨Nat.zero_le _, Nat.zero_le _⟩ dX0_from_26 (fun r_4 wr_4 => ?_)
    have wr_4 : r_4.toInt = 0 := wr_4
    have el_5 : r_4 = 0 := i_inj (wr_4.trans (by rfl))
    subst el_5
    refine lv_istore (lv' := [(7, .int 0), (6, .int 0), (5, .int 3), (0, .ref (ad 9)), (1, .int 3), (2, .int 0), (3, .int p3), (4, .int p4)]) hx hb dX0_from_29 hl (by decide) rfl (fun ls hl => ?_)
    refine lv_iload hx hb dX0_from_31 (lv_at hl 0 rfl) ?_
    refine lv_if_eq (tgt := 59) hx hb dX0_from_33 (by decide) (fun c_6 => ?_) (fun c_6 => absurd c_6 (by decide))
    obtain ⟨t0, t1, t2, ⟨a0, b0⟩, ⟨a1, b1⟩, ⟨a2, b2⟩⟩ := id hZ
    refine va_gets hx hb a2 hS hown (hg _ q4_143) (fun _ h9 => h9) dX0_from_59 ?_
    refine lv_iload hx hb dX0_from_62 (lv_at hl 2 rfl) ?_
    refine va_ti hx hb b2 hS (i_in (by decide) (by decide)) (v := .int 2) rfl dX0_from_64 ?_
    refine lv_istore (lv' := [(5, .int 2), (7, .int 0), (6, .int 0), (0, .ref (ad 9)), (1, .int 3), (2, .int 0), (3, .int p3), (4, .int p4)]) hx hb dX0_from_65 hl (by decide) rfl (fun ls hl => ?_)
    obtain ⟨x_7, ex_7⟩ : ∃ y : Int32, y = 0 + 1 := ⟨_, rfl⟩
    have fx_7 : x_7.toInt = (0 : Int) + 1 := by rw [ex_7]; exact i_add (by first | omega | (show (_ : Int) ≤ (0 : Int) + 1; omega)) (by first | omega | (show (0 : Int) + 1 ≤ (_ : Int); omega))
    refine lv_iinc (v := x_7) (lv' := [(6, .int x_7), (5, .int 2), (7, .int 0), (0, .ref (ad 9)), (1, .int 3), (2, .int 0), (3, .int p3), (4, .int p4)]) hx hb dX0_from_67 hl (k := 2) rfl (by rw [ex_7]; rfl) (by decide) rfl (fun ls hl => ?_)
    refine lv_goto (tgt := 6) hx hb dX0_from_70 (by decide) ?_
    refine lv_iload hx hb dX0_from_6 (lv_at hl 0 rfl) ?_
    obtain ⟨t0, t1, t2, ⟨a0, b0⟩, ⟨a1, b1⟩, ⟨a2, b2⟩⟩ := id hZ
    refine va_gets hx hb a2 hS hown (hg _ q4_143) (fun _ h9 => h9) dX0_from_8 ?_
    refine va_tlen hx hb b2 hS (v := 8) rfl dX0_from_11 ?_
    refine lv_icmp_ge (tgt := 73) hx hb dX0_from_12 (by decide) (fun c_8 => ?_) (fun c_8 => ?_)
    ·
      have kc_8 : (8 : Int) ≤ x_7.toInt := i_le c_8
      exfalso; omega
    ·
      have kc_8 : x_7.toInt < (8 : Int) := i_nle c_8
      refine lv_iload hx hb dX0_from_15 (lv_at hl 1 rfl) ?_
      refine cS_p (As := [.int 2]) (rest := []) ⟨hx, hb, hml, hown, hg⟩ (k_IK_3 l    ) ca_X0_isKind q4_145 ⟨rfl, rfl⟩ ⟨Nat.le_of_ble_eq_true rfl, Nat.le_of_ble_eq_true rfl⟩ rfl hl.1 rfl (Nat.le_of_ble_eq_true rfl) ⟨Nat.zero_le _, Nat.zero_le _⟩ dX0_from_17 (fun r_9 wr_9 => ?_)
      have wr_9 : r_9.toInt = 1 := wr_9
      refine lv_if_eq (tgt := 73) hx hb dX0_from_20 (by decide) (fun c_10 => ?_) (fun c_10 => ?_)
      ·
        have kc_10 : r_9.toInt = (0 : Int) := i_eq c_10
        exfalso; omega
      ·
        have kc_10 : r_9.toInt ≠ (0 : Int) := i_ne c_10
        refine lv_iload hx hb dX0_from_23 (lv_at hl 1 rfl) ?_
        refine lv_iload_n hx hb dX0_from_25 rfl (lv_at hl 5 rfl) ?_
        refine cS_p (As := [.int 2, .int 0]) (rest := []) ⟨hx, hb, hml, hown, hg⟩ (k_B_2_0 l    ) ca_X0_bodyOf q4_146 ⟨rfl, rfl⟩ ⟨Nat.le_of_ble_eq_true rfl, Nat.le_of_ble_eq_true rfl⟩ rfl hl.1 rfl (Nat.le_of_ble_eq_true rfl) ⟨Nat.zero_le _, Nat.zero_le _⟩ dX0_from_26 (fun r_11 wr_11 => ?_)
        have wr_11 : r_11.toInt = 0 := wr_11
        have el_12 : r_11 = 0 := i_inj (wr_11.trans (by rfl))
        subst el_12
        refine lv_istore (lv' := [(7, .int 0), (6, .int x_7), (5, .int 2), (0, .ref (ad 9)), (1, .int 3), (2, .int 0), (3, .int p3), (4, .int p4)]) hx hb dX0_from_29 hl (by decide) rfl (fun ls hl => ?_)
        refine lv_iload hx hb dX0_from_31 (lv_at hl 0 rfl) ?_
        refine lv_if_eq (tgt := 59) hx hb dX0_from_33 (by decide) (fun c_13 => ?_) (fun c_13 => absurd c_13 (by decide))
        obtain ⟨t0, t1, t2, ⟨a0, b0⟩, ⟨a1, b1⟩, ⟨a2, b2⟩⟩ := id hZ
        refine va_gets hx hb a2 hS hown (hg _ q4_143) (fun _ h9 => h9) dX0_from_59 ?_
        refine lv_iload hx hb dX0_from_62 (lv_at hl 2 rfl) ?_
        refine va_ti hx hb b2 hS (i_in (by decide) (by decide)) (v := .int 0) rfl dX0_from_64 ?_
        refine lv_istore (lv' := [(5, .int 0), (7, .int 0), (6, .int x_7), (0, .ref (ad 9)), (1, .int 3), (2, .int 0), (3, .int p3), (4, .int p4)]) hx hb dX0_from_65 hl (by decide) rfl (fun ls hl => ?_)
        obtain ⟨x_14, ex_14⟩ : ∃ y : Int32, y = x_7 + 1 := ⟨_, rfl⟩
        have fx_14 : x_14.toInt = x_7.toInt + 1 := by rw [ex_14]; exact i_add (by first | omega | (show (_ : Int) ≤ x_7.toInt + 1; omega)) (by first | omega | (show x_7.toInt + 1 ≤ (_ : Int); omega))
        refine lv_iinc (v := x_14) (lv' := [(6, .int x_14), (5, .int 0), (7, .int 0), (0, .ref (ad 9)), (1, .int 3), (2, .int 0), (3, .int p3), (4, .int p4)]) hx hb dX0_from_67 hl (k := 2) rfl (by rw [ex_14]; rfl) (by decide) rfl (fun ls hl => ?_)
        refine lv_goto (tgt := 6) hx hb dX0_from_70 (by decide) ?_
        refine lv_iload hx hb dX0_from_6 (lv_at hl 0 rfl) ?_
        obtain ⟨t0, t1, t2, ⟨a0, b0⟩, ⟨a1, b1⟩, ⟨a2, b2⟩⟩ := id hZ
        refine va_gets hx hb a2 hS hown (hg _ q4_143) (fun _ h9 => h9) dX0_from_8 ?_
        refine va_tlen hx hb b2 hS (v := 8) rfl dX0_from_11 ?_
        refine lv_icmp_ge (tgt := 73) hx hb dX0_from_12 (by decide) (fun c_15 => ?_) (fun c_15 => ?_)
        ·
          have kc_15 : (8 : Int) ≤ x_14.toInt := i_le c_15
          exfalso; omega
        ·
          have kc_15 : x_14.toInt < (8 : Int) := i_nle c_15
          refine lv_iload hx hb dX0_from_15 (lv_at hl 1 rfl) ?_
          refine cS_p (As := [.int 0]) (rest := []) ⟨hx, hb, hml, hown, hg⟩ (k_IK_1 l    ) ca_X0_isKind q4_145 ⟨rfl, rfl⟩ ⟨Nat.le_of_ble_eq_true rfl, Nat.le_of_ble_eq_true rfl⟩ rfl hl.1 rfl (Nat.le_of_ble_eq_true rfl) ⟨Nat.zero_le _, Nat.zero_le _⟩ dX0_from_17 (fun r_16 wr_16 => ?_)
          have wr_16 : r_16.toInt = 1 := wr_16
          refine lv_if_eq (tgt := 73) hx hb dX0_from_20 (by decide) (fun c_17 => ?_) (fun c_17 => ?_)
          ·
            have kc_17 : r_16.toInt = (0 : Int) := i_eq c_17
            exfalso; omega
          ·
            have kc_17 : r_16.toInt ≠ (0 : Int) := i_ne c_17
            refine lv_iload hx hb dX0_from_23 (lv_at hl 1 rfl) ?_
            refine lv_iload_n hx hb dX0_from_25 rfl (lv_at hl 5 rfl) ?_
            refine cS_p (As := [.int 0, .int 0]) (rest := []) ⟨hx, hb, hml, hown, hg⟩ (k_B_0_0 l    ) ca_X0_bodyOf q4_146 ⟨rfl, rfl⟩ ⟨Nat.le_of_ble_eq_true rfl, Nat.le_of_ble_eq_true rfl⟩ rfl hl.1 rfl (Nat.le_of_ble_eq_true rfl) ⟨Nat.zero_le _, Nat.zero_le _⟩ dX0_from_26 (fun r_18 wr_18 => ?_)
            have wr_18 : r_18.toInt = 1 := wr_18
            have el_19 : r_18 = 1 := i_inj (wr_18.trans (by rfl))
            subst el_19
            refine lv_istore (lv' := [(7, .int 1), (6, .int x_14), (5, .int 0), (0, .ref (ad 9)), (1, .int 3), (2, .int 0), (3, .int p3), (4, .int p4)]) hx hb dX0_from_29 hl (by decide) rfl (fun ls hl => ?_)
            refine lv_iload hx hb dX0_from_31 (lv_at hl 0 rfl) ?_
            refine lv_if_eq (tgt := 59) hx hb dX0_from_33 (by decide) (fun c_20 => absurd c_20 (by decide)) (fun c_20 => ?_)
            refine lv_iload hx hb dX0_from_36 (lv_at hl 7 rfl) ?_
            refine lv_bipush (v := 40) hx hb dX0_from_38 (by decide) ?_
            refine lv_icmp_ge (tgt := 57) hx hb dX0_from_40 (by decide) (fun c_21 => ?_) (fun c_21 => ?_)
            ·
              have kc_21 : (40 : Int) ≤ p4.toInt := i_le c_21
              exfalso; omega
            ·
              have kc_21 : p4.toInt < (40 : Int) := i_nle c_21
              refine lv_aload_n hx hb dX0_from_43 rfl (lv_at hl 3 rfl) ?_
              refine lv_iload hx hb dX0_from_44 (lv_at hl 0 rfl) ?_
              refine lv_iload_n hx hb dX0_from_46 rfl (lv_at hl 6 rfl) ?_
              refine lv_iload hx hb dX0_from_47 (lv_at hl 7 rfl) ?_
              refine lv_iconst (v := 1) hx hb dX0_from_49 (by decide) ?_
              refine lv_iadd hx hb dX0_from_50 ?_
              refine lv_topi (fun x_22 ex_22 => ?_)
              have fx_22 : x_22.toInt = p4.toInt + (1 : Int) := by rw [ex_22]; exact i_add (by first | omega | (show (_ : Int) ≤ p4.toInt + (1 : Int); omega)) (by first | omega | (show p4.toInt + (1 : Int) ≤ (_ : Int); omega))
              refine cV_i (As := [.int 1, .int p3, .int x_22]) (rest := []) ⟨hx, hb, hml, hown, hg⟩ (k_R_x_1 l D cs A ad fa fq rv v a w fv fp  p3 x_22 (show 0 ≤ (v 22).toInt by first | omega | decide) (show (v 22).toInt ≤ 23 by first | omega | decide) (show 0 ≤ x_22.toInt by first | omega | decide) (show x_22.toInt ≤ 38 by first | omega | decide) (show 0 ≤ (v 22).toInt by first | omega | decide) (show (v 22).toInt ≤ 1000 by first | omega | decide) (show 0 ≤ (v 23).toInt by first | omega | decide) (show (v 23).toInt ≤ 49 by first | omega | decide)) ca_X0_run q4_149 ⟨rfl, rfl⟩ ⟨Nat.le_of_ble_eq_true rfl, Nat.le_of_ble_eq_true rfl⟩ (rc_acts hK hP) hK hP hD hS hZ rfl hl.1 rfl (Nat.le_of_ble_eq_true rfl) ⟨Nat.zero_le _, Nat.zero_le _⟩ dX0_from_51 (fun r_23 z_26 H locs wr_23 hP hD hS => ?_)
              obtain ⟨o_v22_24, o_a38_25⟩ := z_26
              have hP : va_P D vwCl (CW cs ad fa fq rv (va_up v 22 o_v22_24) (va_up a 38 o_a38_25) w fv fp) H := hP
              have hD : va_D A (CW cs ad fa fq rv (va_up v 22 o_v22_24) (va_up a 38 o_a38_25) w fv fp) := hD
              obtain ⟨wr_23_0, wr_23_1, wr_23_2, wr_23_3, wr_23_4⟩ : (o_v22_24.toInt = (v 22).toInt + 1) ∧ (o_a38_25 = TRW (a 38) (v 22).toInt.toNat [1]) ∧ (r_23 = (p3 + (v 23))) ∧ (0 ≤ o_v22_24.toInt) ∧ (o_v22_24.toInt ≤ 1000) := wr_23
              have kt_27 : o_a38_25 = TRW (a 38) (v 22).toInt.toNat [1] := by rw [wr_23_1]
              refine lv_goto (tgt := 58) hx hb dX0_from_54 (by decide) ?_
              exact W.iret (v := r_23) hx hb hr (fun tt ht hW => ⟨⟨r_23, ⟨o_v22_24, o_a38_25⟩, rfl, ⟨(by first | rfl | omega | trivial | assumption | (dsimp only; first | omega | assumption)), (by (try dsimp only); first | assumption | rfl), (by simp only [wr_23_2, ex_22]), (show 0 ≤ o_v22_24.toInt by first | omega | assumption), (show o_v22_24.toInt ≤ 1000 by first | omega | assumption)⟩, by rw [ht]; exact hP, hD⟩, hS.F ht⟩) hS.2.2 dX0_from_58
set_option maxHeartbeats 4000000 in
set_option maxRecDepth 100000 in
theorem k_S_3_0 (l : Launch) (D : va_G) (cs : Nat → ClassId) (A : Nat → Prop) (ad fa fq rv : Nat → Nat) (v : Nat → Int32) (a : Nat → Nat → Int32) (w : Nat → Nat → Int64) (fv fp : Nat → Nat → Int32)  (p2 : Int32) (p3 : Int32) (hkn : (a 37) (v 23).toNatClampNeg = 3) (hr0 : 0 ≤ (v 22).toInt) (hr1 : (v 22).toInt ≤ 23) (hd0 : 0 ≤ p3.toInt) (hd1 : p3.toInt ≤ 37) (iv23_0 : 0 ≤ (v 23).toInt) (iv23_1 : (v 23).toInt ≤ 49) (ia37_0 : AB 0 7 (a 37)) (iv22_0 : 0 ≤ (v 22).toInt) (iv22_1 : (v 22).toInt ≤ 1000) : Met l yX0_self (Cond.code yX0_self cX0_self 4 (some .int) :: gw) ({ frames := 2, cells := 0, slots := 0, locals := 50 }) (va_Pc [.ref (ad 9), .int 0, .int p2, .int p3] (XPre D (TY cs) (CW cs ad fa fq rv v a w fv fp) A)) (va_Qi (fun (r : Int32) (z : Int32 × (Nat → Int32)) => (z.1.toInt = (v 22).toInt + 1) ∧ (z.2 = TRW (a 38) (v 22).toInt.toNat [1]) ∧ (r = (p2 + (v 23))) ∧ (0 ≤ z.1.toInt) ∧ (z.1.toInt ≤ 1000)) (XPo D (fun (z : Int32 × (Nat → Int32)) => CW cs ad fa fq rv (va_up v 22 z.1) (va_up a 38 z.2) w fv fp) A) A) 0 0 A := by
  refine Met.ofW (cc := cX0_self) (maxL := 4) (ret := (some .int)) (by decide) rfl ?_
  intro p e s m args below meth c s₁ B hml hv
  obtain ⟨rfl, hP, hK, hD, hZ⟩ := hv
  have hx := B.exec
  have hb := B.bytes
  have hr := B.returns
  have hts := atoms_spec (ws := (Cond.code yX0_self cX0_self 4 (some .int) :: gw)) B.pre
  have hg : ∀ w ∈ gw, w.before ([.ref (ad 9), .int 0, .int p2, .int p3] : List Value).toArray s = true := fun w h => hts w (List.mem_cons_of_mem _ h)
  have hown : s.vm.findClass RX0 = some m.cls := findClass_of_methodNamed B.named
  have hlocks := B.notSynchronized
  have hS : va_S A s.heap s.heap [] := va_S.rf
  have hP : va_P D vwCl (CW cs ad fa fq rv v a w fv fp) s.heap := hP
  have hl := lv_entry ([.ref (ad 9), .int 0, .int p2, .int p3]) (n := 4) (Nat.le_of_ble_eq_true rfl)
  rw [lg_entry_eq]
  generalize (lg_sl ([.ref (ad 9), .int 0, .int p2, .int p3]) ++ List.replicate (4 - (lg_sl ([.ref (ad 9), .int 0, .int p2, .int p3])).length) Slot.unset).toArray = ls at hl ⊢
  have hl : lv_has ls 4 [(0, .ref (ad 9)), (1, .int 0), (2, .int p2), (3, .int p3)] := hl
  refine lv_aload_n hx hb dX0_self_0 rfl (lv_at hl 0 rfl) ?_
  refine lv_aload_n hx hb dX0_self_1 rfl (lv_at hl 0 rfl) ?_
  refine gf_acts_kind hx hb hg hown hK hP rfl (hg _ q1_83) dX0_self_2 ?_
  refine lv_aload_n hx hb dX0_self_5 rfl (lv_at hl 0 rfl) ?_
  refine gf_acts_number hx hb hg hown hK hP (x := (v 23)) rfl (hg _ q1_90) dX0_self_6 ?_
  refine ld_Akind hx hb hK hP (i_in (by omega) (by omega)) dX0_self_9 ?_
  refine lv_topi (fun x_1 ex_1 => ?_)
  have ex_1 : x_1 = (a 37) (v 23).toNatClampNeg := ex_1
  have hx_1 : x_1.toInt = ((a 37) (v 23).toNatClampNeg).toInt := by rw [ex_1]
  have bx_1 := ia37_0 (v 23).toNatClampNeg
  rw [← ex_1] at bx_1
  have fx_1 : x_1 = 3 := by rw [ex_1]; exact hkn
  subst fx_1
  refine lv_iload_n hx hb dX0_self_10 rfl (lv_at hl 1 rfl) ?_
  refine lv_iload_n hx hb dX0_self_11 rfl (lv_at hl 2 rfl) ?_
  refine lv_iload_n hx hb dX0_self_12 rfl (lv_at hl 3 rfl) ?_
  refine cV_i (As := [.int 3, .int 0, .int p2, .int p3]) (rest := []) ⟨hx, hb, hml, hown, hg⟩ (k_F_x_3_0 l D cs A ad fa fq rv v a w fv fp  p2 p3 (show 0 ≤ (v 22).toInt by first | omega | decide) (show (v 22).toInt ≤ 23 by first | omega | decide) (show 0 ≤ p3.toInt by first | omega | decide) (show p3.toInt ≤ 37 by first | omega | decide) (show 0 ≤ (v 22).toInt by first | omega | decide) (show (v 22).toInt ≤ 1000 by first | omega | decide) (show 0 ≤ (v 23).toInt by first | omega | decide) (show (v 23).toInt ≤ 49 by first | omega | decide)) ca_X0_from q4_139 ⟨rfl, rfl⟩ ⟨Nat.le_of_ble_eq_true rfl, Nat.le_of_ble_eq_true rfl⟩ (rc_acts hK hP) hK hP hD hS hZ rfl hl.1 rfl (Nat.le_of_ble_eq_true rfl) ⟨Nat.zero_le _, Nat.zero_le _⟩ dX0_self_13 (fun r_2 z_5 H locs wr_2 hP hD hS => ?_)
  obtain ⟨o_v22_3, o_a38_4⟩ := z_5
  have hP : va_P D vwCl (CW cs ad fa fq rv (va_up v 22 o_v22_3) (va_up a 38 o_a38_4) w fv fp) H := hP
  have hD : va_D A (CW cs ad fa fq rv (va_up v 22 o_v22_3) (va_up a 38 o_a38_4) w fv fp) := hD
  obtain ⟨wr_2_0, wr_2_1, wr_2_2, wr_2_3, wr_2_4⟩ : (o_v22_3.toInt = (v 22).toInt + 1) ∧ (o_a38_4 = TRW (a 38) (v 22).toInt.toNat [1]) ∧ (r_2 = (p2 + (v 23))) ∧ (0 ≤ o_v22_3.toInt) ∧ (o_v22_3.toInt ≤ 1000) := wr_2
  have kt_6 : o_a38_4 = TRW (a 38) (v 22).toInt.toNat [1] := by rw [wr_2_1]
  exact W.iret (v := r_2) hx hb hr (fun tt ht hW => ⟨⟨r_2, ⟨o_v22_3, o_a38_4⟩, rfl, ⟨(by first | rfl | omega | trivial | assumption | (dsimp only; first | omega | assumption)), (by (try dsimp only); first | assumption | rfl), (by simp only [wr_2_2]), (show 0 ≤ o_v22_3.toInt by first | omega | assumption), (show o_v22_3.toInt ≤ 1000 by first | omega | assumption)⟩, by rw [ht]; exact hP, hD⟩, hS.F ht⟩) hS.2.2 dX0_self_16
set_option maxHeartbeats 4000000 in
set_option maxRecDepth 100000 in
theorem k_R_3_10 (l : Launch) (D : va_G) (cs : Nat → ClassId) (A : Nat → Prop) (ad fa fq rv : Nat → Nat) (v : Nat → Int32) (a : Nat → Nat → Int32) (w : Nat → Nat → Int64) (fv fp : Nat → Nat → Int32)  (p2 : Int32) (p3 : Int32) (hkn : (a 37) (v 23).toNatClampNeg = 3) (hr0 : 0 ≤ (v 22).toInt) (hr1 : (v 22).toInt ≤ 22) (hd0 : 0 ≤ p3.toInt) (hd1 : p3.toInt ≤ 37) (iv22_0 : 0 ≤ (v 22).toInt) (iv22_1 : (v 22).toInt ≤ 1000) (iv23_0 : 0 ≤ (v 23).toInt) (iv23_1 : (v 23).toInt ≤ 49) (ia37_0 : AB 0 7 (a 37)) : Met l yX0_run (Cond.code yX0_run cX0_run 4 (some .int) :: gw) ({ frames := 3, cells := 0, slots := 0, locals := 73 }) (va_Pc [.ref (ad 9), .int 10, .int p2, .int p3] (XPre D (TY cs) (CW cs ad fa fq rv v a w fv fp) A)) (va_Qi (fun (r : Int32) (z : Int32 × (Nat → Int32)) => (z.1.toInt = (v 22).toInt + 2) ∧ (z.2 = TRW (a 38) (v 22).toInt.toNat [10, 1]) ∧ (r = ((p2 + (v 23)) * 2)) ∧ (0 ≤ z.1.toInt) ∧ (z.1.toInt ≤ 1000)) (XPo D (fun (z : Int32 × (Nat → Int32)) => CW cs ad fa fq rv (va_up v 22 z.1) (va_up a 38 z.2) w fv fp) A) A) 0 0 A := by
  refine Met.ofW (cc := cX0_run) (maxL := 4) (ret := (some .int)) (by decide) rfl ?_
  intro p e s m args below meth c s₁ B hml hv
  obtain ⟨rfl, hP, hK, hD, hZ⟩ := hv
  have hx := B.exec
  have hb := B.bytes
  have hr := B.returns
  have hts := atoms_spec (ws := (Cond.code yX0_run cX0_run 4 (some .int) :: gw)) B.pre
  have hg : ∀ w ∈ gw, w.before ([.ref (ad 9), .int 10, .int p2, .int p3] : List Value).toArray s = true := fun w h => hts w (List.mem_cons_of_mem _ h)
  have hown : s.vm.findClass RX0 = some m.cls := findClass_of_methodNamed B.named
  have hlocks := B.notSynchronized
  have hS : va_S A s.heap s.heap [] := va_S.rf
  have hP : va_P D vwCl (CW cs ad fa fq rv v a w fv fp) s.heap := hP
  have hl := lv_entry ([.ref (ad 9), .int 10, .int p2, .int p3]) (n := 4) (Nat.le_of_ble_eq_true rfl)
  rw [lg_entry_eq]
  generalize (lg_sl ([.ref (ad 9), .int 10, .int p2, .int p3]) ++ List.replicate (4 - (lg_sl ([.ref (ad 9), .int 10, .int p2, .int p3])).length) Slot.unset).toArray = ls at hl ⊢
  have hl : lv_has ls 4 [(0, .ref (ad 9)), (1, .int 10), (2, .int p2), (3, .int p3)] := hl
  refine lv_aload_n hx hb dX0_run_0 rfl (lv_at hl 0 rfl) ?_
  refine gf_acts_ran hx hb hg hown hK hP (x := (v 22)) rfl (hg _ q1_88) dX0_run_1 ?_
  refine lv_bipush (v := 24) hx hb dX0_run_4 (by decide) ?_
  refine lv_icmp_ge (tgt := 19) hx hb dX0_run_6 (by decide) (fun c_1 => ?_) (fun c_1 => ?_)
  ·
    have kc_1 : (24 : Int) ≤ (v 22).toInt := i_le c_1
    exfalso; omega
  ·
    have kc_1 : (v 22).toInt < (24 : Int) := i_nle c_1
    refine lv_aload_n hx hb dX0_run_9 rfl (lv_at hl 0 rfl) ?_
    refine gf_acts_traced hx hb hg hown hK hP rfl (hg _ q1_86) dX0_run_10 ?_
    refine lv_aload_n hx hb dX0_run_13 rfl (lv_at hl 0 rfl) ?_
    refine gf_acts_ran hx hb hg hown hK hP (x := (v 22)) rfl (hg _ q1_88) dX0_run_14 ?_
    refine lv_iload_n hx hb dX0_run_17 rfl (lv_at hl 1 rfl) ?_
    refine st_Atraced hx hb hK hP hD hS (i_in (by omega) (by omega)) dX0_run_18 (fun H locs hP hD hS => ?_)
    refine lv_aload_n hx hb dX0_run_19 rfl (lv_at hl 0 rfl) ?_
    refine lv_dup hx hb dX0_run_20 rfl ?_
    refine gf_acts_ran hx hb hg hown hK hP (x := (v 22)) rfl (hg _ q1_88) dX0_run_21 ?_
    refine lv_iconst (v := 1) hx hb dX0_run_24 (by decide) ?_
    refine lv_iadd hx hb dX0_run_25 ?_
    refine lv_topi (fun x_2 ex_2 => ?_)
    have fx_2 : x_2.toInt = (v 22).toInt + (1 : Int) := by rw [ex_2]; exact i_add (by first | omega | (show (_ : Int) ≤ (v 22).toInt + (1 : Int); omega)) (by first | omega | (show (v 22).toInt + (1 : Int) ≤ (_ : Int); omega))
    refine pf_acts_ran hx hb hg hown hK hP hD hS (hg _ q1_88) dX0_run_26 (fun H locs hP hD hS => ?_)
    refine lv_iload_n hx hb dX0_run_29 rfl (lv_at hl 1 rfl) ?_
    refine lv_lookup (tgt := 175) hx hb dX0_run_30 (by decide) (off := 145) (by decide) (by decide) ?_
    refine lv_aload_n hx hb dX0_run_175 rfl (lv_at hl 0 rfl) ?_
    refine lv_iconst (v := 0) hx hb dX0_run_176 (by decide) ?_
    refine lv_iload_n hx hb dX0_run_177 rfl (lv_at hl 2 rfl) ?_
    refine lv_iload_n hx hb dX0_run_178 rfl (lv_at hl 3 rfl) ?_
    refine cV_i (As := [.int 0, .int p2, .int p3]) (rest := []) ⟨hx, hb, hml, hown, hg⟩ (k_S_3_0 l D cs A ad fa fq rv (va_up v 22 x_2) (va_up a 38 (upd (a 38) (v 22).toNatClampNeg 10)) w fv fp  p2 p3 hkn (show 0 ≤ x_2.toInt by first | omega | decide) (show x_2.toInt ≤ 23 by first | omega | decide) (show 0 ≤ p3.toInt by first | omega | decide) (show p3.toInt ≤ 37 by first | omega | decide) (show 0 ≤ (v 23).toInt by first | omega | decide) (show (v 23).toInt ≤ 49 by first | omega | decide) ia37_0 (show 0 ≤ x_2.toInt by first | omega | decide) (show x_2.toInt ≤ 1000 by first | omega | decide)) ca_X0_self q4_135 ⟨rfl, rfl⟩ ⟨Nat.le_of_ble_eq_true rfl, Nat.le_of_ble_eq_true rfl⟩ (rc_acts hK hP) hK hP hD hS hZ rfl hl.1 rfl (Nat.le_of_ble_eq_true rfl) ⟨Nat.zero_le _, Nat.zero_le _⟩ dX0_run_179 (fun r_4 z_7 H locs wr_4 hP hD hS => ?_)
    obtain ⟨o_v22_5, o_a38_6⟩ := z_7
    have hP : va_P D vwCl (CW cs ad fa fq rv (va_up v 22 o_v22_5) (va_up a 38 o_a38_6) w fv fp) H := hP
    have hD : va_D A (CW cs ad fa fq rv (va_up v 22 o_v22_5) (va_up a 38 o_a38_6) w fv fp) := hD
    obtain ⟨wr_4_0, wr_4_1, wr_4_2, wr_4_3, wr_4_4⟩ : (o_v22_5.toInt = x_2.toInt + 1) ∧ (o_a38_6 = TRW (upd (a 38) (v 22).toNatClampNeg 10) x_2.toInt.toNat [1]) ∧ (r_4 = (p2 + (v 23))) ∧ (0 ≤ o_v22_5.toInt) ∧ (o_v22_5.toInt ≤ 1000) := wr_4
    have kt_8 : o_a38_6 = TRW (a 38) (v 22).toInt.toNat [10, 1] := by rw [wr_4_1, show (x_2).toInt.toNat = (v 22).toInt.toNat + 1 from by omega]; rfl
    refine lv_iconst (v := 2) hx hb dX0_run_182 (by decide) ?_
    refine lv_imul hx hb dX0_run_183 ?_
    refine lv_topi (fun x_9 ex_9 => ?_)
    exact W.iret (v := x_9) hx hb hr (fun tt ht hW => ⟨⟨x_9, ⟨o_v22_5, o_a38_6⟩, rfl, ⟨(by first | rfl | omega | trivial | assumption | (dsimp only; first | omega | assumption)), (by (try dsimp only); first | assumption | rfl), (by simp only [ex_9, wr_4_2, ex_2]), (show 0 ≤ o_v22_5.toInt by first | omega | assumption), (show o_v22_5.toInt ≤ 1000 by first | omega | assumption)⟩, by rw [ht]; exact hP, hD⟩, hS.F ht⟩) hS.2.2 dX0_run_184
set_option maxHeartbeats 4000000 in
set_option maxRecDepth 100000 in
theorem k_F_3_0_1 (l : Launch) (D : va_G) (cs : Nat → ClassId) (A : Nat → Prop) (ad fa fq rv : Nat → Nat) (v : Nat → Int32) (a : Nat → Nat → Int32) (w : Nat → Nat → Int64) (fv fp : Nat → Nat → Int32)  (p3 : Int32) (p4 : Int32) (hkn : (a 37) (v 23).toNatClampNeg = 3) (hr0 : 0 ≤ (v 22).toInt) (hr1 : (v 22).toInt ≤ 22) (hd0 : 0 ≤ p4.toInt) (hd1 : p4.toInt ≤ 36) (iv22_0 : 0 ≤ (v 22).toInt) (iv22_1 : (v 22).toInt ≤ 1000) (iv23_0 : 0 ≤ (v 23).toInt) (iv23_1 : (v 23).toInt ≤ 49) (ia37_0 : AB 0 7 (a 37)) : Met l yX0_from (Cond.code yX0_from cX0_from 8 (some .int) :: gw) ({ frames := 4, cells := 0, slots := 0, locals := 96 }) (va_Pc [.ref (ad 9), .int 0, .int 1, .int p3, .int p4] (XPre D (TY cs) (CW cs ad fa fq rv v a w fv fp) A)) (va_Qi (fun (r : Int32) (z : Int32 × (Nat → Int32)) => (z.1.toInt = (v 22).toInt + 2) ∧ (z.2 = TRW (a 38) (v 22).toInt.toNat [10, 1]) ∧ (r = ((p3 + (v 23)) * 2)) ∧ (0 ≤ z.1.toInt) ∧ (z.1.toInt ≤ 1000)) (XPo D (fun (z : Int32 × (Nat → Int32)) => CW cs ad fa fq rv (va_up v 22 z.1) (va_up a 38 z.2) w fv fp) A) A) 0 0 A := by
  refine Met.ofW (cc := cX0_from) (maxL := 8) (ret := (some .int)) (by decide) rfl ?_
  intro p e s m args below meth c s₁ B hml hv
  obtain ⟨rfl, hP, hK, hD, hZ⟩ := hv
  have hx := B.exec
  have hb := B.bytes
  have hr := B.returns
  have hts := atoms_spec (ws := (Cond.code yX0_from cX0_from 8 (some .int) :: gw)) B.pre
  have hg : ∀ w ∈ gw, w.before ([.ref (ad 9), .int 0, .int 1, .int p3, .int p4] : List Value).toArray s = true := fun w h => hts w (List.mem_cons_of_mem _ h)
  have hown : s.vm.findClass RX0 = some m.cls := findClass_of_methodNamed B.named
  have hlocks := B.notSynchronized
  have hS : va_S A s.heap s.heap [] := va_S.rf
  have hP : va_P D vwCl (CW cs ad fa fq rv v a w fv fp) s.heap := hP
  have hl := lv_entry ([.ref (ad 9), .int 0, .int 1, .int p3, .int p4]) (n := 8) (Nat.le_of_ble_eq_true rfl)
  rw [lg_entry_eq]
  generalize (lg_sl ([.ref (ad 9), .int 0, .int 1, .int p3, .int p4]) ++ List.replicate (8 - (lg_sl ([.ref (ad 9), .int 0, .int 1, .int p3, .int p4])).length) Slot.unset).toArray = ls at hl ⊢
  have hl : lv_has ls 8 [(0, .ref (ad 9)), (1, .int 0), (2, .int 1), (3, .int p3), (4, .int p4)] := hl
  refine lv_iload_n hx hb dX0_from_0 rfl (lv_at hl 1 rfl) ?_
  refine lv_istore (lv' := [(5, .int 0), (0, .ref (ad 9)), (1, .int 0), (2, .int 1), (3, .int p3), (4, .int p4)]) hx hb dX0_from_1 hl (by decide) rfl (fun ls hl => ?_)
  refine lv_iconst (v := 0) hx hb dX0_from_3 (by decide) ?_
  refine lv_istore (lv' := [(6, .int 0), (5, .int 0), (0, .ref (ad 9)), (1, .int 0), (2, .int 1), (3, .int p3), (4, .int p4)]) hx hb dX0_from_4 hl (by decide) rfl (fun ls hl => ?_)
  refine lv_iload hx hb dX0_from_6 (lv_at hl 0 rfl) ?_
  obtain ⟨t0, t1, t2, ⟨a0, b0⟩, ⟨a1, b1⟩, ⟨a2, b2⟩⟩ := id hZ
  refine va_gets hx hb a2 hS hown (hg _ q4_143) (fun _ h9 => h9) dX0_from_8 ?_
  refine va_tlen hx hb b2 hS (v := 8) rfl dX0_from_11 ?_
  refine lv_icmp_ge (tgt := 73) hx hb dX0_from_12 (by decide) (fun c_1 => absurd c_1 (by decide)) (fun c_1 => ?_)
  refine lv_iload hx hb dX0_from_15 (lv_at hl 1 rfl) ?_
  refine cS_p (As := [.int 0]) (rest := []) ⟨hx, hb, hml, hown, hg⟩ (k_IK_1 l    ) ca_X0_isKind q4_145 ⟨rfl, rfl⟩ ⟨Nat.le_of_ble_eq_true rfl, Nat.le_of_ble_eq_true rfl⟩ rfl hl.1 rfl (Nat.le_of_ble_eq_true rfl) ⟨Nat.zero_le _, Nat.zero_le _⟩ dX0_from_17 (fun r_2 wr_2 => ?_)
  have wr_2 : r_2.toInt = 1 := wr_2
  refine lv_if_eq (tgt := 73) hx hb dX0_from_20 (by decide) (fun c_3 => ?_) (fun c_3 => ?_)
  ·
    have kc_3 : r_2.toInt = (0 : Int) := i_eq c_3
    exfalso; omega
  ·
    have kc_3 : r_2.toInt ≠ (0 : Int) := i_ne c_3
    refine lv_iload hx hb dX0_from_23 (lv_at hl 1 rfl) ?_
    refine lv_iload_n hx hb dX0_from_25 rfl (lv_at hl 4 rfl) ?_
    refine cS_p (As := [.int 0, .int 1]) (rest := []) ⟨hx, hb, hml, hown, hg⟩ (k_B_0_1 l    ) ca_X0_bodyOf q4_146 ⟨rfl, rfl⟩ ⟨Nat.le_of_ble_eq_true rfl, Nat.le_of_ble_eq_true rfl⟩ rfl hl.1 rfl (Nat.le_of_ble_eq_true rfl) ⟨Nat.zero_le _, Nat.zero_le _⟩ dX0_from_26 (fun r_4 wr_4 => ?_)
    have wr_4 : r_4.toInt = 10 := wr_4
    have el_5 : r_4 = 10 := i_inj (wr_4.trans (by rfl))
    subst el_5
    refine lv_istore (lv' := [(7, .int 10), (6, .int 0), (5, .int 0), (0, .ref (ad 9)), (1, .int 0), (2, .int 1), (3, .int p3), (4, .int p4)]) hx hb dX0_from_29 hl (by decide) rfl (fun ls hl => ?_)
    refine lv_iload hx hb dX0_from_31 (lv_at hl 0 rfl) ?_
    refine lv_if_eq (tgt := 59) hx hb dX0_from_33 (by decide) (fun c_6 => absurd c_6 (by decide)) (fun c_6 => ?_)
    refine lv_iload hx hb dX0_from_36 (lv_at hl 7 rfl) ?_
    refine lv_bipush (v := 40) hx hb dX0_from_38 (by decide) ?_
    refine lv_icmp_ge (tgt := 57) hx hb dX0_from_40 (by decide) (fun c_7 => ?_) (fun c_7 => ?_)
    ·
      have kc_7 : (40 : Int) ≤ p4.toInt := i_le c_7
      exfalso; omega
    ·
      have kc_7 : p4.toInt < (40 : Int) := i_nle c_7
      refine lv_aload_n hx hb dX0_from_43 rfl (lv_at hl 3 rfl) ?_
      refine lv_iload hx hb dX0_from_44 (lv_at hl 0 rfl) ?_
      refine lv_iload_n hx hb dX0_from_46 rfl (lv_at hl 6 rfl) ?_
      refine lv_iload hx hb dX0_from_47 (lv_at hl 7 rfl) ?_
      refine lv_iconst (v := 1) hx hb dX0_from_49 (by decide) ?_
      refine lv_iadd hx hb dX0_from_50 ?_
      refine lv_topi (fun x_8 ex_8 => ?_)
      have fx_8 : x_8.toInt = p4.toInt + (1 : Int) := by rw [ex_8]; exact i_add (by first | omega | (show (_ : Int) ≤ p4.toInt + (1 : Int); omega)) (by first | omega | (show p4.toInt + (1 : Int) ≤ (_ : Int); omega))
      refine cV_i (As := [.int 10, .int p3, .int x_8]) (rest := []) ⟨hx, hb, hml, hown, hg⟩ (k_R_3_10 l D cs A ad fa fq rv v a w fv fp  p3 x_8 hkn (show 0 ≤ (v 22).toInt by first | omega | decide) (show (v 22).toInt ≤ 22 by first | omega | decide) (show 0 ≤ x_8.toInt by first | omega | decide) (show x_8.toInt ≤ 37 by first | omega | decide) (show 0 ≤ (v 22).toInt by first | omega | decide) (show (v 22).toInt ≤ 1000 by first | omega | decide) (show 0 ≤ (v 23).toInt by first | omega | decide) (show (v 23).toInt ≤ 49 by first | omega | decide) ia37_0) ca_X0_run q4_149 ⟨rfl, rfl⟩ ⟨Nat.le_of_ble_eq_true rfl, Nat.le_of_ble_eq_true rfl⟩ (rc_acts hK hP) hK hP hD hS hZ rfl hl.1 rfl (Nat.le_of_ble_eq_true rfl) ⟨Nat.zero_le _, Nat.zero_le _⟩ dX0_from_51 (fun r_9 z_12 H locs wr_9 hP hD hS => ?_)
      obtain ⟨o_v22_10, o_a38_11⟩ := z_12
      have hP : va_P D vwCl (CW cs ad fa fq rv (va_up v 22 o_v22_10) (va_up a 38 o_a38_11) w fv fp) H := hP
      have hD : va_D A (CW cs ad fa fq rv (va_up v 22 o_v22_10) (va_up a 38 o_a38_11) w fv fp) := hD
      obtain ⟨wr_9_0, wr_9_1, wr_9_2, wr_9_3, wr_9_4⟩ : (o_v22_10.toInt = (v 22).toInt + 2) ∧ (o_a38_11 = TRW (a 38) (v 22).toInt.toNat [10, 1]) ∧ (r_9 = ((p3 + (v 23)) * 2)) ∧ (0 ≤ o_v22_10.toInt) ∧ (o_v22_10.toInt ≤ 1000) := wr_9
      have kt_13 : o_a38_11 = TRW (a 38) (v 22).toInt.toNat [10, 1] := by rw [wr_9_1]
      refine lv_goto (tgt := 58) hx hb dX0_from_54 (by decide) ?_
      exact W.iret (v := r_9) hx hb hr (fun tt ht hW => ⟨⟨r_9, ⟨o_v22_10, o_a38_11⟩, rfl, ⟨(by first | rfl | omega | trivial | assumption | (dsimp only; first | omega | assumption)), (by (try dsimp only); first | assumption | rfl), (by simp only [wr_9_2, ex_8]), (show 0 ≤ o_v22_10.toInt by first | omega | assumption), (show o_v22_10.toInt ≤ 1000 by first | omega | assumption)⟩, by rw [ht]; exact hP, hD⟩, hS.F ht⟩) hS.2.2 dX0_from_58
set_option maxHeartbeats 4000000 in
set_option maxRecDepth 100000 in
theorem k_R_3_30 (l : Launch) (D : va_G) (cs : Nat → ClassId) (A : Nat → Prop) (ad fa fq rv : Nat → Nat) (v : Nat → Int32) (a : Nat → Nat → Int32) (w : Nat → Nat → Int64) (fv fp : Nat → Nat → Int32)  (p2 : Int32) (p3 : Int32) (hkn : (a 37) (v 23).toNatClampNeg = 3) (hr0 : 0 ≤ (v 22).toInt) (hr1 : (v 22).toInt ≤ 21) (hd0 : 0 ≤ p3.toInt) (hd1 : p3.toInt ≤ 36) (iv22_0 : 0 ≤ (v 22).toInt) (iv22_1 : (v 22).toInt ≤ 1000) (iv23_0 : 0 ≤ (v 23).toInt) (iv23_1 : (v 23).toInt ≤ 49) (ia37_0 : AB 0 7 (a 37)) : Met l yX0_run (Cond.code yX0_run cX0_run 4 (some .int) :: gw) ({ frames := 5, cells := 0, slots := 0, locals := 123 }) (va_Pc [.ref (ad 9), .int 30, .int p2, .int p3] (XPre D (TY cs) (CW cs ad fa fq rv v a w fv fp) A)) (va_Qi (fun (r : Int32) (z : Int32 × (Nat → Int32)) => (z.1.toInt = (v 22).toInt + 3) ∧ (z.2 = TRW (a 38) (v 22).toInt.toNat [30, 10, 1]) ∧ (r = (-((p2 + (v 23)) * 2))) ∧ (0 ≤ z.1.toInt) ∧ (z.1.toInt ≤ 1000)) (XPo D (fun (z : Int32 × (Nat → Int32)) => CW cs ad fa fq rv (va_up v 22 z.1) (va_up a 38 z.2) w fv fp) A) A) 0 0 A := by
  refine Met.ofW (cc := cX0_run) (maxL := 4) (ret := (some .int)) (by decide) rfl ?_
  intro p e s m args below meth c s₁ B hml hv
  obtain ⟨rfl, hP, hK, hD, hZ⟩ := hv
  have hx := B.exec
  have hb := B.bytes
  have hr := B.returns
  have hts := atoms_spec (ws := (Cond.code yX0_run cX0_run 4 (some .int) :: gw)) B.pre
  have hg : ∀ w ∈ gw, w.before ([.ref (ad 9), .int 30, .int p2, .int p3] : List Value).toArray s = true := fun w h => hts w (List.mem_cons_of_mem _ h)
  have hown : s.vm.findClass RX0 = some m.cls := findClass_of_methodNamed B.named
  have hlocks := B.notSynchronized
  have hS : va_S A s.heap s.heap [] := va_S.rf
  have hP : va_P D vwCl (CW cs ad fa fq rv v a w fv fp) s.heap := hP
  have hl := lv_entry ([.ref (ad 9), .int 30, .int p2, .int p3]) (n := 4) (Nat.le_of_ble_eq_true rfl)
  rw [lg_entry_eq]
  generalize (lg_sl ([.ref (ad 9), .int 30, .int p2, .int p3]) ++ List.replicate (4 - (lg_sl ([.ref (ad 9), .int 30, .int p2, .int p3])).length) Slot.unset).toArray = ls at hl ⊢
  have hl : lv_has ls 4 [(0, .ref (ad 9)), (1, .int 30), (2, .int p2), (3, .int p3)] := hl
  refine lv_aload_n hx hb dX0_run_0 rfl (lv_at hl 0 rfl) ?_
  refine gf_acts_ran hx hb hg hown hK hP (x := (v 22)) rfl (hg _ q1_88) dX0_run_1 ?_
  refine lv_bipush (v := 24) hx hb dX0_run_4 (by decide) ?_
  refine lv_icmp_ge (tgt := 19) hx hb dX0_run_6 (by decide) (fun c_1 => ?_) (fun c_1 => ?_)
  ·
    have kc_1 : (24 : Int) ≤ (v 22).toInt := i_le c_1
    exfalso; omega
  ·
    have kc_1 : (v 22).toInt < (24 : Int) := i_nle c_1
    refine lv_aload_n hx hb dX0_run_9 rfl (lv_at hl 0 rfl) ?_
    refine gf_acts_traced hx hb hg hown hK hP rfl (hg _ q1_86) dX0_run_10 ?_
    refine lv_aload_n hx hb dX0_run_13 rfl (lv_at hl 0 rfl) ?_
    refine gf_acts_ran hx hb hg hown hK hP (x := (v 22)) rfl (hg _ q1_88) dX0_run_14 ?_
    refine lv_iload_n hx hb dX0_run_17 rfl (lv_at hl 1 rfl) ?_
    refine st_Atraced hx hb hK hP hD hS (i_in (by omega) (by omega)) dX0_run_18 (fun H locs hP hD hS => ?_)
    refine lv_aload_n hx hb dX0_run_19 rfl (lv_at hl 0 rfl) ?_
    refine lv_dup hx hb dX0_run_20 rfl ?_
    refine gf_acts_ran hx hb hg hown hK hP (x := (v 22)) rfl (hg _ q1_88) dX0_run_21 ?_
    refine lv_iconst (v := 1) hx hb dX0_run_24 (by decide) ?_
    refine lv_iadd hx hb dX0_run_25 ?_
    refine lv_topi (fun x_2 ex_2 => ?_)
    have fx_2 : x_2.toInt = (v 22).toInt + (1 : Int) := by rw [ex_2]; exact i_add (by first | omega | (show (_ : Int) ≤ (v 22).toInt + (1 : Int); omega)) (by first | omega | (show (v 22).toInt + (1 : Int) ≤ (_ : Int); omega))
    refine pf_acts_ran hx hb hg hown hK hP hD hS (hg _ q1_88) dX0_run_26 (fun H locs hP hD hS => ?_)
    refine lv_iload_n hx hb dX0_run_29 rfl (lv_at hl 1 rfl) ?_
    refine lv_lookup (tgt := 207) hx hb dX0_run_30 (by decide) (off := 177) (by decide) (by decide) ?_
    refine lv_aload_n hx hb dX0_run_207 rfl (lv_at hl 0 rfl) ?_
    obtain ⟨t0, t1, t2, ⟨a0, b0⟩, ⟨a1, b1⟩, ⟨a2, b2⟩⟩ := id hZ
    refine va_gets hx hb a2 hS hown (hg _ q4_143) (fun _ h9 => h9) dX0_run_208 ?_
    refine lv_iconst (v := 2) hx hb dX0_run_211 (by decide) ?_
    refine va_ti hx hb b2 hS (i_in (by decide) (by decide)) (v := .int 0) rfl dX0_run_212 ?_
    refine lv_iconst (v := 1) hx hb dX0_run_213 (by decide) ?_
    refine lv_iload_n hx hb dX0_run_214 rfl (lv_at hl 2 rfl) ?_
    refine lv_iload_n hx hb dX0_run_215 rfl (lv_at hl 3 rfl) ?_
    refine cV_i (As := [.int 0, .int 1, .int p2, .int p3]) (rest := []) ⟨hx, hb, hml, hown, hg⟩ (k_F_3_0_1 l D cs A ad fa fq rv (va_up v 22 x_2) (va_up a 38 (upd (a 38) (v 22).toNatClampNeg 30)) w fv fp  p2 p3 hkn (show 0 ≤ x_2.toInt by first | omega | decide) (show x_2.toInt ≤ 22 by first | omega | decide) (show 0 ≤ p3.toInt by first | omega | decide) (show p3.toInt ≤ 36 by first | omega | decide) (show 0 ≤ x_2.toInt by first | omega | decide) (show x_2.toInt ≤ 1000 by first | omega | decide) (show 0 ≤ (v 23).toInt by first | omega | decide) (show (v 23).toInt ≤ 49 by first | omega | decide) ia37_0) ca_X0_from q4_139 ⟨rfl, rfl⟩ ⟨Nat.le_of_ble_eq_true rfl, Nat.le_of_ble_eq_true rfl⟩ (rc_acts hK hP) hK hP hD hS hZ rfl hl.1 rfl (Nat.le_of_ble_eq_true rfl) ⟨Nat.zero_le _, Nat.zero_le _⟩ dX0_run_216 (fun r_4 z_7 H locs wr_4 hP hD hS => ?_)
    obtain ⟨o_v22_5, o_a38_6⟩ := z_7
    have hP : va_P D vwCl (CW cs ad fa fq rv (va_up v 22 o_v22_5) (va_up a 38 o_a38_6) w fv fp) H := hP
    have hD : va_D A (CW cs ad fa fq rv (va_up v 22 o_v22_5) (va_up a 38 o_a38_6) w fv fp) := hD
    obtain ⟨wr_4_0, wr_4_1, wr_4_2, wr_4_3, wr_4_4⟩ : (o_v22_5.toInt = x_2.toInt + 2) ∧ (o_a38_6 = TRW (upd (a 38) (v 22).toNatClampNeg 30) x_2.toInt.toNat [10, 1]) ∧ (r_4 = ((p2 + (v 23)) * 2)) ∧ (0 ≤ o_v22_5.toInt) ∧ (o_v22_5.toInt ≤ 1000) := wr_4
    have kt_8 : o_a38_6 = TRW (a 38) (v 22).toInt.toNat [30, 10, 1] := by rw [wr_4_1, show (x_2).toInt.toNat = (v 22).toInt.toNat + 1 from by omega]; rfl
    refine lv_ineg hx hb dX0_run_219 ?_
    refine lv_topi (fun x_9 ex_9 => ?_)
    exact W.iret (v := x_9) hx hb hr (fun tt ht hW => ⟨⟨x_9, ⟨o_v22_5, o_a38_6⟩, rfl, ⟨(by first | rfl | omega | trivial | assumption | (dsimp only; first | omega | assumption)), (by (try dsimp only); first | assumption | rfl), (by simp only [ex_9, wr_4_2, ex_2]), (show 0 ≤ o_v22_5.toInt by first | omega | assumption), (show o_v22_5.toInt ≤ 1000 by first | omega | assumption)⟩, by rw [ht]; exact hP, hD⟩, hS.F ht⟩) hS.2.2 dX0_run_220
set_option maxHeartbeats 4000000 in
set_option maxRecDepth 100000 in
theorem k_F_3_2_1 (l : Launch) (D : va_G) (cs : Nat → ClassId) (A : Nat → Prop) (ad fa fq rv : Nat → Nat) (v : Nat → Int32) (a : Nat → Nat → Int32) (w : Nat → Nat → Int64) (fv fp : Nat → Nat → Int32)  (p3 : Int32) (p4 : Int32) (hkn : (a 37) (v 23).toNatClampNeg = 3) (hr0 : 0 ≤ (v 22).toInt) (hr1 : (v 22).toInt ≤ 21) (hd0 : 0 ≤ p4.toInt) (hd1 : p4.toInt ≤ 35) (iv22_0 : 0 ≤ (v 22).toInt) (iv22_1 : (v 22).toInt ≤ 1000) (iv23_0 : 0 ≤ (v 23).toInt) (iv23_1 : (v 23).toInt ≤ 49) (ia37_0 : AB 0 7 (a 37)) : Met l yX0_from (Cond.code yX0_from cX0_from 8 (some .int) :: gw) ({ frames := 6, cells := 0, slots := 0, locals := 146 }) (va_Pc [.ref (ad 9), .int 2, .int 1, .int p3, .int p4] (XPre D (TY cs) (CW cs ad fa fq rv v a w fv fp) A)) (va_Qi (fun (r : Int32) (z : Int32 × (Nat → Int32)) => (z.1.toInt = (v 22).toInt + 3) ∧ (z.2 = TRW (a 38) (v 22).toInt.toNat [30, 10, 1]) ∧ (r = (-((p3 + (v 23)) * 2))) ∧ (0 ≤ z.1.toInt) ∧ (z.1.toInt ≤ 1000)) (XPo D (fun (z : Int32 × (Nat → Int32)) => CW cs ad fa fq rv (va_up v 22 z.1) (va_up a 38 z.2) w fv fp) A) A) 0 0 A := by
  refine Met.ofW (cc := cX0_from) (maxL := 8) (ret := (some .int)) (by decide) rfl ?_
  intro p e s m args below meth c s₁ B hml hv
  obtain ⟨rfl, hP, hK, hD, hZ⟩ := hv
  have hx := B.exec
  have hb := B.bytes
  have hr := B.returns
  have hts := atoms_spec (ws := (Cond.code yX0_from cX0_from 8 (some .int) :: gw)) B.pre
  have hg : ∀ w ∈ gw, w.before ([.ref (ad 9), .int 2, .int 1, .int p3, .int p4] : List Value).toArray s = true := fun w h => hts w (List.mem_cons_of_mem _ h)
  have hown : s.vm.findClass RX0 = some m.cls := findClass_of_methodNamed B.named
  have hlocks := B.notSynchronized
  have hS : va_S A s.heap s.heap [] := va_S.rf
  have hP : va_P D vwCl (CW cs ad fa fq rv v a w fv fp) s.heap := hP
  have hl := lv_entry ([.ref (ad 9), .int 2, .int 1, .int p3, .int p4]) (n := 8) (Nat.le_of_ble_eq_true rfl)
  rw [lg_entry_eq]
  generalize (lg_sl ([.ref (ad 9), .int 2, .int 1, .int p3, .int p4]) ++ List.replicate (8 - (lg_sl ([.ref (ad 9), .int 2, .int 1, .int p3, .int p4])).length) Slot.unset).toArray = ls at hl ⊢
  have hl : lv_has ls 8 [(0, .ref (ad 9)), (1, .int 2), (2, .int 1), (3, .int p3), (4, .int p4)] := hl
  refine lv_iload_n hx hb dX0_from_0 rfl (lv_at hl 1 rfl) ?_
  refine lv_istore (lv' := [(5, .int 2), (0, .ref (ad 9)), (1, .int 2), (2, .int 1), (3, .int p3), (4, .int p4)]) hx hb dX0_from_1 hl (by decide) rfl (fun ls hl => ?_)
  refine lv_iconst (v := 0) hx hb dX0_from_3 (by decide) ?_
  refine lv_istore (lv' := [(6, .int 0), (5, .int 2), (0, .ref (ad 9)), (1, .int 2), (2, .int 1), (3, .int p3), (4, .int p4)]) hx hb dX0_from_4 hl (by decide) rfl (fun ls hl => ?_)
  refine lv_iload hx hb dX0_from_6 (lv_at hl 0 rfl) ?_
  obtain ⟨t0, t1, t2, ⟨a0, b0⟩, ⟨a1, b1⟩, ⟨a2, b2⟩⟩ := id hZ
  refine va_gets hx hb a2 hS hown (hg _ q4_143) (fun _ h9 => h9) dX0_from_8 ?_
  refine va_tlen hx hb b2 hS (v := 8) rfl dX0_from_11 ?_
  refine lv_icmp_ge (tgt := 73) hx hb dX0_from_12 (by decide) (fun c_1 => absurd c_1 (by decide)) (fun c_1 => ?_)
  refine lv_iload hx hb dX0_from_15 (lv_at hl 1 rfl) ?_
  refine cS_p (As := [.int 2]) (rest := []) ⟨hx, hb, hml, hown, hg⟩ (k_IK_3 l    ) ca_X0_isKind q4_145 ⟨rfl, rfl⟩ ⟨Nat.le_of_ble_eq_true rfl, Nat.le_of_ble_eq_true rfl⟩ rfl hl.1 rfl (Nat.le_of_ble_eq_true rfl) ⟨Nat.zero_le _, Nat.zero_le _⟩ dX0_from_17 (fun r_2 wr_2 => ?_)
  have wr_2 : r_2.toInt = 1 := wr_2
  refine lv_if_eq (tgt := 73) hx hb dX0_from_20 (by decide) (fun c_3 => ?_) (fun c_3 => ?_)
  ·
    have kc_3 : r_2.toInt = (0 : Int) := i_eq c_3
    exfalso; omega
  ·
    have kc_3 : r_2.toInt ≠ (0 : Int) := i_ne c_3
    refine lv_iload hx hb dX0_from_23 (lv_at hl 1 rfl) ?_
    refine lv_iload_n hx hb dX0_from_25 rfl (lv_at hl 4 rfl) ?_
    refine cS_p (As := [.int 2, .int 1]) (rest := []) ⟨hx, hb, hml, hown, hg⟩ (k_B_2_1 l    ) ca_X0_bodyOf q4_146 ⟨rfl, rfl⟩ ⟨Nat.le_of_ble_eq_true rfl, Nat.le_of_ble_eq_true rfl⟩ rfl hl.1 rfl (Nat.le_of_ble_eq_true rfl) ⟨Nat.zero_le _, Nat.zero_le _⟩ dX0_from_26 (fun r_4 wr_4 => ?_)
    have wr_4 : r_4.toInt = 30 := wr_4
    have el_5 : r_4 = 30 := i_inj (wr_4.trans (by rfl))
    subst el_5
    refine lv_istore (lv' := [(7, .int 30), (6, .int 0), (5, .int 2), (0, .ref (ad 9)), (1, .int 2), (2, .int 1), (3, .int p3), (4, .int p4)]) hx hb dX0_from_29 hl (by decide) rfl (fun ls hl => ?_)
    refine lv_iload hx hb dX0_from_31 (lv_at hl 0 rfl) ?_
    refine lv_if_eq (tgt := 59) hx hb dX0_from_33 (by decide) (fun c_6 => absurd c_6 (by decide)) (fun c_6 => ?_)
    refine lv_iload hx hb dX0_from_36 (lv_at hl 7 rfl) ?_
    refine lv_bipush (v := 40) hx hb dX0_from_38 (by decide) ?_
    refine lv_icmp_ge (tgt := 57) hx hb dX0_from_40 (by decide) (fun c_7 => ?_) (fun c_7 => ?_)
    ·
      have kc_7 : (40 : Int) ≤ p4.toInt := i_le c_7
      exfalso; omega
    ·
      have kc_7 : p4.toInt < (40 : Int) := i_nle c_7
      refine lv_aload_n hx hb dX0_from_43 rfl (lv_at hl 3 rfl) ?_
      refine lv_iload hx hb dX0_from_44 (lv_at hl 0 rfl) ?_
      refine lv_iload_n hx hb dX0_from_46 rfl (lv_at hl 6 rfl) ?_
      refine lv_iload hx hb dX0_from_47 (lv_at hl 7 rfl) ?_
      refine lv_iconst (v := 1) hx hb dX0_from_49 (by decide) ?_
      refine lv_iadd hx hb dX0_from_50 ?_
      refine lv_topi (fun x_8 ex_8 => ?_)
      have fx_8 : x_8.toInt = p4.toInt + (1 : Int) := by rw [ex_8]; exact i_add (by first | omega | (show (_ : Int) ≤ p4.toInt + (1 : Int); omega)) (by first | omega | (show p4.toInt + (1 : Int) ≤ (_ : Int); omega))
      refine cV_i (As := [.int 30, .int p3, .int x_8]) (rest := []) ⟨hx, hb, hml, hown, hg⟩ (k_R_3_30 l D cs A ad fa fq rv v a w fv fp  p3 x_8 hkn (show 0 ≤ (v 22).toInt by first | omega | decide) (show (v 22).toInt ≤ 21 by first | omega | decide) (show 0 ≤ x_8.toInt by first | omega | decide) (show x_8.toInt ≤ 36 by first | omega | decide) (show 0 ≤ (v 22).toInt by first | omega | decide) (show (v 22).toInt ≤ 1000 by first | omega | decide) (show 0 ≤ (v 23).toInt by first | omega | decide) (show (v 23).toInt ≤ 49 by first | omega | decide) ia37_0) ca_X0_run q4_149 ⟨rfl, rfl⟩ ⟨Nat.le_of_ble_eq_true rfl, Nat.le_of_ble_eq_true rfl⟩ (rc_acts hK hP) hK hP hD hS hZ rfl hl.1 rfl (Nat.le_of_ble_eq_true rfl) ⟨Nat.zero_le _, Nat.zero_le _⟩ dX0_from_51 (fun r_9 z_12 H locs wr_9 hP hD hS => ?_)
      obtain ⟨o_v22_10, o_a38_11⟩ := z_12
      have hP : va_P D vwCl (CW cs ad fa fq rv (va_up v 22 o_v22_10) (va_up a 38 o_a38_11) w fv fp) H := hP
      have hD : va_D A (CW cs ad fa fq rv (va_up v 22 o_v22_10) (va_up a 38 o_a38_11) w fv fp) := hD
      obtain ⟨wr_9_0, wr_9_1, wr_9_2, wr_9_3, wr_9_4⟩ : (o_v22_10.toInt = (v 22).toInt + 3) ∧ (o_a38_11 = TRW (a 38) (v 22).toInt.toNat [30, 10, 1]) ∧ (r_9 = (-((p3 + (v 23)) * 2))) ∧ (0 ≤ o_v22_10.toInt) ∧ (o_v22_10.toInt ≤ 1000) := wr_9
      have kt_13 : o_a38_11 = TRW (a 38) (v 22).toInt.toNat [30, 10, 1] := by rw [wr_9_1]
      refine lv_goto (tgt := 58) hx hb dX0_from_54 (by decide) ?_
      exact W.iret (v := r_9) hx hb hr (fun tt ht hW => ⟨⟨r_9, ⟨o_v22_10, o_a38_11⟩, rfl, ⟨(by first | rfl | omega | trivial | assumption | (dsimp only; first | omega | assumption)), (by (try dsimp only); first | assumption | rfl), (by simp only [wr_9_2, ex_8]), (show 0 ≤ o_v22_10.toInt by first | omega | assumption), (show o_v22_10.toInt ≤ 1000 by first | omega | assumption)⟩, by rw [ht]; exact hP, hD⟩, hS.F ht⟩) hS.2.2 dX0_from_58
set_option maxHeartbeats 4000000 in
set_option maxRecDepth 100000 in
theorem k_R_3_41 (l : Launch) (D : va_G) (cs : Nat → ClassId) (A : Nat → Prop) (ad fa fq rv : Nat → Nat) (v : Nat → Int32) (a : Nat → Nat → Int32) (w : Nat → Nat → Int64) (fv fp : Nat → Nat → Int32)  (p2 : Int32) (p3 : Int32) (hkn : (a 37) (v 23).toNatClampNeg = 3) (hr0 : 0 ≤ (v 22).toInt) (hr1 : (v 22).toInt ≤ 20) (hd0 : 0 ≤ p3.toInt) (hd1 : p3.toInt ≤ 35) (iv22_0 : 0 ≤ (v 22).toInt) (iv22_1 : (v 22).toInt ≤ 1000) (iv23_0 : 0 ≤ (v 23).toInt) (iv23_1 : (v 23).toInt ≤ 49) (ia37_0 : AB 0 7 (a 37)) : Met l yX0_run (Cond.code yX0_run cX0_run 4 (some .int) :: gw) ({ frames := 7, cells := 0, slots := 0, locals := 173 }) (va_Pc [.ref (ad 9), .int 41, .int p2, .int p3] (XPre D (TY cs) (CW cs ad fa fq rv v a w fv fp) A)) (va_Qi (fun (r : Int32) (z : Int32 × (Nat → Int32)) => (z.1.toInt = (v 22).toInt + 4) ∧ (z.2 = TRW (a 38) (v 22).toInt.toNat [41, 30, 10, 1]) ∧ (r = (-(((p2 + 1) + (v 23)) * 2))) ∧ (0 ≤ z.1.toInt) ∧ (z.1.toInt ≤ 1000)) (XPo D (fun (z : Int32 × (Nat → Int32)) => CW cs ad fa fq rv (va_up v 22 z.1) (va_up a 38 z.2) w fv fp) A) A) 0 0 A := by
  refine Met.ofW (cc := cX0_run) (maxL := 4) (ret := (some .int)) (by decide) rfl ?_
  intro p e s m args below meth c s₁ B hml hv
  obtain ⟨rfl, hP, hK, hD, hZ⟩ := hv
  have hx := B.exec
  have hb := B.bytes
  have hr := B.returns
  have hts := atoms_spec (ws := (Cond.code yX0_run cX0_run 4 (some .int) :: gw)) B.pre
  have hg : ∀ w ∈ gw, w.before ([.ref (ad 9), .int 41, .int p2, .int p3] : List Value).toArray s = true := fun w h => hts w (List.mem_cons_of_mem _ h)
  have hown : s.vm.findClass RX0 = some m.cls := findClass_of_methodNamed B.named
  have hlocks := B.notSynchronized
  have hS : va_S A s.heap s.heap [] := va_S.rf
  have hP : va_P D vwCl (CW cs ad fa fq rv v a w fv fp) s.heap := hP
  have hl := lv_entry ([.ref (ad 9), .int 41, .int p2, .int p3]) (n := 4) (Nat.le_of_ble_eq_true rfl)
  rw [lg_entry_eq]
  generalize (lg_sl ([.ref (ad 9), .int 41, .int p2, .int p3]) ++ List.replicate (4 - (lg_sl ([.ref (ad 9), .int 41, .int p2, .int p3])).length) Slot.unset).toArray = ls at hl ⊢
  have hl : lv_has ls 4 [(0, .ref (ad 9)), (1, .int 41), (2, .int p2), (3, .int p3)] := hl
  refine lv_aload_n hx hb dX0_run_0 rfl (lv_at hl 0 rfl) ?_
  refine gf_acts_ran hx hb hg hown hK hP (x := (v 22)) rfl (hg _ q1_88) dX0_run_1 ?_
  refine lv_bipush (v := 24) hx hb dX0_run_4 (by decide) ?_
  refine lv_icmp_ge (tgt := 19) hx hb dX0_run_6 (by decide) (fun c_1 => ?_) (fun c_1 => ?_)
  ·
    have kc_1 : (24 : Int) ≤ (v 22).toInt := i_le c_1
    exfalso; omega
  ·
    have kc_1 : (v 22).toInt < (24 : Int) := i_nle c_1
    refine lv_aload_n hx hb dX0_run_9 rfl (lv_at hl 0 rfl) ?_
    refine gf_acts_traced hx hb hg hown hK hP rfl (hg _ q1_86) dX0_run_10 ?_
    refine lv_aload_n hx hb dX0_run_13 rfl (lv_at hl 0 rfl) ?_
    refine gf_acts_ran hx hb hg hown hK hP (x := (v 22)) rfl (hg _ q1_88) dX0_run_14 ?_
    refine lv_iload_n hx hb dX0_run_17 rfl (lv_at hl 1 rfl) ?_
    refine st_Atraced hx hb hK hP hD hS (i_in (by omega) (by omega)) dX0_run_18 (fun H locs hP hD hS => ?_)
    refine lv_aload_n hx hb dX0_run_19 rfl (lv_at hl 0 rfl) ?_
    refine lv_dup hx hb dX0_run_20 rfl ?_
    refine gf_acts_ran hx hb hg hown hK hP (x := (v 22)) rfl (hg _ q1_88) dX0_run_21 ?_
    refine lv_iconst (v := 1) hx hb dX0_run_24 (by decide) ?_
    refine lv_iadd hx hb dX0_run_25 ?_
    refine lv_topi (fun x_2 ex_2 => ?_)
    have fx_2 : x_2.toInt = (v 22).toInt + (1 : Int) := by rw [ex_2]; exact i_add (by first | omega | (show (_ : Int) ≤ (v 22).toInt + (1 : Int); omega)) (by first | omega | (show (v 22).toInt + (1 : Int) ≤ (_ : Int); omega))
    refine pf_acts_ran hx hb hg hown hK hP hD hS (hg _ q1_88) dX0_run_26 (fun H locs hP hD hS => ?_)
    refine lv_iload_n hx hb dX0_run_29 rfl (lv_at hl 1 rfl) ?_
    refine lv_lookup (tgt := 236) hx hb dX0_run_30 (by decide) (off := 206) (by decide) (by decide) ?_
    refine lv_aload_n hx hb dX0_run_236 rfl (lv_at hl 0 rfl) ?_
    obtain ⟨t0, t1, t2, ⟨a0, b0⟩, ⟨a1, b1⟩, ⟨a2, b2⟩⟩ := id hZ
    refine va_gets hx hb a2 hS hown (hg _ q4_143) (fun _ h9 => h9) dX0_run_237 ?_
    refine lv_iconst (v := 3) hx hb dX0_run_240 (by decide) ?_
    refine va_ti hx hb b2 hS (i_in (by decide) (by decide)) (v := .int 2) rfl dX0_run_241 ?_
    refine lv_iconst (v := 1) hx hb dX0_run_242 (by decide) ?_
    refine lv_iload_n hx hb dX0_run_243 rfl (lv_at hl 2 rfl) ?_
    refine lv_iconst (v := 1) hx hb dX0_run_244 (by decide) ?_
    refine lv_iadd hx hb dX0_run_245 ?_
    refine lv_topi (fun x_4 ex_4 => ?_)
    refine lv_iload_n hx hb dX0_run_246 rfl (lv_at hl 3 rfl) ?_
    refine cV_i (As := [.int 2, .int 1, .int x_4, .int p3]) (rest := []) ⟨hx, hb, hml, hown, hg⟩ (k_F_3_2_1 l D cs A ad fa fq rv (va_up v 22 x_2) (va_up a 38 (upd (a 38) (v 22).toNatClampNeg 41)) w fv fp  x_4 p3 hkn (show 0 ≤ x_2.toInt by first | omega | decide) (show x_2.toInt ≤ 21 by first | omega | decide) (show 0 ≤ p3.toInt by first | omega | decide) (show p3.toInt ≤ 35 by first | omega | decide) (show 0 ≤ x_2.toInt by first | omega | decide) (show x_2.toInt ≤ 1000 by first | omega | decide) (show 0 ≤ (v 23).toInt by first | omega | decide) (show (v 23).toInt ≤ 49 by first | omega | decide) ia37_0) ca_X0_from q4_139 ⟨rfl, rfl⟩ ⟨Nat.le_of_ble_eq_true rfl, Nat.le_of_ble_eq_true rfl⟩ (rc_acts hK hP) hK hP hD hS hZ rfl hl.1 rfl (Nat.le_of_ble_eq_true rfl) ⟨Nat.zero_le _, Nat.zero_le _⟩ dX0_run_247 (fun r_5 z_8 H locs wr_5 hP hD hS => ?_)
    obtain ⟨o_v22_6, o_a38_7⟩ := z_8
    have hP : va_P D vwCl (CW cs ad fa fq rv (va_up v 22 o_v22_6) (va_up a 38 o_a38_7) w fv fp) H := hP
    have hD : va_D A (CW cs ad fa fq rv (va_up v 22 o_v22_6) (va_up a 38 o_a38_7) w fv fp) := hD
    obtain ⟨wr_5_0, wr_5_1, wr_5_2, wr_5_3, wr_5_4⟩ : (o_v22_6.toInt = x_2.toInt + 3) ∧ (o_a38_7 = TRW (upd (a 38) (v 22).toNatClampNeg 41) x_2.toInt.toNat [30, 10, 1]) ∧ (r_5 = (-((x_4 + (v 23)) * 2))) ∧ (0 ≤ o_v22_6.toInt) ∧ (o_v22_6.toInt ≤ 1000) := wr_5
    have kt_9 : o_a38_7 = TRW (a 38) (v 22).toInt.toNat [41, 30, 10, 1] := by rw [wr_5_1, show (x_2).toInt.toNat = (v 22).toInt.toNat + 1 from by omega]; rfl
    exact W.iret (v := r_5) hx hb hr (fun tt ht hW => ⟨⟨r_5, ⟨o_v22_6, o_a38_7⟩, rfl, ⟨(by first | rfl | omega | trivial | assumption | (dsimp only; first | omega | assumption)), (by (try dsimp only); first | assumption | rfl), (by simp only [wr_5_2, ex_4, ex_2]), (show 0 ≤ o_v22_6.toInt by first | omega | assumption), (show o_v22_6.toInt ≤ 1000 by first | omega | assumption)⟩, by rw [ht]; exact hP, hD⟩, hS.F ht⟩) hS.2.2 dX0_run_250
set_option maxHeartbeats 4000000 in
set_option maxRecDepth 100000 in
theorem k_F_3_3_1 (l : Launch) (D : va_G) (cs : Nat → ClassId) (A : Nat → Prop) (ad fa fq rv : Nat → Nat) (v : Nat → Int32) (a : Nat → Nat → Int32) (w : Nat → Nat → Int64) (fv fp : Nat → Nat → Int32)  (p3 : Int32) (p4 : Int32) (hkn : (a 37) (v 23).toNatClampNeg = 3) (hr0 : 0 ≤ (v 22).toInt) (hr1 : (v 22).toInt ≤ 20) (hd0 : 0 ≤ p4.toInt) (hd1 : p4.toInt ≤ 34) (iv22_0 : 0 ≤ (v 22).toInt) (iv22_1 : (v 22).toInt ≤ 1000) (iv23_0 : 0 ≤ (v 23).toInt) (iv23_1 : (v 23).toInt ≤ 49) (ia37_0 : AB 0 7 (a 37)) : Met l yX0_from (Cond.code yX0_from cX0_from 8 (some .int) :: gw) ({ frames := 8, cells := 0, slots := 0, locals := 196 }) (va_Pc [.ref (ad 9), .int 3, .int 1, .int p3, .int p4] (XPre D (TY cs) (CW cs ad fa fq rv v a w fv fp) A)) (va_Qi (fun (r : Int32) (z : Int32 × (Nat → Int32)) => (z.1.toInt = (v 22).toInt + 4) ∧ (z.2 = TRW (a 38) (v 22).toInt.toNat [41, 30, 10, 1]) ∧ (r = (-(((p3 + 1) + (v 23)) * 2))) ∧ (0 ≤ z.1.toInt) ∧ (z.1.toInt ≤ 1000)) (XPo D (fun (z : Int32 × (Nat → Int32)) => CW cs ad fa fq rv (va_up v 22 z.1) (va_up a 38 z.2) w fv fp) A) A) 0 0 A := by
  refine Met.ofW (cc := cX0_from) (maxL := 8) (ret := (some .int)) (by decide) rfl ?_
  intro p e s m args below meth c s₁ B hml hv
  obtain ⟨rfl, hP, hK, hD, hZ⟩ := hv
  have hx := B.exec
  have hb := B.bytes
  have hr := B.returns
  have hts := atoms_spec (ws := (Cond.code yX0_from cX0_from 8 (some .int) :: gw)) B.pre
  have hg : ∀ w ∈ gw, w.before ([.ref (ad 9), .int 3, .int 1, .int p3, .int p4] : List Value).toArray s = true := fun w h => hts w (List.mem_cons_of_mem _ h)
  have hown : s.vm.findClass RX0 = some m.cls := findClass_of_methodNamed B.named
  have hlocks := B.notSynchronized
  have hS : va_S A s.heap s.heap [] := va_S.rf
  have hP : va_P D vwCl (CW cs ad fa fq rv v a w fv fp) s.heap := hP
  have hl := lv_entry ([.ref (ad 9), .int 3, .int 1, .int p3, .int p4]) (n := 8) (Nat.le_of_ble_eq_true rfl)
  rw [lg_entry_eq]
  generalize (lg_sl ([.ref (ad 9), .int 3, .int 1, .int p3, .int p4]) ++ List.replicate (8 - (lg_sl ([.ref (ad 9), .int 3, .int 1, .int p3, .int p4])).length) Slot.unset).toArray = ls at hl ⊢
  have hl : lv_has ls 8 [(0, .ref (ad 9)), (1, .int 3), (2, .int 1), (3, .int p3), (4, .int p4)] := hl
  refine lv_iload_n hx hb dX0_from_0 rfl (lv_at hl 1 rfl) ?_
  refine lv_istore (lv' := [(5, .int 3), (0, .ref (ad 9)), (1, .int 3), (2, .int 1), (3, .int p3), (4, .int p4)]) hx hb dX0_from_1 hl (by decide) rfl (fun ls hl => ?_)
  refine lv_iconst (v := 0) hx hb dX0_from_3 (by decide) ?_
  refine lv_istore (lv' := [(6, .int 0), (5, .int 3), (0, .ref (ad 9)), (1, .int 3), (2, .int 1), (3, .int p3), (4, .int p4)]) hx hb dX0_from_4 hl (by decide) rfl (fun ls hl => ?_)
  refine lv_iload hx hb dX0_from_6 (lv_at hl 0 rfl) ?_
  obtain ⟨t0, t1, t2, ⟨a0, b0⟩, ⟨a1, b1⟩, ⟨a2, b2⟩⟩ := id hZ
  refine va_gets hx hb a2 hS hown (hg _ q4_143) (fun _ h9 => h9) dX0_from_8 ?_
  refine va_tlen hx hb b2 hS (v := 8) rfl dX0_from_11 ?_
  refine lv_icmp_ge (tgt := 73) hx hb dX0_from_12 (by decide) (fun c_1 => absurd c_1 (by decide)) (fun c_1 => ?_)
  refine lv_iload hx hb dX0_from_15 (lv_at hl 1 rfl) ?_
  refine cS_p (As := [.int 3]) (rest := []) ⟨hx, hb, hml, hown, hg⟩ (k_IK_4 l    ) ca_X0_isKind q4_145 ⟨rfl, rfl⟩ ⟨Nat.le_of_ble_eq_true rfl, Nat.le_of_ble_eq_true rfl⟩ rfl hl.1 rfl (Nat.le_of_ble_eq_true rfl) ⟨Nat.zero_le _, Nat.zero_le _⟩ dX0_from_17 (fun r_2 wr_2 => ?_)
  have wr_2 : r_2.toInt = 1 := wr_2
  refine lv_if_eq (tgt := 73) hx hb dX0_from_20 (by decide) (fun c_3 => ?_) (fun c_3 => ?_)
  ·
    have kc_3 : r_2.toInt = (0 : Int) := i_eq c_3
    exfalso; omega
  ·
    have kc_3 : r_2.toInt ≠ (0 : Int) := i_ne c_3
    refine lv_iload hx hb dX0_from_23 (lv_at hl 1 rfl) ?_
    refine lv_iload_n hx hb dX0_from_25 rfl (lv_at hl 4 rfl) ?_
    refine cS_p (As := [.int 3, .int 1]) (rest := []) ⟨hx, hb, hml, hown, hg⟩ (k_B_3_1 l    ) ca_X0_bodyOf q4_146 ⟨rfl, rfl⟩ ⟨Nat.le_of_ble_eq_true rfl, Nat.le_of_ble_eq_true rfl⟩ rfl hl.1 rfl (Nat.le_of_ble_eq_true rfl) ⟨Nat.zero_le _, Nat.zero_le _⟩ dX0_from_26 (fun r_4 wr_4 => ?_)
    have wr_4 : r_4.toInt = 41 := wr_4
    have el_5 : r_4 = 41 := i_inj (wr_4.trans (by rfl))
    subst el_5
    refine lv_istore (lv' := [(7, .int 41), (6, .int 0), (5, .int 3), (0, .ref (ad 9)), (1, .int 3), (2, .int 1), (3, .int p3), (4, .int p4)]) hx hb dX0_from_29 hl (by decide) rfl (fun ls hl => ?_)
    refine lv_iload hx hb dX0_from_31 (lv_at hl 0 rfl) ?_
    refine lv_if_eq (tgt := 59) hx hb dX0_from_33 (by decide) (fun c_6 => absurd c_6 (by decide)) (fun c_6 => ?_)
    refine lv_iload hx hb dX0_from_36 (lv_at hl 7 rfl) ?_
    refine lv_bipush (v := 40) hx hb dX0_from_38 (by decide) ?_
    refine lv_icmp_ge (tgt := 57) hx hb dX0_from_40 (by decide) (fun c_7 => ?_) (fun c_7 => ?_)
    ·
      have kc_7 : (40 : Int) ≤ p4.toInt := i_le c_7
      exfalso; omega
    ·
      have kc_7 : p4.toInt < (40 : Int) := i_nle c_7
      refine lv_aload_n hx hb dX0_from_43 rfl (lv_at hl 3 rfl) ?_
      refine lv_iload hx hb dX0_from_44 (lv_at hl 0 rfl) ?_
      refine lv_iload_n hx hb dX0_from_46 rfl (lv_at hl 6 rfl) ?_
      refine lv_iload hx hb dX0_from_47 (lv_at hl 7 rfl) ?_
      refine lv_iconst (v := 1) hx hb dX0_from_49 (by decide) ?_
      refine lv_iadd hx hb dX0_from_50 ?_
      refine lv_topi (fun x_8 ex_8 => ?_)
      have fx_8 : x_8.toInt = p4.toInt + (1 : Int) := by rw [ex_8]; exact i_add (by first | omega | (show (_ : Int) ≤ p4.toInt + (1 : Int); omega)) (by first | omega | (show p4.toInt + (1 : Int) ≤ (_ : Int); omega))
      refine cV_i (As := [.int 41, .int p3, .int x_8]) (rest := []) ⟨hx, hb, hml, hown, hg⟩ (k_R_3_41 l D cs A ad fa fq rv v a w fv fp  p3 x_8 hkn (show 0 ≤ (v 22).toInt by first | omega | decide) (show (v 22).toInt ≤ 20 by first | omega | decide) (show 0 ≤ x_8.toInt by first | omega | decide) (show x_8.toInt ≤ 35 by first | omega | decide) (show 0 ≤ (v 22).toInt by first | omega | decide) (show (v 22).toInt ≤ 1000 by first | omega | decide) (show 0 ≤ (v 23).toInt by first | omega | decide) (show (v 23).toInt ≤ 49 by first | omega | decide) ia37_0) ca_X0_run q4_149 ⟨rfl, rfl⟩ ⟨Nat.le_of_ble_eq_true rfl, Nat.le_of_ble_eq_true rfl⟩ (rc_acts hK hP) hK hP hD hS hZ rfl hl.1 rfl (Nat.le_of_ble_eq_true rfl) ⟨Nat.zero_le _, Nat.zero_le _⟩ dX0_from_51 (fun r_9 z_12 H locs wr_9 hP hD hS => ?_)
      obtain ⟨o_v22_10, o_a38_11⟩ := z_12
      have hP : va_P D vwCl (CW cs ad fa fq rv (va_up v 22 o_v22_10) (va_up a 38 o_a38_11) w fv fp) H := hP
      have hD : va_D A (CW cs ad fa fq rv (va_up v 22 o_v22_10) (va_up a 38 o_a38_11) w fv fp) := hD
      obtain ⟨wr_9_0, wr_9_1, wr_9_2, wr_9_3, wr_9_4⟩ : (o_v22_10.toInt = (v 22).toInt + 4) ∧ (o_a38_11 = TRW (a 38) (v 22).toInt.toNat [41, 30, 10, 1]) ∧ (r_9 = (-(((p3 + 1) + (v 23)) * 2))) ∧ (0 ≤ o_v22_10.toInt) ∧ (o_v22_10.toInt ≤ 1000) := wr_9
      have kt_13 : o_a38_11 = TRW (a 38) (v 22).toInt.toNat [41, 30, 10, 1] := by rw [wr_9_1]
      refine lv_goto (tgt := 58) hx hb dX0_from_54 (by decide) ?_
      exact W.iret (v := r_9) hx hb hr (fun tt ht hW => ⟨⟨r_9, ⟨o_v22_10, o_a38_11⟩, rfl, ⟨(by first | rfl | omega | trivial | assumption | (dsimp only; first | omega | assumption)), (by (try dsimp only); first | assumption | rfl), (by simp only [wr_9_2, ex_8]), (show 0 ≤ o_v22_10.toInt by first | omega | assumption), (show o_v22_10.toInt ≤ 1000 by first | omega | assumption)⟩, by rw [ht]; exact hP, hD⟩, hS.F ht⟩) hS.2.2 dX0_from_58
set_option maxHeartbeats 4000000 in
set_option maxRecDepth 100000 in
theorem k_S_3_1 (l : Launch) (D : va_G) (cs : Nat → ClassId) (A : Nat → Prop) (ad fa fq rv : Nat → Nat) (v : Nat → Int32) (a : Nat → Nat → Int32) (w : Nat → Nat → Int64) (fv fp : Nat → Nat → Int32)  (p2 : Int32) (p3 : Int32) (hkn : (a 37) (v 23).toNatClampNeg = 3) (hr0 : 0 ≤ (v 22).toInt) (hr1 : (v 22).toInt ≤ 20) (hd0 : 0 ≤ p3.toInt) (hd1 : p3.toInt ≤ 34) (iv23_0 : 0 ≤ (v 23).toInt) (iv23_1 : (v 23).toInt ≤ 49) (ia37_0 : AB 0 7 (a 37)) (iv22_0 : 0 ≤ (v 22).toInt) (iv22_1 : (v 22).toInt ≤ 1000) : Met l yX0_self (Cond.code yX0_self cX0_self 4 (some .int) :: gw) ({ frames := 9, cells := 0, slots := 0, locals := 223 }) (va_Pc [.ref (ad 9), .int 1, .int p2, .int p3] (XPre D (TY cs) (CW cs ad fa fq rv v a w fv fp) A)) (va_Qi (fun (r : Int32) (z : Int32 × (Nat → Int32)) => (z.1.toInt = (v 22).toInt + 4) ∧ (z.2 = TRW (a 38) (v 22).toInt.toNat [41, 30, 10, 1]) ∧ (r = (-(((p2 + 1) + (v 23)) * 2))) ∧ (0 ≤ z.1.toInt) ∧ (z.1.toInt ≤ 1000)) (XPo D (fun (z : Int32 × (Nat → Int32)) => CW cs ad fa fq rv (va_up v 22 z.1) (va_up a 38 z.2) w fv fp) A) A) 0 0 A := by
  refine Met.ofW (cc := cX0_self) (maxL := 4) (ret := (some .int)) (by decide) rfl ?_
  intro p e s m args below meth c s₁ B hml hv
  obtain ⟨rfl, hP, hK, hD, hZ⟩ := hv
  have hx := B.exec
  have hb := B.bytes
  have hr := B.returns
  have hts := atoms_spec (ws := (Cond.code yX0_self cX0_self 4 (some .int) :: gw)) B.pre
  have hg : ∀ w ∈ gw, w.before ([.ref (ad 9), .int 1, .int p2, .int p3] : List Value).toArray s = true := fun w h => hts w (List.mem_cons_of_mem _ h)
  have hown : s.vm.findClass RX0 = some m.cls := findClass_of_methodNamed B.named
  have hlocks := B.notSynchronized
  have hS : va_S A s.heap s.heap [] := va_S.rf
  have hP : va_P D vwCl (CW cs ad fa fq rv v a w fv fp) s.heap := hP
  have hl := lv_entry ([.ref (ad 9), .int 1, .int p2, .int p3]) (n := 4) (Nat.le_of_ble_eq_true rfl)
  rw [lg_entry_eq]
  generalize (lg_sl ([.ref (ad 9), .int 1, .int p2, .int p3]) ++ List.replicate (4 - (lg_sl ([.ref (ad 9), .int 1, .int p2, .int p3])).length) Slot.unset).toArray = ls at hl ⊢
  have hl : lv_has ls 4 [(0, .ref (ad 9)), (1, .int 1), (2, .int p2), (3, .int p3)] := hl
  refine lv_aload_n hx hb dX0_self_0 rfl (lv_at hl 0 rfl) ?_
  refine lv_aload_n hx hb dX0_self_1 rfl (lv_at hl 0 rfl) ?_
  refine gf_acts_kind hx hb hg hown hK hP rfl (hg _ q1_83) dX0_self_2 ?_
  refine lv_aload_n hx hb dX0_self_5 rfl (lv_at hl 0 rfl) ?_
  refine gf_acts_number hx hb hg hown hK hP (x := (v 23)) rfl (hg _ q1_90) dX0_self_6 ?_
  refine ld_Akind hx hb hK hP (i_in (by omega) (by omega)) dX0_self_9 ?_
  refine lv_topi (fun x_1 ex_1 => ?_)
  have ex_1 : x_1 = (a 37) (v 23).toNatClampNeg := ex_1
  have hx_1 : x_1.toInt = ((a 37) (v 23).toNatClampNeg).toInt := by rw [ex_1]
  have bx_1 := ia37_0 (v 23).toNatClampNeg
  rw [← ex_1] at bx_1
  have fx_1 : x_1 = 3 := by rw [ex_1]; exact hkn
  subst fx_1
  refine lv_iload_n hx hb dX0_self_10 rfl (lv_at hl 1 rfl) ?_
  refine lv_iload_n hx hb dX0_self_11 rfl (lv_at hl 2 rfl) ?_
  refine lv_iload_n hx hb dX0_self_12 rfl (lv_at hl 3 rfl) ?_
  refine cV_i (As := [.int 3, .int 1, .int p2, .int p3]) (rest := []) ⟨hx, hb, hml, hown, hg⟩ (k_F_3_3_1 l D cs A ad fa fq rv v a w fv fp  p2 p3 hkn (show 0 ≤ (v 22).toInt by first | omega | decide) (show (v 22).toInt ≤ 20 by first | omega | decide) (show 0 ≤ p3.toInt by first | omega | decide) (show p3.toInt ≤ 34 by first | omega | decide) (show 0 ≤ (v 22).toInt by first | omega | decide) (show (v 22).toInt ≤ 1000 by first | omega | decide) (show 0 ≤ (v 23).toInt by first | omega | decide) (show (v 23).toInt ≤ 49 by first | omega | decide) ia37_0) ca_X0_from q4_139 ⟨rfl, rfl⟩ ⟨Nat.le_of_ble_eq_true rfl, Nat.le_of_ble_eq_true rfl⟩ (rc_acts hK hP) hK hP hD hS hZ rfl hl.1 rfl (Nat.le_of_ble_eq_true rfl) ⟨Nat.zero_le _, Nat.zero_le _⟩ dX0_self_13 (fun r_2 z_5 H locs wr_2 hP hD hS => ?_)
  obtain ⟨o_v22_3, o_a38_4⟩ := z_5
  have hP : va_P D vwCl (CW cs ad fa fq rv (va_up v 22 o_v22_3) (va_up a 38 o_a38_4) w fv fp) H := hP
  have hD : va_D A (CW cs ad fa fq rv (va_up v 22 o_v22_3) (va_up a 38 o_a38_4) w fv fp) := hD
  obtain ⟨wr_2_0, wr_2_1, wr_2_2, wr_2_3, wr_2_4⟩ : (o_v22_3.toInt = (v 22).toInt + 4) ∧ (o_a38_4 = TRW (a 38) (v 22).toInt.toNat [41, 30, 10, 1]) ∧ (r_2 = (-(((p2 + 1) + (v 23)) * 2))) ∧ (0 ≤ o_v22_3.toInt) ∧ (o_v22_3.toInt ≤ 1000) := wr_2
  have kt_6 : o_a38_4 = TRW (a 38) (v 22).toInt.toNat [41, 30, 10, 1] := by rw [wr_2_1]
  exact W.iret (v := r_2) hx hb hr (fun tt ht hW => ⟨⟨r_2, ⟨o_v22_3, o_a38_4⟩, rfl, ⟨(by first | rfl | omega | trivial | assumption | (dsimp only; first | omega | assumption)), (by (try dsimp only); first | assumption | rfl), (by simp only [wr_2_2]), (show 0 ≤ o_v22_3.toInt by first | omega | assumption), (show o_v22_3.toInt ≤ 1000 by first | omega | assumption)⟩, by rw [ht]; exact hP, hD⟩, hS.F ht⟩) hS.2.2 dX0_self_16
set_option maxHeartbeats 4000000 in
set_option maxRecDepth 100000 in
theorem k_R_x_40 (l : Launch) (D : va_G) (cs : Nat → ClassId) (A : Nat → Prop) (ad fa fq rv : Nat → Nat) (v : Nat → Int32) (a : Nat → Nat → Int32) (w : Nat → Nat → Int64) (fv fp : Nat → Nat → Int32)  (p2 : Int32) (p3 : Int32) (hr0 : 0 ≤ (v 22).toInt) (hr1 : (v 22).toInt ≤ 22) (hd0 : 0 ≤ p3.toInt) (hd1 : p3.toInt ≤ 37) (iv22_0 : 0 ≤ (v 22).toInt) (iv22_1 : (v 22).toInt ≤ 1000) (iv23_0 : 0 ≤ (v 23).toInt) (iv23_1 : (v 23).toInt ≤ 49) : Met l yX0_run (Cond.code yX0_run cX0_run 4 (some .int) :: gw) ({ frames := 2, cells := 0, slots := 0, locals := 50 }) (va_Pc [.ref (ad 9), .int 40, .int p2, .int p3] (XPre D (TY cs) (CW cs ad fa fq rv v a w fv fp) A)) (va_Qi (fun (r : Int32) (z : Int32 × (Nat → Int32)) => (z.1.toInt = (v 22).toInt + 2) ∧ (z.2 = TRW (a 38) (v 22).toInt.toNat [40, 11]) ∧ (r = ((p2 ^^^ (v 23)) * 3)) ∧ (0 ≤ z.1.toInt) ∧ (z.1.toInt ≤ 1000)) (XPo D (fun (z : Int32 × (Nat → Int32)) => CW cs ad fa fq rv (va_up v 22 z.1) (va_up a 38 z.2) w fv fp) A) A) 0 0 A := by
  refine Met.ofW (cc := cX0_run) (maxL := 4) (ret := (some .int)) (by decide) rfl ?_
  intro p e s m args below meth c s₁ B hml hv
  obtain ⟨rfl, hP, hK, hD, hZ⟩ := hv
  have hx := B.exec
  have hb := B.bytes
  have hr := B.returns
  have hts := atoms_spec (ws := (Cond.code yX0_run cX0_run 4 (some .int) :: gw)) B.pre
  have hg : ∀ w ∈ gw, w.before ([.ref (ad 9), .int 40, .int p2, .int p3] : List Value).toArray s = true := fun w h => hts w (List.mem_cons_of_mem _ h)
  have hown : s.vm.findClass RX0 = some m.cls := findClass_of_methodNamed B.named
  have hlocks := B.notSynchronized
  have hS : va_S A s.heap s.heap [] := va_S.rf
  have hP : va_P D vwCl (CW cs ad fa fq rv v a w fv fp) s.heap := hP
  have hl := lv_entry ([.ref (ad 9), .int 40, .int p2, .int p3]) (n := 4) (Nat.le_of_ble_eq_true rfl)
  rw [lg_entry_eq]
  generalize (lg_sl ([.ref (ad 9), .int 40, .int p2, .int p3]) ++ List.replicate (4 - (lg_sl ([.ref (ad 9), .int 40, .int p2, .int p3])).length) Slot.unset).toArray = ls at hl ⊢
  have hl : lv_has ls 4 [(0, .ref (ad 9)), (1, .int 40), (2, .int p2), (3, .int p3)] := hl
  refine lv_aload_n hx hb dX0_run_0 rfl (lv_at hl 0 rfl) ?_
  refine gf_acts_ran hx hb hg hown hK hP (x := (v 22)) rfl (hg _ q1_88) dX0_run_1 ?_
  refine lv_bipush (v := 24) hx hb dX0_run_4 (by decide) ?_
  refine lv_icmp_ge (tgt := 19) hx hb dX0_run_6 (by decide) (fun c_1 => ?_) (fun c_1 => ?_)
  ·
    have kc_1 : (24 : Int) ≤ (v 22).toInt := i_le c_1
    exfalso; omega
  ·
    have kc_1 : (v 22).toInt < (24 : Int) := i_nle c_1
    refine lv_aload_n hx hb dX0_run_9 rfl (lv_at hl 0 rfl) ?_
    refine gf_acts_traced hx hb hg hown hK hP rfl (hg _ q1_86) dX0_run_10 ?_
    refine lv_aload_n hx hb dX0_run_13 rfl (lv_at hl 0 rfl) ?_
    refine gf_acts_ran hx hb hg hown hK hP (x := (v 22)) rfl (hg _ q1_88) dX0_run_14 ?_
    refine lv_iload_n hx hb dX0_run_17 rfl (lv_at hl 1 rfl) ?_
    refine st_Atraced hx hb hK hP hD hS (i_in (by omega) (by omega)) dX0_run_18 (fun H locs hP hD hS => ?_)
    refine lv_aload_n hx hb dX0_run_19 rfl (lv_at hl 0 rfl) ?_
    refine lv_dup hx hb dX0_run_20 rfl ?_
    refine gf_acts_ran hx hb hg hown hK hP (x := (v 22)) rfl (hg _ q1_88) dX0_run_21 ?_
    refine lv_iconst (v := 1) hx hb dX0_run_24 (by decide) ?_
    refine lv_iadd hx hb dX0_run_25 ?_
    refine lv_topi (fun x_2 ex_2 => ?_)
    have fx_2 : x_2.toInt = (v 22).toInt + (1 : Int) := by rw [ex_2]; exact i_add (by first | omega | (show (_ : Int) ≤ (v 22).toInt + (1 : Int); omega)) (by first | omega | (show (v 22).toInt + (1 : Int) ≤ (_ : Int); omega))
    refine pf_acts_ran hx hb hg hown hK hP hD hS (hg _ q1_88) dX0_run_26 (fun H locs hP hD hS => ?_)
    refine lv_iload_n hx hb dX0_run_29 rfl (lv_at hl 1 rfl) ?_
    refine lv_lookup (tgt := 221) hx hb dX0_run_30 (by decide) (off := 191) (by decide) (by decide) ?_
    refine lv_aload_n hx hb dX0_run_221 rfl (lv_at hl 0 rfl) ?_
    obtain ⟨t0, t1, t2, ⟨a0, b0⟩, ⟨a1, b1⟩, ⟨a2, b2⟩⟩ := id hZ
    refine va_gets hx hb a2 hS hown (hg _ q4_143) (fun _ h9 => h9) dX0_run_222 ?_
    refine lv_iconst (v := 3) hx hb dX0_run_225 (by decide) ?_
    refine va_ti hx hb b2 hS (i_in (by decide) (by decide)) (v := .int 2) rfl dX0_run_226 ?_
    refine lv_iconst (v := 2) hx hb dX0_run_227 (by decide) ?_
    refine lv_iload_n hx hb dX0_run_228 rfl (lv_at hl 2 rfl) ?_
    refine lv_iload_n hx hb dX0_run_229 rfl (lv_at hl 3 rfl) ?_
    refine cV_i (As := [.int 2, .int 2, .int p2, .int p3]) (rest := []) ⟨hx, hb, hml, hown, hg⟩ (k_F_x_2_2 l D cs A ad fa fq rv (va_up v 22 x_2) (va_up a 38 (upd (a 38) (v 22).toNatClampNeg 40)) w fv fp  p2 p3 (show 0 ≤ x_2.toInt by first | omega | decide) (show x_2.toInt ≤ 23 by first | omega | decide) (show 0 ≤ p3.toInt by first | omega | decide) (show p3.toInt ≤ 37 by first | omega | decide) (show 0 ≤ x_2.toInt by first | omega | decide) (show x_2.toInt ≤ 1000 by first | omega | decide) (show 0 ≤ (v 23).toInt by first | omega | decide) (show (v 23).toInt ≤ 49 by first | omega | decide)) ca_X0_from q4_139 ⟨rfl, rfl⟩ ⟨Nat.le_of_ble_eq_true rfl, Nat.le_of_ble_eq_true rfl⟩ (rc_acts hK hP) hK hP hD hS hZ rfl hl.1 rfl (Nat.le_of_ble_eq_true rfl) ⟨Nat.zero_le _, Nat.zero_le _⟩ dX0_run_230 (fun r_4 z_7 H locs wr_4 hP hD hS => ?_)
    obtain ⟨o_v22_5, o_a38_6⟩ := z_7
    have hP : va_P D vwCl (CW cs ad fa fq rv (va_up v 22 o_v22_5) (va_up a 38 o_a38_6) w fv fp) H := hP
    have hD : va_D A (CW cs ad fa fq rv (va_up v 22 o_v22_5) (va_up a 38 o_a38_6) w fv fp) := hD
    obtain ⟨wr_4_0, wr_4_1, wr_4_2, wr_4_3, wr_4_4⟩ : (o_v22_5.toInt = x_2.toInt + 1) ∧ (o_a38_6 = TRW (upd (a 38) (v 22).toNatClampNeg 40) x_2.toInt.toNat [11]) ∧ (r_4 = (p2 ^^^ (v 23))) ∧ (0 ≤ o_v22_5.toInt) ∧ (o_v22_5.toInt ≤ 1000) := wr_4
    have kt_8 : o_a38_6 = TRW (a 38) (v 22).toInt.toNat [40, 11] := by rw [wr_4_1, show (x_2).toInt.toNat = (v 22).toInt.toNat + 1 from by omega]; rfl
    refine lv_iconst (v := 3) hx hb dX0_run_233 (by decide) ?_
    refine lv_imul hx hb dX0_run_234 ?_
    refine lv_topi (fun x_9 ex_9 => ?_)
    exact W.iret (v := x_9) hx hb hr (fun tt ht hW => ⟨⟨x_9, ⟨o_v22_5, o_a38_6⟩, rfl, ⟨(by first | rfl | omega | trivial | assumption | (dsimp only; first | omega | assumption)), (by (try dsimp only); first | assumption | rfl), (by simp only [ex_9, wr_4_2, ex_2]), (show 0 ≤ o_v22_5.toInt by first | omega | assumption), (show o_v22_5.toInt ≤ 1000 by first | omega | assumption)⟩, by rw [ht]; exact hP, hD⟩, hS.F ht⟩) hS.2.2 dX0_run_235
set_option maxHeartbeats 4000000 in
set_option maxRecDepth 100000 in
theorem k_F_x_3_2 (l : Launch) (D : va_G) (cs : Nat → ClassId) (A : Nat → Prop) (ad fa fq rv : Nat → Nat) (v : Nat → Int32) (a : Nat → Nat → Int32) (w : Nat → Nat → Int64) (fv fp : Nat → Nat → Int32)  (p3 : Int32) (p4 : Int32) (hr0 : 0 ≤ (v 22).toInt) (hr1 : (v 22).toInt ≤ 22) (hd0 : 0 ≤ p4.toInt) (hd1 : p4.toInt ≤ 36) (iv22_0 : 0 ≤ (v 22).toInt) (iv22_1 : (v 22).toInt ≤ 1000) (iv23_0 : 0 ≤ (v 23).toInt) (iv23_1 : (v 23).toInt ≤ 49) : Met l yX0_from (Cond.code yX0_from cX0_from 8 (some .int) :: gw) ({ frames := 3, cells := 0, slots := 0, locals := 73 }) (va_Pc [.ref (ad 9), .int 3, .int 2, .int p3, .int p4] (XPre D (TY cs) (CW cs ad fa fq rv v a w fv fp) A)) (va_Qi (fun (r : Int32) (z : Int32 × (Nat → Int32)) => (z.1.toInt = (v 22).toInt + 2) ∧ (z.2 = TRW (a 38) (v 22).toInt.toNat [40, 11]) ∧ (r = ((p3 ^^^ (v 23)) * 3)) ∧ (0 ≤ z.1.toInt) ∧ (z.1.toInt ≤ 1000)) (XPo D (fun (z : Int32 × (Nat → Int32)) => CW cs ad fa fq rv (va_up v 22 z.1) (va_up a 38 z.2) w fv fp) A) A) 0 0 A := by
  refine Met.ofW (cc := cX0_from) (maxL := 8) (ret := (some .int)) (by decide) rfl ?_
  intro p e s m args below meth c s₁ B hml hv
  obtain ⟨rfl, hP, hK, hD, hZ⟩ := hv
  have hx := B.exec
  have hb := B.bytes
  have hr := B.returns
  have hts := atoms_spec (ws := (Cond.code yX0_from cX0_from 8 (some .int) :: gw)) B.pre
  have hg : ∀ w ∈ gw, w.before ([.ref (ad 9), .int 3, .int 2, .int p3, .int p4] : List Value).toArray s = true := fun w h => hts w (List.mem_cons_of_mem _ h)
  have hown : s.vm.findClass RX0 = some m.cls := findClass_of_methodNamed B.named
  have hlocks := B.notSynchronized
  have hS : va_S A s.heap s.heap [] := va_S.rf
  have hP : va_P D vwCl (CW cs ad fa fq rv v a w fv fp) s.heap := hP
  have hl := lv_entry ([.ref (ad 9), .int 3, .int 2, .int p3, .int p4]) (n := 8) (Nat.le_of_ble_eq_true rfl)
  rw [lg_entry_eq]
  generalize (lg_sl ([.ref (ad 9), .int 3, .int 2, .int p3, .int p4]) ++ List.replicate (8 - (lg_sl ([.ref (ad 9), .int 3, .int 2, .int p3, .int p4])).length) Slot.unset).toArray = ls at hl ⊢
  have hl : lv_has ls 8 [(0, .ref (ad 9)), (1, .int 3), (2, .int 2), (3, .int p3), (4, .int p4)] := hl
  refine lv_iload_n hx hb dX0_from_0 rfl (lv_at hl 1 rfl) ?_
  refine lv_istore (lv' := [(5, .int 3), (0, .ref (ad 9)), (1, .int 3), (2, .int 2), (3, .int p3), (4, .int p4)]) hx hb dX0_from_1 hl (by decide) rfl (fun ls hl => ?_)
  refine lv_iconst (v := 0) hx hb dX0_from_3 (by decide) ?_
  refine lv_istore (lv' := [(6, .int 0), (5, .int 3), (0, .ref (ad 9)), (1, .int 3), (2, .int 2), (3, .int p3), (4, .int p4)]) hx hb dX0_from_4 hl (by decide) rfl (fun ls hl => ?_)
  refine lv_iload hx hb dX0_from_6 (lv_at hl 0 rfl) ?_
  obtain ⟨t0, t1, t2, ⟨a0, b0⟩, ⟨a1, b1⟩, ⟨a2, b2⟩⟩ := id hZ
  refine va_gets hx hb a2 hS hown (hg _ q4_143) (fun _ h9 => h9) dX0_from_8 ?_
  refine va_tlen hx hb b2 hS (v := 8) rfl dX0_from_11 ?_
  refine lv_icmp_ge (tgt := 73) hx hb dX0_from_12 (by decide) (fun c_1 => absurd c_1 (by decide)) (fun c_1 => ?_)
  refine lv_iload hx hb dX0_from_15 (lv_at hl 1 rfl) ?_
  refine cS_p (As := [.int 3]) (rest := []) ⟨hx, hb, hml, hown, hg⟩ (k_IK_4 l    ) ca_X0_isKind q4_145 ⟨rfl, rfl⟩ ⟨Nat.le_of_ble_eq_true rfl, Nat.le_of_ble_eq_true rfl⟩ rfl hl.1 rfl (Nat.le_of_ble_eq_true rfl) ⟨Nat.zero_le _, Nat.zero_le _⟩ dX0_from_17 (fun r_2 wr_2 => ?_)
  have wr_2 : r_2.toInt = 1 := wr_2
  refine lv_if_eq (tgt := 73) hx hb dX0_from_20 (by decide) (fun c_3 => ?_) (fun c_3 => ?_)
  ·
    have kc_3 : r_2.toInt = (0 : Int) := i_eq c_3
    exfalso; omega
  ·
    have kc_3 : r_2.toInt ≠ (0 : Int) := i_ne c_3
    refine lv_iload hx hb dX0_from_23 (lv_at hl 1 rfl) ?_
    refine lv_iload_n hx hb dX0_from_25 rfl (lv_at hl 4 rfl) ?_
    refine cS_p (As := [.int 3, .int 2]) (rest := []) ⟨hx, hb, hml, hown, hg⟩ (k_B_3_2 l    ) ca_X0_bodyOf q4_146 ⟨rfl, rfl⟩ ⟨Nat.le_of_ble_eq_true rfl, Nat.le_of_ble_eq_true rfl⟩ rfl hl.1 rfl (Nat.le_of_ble_eq_true rfl) ⟨Nat.zero_le _, Nat.zero_le _⟩ dX0_from_26 (fun r_4 wr_4 => ?_)
    have wr_4 : r_4.toInt = 40 := wr_4
    have el_5 : r_4 = 40 := i_inj (wr_4.trans (by rfl))
    subst el_5
    refine lv_istore (lv' := [(7, .int 40), (6, .int 0), (5, .int 3), (0, .ref (ad 9)), (1, .int 3), (2, .int 2), (3, .int p3), (4, .int p4)]) hx hb dX0_from_29 hl (by decide) rfl (fun ls hl => ?_)
    refine lv_iload hx hb dX0_from_31 (lv_at hl 0 rfl) ?_
    refine lv_if_eq (tgt := 59) hx hb dX0_from_33 (by decide) (fun c_6 => absurd c_6 (by decide)) (fun c_6 => ?_)
    refine lv_iload hx hb dX0_from_36 (lv_at hl 7 rfl) ?_
    refine lv_bipush (v := 40) hx hb dX0_from_38 (by decide) ?_
    refine lv_icmp_ge (tgt := 57) hx hb dX0_from_40 (by decide) (fun c_7 => ?_) (fun c_7 => ?_)
    ·
      have kc_7 : (40 : Int) ≤ p4.toInt := i_le c_7
      exfalso; omega
    ·
      have kc_7 : p4.toInt < (40 : Int) := i_nle c_7
      refine lv_aload_n hx hb dX0_from_43 rfl (lv_at hl 3 rfl) ?_
      refine lv_iload hx hb dX0_from_44 (lv_at hl 0 rfl) ?_
      refine lv_iload_n hx hb dX0_from_46 rfl (lv_at hl 6 rfl) ?_
      refine lv_iload hx hb dX0_from_47 (lv_at hl 7 rfl) ?_
      refine lv_iconst (v := 1) hx hb dX0_from_49 (by decide) ?_
      refine lv_iadd hx hb dX0_from_50 ?_
      refine lv_topi (fun x_8 ex_8 => ?_)
      have fx_8 : x_8.toInt = p4.toInt + (1 : Int) := by rw [ex_8]; exact i_add (by first | omega | (show (_ : Int) ≤ p4.toInt + (1 : Int); omega)) (by first | omega | (show p4.toInt + (1 : Int) ≤ (_ : Int); omega))
      refine cV_i (As := [.int 40, .int p3, .int x_8]) (rest := []) ⟨hx, hb, hml, hown, hg⟩ (k_R_x_40 l D cs A ad fa fq rv v a w fv fp  p3 x_8 (show 0 ≤ (v 22).toInt by first | omega | decide) (show (v 22).toInt ≤ 22 by first | omega | decide) (show 0 ≤ x_8.toInt by first | omega | decide) (show x_8.toInt ≤ 37 by first | omega | decide) (show 0 ≤ (v 22).toInt by first | omega | decide) (show (v 22).toInt ≤ 1000 by first | omega | decide) (show 0 ≤ (v 23).toInt by first | omega | decide) (show (v 23).toInt ≤ 49 by first | omega | decide)) ca_X0_run q4_149 ⟨rfl, rfl⟩ ⟨Nat.le_of_ble_eq_true rfl, Nat.le_of_ble_eq_true rfl⟩ (rc_acts hK hP) hK hP hD hS hZ rfl hl.1 rfl (Nat.le_of_ble_eq_true rfl) ⟨Nat.zero_le _, Nat.zero_le _⟩ dX0_from_51 (fun r_9 z_12 H locs wr_9 hP hD hS => ?_)
      obtain ⟨o_v22_10, o_a38_11⟩ := z_12
      have hP : va_P D vwCl (CW cs ad fa fq rv (va_up v 22 o_v22_10) (va_up a 38 o_a38_11) w fv fp) H := hP
      have hD : va_D A (CW cs ad fa fq rv (va_up v 22 o_v22_10) (va_up a 38 o_a38_11) w fv fp) := hD
      obtain ⟨wr_9_0, wr_9_1, wr_9_2, wr_9_3, wr_9_4⟩ : (o_v22_10.toInt = (v 22).toInt + 2) ∧ (o_a38_11 = TRW (a 38) (v 22).toInt.toNat [40, 11]) ∧ (r_9 = ((p3 ^^^ (v 23)) * 3)) ∧ (0 ≤ o_v22_10.toInt) ∧ (o_v22_10.toInt ≤ 1000) := wr_9
      have kt_13 : o_a38_11 = TRW (a 38) (v 22).toInt.toNat [40, 11] := by rw [wr_9_1]
      refine lv_goto (tgt := 58) hx hb dX0_from_54 (by decide) ?_
      exact W.iret (v := r_9) hx hb hr (fun tt ht hW => ⟨⟨r_9, ⟨o_v22_10, o_a38_11⟩, rfl, ⟨(by first | rfl | omega | trivial | assumption | (dsimp only; first | omega | assumption)), (by (try dsimp only); first | assumption | rfl), (by simp only [wr_9_2, ex_8]), (show 0 ≤ o_v22_10.toInt by first | omega | assumption), (show o_v22_10.toInt ≤ 1000 by first | omega | assumption)⟩, by rw [ht]; exact hP, hD⟩, hS.F ht⟩) hS.2.2 dX0_from_58
set_option maxHeartbeats 4000000 in
set_option maxRecDepth 100000 in
theorem k_S_3_2 (l : Launch) (D : va_G) (cs : Nat → ClassId) (A : Nat → Prop) (ad fa fq rv : Nat → Nat) (v : Nat → Int32) (a : Nat → Nat → Int32) (w : Nat → Nat → Int64) (fv fp : Nat → Nat → Int32)  (p2 : Int32) (p3 : Int32) (hkn : (a 37) (v 23).toNatClampNeg = 3) (hr0 : 0 ≤ (v 22).toInt) (hr1 : (v 22).toInt ≤ 22) (hd0 : 0 ≤ p3.toInt) (hd1 : p3.toInt ≤ 36) (iv23_0 : 0 ≤ (v 23).toInt) (iv23_1 : (v 23).toInt ≤ 49) (ia37_0 : AB 0 7 (a 37)) (iv22_0 : 0 ≤ (v 22).toInt) (iv22_1 : (v 22).toInt ≤ 1000) : Met l yX0_self (Cond.code yX0_self cX0_self 4 (some .int) :: gw) ({ frames := 4, cells := 0, slots := 0, locals := 100 }) (va_Pc [.ref (ad 9), .int 2, .int p2, .int p3] (XPre D (TY cs) (CW cs ad fa fq rv v a w fv fp) A)) (va_Qi (fun (r : Int32) (z : Int32 × (Nat → Int32)) => (z.1.toInt = (v 22).toInt + 2) ∧ (z.2 = TRW (a 38) (v 22).toInt.toNat [40, 11]) ∧ (r = ((p2 ^^^ (v 23)) * 3)) ∧ (0 ≤ z.1.toInt) ∧ (z.1.toInt ≤ 1000)) (XPo D (fun (z : Int32 × (Nat → Int32)) => CW cs ad fa fq rv (va_up v 22 z.1) (va_up a 38 z.2) w fv fp) A) A) 0 0 A := by
  refine Met.ofW (cc := cX0_self) (maxL := 4) (ret := (some .int)) (by decide) rfl ?_
  intro p e s m args below meth c s₁ B hml hv
  obtain ⟨rfl, hP, hK, hD, hZ⟩ := hv
  have hx := B.exec
  have hb := B.bytes
  have hr := B.returns
  have hts := atoms_spec (ws := (Cond.code yX0_self cX0_self 4 (some .int) :: gw)) B.pre
  have hg : ∀ w ∈ gw, w.before ([.ref (ad 9), .int 2, .int p2, .int p3] : List Value).toArray s = true := fun w h => hts w (List.mem_cons_of_mem _ h)
  have hown : s.vm.findClass RX0 = some m.cls := findClass_of_methodNamed B.named
  have hlocks := B.notSynchronized
  have hS : va_S A s.heap s.heap [] := va_S.rf
  have hP : va_P D vwCl (CW cs ad fa fq rv v a w fv fp) s.heap := hP
  have hl := lv_entry ([.ref (ad 9), .int 2, .int p2, .int p3]) (n := 4) (Nat.le_of_ble_eq_true rfl)
  rw [lg_entry_eq]
  generalize (lg_sl ([.ref (ad 9), .int 2, .int p2, .int p3]) ++ List.replicate (4 - (lg_sl ([.ref (ad 9), .int 2, .int p2, .int p3])).length) Slot.unset).toArray = ls at hl ⊢
  have hl : lv_has ls 4 [(0, .ref (ad 9)), (1, .int 2), (2, .int p2), (3, .int p3)] := hl
  refine lv_aload_n hx hb dX0_self_0 rfl (lv_at hl 0 rfl) ?_
  refine lv_aload_n hx hb dX0_self_1 rfl (lv_at hl 0 rfl) ?_
  refine gf_acts_kind hx hb hg hown hK hP rfl (hg _ q1_83) dX0_self_2 ?_
  refine lv_aload_n hx hb dX0_self_5 rfl (lv_at hl 0 rfl) ?_
  refine gf_acts_number hx hb hg hown hK hP (x := (v 23)) rfl (hg _ q1_90) dX0_self_6 ?_
  refine ld_Akind hx hb hK hP (i_in (by omega) (by omega)) dX0_self_9 ?_
  refine lv_topi (fun x_1 ex_1 => ?_)
  have ex_1 : x_1 = (a 37) (v 23).toNatClampNeg := ex_1
  have hx_1 : x_1.toInt = ((a 37) (v 23).toNatClampNeg).toInt := by rw [ex_1]
  have bx_1 := ia37_0 (v 23).toNatClampNeg
  rw [← ex_1] at bx_1
  have fx_1 : x_1 = 3 := by rw [ex_1]; exact hkn
  subst fx_1
  refine lv_iload_n hx hb dX0_self_10 rfl (lv_at hl 1 rfl) ?_
  refine lv_iload_n hx hb dX0_self_11 rfl (lv_at hl 2 rfl) ?_
  refine lv_iload_n hx hb dX0_self_12 rfl (lv_at hl 3 rfl) ?_
  refine cV_i (As := [.int 3, .int 2, .int p2, .int p3]) (rest := []) ⟨hx, hb, hml, hown, hg⟩ (k_F_x_3_2 l D cs A ad fa fq rv v a w fv fp  p2 p3 (show 0 ≤ (v 22).toInt by first | omega | decide) (show (v 22).toInt ≤ 22 by first | omega | decide) (show 0 ≤ p3.toInt by first | omega | decide) (show p3.toInt ≤ 36 by first | omega | decide) (show 0 ≤ (v 22).toInt by first | omega | decide) (show (v 22).toInt ≤ 1000 by first | omega | decide) (show 0 ≤ (v 23).toInt by first | omega | decide) (show (v 23).toInt ≤ 49 by first | omega | decide)) ca_X0_from q4_139 ⟨rfl, rfl⟩ ⟨Nat.le_of_ble_eq_true rfl, Nat.le_of_ble_eq_true rfl⟩ (rc_acts hK hP) hK hP hD hS hZ rfl hl.1 rfl (Nat.le_of_ble_eq_true rfl) ⟨Nat.zero_le _, Nat.zero_le _⟩ dX0_self_13 (fun r_2 z_5 H locs wr_2 hP hD hS => ?_)
  obtain ⟨o_v22_3, o_a38_4⟩ := z_5
  have hP : va_P D vwCl (CW cs ad fa fq rv (va_up v 22 o_v22_3) (va_up a 38 o_a38_4) w fv fp) H := hP
  have hD : va_D A (CW cs ad fa fq rv (va_up v 22 o_v22_3) (va_up a 38 o_a38_4) w fv fp) := hD
  obtain ⟨wr_2_0, wr_2_1, wr_2_2, wr_2_3, wr_2_4⟩ : (o_v22_3.toInt = (v 22).toInt + 2) ∧ (o_a38_4 = TRW (a 38) (v 22).toInt.toNat [40, 11]) ∧ (r_2 = ((p2 ^^^ (v 23)) * 3)) ∧ (0 ≤ o_v22_3.toInt) ∧ (o_v22_3.toInt ≤ 1000) := wr_2
  have kt_6 : o_a38_4 = TRW (a 38) (v 22).toInt.toNat [40, 11] := by rw [wr_2_1]
  exact W.iret (v := r_2) hx hb hr (fun tt ht hW => ⟨⟨r_2, ⟨o_v22_3, o_a38_4⟩, rfl, ⟨(by first | rfl | omega | trivial | assumption | (dsimp only; first | omega | assumption)), (by (try dsimp only); first | assumption | rfl), (by simp only [wr_2_2]), (show 0 ≤ o_v22_3.toInt by first | omega | assumption), (show o_v22_3.toInt ≤ 1000 by first | omega | assumption)⟩, by rw [ht]; exact hP, hD⟩, hS.F ht⟩) hS.2.2 dX0_self_16
set_option maxHeartbeats 4000000 in
set_option maxRecDepth 100000 in
theorem k_R_3_2 (l : Launch) (D : va_G) (cs : Nat → ClassId) (A : Nat → Prop) (ad fa fq rv : Nat → Nat) (v : Nat → Int32) (a : Nat → Nat → Int32) (w : Nat → Nat → Int64) (fv fp : Nat → Nat → Int32)  (p2 : Int32) (p3 : Int32) (hkn : (a 37) (v 23).toNatClampNeg = 3) (hr0 : 0 ≤ (v 22).toInt) (hr1 : (v 22).toInt ≤ 17) (hd0 : 0 ≤ p3.toInt) (hd1 : p3.toInt ≤ 34) (iv22_0 : 0 ≤ (v 22).toInt) (iv22_1 : (v 22).toInt ≤ 1000) (iv23_0 : 0 ≤ (v 23).toInt) (iv23_1 : (v 23).toInt ≤ 49) (ia37_0 : AB 0 7 (a 37)) : Met l yX0_run (Cond.code yX0_run cX0_run 4 (some .int) :: gw) ({ frames := 10, cells := 0, slots := 0, locals := 246 }) (va_Pc [.ref (ad 9), .int 2, .int p2, .int p3] (XPre D (TY cs) (CW cs ad fa fq rv v a w fv fp) A)) (va_Qi (fun (r : Int32) (z : Int32 × (Nat → Int32)) => (z.1.toInt = (v 22).toInt + 7) ∧ (z.2 = TRW (a 38) (v 22).toInt.toNat [2, 41, 30, 10, 1, 40, 11]) ∧ (r = ((-(((p2 + 1) + (v 23)) * 2)) - (((1 : Int32) ^^^ (v 23)) * 3))) ∧ (0 ≤ z.1.toInt) ∧ (z.1.toInt ≤ 1000)) (XPo D (fun (z : Int32 × (Nat → Int32)) => CW cs ad fa fq rv (va_up v 22 z.1) (va_up a 38 z.2) w fv fp) A) A) 0 0 A := by
  refine Met.ofW (cc := cX0_run) (maxL := 4) (ret := (some .int)) (by decide) rfl ?_
  intro p e s m args below meth c s₁ B hml hv
  obtain ⟨rfl, hP, hK, hD, hZ⟩ := hv
  have hx := B.exec
  have hb := B.bytes
  have hr := B.returns
  have hts := atoms_spec (ws := (Cond.code yX0_run cX0_run 4 (some .int) :: gw)) B.pre
  have hg : ∀ w ∈ gw, w.before ([.ref (ad 9), .int 2, .int p2, .int p3] : List Value).toArray s = true := fun w h => hts w (List.mem_cons_of_mem _ h)
  have hown : s.vm.findClass RX0 = some m.cls := findClass_of_methodNamed B.named
  have hlocks := B.notSynchronized
  have hS : va_S A s.heap s.heap [] := va_S.rf
  have hP : va_P D vwCl (CW cs ad fa fq rv v a w fv fp) s.heap := hP
  have hl := lv_entry ([.ref (ad 9), .int 2, .int p2, .int p3]) (n := 4) (Nat.le_of_ble_eq_true rfl)
  rw [lg_entry_eq]
  generalize (lg_sl ([.ref (ad 9), .int 2, .int p2, .int p3]) ++ List.replicate (4 - (lg_sl ([.ref (ad 9), .int 2, .int p2, .int p3])).length) Slot.unset).toArray = ls at hl ⊢
  have hl : lv_has ls 4 [(0, .ref (ad 9)), (1, .int 2), (2, .int p2), (3, .int p3)] := hl
  refine lv_aload_n hx hb dX0_run_0 rfl (lv_at hl 0 rfl) ?_
  refine gf_acts_ran hx hb hg hown hK hP (x := (v 22)) rfl (hg _ q1_88) dX0_run_1 ?_
  refine lv_bipush (v := 24) hx hb dX0_run_4 (by decide) ?_
  refine lv_icmp_ge (tgt := 19) hx hb dX0_run_6 (by decide) (fun c_1 => ?_) (fun c_1 => ?_)
  ·
    have kc_1 : (24 : Int) ≤ (v 22).toInt := i_le c_1
    exfalso; omega
  ·
    have kc_1 : (v 22).toInt < (24 : Int) := i_nle c_1
    refine lv_aload_n hx hb dX0_run_9 rfl (lv_at hl 0 rfl) ?_
    refine gf_acts_traced hx hb hg hown hK hP rfl (hg _ q1_86) dX0_run_10 ?_
    refine lv_aload_n hx hb dX0_run_13 rfl (lv_at hl 0 rfl) ?_
    refine gf_acts_ran hx hb hg hown hK hP (x := (v 22)) rfl (hg _ q1_88) dX0_run_14 ?_
    refine lv_iload_n hx hb dX0_run_17 rfl (lv_at hl 1 rfl) ?_
    refine st_Atraced hx hb hK hP hD hS (i_in (by omega) (by omega)) dX0_run_18 (fun H locs hP hD hS => ?_)
    refine lv_aload_n hx hb dX0_run_19 rfl (lv_at hl 0 rfl) ?_
    refine lv_dup hx hb dX0_run_20 rfl ?_
    refine gf_acts_ran hx hb hg hown hK hP (x := (v 22)) rfl (hg _ q1_88) dX0_run_21 ?_
    refine lv_iconst (v := 1) hx hb dX0_run_24 (by decide) ?_
    refine lv_iadd hx hb dX0_run_25 ?_
    refine lv_topi (fun x_2 ex_2 => ?_)
    have fx_2 : x_2.toInt = (v 22).toInt + (1 : Int) := by rw [ex_2]; exact i_add (by first | omega | (show (_ : Int) ≤ (v 22).toInt + (1 : Int); omega)) (by first | omega | (show (v 22).toInt + (1 : Int) ≤ (_ : Int); omega))
    refine pf_acts_ran hx hb hg hown hK hP hD hS (hg _ q1_88) dX0_run_26 (fun H locs hP hD hS => ?_)
    refine lv_iload_n hx hb dX0_run_29 rfl (lv_at hl 1 rfl) ?_
    refine lv_lookup (tgt := 159) hx hb dX0_run_30 (by decide) (off := 129) (by decide) (by decide) ?_
    refine lv_aload_n hx hb dX0_run_159 rfl (lv_at hl 0 rfl) ?_
    refine lv_iconst (v := 1) hx hb dX0_run_160 (by decide) ?_
    refine lv_iload_n hx hb dX0_run_161 rfl (lv_at hl 2 rfl) ?_
    refine lv_iload_n hx hb dX0_run_162 rfl (lv_at hl 3 rfl) ?_
    refine cV_i (As := [.int 1, .int p2, .int p3]) (rest := []) ⟨hx, hb, hml, hown, hg⟩ (k_S_3_1 l D cs A ad fa fq rv (va_up v 22 x_2) (va_up a 38 (upd (a 38) (v 22).toNatClampNeg 2)) w fv fp  p2 p3 hkn (show 0 ≤ x_2.toInt by first | omega | decide) (show x_2.toInt ≤ 20 by first | omega | decide) (show 0 ≤ p3.toInt by first | omega | decide) (show p3.toInt ≤ 34 by first | omega | decide) (show 0 ≤ (v 23).toInt by first | omega | decide) (show (v 23).toInt ≤ 49 by first | omega | decide) ia37_0 (show 0 ≤ x_2.toInt by first | omega | decide) (show x_2.toInt ≤ 1000 by first | omega | decide)) ca_X0_self q4_135 ⟨rfl, rfl⟩ ⟨Nat.le_of_ble_eq_true rfl, Nat.le_of_ble_eq_true rfl⟩ (rc_acts hK hP) hK hP hD hS hZ rfl hl.1 rfl (Nat.le_of_ble_eq_true rfl) ⟨Nat.zero_le _, Nat.zero_le _⟩ dX0_run_163 (fun r_4 z_7 H locs wr_4 hP hD hS => ?_)
    obtain ⟨o_v22_5, o_a38_6⟩ := z_7
    have hP : va_P D vwCl (CW cs ad fa fq rv (va_up v 22 o_v22_5) (va_up a 38 o_a38_6) w fv fp) H := hP
    have hD : va_D A (CW cs ad fa fq rv (va_up v 22 o_v22_5) (va_up a 38 o_a38_6) w fv fp) := hD
    obtain ⟨wr_4_0, wr_4_1, wr_4_2, wr_4_3, wr_4_4⟩ : (o_v22_5.toInt = x_2.toInt + 4) ∧ (o_a38_6 = TRW (upd (a 38) (v 22).toNatClampNeg 2) x_2.toInt.toNat [41, 30, 10, 1]) ∧ (r_4 = (-(((p2 + 1) + (v 23)) * 2))) ∧ (0 ≤ o_v22_5.toInt) ∧ (o_v22_5.toInt ≤ 1000) := wr_4
    have kt_8 : o_a38_6 = TRW (a 38) (v 22).toInt.toNat [2, 41, 30, 10, 1] := by rw [wr_4_1, show (x_2).toInt.toNat = (v 22).toInt.toNat + 1 from by omega]; rfl
    refine lv_aload_n hx hb dX0_run_166 rfl (lv_at hl 0 rfl) ?_
    refine lv_iconst (v := 2) hx hb dX0_run_167 (by decide) ?_
    refine lv_iconst (v := 1) hx hb dX0_run_168 (by decide) ?_
    refine lv_iload_n hx hb dX0_run_169 rfl (lv_at hl 3 rfl) ?_
    refine cV_i (As := [.int 2, .int 1, .int p3]) (rest := [.int r_4]) ⟨hx, hb, hml, hown, hg⟩ (k_S_3_2 l D cs A ad fa fq rv (va_up v 22 o_v22_5) (va_up a 38 o_a38_6) w fv fp  1 p3 hkn (show 0 ≤ o_v22_5.toInt by first | omega | decide) (show o_v22_5.toInt ≤ 22 by first | omega | decide) (show 0 ≤ p3.toInt by first | omega | decide) (show p3.toInt ≤ 36 by first | omega | decide) (show 0 ≤ (v 23).toInt by first | omega | decide) (show (v 23).toInt ≤ 49 by first | omega | decide) ia37_0 (show 0 ≤ o_v22_5.toInt by first | omega | decide) (show o_v22_5.toInt ≤ 1000 by first | omega | decide)) ca_X0_self q4_135 ⟨rfl, rfl⟩ ⟨Nat.le_of_ble_eq_true rfl, Nat.le_of_ble_eq_true rfl⟩ (rc_acts hK hP) hK hP hD hS hZ rfl hl.1 rfl (Nat.le_of_ble_eq_true rfl) ⟨Nat.zero_le _, Nat.zero_le _⟩ dX0_run_170 (fun r_9 z_12 H locs wr_9 hP hD hS => ?_)
    obtain ⟨o_v22_10, o_a38_11⟩ := z_12
    have hP : va_P D vwCl (CW cs ad fa fq rv (va_up v 22 o_v22_10) (va_up a 38 o_a38_11) w fv fp) H := hP
    have hD : va_D A (CW cs ad fa fq rv (va_up v 22 o_v22_10) (va_up a 38 o_a38_11) w fv fp) := hD
    obtain ⟨wr_9_0, wr_9_1, wr_9_2, wr_9_3, wr_9_4⟩ : (o_v22_10.toInt = o_v22_5.toInt + 2) ∧ (o_a38_11 = TRW o_a38_6 o_v22_5.toInt.toNat [40, 11]) ∧ (r_9 = (((1 : Int32) ^^^ (v 23)) * 3)) ∧ (0 ≤ o_v22_10.toInt) ∧ (o_v22_10.toInt ≤ 1000) := wr_9
    have kt_13 : o_a38_11 = TRW (a 38) (v 22).toInt.toNat [2, 41, 30, 10, 1, 40, 11] := by rw [wr_9_1, kt_8, show (o_v22_5).toInt.toNat = (v 22).toInt.toNat + 5 from by omega]; rfl
    refine lv_isub hx hb dX0_run_173 ?_
    refine lv_topi (fun x_14 ex_14 => ?_)
    exact W.iret (v := x_14) hx hb hr (fun tt ht hW => ⟨⟨x_14, ⟨o_v22_10, o_a38_11⟩, rfl, ⟨(by first | rfl | omega | trivial | assumption | (dsimp only; first | omega | assumption)), (by (try dsimp only); first | assumption | rfl), (by simp only [ex_14, wr_9_2, wr_4_2, ex_2]), (show 0 ≤ o_v22_10.toInt by first | omega | assumption), (show o_v22_10.toInt ≤ 1000 by first | omega | assumption)⟩, by rw [ht]; exact hP, hD⟩, hS.F ht⟩) hS.2.2 dX0_run_174
set_option maxHeartbeats 4000000 in
set_option maxRecDepth 100000 in
theorem k_F_3_3_3 (l : Launch) (D : va_G) (cs : Nat → ClassId) (A : Nat → Prop) (ad fa fq rv : Nat → Nat) (v : Nat → Int32) (a : Nat → Nat → Int32) (w : Nat → Nat → Int64) (fv fp : Nat → Nat → Int32)  (p3 : Int32) (p4 : Int32) (hkn : (a 37) (v 23).toNatClampNeg = 3) (hr0 : 0 ≤ (v 22).toInt) (hr1 : (v 22).toInt ≤ 17) (hd0 : 0 ≤ p4.toInt) (hd1 : p4.toInt ≤ 33) (iv22_0 : 0 ≤ (v 22).toInt) (iv22_1 : (v 22).toInt ≤ 1000) (iv23_0 : 0 ≤ (v 23).toInt) (iv23_1 : (v 23).toInt ≤ 49) (ia37_0 : AB 0 7 (a 37)) : Met l yX0_from (Cond.code yX0_from cX0_from 8 (some .int) :: gw) ({ frames := 11, cells := 0, slots := 0, locals := 269 }) (va_Pc [.ref (ad 9), .int 3, .int 3, .int p3, .int p4] (XPre D (TY cs) (CW cs ad fa fq rv v a w fv fp) A)) (va_Qi (fun (r : Int32) (z : Int32 × (Nat → Int32)) => (z.1.toInt = (v 22).toInt + 7) ∧ (z.2 = TRW (a 38) (v 22).toInt.toNat [2, 41, 30, 10, 1, 40, 11]) ∧ (r = ((-(((p3 + 1) + (v 23)) * 2)) - (((1 : Int32) ^^^ (v 23)) * 3))) ∧ (0 ≤ z.1.toInt) ∧ (z.1.toInt ≤ 1000)) (XPo D (fun (z : Int32 × (Nat → Int32)) => CW cs ad fa fq rv (va_up v 22 z.1) (va_up a 38 z.2) w fv fp) A) A) 0 0 A := by
  refine Met.ofW (cc := cX0_from) (maxL := 8) (ret := (some .int)) (by decide) rfl ?_
  intro p e s m args below meth c s₁ B hml hv
  obtain ⟨rfl, hP, hK, hD, hZ⟩ := hv
  have hx := B.exec
  have hb := B.bytes
  have hr := B.returns
  have hts := atoms_spec (ws := (Cond.code yX0_from cX0_from 8 (some .int) :: gw)) B.pre
  have hg : ∀ w ∈ gw, w.before ([.ref (ad 9), .int 3, .int 3, .int p3, .int p4] : List Value).toArray s = true := fun w h => hts w (List.mem_cons_of_mem _ h)
  have hown : s.vm.findClass RX0 = some m.cls := findClass_of_methodNamed B.named
  have hlocks := B.notSynchronized
  have hS : va_S A s.heap s.heap [] := va_S.rf
  have hP : va_P D vwCl (CW cs ad fa fq rv v a w fv fp) s.heap := hP
  have hl := lv_entry ([.ref (ad 9), .int 3, .int 3, .int p3, .int p4]) (n := 8) (Nat.le_of_ble_eq_true rfl)
  rw [lg_entry_eq]
  generalize (lg_sl ([.ref (ad 9), .int 3, .int 3, .int p3, .int p4]) ++ List.replicate (8 - (lg_sl ([.ref (ad 9), .int 3, .int 3, .int p3, .int p4])).length) Slot.unset).toArray = ls at hl ⊢
  have hl : lv_has ls 8 [(0, .ref (ad 9)), (1, .int 3), (2, .int 3), (3, .int p3), (4, .int p4)] := hl
  refine lv_iload_n hx hb dX0_from_0 rfl (lv_at hl 1 rfl) ?_
  refine lv_istore (lv' := [(5, .int 3), (0, .ref (ad 9)), (1, .int 3), (2, .int 3), (3, .int p3), (4, .int p4)]) hx hb dX0_from_1 hl (by decide) rfl (fun ls hl => ?_)
  refine lv_iconst (v := 0) hx hb dX0_from_3 (by decide) ?_
  refine lv_istore (lv' := [(6, .int 0), (5, .int 3), (0, .ref (ad 9)), (1, .int 3), (2, .int 3), (3, .int p3), (4, .int p4)]) hx hb dX0_from_4 hl (by decide) rfl (fun ls hl => ?_)
  refine lv_iload hx hb dX0_from_6 (lv_at hl 0 rfl) ?_
  obtain ⟨t0, t1, t2, ⟨a0, b0⟩, ⟨a1, b1⟩, ⟨a2, b2⟩⟩ := id hZ
  refine va_gets hx hb a2 hS hown (hg _ q4_143) (fun _ h9 => h9) dX0_from_8 ?_
  refine va_tlen hx hb b2 hS (v := 8) rfl dX0_from_11 ?_
  refine lv_icmp_ge (tgt := 73) hx hb dX0_from_12 (by decide) (fun c_1 => absurd c_1 (by decide)) (fun c_1 => ?_)
  refine lv_iload hx hb dX0_from_15 (lv_at hl 1 rfl) ?_
  refine cS_p (As := [.int 3]) (rest := []) ⟨hx, hb, hml, hown, hg⟩ (k_IK_4 l    ) ca_X0_isKind q4_145 ⟨rfl, rfl⟩ ⟨Nat.le_of_ble_eq_true rfl, Nat.le_of_ble_eq_true rfl⟩ rfl hl.1 rfl (Nat.le_of_ble_eq_true rfl) ⟨Nat.zero_le _, Nat.zero_le _⟩ dX0_from_17 (fun r_2 wr_2 => ?_)
  have wr_2 : r_2.toInt = 1 := wr_2
  refine lv_if_eq (tgt := 73) hx hb dX0_from_20 (by decide) (fun c_3 => ?_) (fun c_3 => ?_)
  ·
    have kc_3 : r_2.toInt = (0 : Int) := i_eq c_3
    exfalso; omega
  ·
    have kc_3 : r_2.toInt ≠ (0 : Int) := i_ne c_3
    refine lv_iload hx hb dX0_from_23 (lv_at hl 1 rfl) ?_
    refine lv_iload_n hx hb dX0_from_25 rfl (lv_at hl 4 rfl) ?_
    refine cS_p (As := [.int 3, .int 3]) (rest := []) ⟨hx, hb, hml, hown, hg⟩ (k_B_3_3 l    ) ca_X0_bodyOf q4_146 ⟨rfl, rfl⟩ ⟨Nat.le_of_ble_eq_true rfl, Nat.le_of_ble_eq_true rfl⟩ rfl hl.1 rfl (Nat.le_of_ble_eq_true rfl) ⟨Nat.zero_le _, Nat.zero_le _⟩ dX0_from_26 (fun r_4 wr_4 => ?_)
    have wr_4 : r_4.toInt = 0 := wr_4
    have el_5 : r_4 = 0 := i_inj (wr_4.trans (by rfl))
    subst el_5
    refine lv_istore (lv' := [(7, .int 0), (6, .int 0), (5, .int 3), (0, .ref (ad 9)), (1, .int 3), (2, .int 3), (3, .int p3), (4, .int p4)]) hx hb dX0_from_29 hl (by decide) rfl (fun ls hl => ?_)
    refine lv_iload hx hb dX0_from_31 (lv_at hl 0 rfl) ?_
    refine lv_if_eq (tgt := 59) hx hb dX0_from_33 (by decide) (fun c_6 => ?_) (fun c_6 => absurd c_6 (by decide))
    obtain ⟨t0, t1, t2, ⟨a0, b0⟩, ⟨a1, b1⟩, ⟨a2, b2⟩⟩ := id hZ
    refine va_gets hx hb a2 hS hown (hg _ q4_143) (fun _ h9 => h9) dX0_from_59 ?_
    refine lv_iload hx hb dX0_from_62 (lv_at hl 2 rfl) ?_
    refine va_ti hx hb b2 hS (i_in (by decide) (by decide)) (v := .int 2) rfl dX0_from_64 ?_
    refine lv_istore (lv' := [(5, .int 2), (7, .int 0), (6, .int 0), (0, .ref (ad 9)), (1, .int 3), (2, .int 3), (3, .int p3), (4, .int p4)]) hx hb dX0_from_65 hl (by decide) rfl (fun ls hl => ?_)
    obtain ⟨x_7, ex_7⟩ : ∃ y : Int32, y = 0 + 1 := ⟨_, rfl⟩
    have fx_7 : x_7.toInt = (0 : Int) + 1 := by rw [ex_7]; exact i_add (by first | omega | (show (_ : Int) ≤ (0 : Int) + 1; omega)) (by first | omega | (show (0 : Int) + 1 ≤ (_ : Int); omega))
    refine lv_iinc (v := x_7) (lv' := [(6, .int x_7), (5, .int 2), (7, .int 0), (0, .ref (ad 9)), (1, .int 3), (2, .int 3), (3, .int p3), (4, .int p4)]) hx hb dX0_from_67 hl (k := 2) rfl (by rw [ex_7]; rfl) (by decide) rfl (fun ls hl => ?_)
    refine lv_goto (tgt := 6) hx hb dX0_from_70 (by decide) ?_
    refine lv_iload hx hb dX0_from_6 (lv_at hl 0 rfl) ?_
    obtain ⟨t0, t1, t2, ⟨a0, b0⟩, ⟨a1, b1⟩, ⟨a2, b2⟩⟩ := id hZ
    refine va_gets hx hb a2 hS hown (hg _ q4_143) (fun _ h9 => h9) dX0_from_8 ?_
    refine va_tlen hx hb b2 hS (v := 8) rfl dX0_from_11 ?_
    refine lv_icmp_ge (tgt := 73) hx hb dX0_from_12 (by decide) (fun c_8 => ?_) (fun c_8 => ?_)
    ·
      have kc_8 : (8 : Int) ≤ x_7.toInt := i_le c_8
      exfalso; omega
    ·
      have kc_8 : x_7.toInt < (8 : Int) := i_nle c_8
      refine lv_iload hx hb dX0_from_15 (lv_at hl 1 rfl) ?_
      refine cS_p (As := [.int 2]) (rest := []) ⟨hx, hb, hml, hown, hg⟩ (k_IK_3 l    ) ca_X0_isKind q4_145 ⟨rfl, rfl⟩ ⟨Nat.le_of_ble_eq_true rfl, Nat.le_of_ble_eq_true rfl⟩ rfl hl.1 rfl (Nat.le_of_ble_eq_true rfl) ⟨Nat.zero_le _, Nat.zero_le _⟩ dX0_from_17 (fun r_9 wr_9 => ?_)
      have wr_9 : r_9.toInt = 1 := wr_9
      refine lv_if_eq (tgt := 73) hx hb dX0_from_20 (by decide) (fun c_10 => ?_) (fun c_10 => ?_)
      ·
        have kc_10 : r_9.toInt = (0 : Int) := i_eq c_10
        exfalso; omega
      ·
        have kc_10 : r_9.toInt ≠ (0 : Int) := i_ne c_10
        refine lv_iload hx hb dX0_from_23 (lv_at hl 1 rfl) ?_
        refine lv_iload_n hx hb dX0_from_25 rfl (lv_at hl 5 rfl) ?_
        refine cS_p (As := [.int 2, .int 3]) (rest := []) ⟨hx, hb, hml, hown, hg⟩ (k_B_2_3 l    ) ca_X0_bodyOf q4_146 ⟨rfl, rfl⟩ ⟨Nat.le_of_ble_eq_true rfl, Nat.le_of_ble_eq_true rfl⟩ rfl hl.1 rfl (Nat.le_of_ble_eq_true rfl) ⟨Nat.zero_le _, Nat.zero_le _⟩ dX0_from_26 (fun r_11 wr_11 => ?_)
        have wr_11 : r_11.toInt = 0 := wr_11
        have el_12 : r_11 = 0 := i_inj (wr_11.trans (by rfl))
        subst el_12
        refine lv_istore (lv' := [(7, .int 0), (6, .int x_7), (5, .int 2), (0, .ref (ad 9)), (1, .int 3), (2, .int 3), (3, .int p3), (4, .int p4)]) hx hb dX0_from_29 hl (by decide) rfl (fun ls hl => ?_)
        refine lv_iload hx hb dX0_from_31 (lv_at hl 0 rfl) ?_
        refine lv_if_eq (tgt := 59) hx hb dX0_from_33 (by decide) (fun c_13 => ?_) (fun c_13 => absurd c_13 (by decide))
        obtain ⟨t0, t1, t2, ⟨a0, b0⟩, ⟨a1, b1⟩, ⟨a2, b2⟩⟩ := id hZ
        refine va_gets hx hb a2 hS hown (hg _ q4_143) (fun _ h9 => h9) dX0_from_59 ?_
        refine lv_iload hx hb dX0_from_62 (lv_at hl 2 rfl) ?_
        refine va_ti hx hb b2 hS (i_in (by decide) (by decide)) (v := .int 0) rfl dX0_from_64 ?_
        refine lv_istore (lv' := [(5, .int 0), (7, .int 0), (6, .int x_7), (0, .ref (ad 9)), (1, .int 3), (2, .int 3), (3, .int p3), (4, .int p4)]) hx hb dX0_from_65 hl (by decide) rfl (fun ls hl => ?_)
        obtain ⟨x_14, ex_14⟩ : ∃ y : Int32, y = x_7 + 1 := ⟨_, rfl⟩
        have fx_14 : x_14.toInt = x_7.toInt + 1 := by rw [ex_14]; exact i_add (by first | omega | (show (_ : Int) ≤ x_7.toInt + 1; omega)) (by first | omega | (show x_7.toInt + 1 ≤ (_ : Int); omega))
        refine lv_iinc (v := x_14) (lv' := [(6, .int x_14), (5, .int 0), (7, .int 0), (0, .ref (ad 9)), (1, .int 3), (2, .int 3), (3, .int p3), (4, .int p4)]) hx hb dX0_from_67 hl (k := 2) rfl (by rw [ex_14]; rfl) (by decide) rfl (fun ls hl => ?_)
        refine lv_goto (tgt := 6) hx hb dX0_from_70 (by decide) ?_
        refine lv_iload hx hb dX0_from_6 (lv_at hl 0 rfl) ?_
        obtain ⟨t0, t1, t2, ⟨a0, b0⟩, ⟨a1, b1⟩, ⟨a2, b2⟩⟩ := id hZ
        refine va_gets hx hb a2 hS hown (hg _ q4_143) (fun _ h9 => h9) dX0_from_8 ?_
        refine va_tlen hx hb b2 hS (v := 8) rfl dX0_from_11 ?_
        refine lv_icmp_ge (tgt := 73) hx hb dX0_from_12 (by decide) (fun c_15 => ?_) (fun c_15 => ?_)
        ·
          have kc_15 : (8 : Int) ≤ x_14.toInt := i_le c_15
          exfalso; omega
        ·
          have kc_15 : x_14.toInt < (8 : Int) := i_nle c_15
          refine lv_iload hx hb dX0_from_15 (lv_at hl 1 rfl) ?_
          refine cS_p (As := [.int 0]) (rest := []) ⟨hx, hb, hml, hown, hg⟩ (k_IK_1 l    ) ca_X0_isKind q4_145 ⟨rfl, rfl⟩ ⟨Nat.le_of_ble_eq_true rfl, Nat.le_of_ble_eq_true rfl⟩ rfl hl.1 rfl (Nat.le_of_ble_eq_true rfl) ⟨Nat.zero_le _, Nat.zero_le _⟩ dX0_from_17 (fun r_16 wr_16 => ?_)
          have wr_16 : r_16.toInt = 1 := wr_16
          refine lv_if_eq (tgt := 73) hx hb dX0_from_20 (by decide) (fun c_17 => ?_) (fun c_17 => ?_)
          ·
            have kc_17 : r_16.toInt = (0 : Int) := i_eq c_17
            exfalso; omega
          ·
            have kc_17 : r_16.toInt ≠ (0 : Int) := i_ne c_17
            refine lv_iload hx hb dX0_from_23 (lv_at hl 1 rfl) ?_
            refine lv_iload_n hx hb dX0_from_25 rfl (lv_at hl 5 rfl) ?_
            refine cS_p (As := [.int 0, .int 3]) (rest := []) ⟨hx, hb, hml, hown, hg⟩ (k_B_0_3 l    ) ca_X0_bodyOf q4_146 ⟨rfl, rfl⟩ ⟨Nat.le_of_ble_eq_true rfl, Nat.le_of_ble_eq_true rfl⟩ rfl hl.1 rfl (Nat.le_of_ble_eq_true rfl) ⟨Nat.zero_le _, Nat.zero_le _⟩ dX0_from_26 (fun r_18 wr_18 => ?_)
            have wr_18 : r_18.toInt = 2 := wr_18
            have el_19 : r_18 = 2 := i_inj (wr_18.trans (by rfl))
            subst el_19
            refine lv_istore (lv' := [(7, .int 2), (6, .int x_14), (5, .int 0), (0, .ref (ad 9)), (1, .int 3), (2, .int 3), (3, .int p3), (4, .int p4)]) hx hb dX0_from_29 hl (by decide) rfl (fun ls hl => ?_)
            refine lv_iload hx hb dX0_from_31 (lv_at hl 0 rfl) ?_
            refine lv_if_eq (tgt := 59) hx hb dX0_from_33 (by decide) (fun c_20 => absurd c_20 (by decide)) (fun c_20 => ?_)
            refine lv_iload hx hb dX0_from_36 (lv_at hl 7 rfl) ?_
            refine lv_bipush (v := 40) hx hb dX0_from_38 (by decide) ?_
            refine lv_icmp_ge (tgt := 57) hx hb dX0_from_40 (by decide) (fun c_21 => ?_) (fun c_21 => ?_)
            ·
              have kc_21 : (40 : Int) ≤ p4.toInt := i_le c_21
              exfalso; omega
            ·
              have kc_21 : p4.toInt < (40 : Int) := i_nle c_21
              refine lv_aload_n hx hb dX0_from_43 rfl (lv_at hl 3 rfl) ?_
              refine lv_iload hx hb dX0_from_44 (lv_at hl 0 rfl) ?_
              refine lv_iload_n hx hb dX0_from_46 rfl (lv_at hl 6 rfl) ?_
              refine lv_iload hx hb dX0_from_47 (lv_at hl 7 rfl) ?_
              refine lv_iconst (v := 1) hx hb dX0_from_49 (by decide) ?_
              refine lv_iadd hx hb dX0_from_50 ?_
              refine lv_topi (fun x_22 ex_22 => ?_)
              have fx_22 : x_22.toInt = p4.toInt + (1 : Int) := by rw [ex_22]; exact i_add (by first | omega | (show (_ : Int) ≤ p4.toInt + (1 : Int); omega)) (by first | omega | (show p4.toInt + (1 : Int) ≤ (_ : Int); omega))
              refine cV_i (As := [.int 2, .int p3, .int x_22]) (rest := []) ⟨hx, hb, hml, hown, hg⟩ (k_R_3_2 l D cs A ad fa fq rv v a w fv fp  p3 x_22 hkn (show 0 ≤ (v 22).toInt by first | omega | decide) (show (v 22).toInt ≤ 17 by first | omega | decide) (show 0 ≤ x_22.toInt by first | omega | decide) (show x_22.toInt ≤ 34 by first | omega | decide) (show 0 ≤ (v 22).toInt by first | omega | decide) (show (v 22).toInt ≤ 1000 by first | omega | decide) (show 0 ≤ (v 23).toInt by first | omega | decide) (show (v 23).toInt ≤ 49 by first | omega | decide) ia37_0) ca_X0_run q4_149 ⟨rfl, rfl⟩ ⟨Nat.le_of_ble_eq_true rfl, Nat.le_of_ble_eq_true rfl⟩ (rc_acts hK hP) hK hP hD hS hZ rfl hl.1 rfl (Nat.le_of_ble_eq_true rfl) ⟨Nat.zero_le _, Nat.zero_le _⟩ dX0_from_51 (fun r_23 z_26 H locs wr_23 hP hD hS => ?_)
              obtain ⟨o_v22_24, o_a38_25⟩ := z_26
              have hP : va_P D vwCl (CW cs ad fa fq rv (va_up v 22 o_v22_24) (va_up a 38 o_a38_25) w fv fp) H := hP
              have hD : va_D A (CW cs ad fa fq rv (va_up v 22 o_v22_24) (va_up a 38 o_a38_25) w fv fp) := hD
              obtain ⟨wr_23_0, wr_23_1, wr_23_2, wr_23_3, wr_23_4⟩ : (o_v22_24.toInt = (v 22).toInt + 7) ∧ (o_a38_25 = TRW (a 38) (v 22).toInt.toNat [2, 41, 30, 10, 1, 40, 11]) ∧ (r_23 = ((-(((p3 + 1) + (v 23)) * 2)) - (((1 : Int32) ^^^ (v 23)) * 3))) ∧ (0 ≤ o_v22_24.toInt) ∧ (o_v22_24.toInt ≤ 1000) := wr_23
              have kt_27 : o_a38_25 = TRW (a 38) (v 22).toInt.toNat [2, 41, 30, 10, 1, 40, 11] := by rw [wr_23_1]
              refine lv_goto (tgt := 58) hx hb dX0_from_54 (by decide) ?_
              exact W.iret (v := r_23) hx hb hr (fun tt ht hW => ⟨⟨r_23, ⟨o_v22_24, o_a38_25⟩, rfl, ⟨(by first | rfl | omega | trivial | assumption | (dsimp only; first | omega | assumption)), (by (try dsimp only); first | assumption | rfl), (by simp only [wr_23_2, ex_22]), (show 0 ≤ o_v22_24.toInt by first | omega | assumption), (show o_v22_24.toInt ≤ 1000 by first | omega | assumption)⟩, by rw [ht]; exact hP, hD⟩, hS.F ht⟩) hS.2.2 dX0_from_58
set_option maxHeartbeats 4000000 in
set_option maxRecDepth 100000 in
theorem k_S_3_3 (l : Launch) (D : va_G) (cs : Nat → ClassId) (A : Nat → Prop) (ad fa fq rv : Nat → Nat) (v : Nat → Int32) (a : Nat → Nat → Int32) (w : Nat → Nat → Int64) (fv fp : Nat → Nat → Int32)  (p2 : Int32) (p3 : Int32) (hkn : (a 37) (v 23).toNatClampNeg = 3) (hr0 : 0 ≤ (v 22).toInt) (hr1 : (v 22).toInt ≤ 17) (hd0 : 0 ≤ p3.toInt) (hd1 : p3.toInt ≤ 33) (iv23_0 : 0 ≤ (v 23).toInt) (iv23_1 : (v 23).toInt ≤ 49) (ia37_0 : AB 0 7 (a 37)) (iv22_0 : 0 ≤ (v 22).toInt) (iv22_1 : (v 22).toInt ≤ 1000) : Met l yX0_self (Cond.code yX0_self cX0_self 4 (some .int) :: gw) ({ frames := 12, cells := 0, slots := 0, locals := 296 }) (va_Pc [.ref (ad 9), .int 3, .int p2, .int p3] (XPre D (TY cs) (CW cs ad fa fq rv v a w fv fp) A)) (va_Qi (fun (r : Int32) (z : Int32 × (Nat → Int32)) => (z.1.toInt = (v 22).toInt + 7) ∧ (z.2 = TRW (a 38) (v 22).toInt.toNat [2, 41, 30, 10, 1, 40, 11]) ∧ (r = ((-(((p2 + 1) + (v 23)) * 2)) - (((1 : Int32) ^^^ (v 23)) * 3))) ∧ (0 ≤ z.1.toInt) ∧ (z.1.toInt ≤ 1000)) (XPo D (fun (z : Int32 × (Nat → Int32)) => CW cs ad fa fq rv (va_up v 22 z.1) (va_up a 38 z.2) w fv fp) A) A) 0 0 A := by
  refine Met.ofW (cc := cX0_self) (maxL := 4) (ret := (some .int)) (by decide) rfl ?_
  intro p e s m args below meth c s₁ B hml hv
  obtain ⟨rfl, hP, hK, hD, hZ⟩ := hv
  have hx := B.exec
  have hb := B.bytes
  have hr := B.returns
  have hts := atoms_spec (ws := (Cond.code yX0_self cX0_self 4 (some .int) :: gw)) B.pre
  have hg : ∀ w ∈ gw, w.before ([.ref (ad 9), .int 3, .int p2, .int p3] : List Value).toArray s = true := fun w h => hts w (List.mem_cons_of_mem _ h)
  have hown : s.vm.findClass RX0 = some m.cls := findClass_of_methodNamed B.named
  have hlocks := B.notSynchronized
  have hS : va_S A s.heap s.heap [] := va_S.rf
  have hP : va_P D vwCl (CW cs ad fa fq rv v a w fv fp) s.heap := hP
  have hl := lv_entry ([.ref (ad 9), .int 3, .int p2, .int p3]) (n := 4) (Nat.le_of_ble_eq_true rfl)
  rw [lg_entry_eq]
  generalize (lg_sl ([.ref (ad 9), .int 3, .int p2, .int p3]) ++ List.replicate (4 - (lg_sl ([.ref (ad 9), .int 3, .int p2, .int p3])).length) Slot.unset).toArray = ls at hl ⊢
  have hl : lv_has ls 4 [(0, .ref (ad 9)), (1, .int 3), (2, .int p2), (3, .int p3)] := hl
  refine lv_aload_n hx hb dX0_self_0 rfl (lv_at hl 0 rfl) ?_
  refine lv_aload_n hx hb dX0_self_1 rfl (lv_at hl 0 rfl) ?_
  refine gf_acts_kind hx hb hg hown hK hP rfl (hg _ q1_83) dX0_self_2 ?_
  refine lv_aload_n hx hb dX0_self_5 rfl (lv_at hl 0 rfl) ?_
  refine gf_acts_number hx hb hg hown hK hP (x := (v 23)) rfl (hg _ q1_90) dX0_self_6 ?_
  refine ld_Akind hx hb hK hP (i_in (by omega) (by omega)) dX0_self_9 ?_
  refine lv_topi (fun x_1 ex_1 => ?_)
  have ex_1 : x_1 = (a 37) (v 23).toNatClampNeg := ex_1
  have hx_1 : x_1.toInt = ((a 37) (v 23).toNatClampNeg).toInt := by rw [ex_1]
  have bx_1 := ia37_0 (v 23).toNatClampNeg
  rw [← ex_1] at bx_1
  have fx_1 : x_1 = 3 := by rw [ex_1]; exact hkn
  subst fx_1
  refine lv_iload_n hx hb dX0_self_10 rfl (lv_at hl 1 rfl) ?_
  refine lv_iload_n hx hb dX0_self_11 rfl (lv_at hl 2 rfl) ?_
  refine lv_iload_n hx hb dX0_self_12 rfl (lv_at hl 3 rfl) ?_
  refine cV_i (As := [.int 3, .int 3, .int p2, .int p3]) (rest := []) ⟨hx, hb, hml, hown, hg⟩ (k_F_3_3_3 l D cs A ad fa fq rv v a w fv fp  p2 p3 hkn (show 0 ≤ (v 22).toInt by first | omega | decide) (show (v 22).toInt ≤ 17 by first | omega | decide) (show 0 ≤ p3.toInt by first | omega | decide) (show p3.toInt ≤ 33 by first | omega | decide) (show 0 ≤ (v 22).toInt by first | omega | decide) (show (v 22).toInt ≤ 1000 by first | omega | decide) (show 0 ≤ (v 23).toInt by first | omega | decide) (show (v 23).toInt ≤ 49 by first | omega | decide) ia37_0) ca_X0_from q4_139 ⟨rfl, rfl⟩ ⟨Nat.le_of_ble_eq_true rfl, Nat.le_of_ble_eq_true rfl⟩ (rc_acts hK hP) hK hP hD hS hZ rfl hl.1 rfl (Nat.le_of_ble_eq_true rfl) ⟨Nat.zero_le _, Nat.zero_le _⟩ dX0_self_13 (fun r_2 z_5 H locs wr_2 hP hD hS => ?_)
  obtain ⟨o_v22_3, o_a38_4⟩ := z_5
  have hP : va_P D vwCl (CW cs ad fa fq rv (va_up v 22 o_v22_3) (va_up a 38 o_a38_4) w fv fp) H := hP
  have hD : va_D A (CW cs ad fa fq rv (va_up v 22 o_v22_3) (va_up a 38 o_a38_4) w fv fp) := hD
  obtain ⟨wr_2_0, wr_2_1, wr_2_2, wr_2_3, wr_2_4⟩ : (o_v22_3.toInt = (v 22).toInt + 7) ∧ (o_a38_4 = TRW (a 38) (v 22).toInt.toNat [2, 41, 30, 10, 1, 40, 11]) ∧ (r_2 = ((-(((p2 + 1) + (v 23)) * 2)) - (((1 : Int32) ^^^ (v 23)) * 3))) ∧ (0 ≤ o_v22_3.toInt) ∧ (o_v22_3.toInt ≤ 1000) := wr_2
  have kt_6 : o_a38_4 = TRW (a 38) (v 22).toInt.toNat [2, 41, 30, 10, 1, 40, 11] := by rw [wr_2_1]
  exact W.iret (v := r_2) hx hb hr (fun tt ht hW => ⟨⟨r_2, ⟨o_v22_3, o_a38_4⟩, rfl, ⟨(by first | rfl | omega | trivial | assumption | (dsimp only; first | omega | assumption)), (by (try dsimp only); first | assumption | rfl), (by simp only [wr_2_2]), (show 0 ≤ o_v22_3.toInt by first | omega | assumption), (show o_v22_3.toInt ≤ 1000 by first | omega | assumption)⟩, by rw [ht]; exact hP, hD⟩, hS.F ht⟩) hS.2.2 dX0_self_16
set_option maxHeartbeats 4000000 in
set_option maxRecDepth 100000 in
theorem k_F_x_4_0 (l : Launch) (D : va_G) (cs : Nat → ClassId) (A : Nat → Prop) (ad fa fq rv : Nat → Nat) (v : Nat → Int32) (a : Nat → Nat → Int32) (w : Nat → Nat → Int64) (fv fp : Nat → Nat → Int32)  (p3 : Int32) (p4 : Int32) (hr0 : 0 ≤ (v 22).toInt) (hr1 : (v 22).toInt ≤ 22) (hd0 : 0 ≤ p4.toInt) (hd1 : p4.toInt ≤ 36) (iv22_0 : 0 ≤ (v 22).toInt) (iv22_1 : (v 22).toInt ≤ 1000) (iv23_0 : 0 ≤ (v 23).toInt) (iv23_1 : (v 23).toInt ≤ 49) : Met l yX0_from (Cond.code yX0_from cX0_from 8 (some .int) :: gw) ({ frames := 3, cells := 0, slots := 0, locals := 73 }) (va_Pc [.ref (ad 9), .int 4, .int 0, .int p3, .int p4] (XPre D (TY cs) (CW cs ad fa fq rv v a w fv fp) A)) (va_Qi (fun (r : Int32) (z : Int32 × (Nat → Int32)) => (z.1.toInt = (v 22).toInt + 2) ∧ (z.2 = TRW (a 38) (v 22).toInt.toNat [20, 1]) ∧ (r = ((p3 + (v 23)) + 3)) ∧ (0 ≤ z.1.toInt) ∧ (z.1.toInt ≤ 1000)) (XPo D (fun (z : Int32 × (Nat → Int32)) => CW cs ad fa fq rv (va_up v 22 z.1) (va_up a 38 z.2) w fv fp) A) A) 0 0 A := by
  refine Met.ofW (cc := cX0_from) (maxL := 8) (ret := (some .int)) (by decide) rfl ?_
  intro p e s m args below meth c s₁ B hml hv
  obtain ⟨rfl, hP, hK, hD, hZ⟩ := hv
  have hx := B.exec
  have hb := B.bytes
  have hr := B.returns
  have hts := atoms_spec (ws := (Cond.code yX0_from cX0_from 8 (some .int) :: gw)) B.pre
  have hg : ∀ w ∈ gw, w.before ([.ref (ad 9), .int 4, .int 0, .int p3, .int p4] : List Value).toArray s = true := fun w h => hts w (List.mem_cons_of_mem _ h)
  have hown : s.vm.findClass RX0 = some m.cls := findClass_of_methodNamed B.named
  have hlocks := B.notSynchronized
  have hS : va_S A s.heap s.heap [] := va_S.rf
  have hP : va_P D vwCl (CW cs ad fa fq rv v a w fv fp) s.heap := hP
  have hl := lv_entry ([.ref (ad 9), .int 4, .int 0, .int p3, .int p4]) (n := 8) (Nat.le_of_ble_eq_true rfl)
  rw [lg_entry_eq]
  generalize (lg_sl ([.ref (ad 9), .int 4, .int 0, .int p3, .int p4]) ++ List.replicate (8 - (lg_sl ([.ref (ad 9), .int 4, .int 0, .int p3, .int p4])).length) Slot.unset).toArray = ls at hl ⊢
  have hl : lv_has ls 8 [(0, .ref (ad 9)), (1, .int 4), (2, .int 0), (3, .int p3), (4, .int p4)] := hl
  refine lv_iload_n hx hb dX0_from_0 rfl (lv_at hl 1 rfl) ?_
  refine lv_istore (lv' := [(5, .int 4), (0, .ref (ad 9)), (1, .int 4), (2, .int 0), (3, .int p3), (4, .int p4)]) hx hb dX0_from_1 hl (by decide) rfl (fun ls hl => ?_)
  refine lv_iconst (v := 0) hx hb dX0_from_3 (by decide) ?_
  refine lv_istore (lv' := [(6, .int 0), (5, .int 4), (0, .ref (ad 9)), (1, .int 4), (2, .int 0), (3, .int p3), (4, .int p4)]) hx hb dX0_from_4 hl (by decide) rfl (fun ls hl => ?_)
  refine lv_iload hx hb dX0_from_6 (lv_at hl 0 rfl) ?_
  obtain ⟨t0, t1, t2, ⟨a0, b0⟩, ⟨a1, b1⟩, ⟨a2, b2⟩⟩ := id hZ
  refine va_gets hx hb a2 hS hown (hg _ q4_143) (fun _ h9 => h9) dX0_from_8 ?_
  refine va_tlen hx hb b2 hS (v := 8) rfl dX0_from_11 ?_
  refine lv_icmp_ge (tgt := 73) hx hb dX0_from_12 (by decide) (fun c_1 => absurd c_1 (by decide)) (fun c_1 => ?_)
  refine lv_iload hx hb dX0_from_15 (lv_at hl 1 rfl) ?_
  refine cS_p (As := [.int 4]) (rest := []) ⟨hx, hb, hml, hown, hg⟩ (k_IK_5 l    ) ca_X0_isKind q4_145 ⟨rfl, rfl⟩ ⟨Nat.le_of_ble_eq_true rfl, Nat.le_of_ble_eq_true rfl⟩ rfl hl.1 rfl (Nat.le_of_ble_eq_true rfl) ⟨Nat.zero_le _, Nat.zero_le _⟩ dX0_from_17 (fun r_2 wr_2 => ?_)
  have wr_2 : r_2.toInt = 1 := wr_2
  refine lv_if_eq (tgt := 73) hx hb dX0_from_20 (by decide) (fun c_3 => ?_) (fun c_3 => ?_)
  ·
    have kc_3 : r_2.toInt = (0 : Int) := i_eq c_3
    exfalso; omega
  ·
    have kc_3 : r_2.toInt ≠ (0 : Int) := i_ne c_3
    refine lv_iload hx hb dX0_from_23 (lv_at hl 1 rfl) ?_
    refine lv_iload_n hx hb dX0_from_25 rfl (lv_at hl 4 rfl) ?_
    refine cS_p (As := [.int 4, .int 0]) (rest := []) ⟨hx, hb, hml, hown, hg⟩ (k_B_4_0 l    ) ca_X0_bodyOf q4_146 ⟨rfl, rfl⟩ ⟨Nat.le_of_ble_eq_true rfl, Nat.le_of_ble_eq_true rfl⟩ rfl hl.1 rfl (Nat.le_of_ble_eq_true rfl) ⟨Nat.zero_le _, Nat.zero_le _⟩ dX0_from_26 (fun r_4 wr_4 => ?_)
    have wr_4 : r_4.toInt = 0 := wr_4
    have el_5 : r_4 = 0 := i_inj (wr_4.trans (by rfl))
    subst el_5
    refine lv_istore (lv' := [(7, .int 0), (6, .int 0), (5, .int 4), (0, .ref (ad 9)), (1, .int 4), (2, .int 0), (3, .int p3), (4, .int p4)]) hx hb dX0_from_29 hl (by decide) rfl (fun ls hl => ?_)
    refine lv_iload hx hb dX0_from_31 (lv_at hl 0 rfl) ?_
    refine lv_if_eq (tgt := 59) hx hb dX0_from_33 (by decide) (fun c_6 => ?_) (fun c_6 => absurd c_6 (by decide))
    obtain ⟨t0, t1, t2, ⟨a0, b0⟩, ⟨a1, b1⟩, ⟨a2, b2⟩⟩ := id hZ
    refine va_gets hx hb a2 hS hown (hg _ q4_143) (fun _ h9 => h9) dX0_from_59 ?_
    refine lv_iload hx hb dX0_from_62 (lv_at hl 2 rfl) ?_
    refine va_ti hx hb b2 hS (i_in (by decide) (by decide)) (v := .int 1) rfl dX0_from_64 ?_
    refine lv_istore (lv' := [(5, .int 1), (7, .int 0), (6, .int 0), (0, .ref (ad 9)), (1, .int 4), (2, .int 0), (3, .int p3), (4, .int p4)]) hx hb dX0_from_65 hl (by decide) rfl (fun ls hl => ?_)
    obtain ⟨x_7, ex_7⟩ : ∃ y : Int32, y = 0 + 1 := ⟨_, rfl⟩
    have fx_7 : x_7.toInt = (0 : Int) + 1 := by rw [ex_7]; exact i_add (by first | omega | (show (_ : Int) ≤ (0 : Int) + 1; omega)) (by first | omega | (show (0 : Int) + 1 ≤ (_ : Int); omega))
    refine lv_iinc (v := x_7) (lv' := [(6, .int x_7), (5, .int 1), (7, .int 0), (0, .ref (ad 9)), (1, .int 4), (2, .int 0), (3, .int p3), (4, .int p4)]) hx hb dX0_from_67 hl (k := 2) rfl (by rw [ex_7]; rfl) (by decide) rfl (fun ls hl => ?_)
    refine lv_goto (tgt := 6) hx hb dX0_from_70 (by decide) ?_
    refine lv_iload hx hb dX0_from_6 (lv_at hl 0 rfl) ?_
    obtain ⟨t0, t1, t2, ⟨a0, b0⟩, ⟨a1, b1⟩, ⟨a2, b2⟩⟩ := id hZ
    refine va_gets hx hb a2 hS hown (hg _ q4_143) (fun _ h9 => h9) dX0_from_8 ?_
    refine va_tlen hx hb b2 hS (v := 8) rfl dX0_from_11 ?_
    refine lv_icmp_ge (tgt := 73) hx hb dX0_from_12 (by decide) (fun c_8 => ?_) (fun c_8 => ?_)
    ·
      have kc_8 : (8 : Int) ≤ x_7.toInt := i_le c_8
      exfalso; omega
    ·
      have kc_8 : x_7.toInt < (8 : Int) := i_nle c_8
      refine lv_iload hx hb dX0_from_15 (lv_at hl 1 rfl) ?_
      refine cS_p (As := [.int 1]) (rest := []) ⟨hx, hb, hml, hown, hg⟩ (k_IK_2 l    ) ca_X0_isKind q4_145 ⟨rfl, rfl⟩ ⟨Nat.le_of_ble_eq_true rfl, Nat.le_of_ble_eq_true rfl⟩ rfl hl.1 rfl (Nat.le_of_ble_eq_true rfl) ⟨Nat.zero_le _, Nat.zero_le _⟩ dX0_from_17 (fun r_9 wr_9 => ?_)
      have wr_9 : r_9.toInt = 1 := wr_9
      refine lv_if_eq (tgt := 73) hx hb dX0_from_20 (by decide) (fun c_10 => ?_) (fun c_10 => ?_)
      ·
        have kc_10 : r_9.toInt = (0 : Int) := i_eq c_10
        exfalso; omega
      ·
        have kc_10 : r_9.toInt ≠ (0 : Int) := i_ne c_10
        refine lv_iload hx hb dX0_from_23 (lv_at hl 1 rfl) ?_
        refine lv_iload_n hx hb dX0_from_25 rfl (lv_at hl 5 rfl) ?_
        refine cS_p (As := [.int 1, .int 0]) (rest := []) ⟨hx, hb, hml, hown, hg⟩ (k_B_1_0 l    ) ca_X0_bodyOf q4_146 ⟨rfl, rfl⟩ ⟨Nat.le_of_ble_eq_true rfl, Nat.le_of_ble_eq_true rfl⟩ rfl hl.1 rfl (Nat.le_of_ble_eq_true rfl) ⟨Nat.zero_le _, Nat.zero_le _⟩ dX0_from_26 (fun r_11 wr_11 => ?_)
        have wr_11 : r_11.toInt = 20 := wr_11
        have el_12 : r_11 = 20 := i_inj (wr_11.trans (by rfl))
        subst el_12
        refine lv_istore (lv' := [(7, .int 20), (6, .int x_7), (5, .int 1), (0, .ref (ad 9)), (1, .int 4), (2, .int 0), (3, .int p3), (4, .int p4)]) hx hb dX0_from_29 hl (by decide) rfl (fun ls hl => ?_)
        refine lv_iload hx hb dX0_from_31 (lv_at hl 0 rfl) ?_
        refine lv_if_eq (tgt := 59) hx hb dX0_from_33 (by decide) (fun c_13 => absurd c_13 (by decide)) (fun c_13 => ?_)
        refine lv_iload hx hb dX0_from_36 (lv_at hl 7 rfl) ?_
        refine lv_bipush (v := 40) hx hb dX0_from_38 (by decide) ?_
        refine lv_icmp_ge (tgt := 57) hx hb dX0_from_40 (by decide) (fun c_14 => ?_) (fun c_14 => ?_)
        ·
          have kc_14 : (40 : Int) ≤ p4.toInt := i_le c_14
          exfalso; omega
        ·
          have kc_14 : p4.toInt < (40 : Int) := i_nle c_14
          refine lv_aload_n hx hb dX0_from_43 rfl (lv_at hl 3 rfl) ?_
          refine lv_iload hx hb dX0_from_44 (lv_at hl 0 rfl) ?_
          refine lv_iload_n hx hb dX0_from_46 rfl (lv_at hl 6 rfl) ?_
          refine lv_iload hx hb dX0_from_47 (lv_at hl 7 rfl) ?_
          refine lv_iconst (v := 1) hx hb dX0_from_49 (by decide) ?_
          refine lv_iadd hx hb dX0_from_50 ?_
          refine lv_topi (fun x_15 ex_15 => ?_)
          have fx_15 : x_15.toInt = p4.toInt + (1 : Int) := by rw [ex_15]; exact i_add (by first | omega | (show (_ : Int) ≤ p4.toInt + (1 : Int); omega)) (by first | omega | (show p4.toInt + (1 : Int) ≤ (_ : Int); omega))
          refine cV_i (As := [.int 20, .int p3, .int x_15]) (rest := []) ⟨hx, hb, hml, hown, hg⟩ (k_R_x_20 l D cs A ad fa fq rv v a w fv fp  p3 x_15 (show 0 ≤ (v 22).toInt by first | omega | decide) (show (v 22).toInt ≤ 22 by first | omega | decide) (show 0 ≤ x_15.toInt by first | omega | decide) (show x_15.toInt ≤ 37 by first | omega | decide) (show 0 ≤ (v 22).toInt by first | omega | decide) (show (v 22).toInt ≤ 1000 by first | omega | decide) (show 0 ≤ (v 23).toInt by first | omega | decide) (show (v 23).toInt ≤ 49 by first | omega | decide)) ca_X0_run q4_149 ⟨rfl, rfl⟩ ⟨Nat.le_of_ble_eq_true rfl, Nat.le_of_ble_eq_true rfl⟩ (rc_acts hK hP) hK hP hD hS hZ rfl hl.1 rfl (Nat.le_of_ble_eq_true rfl) ⟨Nat.zero_le _, Nat.zero_le _⟩ dX0_from_51 (fun r_16 z_19 H locs wr_16 hP hD hS => ?_)
          obtain ⟨o_v22_17, o_a38_18⟩ := z_19
          have hP : va_P D vwCl (CW cs ad fa fq rv (va_up v 22 o_v22_17) (va_up a 38 o_a38_18) w fv fp) H := hP
          have hD : va_D A (CW cs ad fa fq rv (va_up v 22 o_v22_17) (va_up a 38 o_a38_18) w fv fp) := hD
          obtain ⟨wr_16_0, wr_16_1, wr_16_2, wr_16_3, wr_16_4⟩ : (o_v22_17.toInt = (v 22).toInt + 2) ∧ (o_a38_18 = TRW (a 38) (v 22).toInt.toNat [20, 1]) ∧ (r_16 = ((p3 + (v 23)) + 3)) ∧ (0 ≤ o_v22_17.toInt) ∧ (o_v22_17.toInt ≤ 1000) := wr_16
          have kt_20 : o_a38_18 = TRW (a 38) (v 22).toInt.toNat [20, 1] := by rw [wr_16_1]
          refine lv_goto (tgt := 58) hx hb dX0_from_54 (by decide) ?_
          exact W.iret (v := r_16) hx hb hr (fun tt ht hW => ⟨⟨r_16, ⟨o_v22_17, o_a38_18⟩, rfl, ⟨(by first | rfl | omega | trivial | assumption | (dsimp only; first | omega | assumption)), (by (try dsimp only); first | assumption | rfl), (by simp only [wr_16_2, ex_15]), (show 0 ≤ o_v22_17.toInt by first | omega | assumption), (show o_v22_17.toInt ≤ 1000 by first | omega | assumption)⟩, by rw [ht]; exact hP, hD⟩, hS.F ht⟩) hS.2.2 dX0_from_58
set_option maxHeartbeats 4000000 in
set_option maxRecDepth 100000 in
theorem k_S_4_0 (l : Launch) (D : va_G) (cs : Nat → ClassId) (A : Nat → Prop) (ad fa fq rv : Nat → Nat) (v : Nat → Int32) (a : Nat → Nat → Int32) (w : Nat → Nat → Int64) (fv fp : Nat → Nat → Int32)  (p2 : Int32) (p3 : Int32) (hkn : (a 37) (v 23).toNatClampNeg = 4) (hr0 : 0 ≤ (v 22).toInt) (hr1 : (v 22).toInt ≤ 22) (hd0 : 0 ≤ p3.toInt) (hd1 : p3.toInt ≤ 36) (iv23_0 : 0 ≤ (v 23).toInt) (iv23_1 : (v 23).toInt ≤ 49) (ia37_0 : AB 0 7 (a 37)) (iv22_0 : 0 ≤ (v 22).toInt) (iv22_1 : (v 22).toInt ≤ 1000) : Met l yX0_self (Cond.code yX0_self cX0_self 4 (some .int) :: gw) ({ frames := 4, cells := 0, slots := 0, locals := 100 }) (va_Pc [.ref (ad 9), .int 0, .int p2, .int p3] (XPre D (TY cs) (CW cs ad fa fq rv v a w fv fp) A)) (va_Qi (fun (r : Int32) (z : Int32 × (Nat → Int32)) => (z.1.toInt = (v 22).toInt + 2) ∧ (z.2 = TRW (a 38) (v 22).toInt.toNat [20, 1]) ∧ (r = ((p2 + (v 23)) + 3)) ∧ (0 ≤ z.1.toInt) ∧ (z.1.toInt ≤ 1000)) (XPo D (fun (z : Int32 × (Nat → Int32)) => CW cs ad fa fq rv (va_up v 22 z.1) (va_up a 38 z.2) w fv fp) A) A) 0 0 A := by
  refine Met.ofW (cc := cX0_self) (maxL := 4) (ret := (some .int)) (by decide) rfl ?_
  intro p e s m args below meth c s₁ B hml hv
  obtain ⟨rfl, hP, hK, hD, hZ⟩ := hv
  have hx := B.exec
  have hb := B.bytes
  have hr := B.returns
  have hts := atoms_spec (ws := (Cond.code yX0_self cX0_self 4 (some .int) :: gw)) B.pre
  have hg : ∀ w ∈ gw, w.before ([.ref (ad 9), .int 0, .int p2, .int p3] : List Value).toArray s = true := fun w h => hts w (List.mem_cons_of_mem _ h)
  have hown : s.vm.findClass RX0 = some m.cls := findClass_of_methodNamed B.named
  have hlocks := B.notSynchronized
  have hS : va_S A s.heap s.heap [] := va_S.rf
  have hP : va_P D vwCl (CW cs ad fa fq rv v a w fv fp) s.heap := hP
  have hl := lv_entry ([.ref (ad 9), .int 0, .int p2, .int p3]) (n := 4) (Nat.le_of_ble_eq_true rfl)
  rw [lg_entry_eq]
  generalize (lg_sl ([.ref (ad 9), .int 0, .int p2, .int p3]) ++ List.replicate (4 - (lg_sl ([.ref (ad 9), .int 0, .int p2, .int p3])).length) Slot.unset).toArray = ls at hl ⊢
  have hl : lv_has ls 4 [(0, .ref (ad 9)), (1, .int 0), (2, .int p2), (3, .int p3)] := hl
  refine lv_aload_n hx hb dX0_self_0 rfl (lv_at hl 0 rfl) ?_
  refine lv_aload_n hx hb dX0_self_1 rfl (lv_at hl 0 rfl) ?_
  refine gf_acts_kind hx hb hg hown hK hP rfl (hg _ q1_83) dX0_self_2 ?_
  refine lv_aload_n hx hb dX0_self_5 rfl (lv_at hl 0 rfl) ?_
  refine gf_acts_number hx hb hg hown hK hP (x := (v 23)) rfl (hg _ q1_90) dX0_self_6 ?_
  refine ld_Akind hx hb hK hP (i_in (by omega) (by omega)) dX0_self_9 ?_
  refine lv_topi (fun x_1 ex_1 => ?_)
  have ex_1 : x_1 = (a 37) (v 23).toNatClampNeg := ex_1
  have hx_1 : x_1.toInt = ((a 37) (v 23).toNatClampNeg).toInt := by rw [ex_1]
  have bx_1 := ia37_0 (v 23).toNatClampNeg
  rw [← ex_1] at bx_1
  have fx_1 : x_1 = 4 := by rw [ex_1]; exact hkn
  subst fx_1
  refine lv_iload_n hx hb dX0_self_10 rfl (lv_at hl 1 rfl) ?_
  refine lv_iload_n hx hb dX0_self_11 rfl (lv_at hl 2 rfl) ?_
  refine lv_iload_n hx hb dX0_self_12 rfl (lv_at hl 3 rfl) ?_
  refine cV_i (As := [.int 4, .int 0, .int p2, .int p3]) (rest := []) ⟨hx, hb, hml, hown, hg⟩ (k_F_x_4_0 l D cs A ad fa fq rv v a w fv fp  p2 p3 (show 0 ≤ (v 22).toInt by first | omega | decide) (show (v 22).toInt ≤ 22 by first | omega | decide) (show 0 ≤ p3.toInt by first | omega | decide) (show p3.toInt ≤ 36 by first | omega | decide) (show 0 ≤ (v 22).toInt by first | omega | decide) (show (v 22).toInt ≤ 1000 by first | omega | decide) (show 0 ≤ (v 23).toInt by first | omega | decide) (show (v 23).toInt ≤ 49 by first | omega | decide)) ca_X0_from q4_139 ⟨rfl, rfl⟩ ⟨Nat.le_of_ble_eq_true rfl, Nat.le_of_ble_eq_true rfl⟩ (rc_acts hK hP) hK hP hD hS hZ rfl hl.1 rfl (Nat.le_of_ble_eq_true rfl) ⟨Nat.zero_le _, Nat.zero_le _⟩ dX0_self_13 (fun r_2 z_5 H locs wr_2 hP hD hS => ?_)
  obtain ⟨o_v22_3, o_a38_4⟩ := z_5
  have hP : va_P D vwCl (CW cs ad fa fq rv (va_up v 22 o_v22_3) (va_up a 38 o_a38_4) w fv fp) H := hP
  have hD : va_D A (CW cs ad fa fq rv (va_up v 22 o_v22_3) (va_up a 38 o_a38_4) w fv fp) := hD
  obtain ⟨wr_2_0, wr_2_1, wr_2_2, wr_2_3, wr_2_4⟩ : (o_v22_3.toInt = (v 22).toInt + 2) ∧ (o_a38_4 = TRW (a 38) (v 22).toInt.toNat [20, 1]) ∧ (r_2 = ((p2 + (v 23)) + 3)) ∧ (0 ≤ o_v22_3.toInt) ∧ (o_v22_3.toInt ≤ 1000) := wr_2
  have kt_6 : o_a38_4 = TRW (a 38) (v 22).toInt.toNat [20, 1] := by rw [wr_2_1]
  exact W.iret (v := r_2) hx hb hr (fun tt ht hW => ⟨⟨r_2, ⟨o_v22_3, o_a38_4⟩, rfl, ⟨(by first | rfl | omega | trivial | assumption | (dsimp only; first | omega | assumption)), (by (try dsimp only); first | assumption | rfl), (by simp only [wr_2_2]), (show 0 ≤ o_v22_3.toInt by first | omega | assumption), (show o_v22_3.toInt ≤ 1000 by first | omega | assumption)⟩, by rw [ht]; exact hP, hD⟩, hS.F ht⟩) hS.2.2 dX0_self_16
set_option maxHeartbeats 4000000 in
set_option maxRecDepth 100000 in
theorem k_R_4_10 (l : Launch) (D : va_G) (cs : Nat → ClassId) (A : Nat → Prop) (ad fa fq rv : Nat → Nat) (v : Nat → Int32) (a : Nat → Nat → Int32) (w : Nat → Nat → Int64) (fv fp : Nat → Nat → Int32)  (p2 : Int32) (p3 : Int32) (hkn : (a 37) (v 23).toNatClampNeg = 4) (hr0 : 0 ≤ (v 22).toInt) (hr1 : (v 22).toInt ≤ 21) (hd0 : 0 ≤ p3.toInt) (hd1 : p3.toInt ≤ 36) (iv22_0 : 0 ≤ (v 22).toInt) (iv22_1 : (v 22).toInt ≤ 1000) (iv23_0 : 0 ≤ (v 23).toInt) (iv23_1 : (v 23).toInt ≤ 49) (ia37_0 : AB 0 7 (a 37)) : Met l yX0_run (Cond.code yX0_run cX0_run 4 (some .int) :: gw) ({ frames := 5, cells := 0, slots := 0, locals := 123 }) (va_Pc [.ref (ad 9), .int 10, .int p2, .int p3] (XPre D (TY cs) (CW cs ad fa fq rv v a w fv fp) A)) (va_Qi (fun (r : Int32) (z : Int32 × (Nat → Int32)) => (z.1.toInt = (v 22).toInt + 3) ∧ (z.2 = TRW (a 38) (v 22).toInt.toNat [10, 20, 1]) ∧ (r = (((p2 + (v 23)) + 3) * 2)) ∧ (0 ≤ z.1.toInt) ∧ (z.1.toInt ≤ 1000)) (XPo D (fun (z : Int32 × (Nat → Int32)) => CW cs ad fa fq rv (va_up v 22 z.1) (va_up a 38 z.2) w fv fp) A) A) 0 0 A := by
  refine Met.ofW (cc := cX0_run) (maxL := 4) (ret := (some .int)) (by decide) rfl ?_
  intro p e s m args below meth c s₁ B hml hv
  obtain ⟨rfl, hP, hK, hD, hZ⟩ := hv
  have hx := B.exec
  have hb := B.bytes
  have hr := B.returns
  have hts := atoms_spec (ws := (Cond.code yX0_run cX0_run 4 (some .int) :: gw)) B.pre
  have hg : ∀ w ∈ gw, w.before ([.ref (ad 9), .int 10, .int p2, .int p3] : List Value).toArray s = true := fun w h => hts w (List.mem_cons_of_mem _ h)
  have hown : s.vm.findClass RX0 = some m.cls := findClass_of_methodNamed B.named
  have hlocks := B.notSynchronized
  have hS : va_S A s.heap s.heap [] := va_S.rf
  have hP : va_P D vwCl (CW cs ad fa fq rv v a w fv fp) s.heap := hP
  have hl := lv_entry ([.ref (ad 9), .int 10, .int p2, .int p3]) (n := 4) (Nat.le_of_ble_eq_true rfl)
  rw [lg_entry_eq]
  generalize (lg_sl ([.ref (ad 9), .int 10, .int p2, .int p3]) ++ List.replicate (4 - (lg_sl ([.ref (ad 9), .int 10, .int p2, .int p3])).length) Slot.unset).toArray = ls at hl ⊢
  have hl : lv_has ls 4 [(0, .ref (ad 9)), (1, .int 10), (2, .int p2), (3, .int p3)] := hl
  refine lv_aload_n hx hb dX0_run_0 rfl (lv_at hl 0 rfl) ?_
  refine gf_acts_ran hx hb hg hown hK hP (x := (v 22)) rfl (hg _ q1_88) dX0_run_1 ?_
  refine lv_bipush (v := 24) hx hb dX0_run_4 (by decide) ?_
  refine lv_icmp_ge (tgt := 19) hx hb dX0_run_6 (by decide) (fun c_1 => ?_) (fun c_1 => ?_)
  ·
    have kc_1 : (24 : Int) ≤ (v 22).toInt := i_le c_1
    exfalso; omega
  ·
    have kc_1 : (v 22).toInt < (24 : Int) := i_nle c_1
    refine lv_aload_n hx hb dX0_run_9 rfl (lv_at hl 0 rfl) ?_
    refine gf_acts_traced hx hb hg hown hK hP rfl (hg _ q1_86) dX0_run_10 ?_
    refine lv_aload_n hx hb dX0_run_13 rfl (lv_at hl 0 rfl) ?_
    refine gf_acts_ran hx hb hg hown hK hP (x := (v 22)) rfl (hg _ q1_88) dX0_run_14 ?_
    refine lv_iload_n hx hb dX0_run_17 rfl (lv_at hl 1 rfl) ?_
    refine st_Atraced hx hb hK hP hD hS (i_in (by omega) (by omega)) dX0_run_18 (fun H locs hP hD hS => ?_)
    refine lv_aload_n hx hb dX0_run_19 rfl (lv_at hl 0 rfl) ?_
    refine lv_dup hx hb dX0_run_20 rfl ?_
    refine gf_acts_ran hx hb hg hown hK hP (x := (v 22)) rfl (hg _ q1_88) dX0_run_21 ?_
    refine lv_iconst (v := 1) hx hb dX0_run_24 (by decide) ?_
    refine lv_iadd hx hb dX0_run_25 ?_
    refine lv_topi (fun x_2 ex_2 => ?_)
    have fx_2 : x_2.toInt = (v 22).toInt + (1 : Int) := by rw [ex_2]; exact i_add (by first | omega | (show (_ : Int) ≤ (v 22).toInt + (1 : Int); omega)) (by first | omega | (show (v 22).toInt + (1 : Int) ≤ (_ : Int); omega))
    refine pf_acts_ran hx hb hg hown hK hP hD hS (hg _ q1_88) dX0_run_26 (fun H locs hP hD hS => ?_)
    refine lv_iload_n hx hb dX0_run_29 rfl (lv_at hl 1 rfl) ?_
    refine lv_lookup (tgt := 175) hx hb dX0_run_30 (by decide) (off := 145) (by decide) (by decide) ?_
    refine lv_aload_n hx hb dX0_run_175 rfl (lv_at hl 0 rfl) ?_
    refine lv_iconst (v := 0) hx hb dX0_run_176 (by decide) ?_
    refine lv_iload_n hx hb dX0_run_177 rfl (lv_at hl 2 rfl) ?_
    refine lv_iload_n hx hb dX0_run_178 rfl (lv_at hl 3 rfl) ?_
    refine cV_i (As := [.int 0, .int p2, .int p3]) (rest := []) ⟨hx, hb, hml, hown, hg⟩ (k_S_4_0 l D cs A ad fa fq rv (va_up v 22 x_2) (va_up a 38 (upd (a 38) (v 22).toNatClampNeg 10)) w fv fp  p2 p3 hkn (show 0 ≤ x_2.toInt by first | omega | decide) (show x_2.toInt ≤ 22 by first | omega | decide) (show 0 ≤ p3.toInt by first | omega | decide) (show p3.toInt ≤ 36 by first | omega | decide) (show 0 ≤ (v 23).toInt by first | omega | decide) (show (v 23).toInt ≤ 49 by first | omega | decide) ia37_0 (show 0 ≤ x_2.toInt by first | omega | decide) (show x_2.toInt ≤ 1000 by first | omega | decide)) ca_X0_self q4_135 ⟨rfl, rfl⟩ ⟨Nat.le_of_ble_eq_true rfl, Nat.le_of_ble_eq_true rfl⟩ (rc_acts hK hP) hK hP hD hS hZ rfl hl.1 rfl (Nat.le_of_ble_eq_true rfl) ⟨Nat.zero_le _, Nat.zero_le _⟩ dX0_run_179 (fun r_4 z_7 H locs wr_4 hP hD hS => ?_)
    obtain ⟨o_v22_5, o_a38_6⟩ := z_7
    have hP : va_P D vwCl (CW cs ad fa fq rv (va_up v 22 o_v22_5) (va_up a 38 o_a38_6) w fv fp) H := hP
    have hD : va_D A (CW cs ad fa fq rv (va_up v 22 o_v22_5) (va_up a 38 o_a38_6) w fv fp) := hD
    obtain ⟨wr_4_0, wr_4_1, wr_4_2, wr_4_3, wr_4_4⟩ : (o_v22_5.toInt = x_2.toInt + 2) ∧ (o_a38_6 = TRW (upd (a 38) (v 22).toNatClampNeg 10) x_2.toInt.toNat [20, 1]) ∧ (r_4 = ((p2 + (v 23)) + 3)) ∧ (0 ≤ o_v22_5.toInt) ∧ (o_v22_5.toInt ≤ 1000) := wr_4
    have kt_8 : o_a38_6 = TRW (a 38) (v 22).toInt.toNat [10, 20, 1] := by rw [wr_4_1, show (x_2).toInt.toNat = (v 22).toInt.toNat + 1 from by omega]; rfl
    refine lv_iconst (v := 2) hx hb dX0_run_182 (by decide) ?_
    refine lv_imul hx hb dX0_run_183 ?_
    refine lv_topi (fun x_9 ex_9 => ?_)
    exact W.iret (v := x_9) hx hb hr (fun tt ht hW => ⟨⟨x_9, ⟨o_v22_5, o_a38_6⟩, rfl, ⟨(by first | rfl | omega | trivial | assumption | (dsimp only; first | omega | assumption)), (by (try dsimp only); first | assumption | rfl), (by simp only [ex_9, wr_4_2, ex_2]), (show 0 ≤ o_v22_5.toInt by first | omega | assumption), (show o_v22_5.toInt ≤ 1000 by first | omega | assumption)⟩, by rw [ht]; exact hP, hD⟩, hS.F ht⟩) hS.2.2 dX0_run_184
set_option maxHeartbeats 4000000 in
set_option maxRecDepth 100000 in
theorem k_F_4_4_1 (l : Launch) (D : va_G) (cs : Nat → ClassId) (A : Nat → Prop) (ad fa fq rv : Nat → Nat) (v : Nat → Int32) (a : Nat → Nat → Int32) (w : Nat → Nat → Int64) (fv fp : Nat → Nat → Int32)  (p3 : Int32) (p4 : Int32) (hkn : (a 37) (v 23).toNatClampNeg = 4) (hr0 : 0 ≤ (v 22).toInt) (hr1 : (v 22).toInt ≤ 21) (hd0 : 0 ≤ p4.toInt) (hd1 : p4.toInt ≤ 35) (iv22_0 : 0 ≤ (v 22).toInt) (iv22_1 : (v 22).toInt ≤ 1000) (iv23_0 : 0 ≤ (v 23).toInt) (iv23_1 : (v 23).toInt ≤ 49) (ia37_0 : AB 0 7 (a 37)) : Met l yX0_from (Cond.code yX0_from cX0_from 8 (some .int) :: gw) ({ frames := 6, cells := 0, slots := 0, locals := 146 }) (va_Pc [.ref (ad 9), .int 4, .int 1, .int p3, .int p4] (XPre D (TY cs) (CW cs ad fa fq rv v a w fv fp) A)) (va_Qi (fun (r : Int32) (z : Int32 × (Nat → Int32)) => (z.1.toInt = (v 22).toInt + 3) ∧ (z.2 = TRW (a 38) (v 22).toInt.toNat [10, 20, 1]) ∧ (r = (((p3 + (v 23)) + 3) * 2)) ∧ (0 ≤ z.1.toInt) ∧ (z.1.toInt ≤ 1000)) (XPo D (fun (z : Int32 × (Nat → Int32)) => CW cs ad fa fq rv (va_up v 22 z.1) (va_up a 38 z.2) w fv fp) A) A) 0 0 A := by
  refine Met.ofW (cc := cX0_from) (maxL := 8) (ret := (some .int)) (by decide) rfl ?_
  intro p e s m args below meth c s₁ B hml hv
  obtain ⟨rfl, hP, hK, hD, hZ⟩ := hv
  have hx := B.exec
  have hb := B.bytes
  have hr := B.returns
  have hts := atoms_spec (ws := (Cond.code yX0_from cX0_from 8 (some .int) :: gw)) B.pre
  have hg : ∀ w ∈ gw, w.before ([.ref (ad 9), .int 4, .int 1, .int p3, .int p4] : List Value).toArray s = true := fun w h => hts w (List.mem_cons_of_mem _ h)
  have hown : s.vm.findClass RX0 = some m.cls := findClass_of_methodNamed B.named
  have hlocks := B.notSynchronized
  have hS : va_S A s.heap s.heap [] := va_S.rf
  have hP : va_P D vwCl (CW cs ad fa fq rv v a w fv fp) s.heap := hP
  have hl := lv_entry ([.ref (ad 9), .int 4, .int 1, .int p3, .int p4]) (n := 8) (Nat.le_of_ble_eq_true rfl)
  rw [lg_entry_eq]
  generalize (lg_sl ([.ref (ad 9), .int 4, .int 1, .int p3, .int p4]) ++ List.replicate (8 - (lg_sl ([.ref (ad 9), .int 4, .int 1, .int p3, .int p4])).length) Slot.unset).toArray = ls at hl ⊢
  have hl : lv_has ls 8 [(0, .ref (ad 9)), (1, .int 4), (2, .int 1), (3, .int p3), (4, .int p4)] := hl
  refine lv_iload_n hx hb dX0_from_0 rfl (lv_at hl 1 rfl) ?_
  refine lv_istore (lv' := [(5, .int 4), (0, .ref (ad 9)), (1, .int 4), (2, .int 1), (3, .int p3), (4, .int p4)]) hx hb dX0_from_1 hl (by decide) rfl (fun ls hl => ?_)
  refine lv_iconst (v := 0) hx hb dX0_from_3 (by decide) ?_
  refine lv_istore (lv' := [(6, .int 0), (5, .int 4), (0, .ref (ad 9)), (1, .int 4), (2, .int 1), (3, .int p3), (4, .int p4)]) hx hb dX0_from_4 hl (by decide) rfl (fun ls hl => ?_)
  refine lv_iload hx hb dX0_from_6 (lv_at hl 0 rfl) ?_
  obtain ⟨t0, t1, t2, ⟨a0, b0⟩, ⟨a1, b1⟩, ⟨a2, b2⟩⟩ := id hZ
  refine va_gets hx hb a2 hS hown (hg _ q4_143) (fun _ h9 => h9) dX0_from_8 ?_
  refine va_tlen hx hb b2 hS (v := 8) rfl dX0_from_11 ?_
  refine lv_icmp_ge (tgt := 73) hx hb dX0_from_12 (by decide) (fun c_1 => absurd c_1 (by decide)) (fun c_1 => ?_)
  refine lv_iload hx hb dX0_from_15 (lv_at hl 1 rfl) ?_
  refine cS_p (As := [.int 4]) (rest := []) ⟨hx, hb, hml, hown, hg⟩ (k_IK_5 l    ) ca_X0_isKind q4_145 ⟨rfl, rfl⟩ ⟨Nat.le_of_ble_eq_true rfl, Nat.le_of_ble_eq_true rfl⟩ rfl hl.1 rfl (Nat.le_of_ble_eq_true rfl) ⟨Nat.zero_le _, Nat.zero_le _⟩ dX0_from_17 (fun r_2 wr_2 => ?_)
  have wr_2 : r_2.toInt = 1 := wr_2
  refine lv_if_eq (tgt := 73) hx hb dX0_from_20 (by decide) (fun c_3 => ?_) (fun c_3 => ?_)
  ·
    have kc_3 : r_2.toInt = (0 : Int) := i_eq c_3
    exfalso; omega
  ·
    have kc_3 : r_2.toInt ≠ (0 : Int) := i_ne c_3
    refine lv_iload hx hb dX0_from_23 (lv_at hl 1 rfl) ?_
    refine lv_iload_n hx hb dX0_from_25 rfl (lv_at hl 4 rfl) ?_
    refine cS_p (As := [.int 4, .int 1]) (rest := []) ⟨hx, hb, hml, hown, hg⟩ (k_B_4_1 l    ) ca_X0_bodyOf q4_146 ⟨rfl, rfl⟩ ⟨Nat.le_of_ble_eq_true rfl, Nat.le_of_ble_eq_true rfl⟩ rfl hl.1 rfl (Nat.le_of_ble_eq_true rfl) ⟨Nat.zero_le _, Nat.zero_le _⟩ dX0_from_26 (fun r_4 wr_4 => ?_)
    have wr_4 : r_4.toInt = 0 := wr_4
    have el_5 : r_4 = 0 := i_inj (wr_4.trans (by rfl))
    subst el_5
    refine lv_istore (lv' := [(7, .int 0), (6, .int 0), (5, .int 4), (0, .ref (ad 9)), (1, .int 4), (2, .int 1), (3, .int p3), (4, .int p4)]) hx hb dX0_from_29 hl (by decide) rfl (fun ls hl => ?_)
    refine lv_iload hx hb dX0_from_31 (lv_at hl 0 rfl) ?_
    refine lv_if_eq (tgt := 59) hx hb dX0_from_33 (by decide) (fun c_6 => ?_) (fun c_6 => absurd c_6 (by decide))
    obtain ⟨t0, t1, t2, ⟨a0, b0⟩, ⟨a1, b1⟩, ⟨a2, b2⟩⟩ := id hZ
    refine va_gets hx hb a2 hS hown (hg _ q4_143) (fun _ h9 => h9) dX0_from_59 ?_
    refine lv_iload hx hb dX0_from_62 (lv_at hl 2 rfl) ?_
    refine va_ti hx hb b2 hS (i_in (by decide) (by decide)) (v := .int 1) rfl dX0_from_64 ?_
    refine lv_istore (lv' := [(5, .int 1), (7, .int 0), (6, .int 0), (0, .ref (ad 9)), (1, .int 4), (2, .int 1), (3, .int p3), (4, .int p4)]) hx hb dX0_from_65 hl (by decide) rfl (fun ls hl => ?_)
    obtain ⟨x_7, ex_7⟩ : ∃ y : Int32, y = 0 + 1 := ⟨_, rfl⟩
    have fx_7 : x_7.toInt = (0 : Int) + 1 := by rw [ex_7]; exact i_add (by first | omega | (show (_ : Int) ≤ (0 : Int) + 1; omega)) (by first | omega | (show (0 : Int) + 1 ≤ (_ : Int); omega))
    refine lv_iinc (v := x_7) (lv' := [(6, .int x_7), (5, .int 1), (7, .int 0), (0, .ref (ad 9)), (1, .int 4), (2, .int 1), (3, .int p3), (4, .int p4)]) hx hb dX0_from_67 hl (k := 2) rfl (by rw [ex_7]; rfl) (by decide) rfl (fun ls hl => ?_)
    refine lv_goto (tgt := 6) hx hb dX0_from_70 (by decide) ?_
    refine lv_iload hx hb dX0_from_6 (lv_at hl 0 rfl) ?_
    obtain ⟨t0, t1, t2, ⟨a0, b0⟩, ⟨a1, b1⟩, ⟨a2, b2⟩⟩ := id hZ
    refine va_gets hx hb a2 hS hown (hg _ q4_143) (fun _ h9 => h9) dX0_from_8 ?_
    refine va_tlen hx hb b2 hS (v := 8) rfl dX0_from_11 ?_
    refine lv_icmp_ge (tgt := 73) hx hb dX0_from_12 (by decide) (fun c_8 => ?_) (fun c_8 => ?_)
    ·
      have kc_8 : (8 : Int) ≤ x_7.toInt := i_le c_8
      exfalso; omega
    ·
      have kc_8 : x_7.toInt < (8 : Int) := i_nle c_8
      refine lv_iload hx hb dX0_from_15 (lv_at hl 1 rfl) ?_
      refine cS_p (As := [.int 1]) (rest := []) ⟨hx, hb, hml, hown, hg⟩ (k_IK_2 l    ) ca_X0_isKind q4_145 ⟨rfl, rfl⟩ ⟨Nat.le_of_ble_eq_true rfl, Nat.le_of_ble_eq_true rfl⟩ rfl hl.1 rfl (Nat.le_of_ble_eq_true rfl) ⟨Nat.zero_le _, Nat.zero_le _⟩ dX0_from_17 (fun r_9 wr_9 => ?_)
      have wr_9 : r_9.toInt = 1 := wr_9
      refine lv_if_eq (tgt := 73) hx hb dX0_from_20 (by decide) (fun c_10 => ?_) (fun c_10 => ?_)
      ·
        have kc_10 : r_9.toInt = (0 : Int) := i_eq c_10
        exfalso; omega
      ·
        have kc_10 : r_9.toInt ≠ (0 : Int) := i_ne c_10
        refine lv_iload hx hb dX0_from_23 (lv_at hl 1 rfl) ?_
        refine lv_iload_n hx hb dX0_from_25 rfl (lv_at hl 5 rfl) ?_
        refine cS_p (As := [.int 1, .int 1]) (rest := []) ⟨hx, hb, hml, hown, hg⟩ (k_B_1_1 l    ) ca_X0_bodyOf q4_146 ⟨rfl, rfl⟩ ⟨Nat.le_of_ble_eq_true rfl, Nat.le_of_ble_eq_true rfl⟩ rfl hl.1 rfl (Nat.le_of_ble_eq_true rfl) ⟨Nat.zero_le _, Nat.zero_le _⟩ dX0_from_26 (fun r_11 wr_11 => ?_)
        have wr_11 : r_11.toInt = 0 := wr_11
        have el_12 : r_11 = 0 := i_inj (wr_11.trans (by rfl))
        subst el_12
        refine lv_istore (lv' := [(7, .int 0), (6, .int x_7), (5, .int 1), (0, .ref (ad 9)), (1, .int 4), (2, .int 1), (3, .int p3), (4, .int p4)]) hx hb dX0_from_29 hl (by decide) rfl (fun ls hl => ?_)
        refine lv_iload hx hb dX0_from_31 (lv_at hl 0 rfl) ?_
        refine lv_if_eq (tgt := 59) hx hb dX0_from_33 (by decide) (fun c_13 => ?_) (fun c_13 => absurd c_13 (by decide))
        obtain ⟨t0, t1, t2, ⟨a0, b0⟩, ⟨a1, b1⟩, ⟨a2, b2⟩⟩ := id hZ
        refine va_gets hx hb a2 hS hown (hg _ q4_143) (fun _ h9 => h9) dX0_from_59 ?_
        refine lv_iload hx hb dX0_from_62 (lv_at hl 2 rfl) ?_
        refine va_ti hx hb b2 hS (i_in (by decide) (by decide)) (v := .int 0) rfl dX0_from_64 ?_
        refine lv_istore (lv' := [(5, .int 0), (7, .int 0), (6, .int x_7), (0, .ref (ad 9)), (1, .int 4), (2, .int 1), (3, .int p3), (4, .int p4)]) hx hb dX0_from_65 hl (by decide) rfl (fun ls hl => ?_)
        obtain ⟨x_14, ex_14⟩ : ∃ y : Int32, y = x_7 + 1 := ⟨_, rfl⟩
        have fx_14 : x_14.toInt = x_7.toInt + 1 := by rw [ex_14]; exact i_add (by first | omega | (show (_ : Int) ≤ x_7.toInt + 1; omega)) (by first | omega | (show x_7.toInt + 1 ≤ (_ : Int); omega))
        refine lv_iinc (v := x_14) (lv' := [(6, .int x_14), (5, .int 0), (7, .int 0), (0, .ref (ad 9)), (1, .int 4), (2, .int 1), (3, .int p3), (4, .int p4)]) hx hb dX0_from_67 hl (k := 2) rfl (by rw [ex_14]; rfl) (by decide) rfl (fun ls hl => ?_)
        refine lv_goto (tgt := 6) hx hb dX0_from_70 (by decide) ?_
        refine lv_iload hx hb dX0_from_6 (lv_at hl 0 rfl) ?_
        obtain ⟨t0, t1, t2, ⟨a0, b0⟩, ⟨a1, b1⟩, ⟨a2, b2⟩⟩ := id hZ
        refine va_gets hx hb a2 hS hown (hg _ q4_143) (fun _ h9 => h9) dX0_from_8 ?_
        refine va_tlen hx hb b2 hS (v := 8) rfl dX0_from_11 ?_
        refine lv_icmp_ge (tgt := 73) hx hb dX0_from_12 (by decide) (fun c_15 => ?_) (fun c_15 => ?_)
        ·
          have kc_15 : (8 : Int) ≤ x_14.toInt := i_le c_15
          exfalso; omega
        ·
          have kc_15 : x_14.toInt < (8 : Int) := i_nle c_15
          refine lv_iload hx hb dX0_from_15 (lv_at hl 1 rfl) ?_
          refine cS_p (As := [.int 0]) (rest := []) ⟨hx, hb, hml, hown, hg⟩ (k_IK_1 l    ) ca_X0_isKind q4_145 ⟨rfl, rfl⟩ ⟨Nat.le_of_ble_eq_true rfl, Nat.le_of_ble_eq_true rfl⟩ rfl hl.1 rfl (Nat.le_of_ble_eq_true rfl) ⟨Nat.zero_le _, Nat.zero_le _⟩ dX0_from_17 (fun r_16 wr_16 => ?_)
          have wr_16 : r_16.toInt = 1 := wr_16
          refine lv_if_eq (tgt := 73) hx hb dX0_from_20 (by decide) (fun c_17 => ?_) (fun c_17 => ?_)
          ·
            have kc_17 : r_16.toInt = (0 : Int) := i_eq c_17
            exfalso; omega
          ·
            have kc_17 : r_16.toInt ≠ (0 : Int) := i_ne c_17
            refine lv_iload hx hb dX0_from_23 (lv_at hl 1 rfl) ?_
            refine lv_iload_n hx hb dX0_from_25 rfl (lv_at hl 5 rfl) ?_
            refine cS_p (As := [.int 0, .int 1]) (rest := []) ⟨hx, hb, hml, hown, hg⟩ (k_B_0_1 l    ) ca_X0_bodyOf q4_146 ⟨rfl, rfl⟩ ⟨Nat.le_of_ble_eq_true rfl, Nat.le_of_ble_eq_true rfl⟩ rfl hl.1 rfl (Nat.le_of_ble_eq_true rfl) ⟨Nat.zero_le _, Nat.zero_le _⟩ dX0_from_26 (fun r_18 wr_18 => ?_)
            have wr_18 : r_18.toInt = 10 := wr_18
            have el_19 : r_18 = 10 := i_inj (wr_18.trans (by rfl))
            subst el_19
            refine lv_istore (lv' := [(7, .int 10), (6, .int x_14), (5, .int 0), (0, .ref (ad 9)), (1, .int 4), (2, .int 1), (3, .int p3), (4, .int p4)]) hx hb dX0_from_29 hl (by decide) rfl (fun ls hl => ?_)
            refine lv_iload hx hb dX0_from_31 (lv_at hl 0 rfl) ?_
            refine lv_if_eq (tgt := 59) hx hb dX0_from_33 (by decide) (fun c_20 => absurd c_20 (by decide)) (fun c_20 => ?_)
            refine lv_iload hx hb dX0_from_36 (lv_at hl 7 rfl) ?_
            refine lv_bipush (v := 40) hx hb dX0_from_38 (by decide) ?_
            refine lv_icmp_ge (tgt := 57) hx hb dX0_from_40 (by decide) (fun c_21 => ?_) (fun c_21 => ?_)
            ·
              have kc_21 : (40 : Int) ≤ p4.toInt := i_le c_21
              exfalso; omega
            ·
              have kc_21 : p4.toInt < (40 : Int) := i_nle c_21
              refine lv_aload_n hx hb dX0_from_43 rfl (lv_at hl 3 rfl) ?_
              refine lv_iload hx hb dX0_from_44 (lv_at hl 0 rfl) ?_
              refine lv_iload_n hx hb dX0_from_46 rfl (lv_at hl 6 rfl) ?_
              refine lv_iload hx hb dX0_from_47 (lv_at hl 7 rfl) ?_
              refine lv_iconst (v := 1) hx hb dX0_from_49 (by decide) ?_
              refine lv_iadd hx hb dX0_from_50 ?_
              refine lv_topi (fun x_22 ex_22 => ?_)
              have fx_22 : x_22.toInt = p4.toInt + (1 : Int) := by rw [ex_22]; exact i_add (by first | omega | (show (_ : Int) ≤ p4.toInt + (1 : Int); omega)) (by first | omega | (show p4.toInt + (1 : Int) ≤ (_ : Int); omega))
              refine cV_i (As := [.int 10, .int p3, .int x_22]) (rest := []) ⟨hx, hb, hml, hown, hg⟩ (k_R_4_10 l D cs A ad fa fq rv v a w fv fp  p3 x_22 hkn (show 0 ≤ (v 22).toInt by first | omega | decide) (show (v 22).toInt ≤ 21 by first | omega | decide) (show 0 ≤ x_22.toInt by first | omega | decide) (show x_22.toInt ≤ 36 by first | omega | decide) (show 0 ≤ (v 22).toInt by first | omega | decide) (show (v 22).toInt ≤ 1000 by first | omega | decide) (show 0 ≤ (v 23).toInt by first | omega | decide) (show (v 23).toInt ≤ 49 by first | omega | decide) ia37_0) ca_X0_run q4_149 ⟨rfl, rfl⟩ ⟨Nat.le_of_ble_eq_true rfl, Nat.le_of_ble_eq_true rfl⟩ (rc_acts hK hP) hK hP hD hS hZ rfl hl.1 rfl (Nat.le_of_ble_eq_true rfl) ⟨Nat.zero_le _, Nat.zero_le _⟩ dX0_from_51 (fun r_23 z_26 H locs wr_23 hP hD hS => ?_)
              obtain ⟨o_v22_24, o_a38_25⟩ := z_26
              have hP : va_P D vwCl (CW cs ad fa fq rv (va_up v 22 o_v22_24) (va_up a 38 o_a38_25) w fv fp) H := hP
              have hD : va_D A (CW cs ad fa fq rv (va_up v 22 o_v22_24) (va_up a 38 o_a38_25) w fv fp) := hD
              obtain ⟨wr_23_0, wr_23_1, wr_23_2, wr_23_3, wr_23_4⟩ : (o_v22_24.toInt = (v 22).toInt + 3) ∧ (o_a38_25 = TRW (a 38) (v 22).toInt.toNat [10, 20, 1]) ∧ (r_23 = (((p3 + (v 23)) + 3) * 2)) ∧ (0 ≤ o_v22_24.toInt) ∧ (o_v22_24.toInt ≤ 1000) := wr_23
              have kt_27 : o_a38_25 = TRW (a 38) (v 22).toInt.toNat [10, 20, 1] := by rw [wr_23_1]
              refine lv_goto (tgt := 58) hx hb dX0_from_54 (by decide) ?_
              exact W.iret (v := r_23) hx hb hr (fun tt ht hW => ⟨⟨r_23, ⟨o_v22_24, o_a38_25⟩, rfl, ⟨(by first | rfl | omega | trivial | assumption | (dsimp only; first | omega | assumption)), (by (try dsimp only); first | assumption | rfl), (by simp only [wr_23_2, ex_22]), (show 0 ≤ o_v22_24.toInt by first | omega | assumption), (show o_v22_24.toInt ≤ 1000 by first | omega | assumption)⟩, by rw [ht]; exact hP, hD⟩, hS.F ht⟩) hS.2.2 dX0_from_58
set_option maxHeartbeats 4000000 in
set_option maxRecDepth 100000 in
theorem k_S_4_1 (l : Launch) (D : va_G) (cs : Nat → ClassId) (A : Nat → Prop) (ad fa fq rv : Nat → Nat) (v : Nat → Int32) (a : Nat → Nat → Int32) (w : Nat → Nat → Int64) (fv fp : Nat → Nat → Int32)  (p2 : Int32) (p3 : Int32) (hkn : (a 37) (v 23).toNatClampNeg = 4) (hr0 : 0 ≤ (v 22).toInt) (hr1 : (v 22).toInt ≤ 21) (hd0 : 0 ≤ p3.toInt) (hd1 : p3.toInt ≤ 35) (iv23_0 : 0 ≤ (v 23).toInt) (iv23_1 : (v 23).toInt ≤ 49) (ia37_0 : AB 0 7 (a 37)) (iv22_0 : 0 ≤ (v 22).toInt) (iv22_1 : (v 22).toInt ≤ 1000) : Met l yX0_self (Cond.code yX0_self cX0_self 4 (some .int) :: gw) ({ frames := 7, cells := 0, slots := 0, locals := 173 }) (va_Pc [.ref (ad 9), .int 1, .int p2, .int p3] (XPre D (TY cs) (CW cs ad fa fq rv v a w fv fp) A)) (va_Qi (fun (r : Int32) (z : Int32 × (Nat → Int32)) => (z.1.toInt = (v 22).toInt + 3) ∧ (z.2 = TRW (a 38) (v 22).toInt.toNat [10, 20, 1]) ∧ (r = (((p2 + (v 23)) + 3) * 2)) ∧ (0 ≤ z.1.toInt) ∧ (z.1.toInt ≤ 1000)) (XPo D (fun (z : Int32 × (Nat → Int32)) => CW cs ad fa fq rv (va_up v 22 z.1) (va_up a 38 z.2) w fv fp) A) A) 0 0 A := by
  refine Met.ofW (cc := cX0_self) (maxL := 4) (ret := (some .int)) (by decide) rfl ?_
  intro p e s m args below meth c s₁ B hml hv
  obtain ⟨rfl, hP, hK, hD, hZ⟩ := hv
  have hx := B.exec
  have hb := B.bytes
  have hr := B.returns
  have hts := atoms_spec (ws := (Cond.code yX0_self cX0_self 4 (some .int) :: gw)) B.pre
  have hg : ∀ w ∈ gw, w.before ([.ref (ad 9), .int 1, .int p2, .int p3] : List Value).toArray s = true := fun w h => hts w (List.mem_cons_of_mem _ h)
  have hown : s.vm.findClass RX0 = some m.cls := findClass_of_methodNamed B.named
  have hlocks := B.notSynchronized
  have hS : va_S A s.heap s.heap [] := va_S.rf
  have hP : va_P D vwCl (CW cs ad fa fq rv v a w fv fp) s.heap := hP
  have hl := lv_entry ([.ref (ad 9), .int 1, .int p2, .int p3]) (n := 4) (Nat.le_of_ble_eq_true rfl)
  rw [lg_entry_eq]
  generalize (lg_sl ([.ref (ad 9), .int 1, .int p2, .int p3]) ++ List.replicate (4 - (lg_sl ([.ref (ad 9), .int 1, .int p2, .int p3])).length) Slot.unset).toArray = ls at hl ⊢
  have hl : lv_has ls 4 [(0, .ref (ad 9)), (1, .int 1), (2, .int p2), (3, .int p3)] := hl
  refine lv_aload_n hx hb dX0_self_0 rfl (lv_at hl 0 rfl) ?_
  refine lv_aload_n hx hb dX0_self_1 rfl (lv_at hl 0 rfl) ?_
  refine gf_acts_kind hx hb hg hown hK hP rfl (hg _ q1_83) dX0_self_2 ?_
  refine lv_aload_n hx hb dX0_self_5 rfl (lv_at hl 0 rfl) ?_
  refine gf_acts_number hx hb hg hown hK hP (x := (v 23)) rfl (hg _ q1_90) dX0_self_6 ?_
  refine ld_Akind hx hb hK hP (i_in (by omega) (by omega)) dX0_self_9 ?_
  refine lv_topi (fun x_1 ex_1 => ?_)
  have ex_1 : x_1 = (a 37) (v 23).toNatClampNeg := ex_1
  have hx_1 : x_1.toInt = ((a 37) (v 23).toNatClampNeg).toInt := by rw [ex_1]
  have bx_1 := ia37_0 (v 23).toNatClampNeg
  rw [← ex_1] at bx_1
  have fx_1 : x_1 = 4 := by rw [ex_1]; exact hkn
  subst fx_1
  refine lv_iload_n hx hb dX0_self_10 rfl (lv_at hl 1 rfl) ?_
  refine lv_iload_n hx hb dX0_self_11 rfl (lv_at hl 2 rfl) ?_
  refine lv_iload_n hx hb dX0_self_12 rfl (lv_at hl 3 rfl) ?_
  refine cV_i (As := [.int 4, .int 1, .int p2, .int p3]) (rest := []) ⟨hx, hb, hml, hown, hg⟩ (k_F_4_4_1 l D cs A ad fa fq rv v a w fv fp  p2 p3 hkn (show 0 ≤ (v 22).toInt by first | omega | decide) (show (v 22).toInt ≤ 21 by first | omega | decide) (show 0 ≤ p3.toInt by first | omega | decide) (show p3.toInt ≤ 35 by first | omega | decide) (show 0 ≤ (v 22).toInt by first | omega | decide) (show (v 22).toInt ≤ 1000 by first | omega | decide) (show 0 ≤ (v 23).toInt by first | omega | decide) (show (v 23).toInt ≤ 49 by first | omega | decide) ia37_0) ca_X0_from q4_139 ⟨rfl, rfl⟩ ⟨Nat.le_of_ble_eq_true rfl, Nat.le_of_ble_eq_true rfl⟩ (rc_acts hK hP) hK hP hD hS hZ rfl hl.1 rfl (Nat.le_of_ble_eq_true rfl) ⟨Nat.zero_le _, Nat.zero_le _⟩ dX0_self_13 (fun r_2 z_5 H locs wr_2 hP hD hS => ?_)
  obtain ⟨o_v22_3, o_a38_4⟩ := z_5
  have hP : va_P D vwCl (CW cs ad fa fq rv (va_up v 22 o_v22_3) (va_up a 38 o_a38_4) w fv fp) H := hP
  have hD : va_D A (CW cs ad fa fq rv (va_up v 22 o_v22_3) (va_up a 38 o_a38_4) w fv fp) := hD
  obtain ⟨wr_2_0, wr_2_1, wr_2_2, wr_2_3, wr_2_4⟩ : (o_v22_3.toInt = (v 22).toInt + 3) ∧ (o_a38_4 = TRW (a 38) (v 22).toInt.toNat [10, 20, 1]) ∧ (r_2 = (((p2 + (v 23)) + 3) * 2)) ∧ (0 ≤ o_v22_3.toInt) ∧ (o_v22_3.toInt ≤ 1000) := wr_2
  have kt_6 : o_a38_4 = TRW (a 38) (v 22).toInt.toNat [10, 20, 1] := by rw [wr_2_1]
  exact W.iret (v := r_2) hx hb hr (fun tt ht hW => ⟨⟨r_2, ⟨o_v22_3, o_a38_4⟩, rfl, ⟨(by first | rfl | omega | trivial | assumption | (dsimp only; first | omega | assumption)), (by (try dsimp only); first | assumption | rfl), (by simp only [wr_2_2]), (show 0 ≤ o_v22_3.toInt by first | omega | assumption), (show o_v22_3.toInt ≤ 1000 by first | omega | assumption)⟩, by rw [ht]; exact hP, hD⟩, hS.F ht⟩) hS.2.2 dX0_self_16
set_option maxHeartbeats 4000000 in
set_option maxRecDepth 100000 in
theorem k_F_x_4_2 (l : Launch) (D : va_G) (cs : Nat → ClassId) (A : Nat → Prop) (ad fa fq rv : Nat → Nat) (v : Nat → Int32) (a : Nat → Nat → Int32) (w : Nat → Nat → Int64) (fv fp : Nat → Nat → Int32)  (p3 : Int32) (p4 : Int32) (hr0 : 0 ≤ (v 22).toInt) (hr1 : (v 22).toInt ≤ 23) (hd0 : 0 ≤ p4.toInt) (hd1 : p4.toInt ≤ 37) (iv22_0 : 0 ≤ (v 22).toInt) (iv22_1 : (v 22).toInt ≤ 1000) (iv23_0 : 0 ≤ (v 23).toInt) (iv23_1 : (v 23).toInt ≤ 49) : Met l yX0_from (Cond.code yX0_from cX0_from 8 (some .int) :: gw) ({ frames := 1, cells := 0, slots := 0, locals := 23 }) (va_Pc [.ref (ad 9), .int 4, .int 2, .int p3, .int p4] (XPre D (TY cs) (CW cs ad fa fq rv v a w fv fp) A)) (va_Qi (fun (r : Int32) (z : Int32 × (Nat → Int32)) => (z.1.toInt = (v 22).toInt + 1) ∧ (z.2 = TRW (a 38) (v 22).toInt.toNat [11]) ∧ (r = (p3 ^^^ (v 23))) ∧ (0 ≤ z.1.toInt) ∧ (z.1.toInt ≤ 1000)) (XPo D (fun (z : Int32 × (Nat → Int32)) => CW cs ad fa fq rv (va_up v 22 z.1) (va_up a 38 z.2) w fv fp) A) A) 0 0 A := by
  refine Met.ofW (cc := cX0_from) (maxL := 8) (ret := (some .int)) (by decide) rfl ?_
  intro p e s m args below meth c s₁ B hml hv
  obtain ⟨rfl, hP, hK, hD, hZ⟩ := hv
  have hx := B.exec
  have hb := B.bytes
  have hr := B.returns
  have hts := atoms_spec (ws := (Cond.code yX0_from cX0_from 8 (some .int) :: gw)) B.pre
  have hg : ∀ w ∈ gw, w.before ([.ref (ad 9), .int 4, .int 2, .int p3, .int p4] : List Value).toArray s = true := fun w h => hts w (List.mem_cons_of_mem _ h)
  have hown : s.vm.findClass RX0 = some m.cls := findClass_of_methodNamed B.named
  have hlocks := B.notSynchronized
  have hS : va_S A s.heap s.heap [] := va_S.rf
  have hP : va_P D vwCl (CW cs ad fa fq rv v a w fv fp) s.heap := hP
  have hl := lv_entry ([.ref (ad 9), .int 4, .int 2, .int p3, .int p4]) (n := 8) (Nat.le_of_ble_eq_true rfl)
  rw [lg_entry_eq]
  generalize (lg_sl ([.ref (ad 9), .int 4, .int 2, .int p3, .int p4]) ++ List.replicate (8 - (lg_sl ([.ref (ad 9), .int 4, .int 2, .int p3, .int p4])).length) Slot.unset).toArray = ls at hl ⊢
  have hl : lv_has ls 8 [(0, .ref (ad 9)), (1, .int 4), (2, .int 2), (3, .int p3), (4, .int p4)] := hl
  refine lv_iload_n hx hb dX0_from_0 rfl (lv_at hl 1 rfl) ?_
  refine lv_istore (lv' := [(5, .int 4), (0, .ref (ad 9)), (1, .int 4), (2, .int 2), (3, .int p3), (4, .int p4)]) hx hb dX0_from_1 hl (by decide) rfl (fun ls hl => ?_)
  refine lv_iconst (v := 0) hx hb dX0_from_3 (by decide) ?_
  refine lv_istore (lv' := [(6, .int 0), (5, .int 4), (0, .ref (ad 9)), (1, .int 4), (2, .int 2), (3, .int p3), (4, .int p4)]) hx hb dX0_from_4 hl (by decide) rfl (fun ls hl => ?_)
  refine lv_iload hx hb dX0_from_6 (lv_at hl 0 rfl) ?_
  obtain ⟨t0, t1, t2, ⟨a0, b0⟩, ⟨a1, b1⟩, ⟨a2, b2⟩⟩ := id hZ
  refine va_gets hx hb a2 hS hown (hg _ q4_143) (fun _ h9 => h9) dX0_from_8 ?_
  refine va_tlen hx hb b2 hS (v := 8) rfl dX0_from_11 ?_
  refine lv_icmp_ge (tgt := 73) hx hb dX0_from_12 (by decide) (fun c_1 => absurd c_1 (by decide)) (fun c_1 => ?_)
  refine lv_iload hx hb dX0_from_15 (lv_at hl 1 rfl) ?_
  refine cS_p (As := [.int 4]) (rest := []) ⟨hx, hb, hml, hown, hg⟩ (k_IK_5 l    ) ca_X0_isKind q4_145 ⟨rfl, rfl⟩ ⟨Nat.le_of_ble_eq_true rfl, Nat.le_of_ble_eq_true rfl⟩ rfl hl.1 rfl (Nat.le_of_ble_eq_true rfl) ⟨Nat.zero_le _, Nat.zero_le _⟩ dX0_from_17 (fun r_2 wr_2 => ?_)
  have wr_2 : r_2.toInt = 1 := wr_2
  refine lv_if_eq (tgt := 73) hx hb dX0_from_20 (by decide) (fun c_3 => ?_) (fun c_3 => ?_)
  ·
    have kc_3 : r_2.toInt = (0 : Int) := i_eq c_3
    exfalso; omega
  ·
    have kc_3 : r_2.toInt ≠ (0 : Int) := i_ne c_3
    refine lv_iload hx hb dX0_from_23 (lv_at hl 1 rfl) ?_
    refine lv_iload_n hx hb dX0_from_25 rfl (lv_at hl 4 rfl) ?_
    refine cS_p (As := [.int 4, .int 2]) (rest := []) ⟨hx, hb, hml, hown, hg⟩ (k_B_4_2 l    ) ca_X0_bodyOf q4_146 ⟨rfl, rfl⟩ ⟨Nat.le_of_ble_eq_true rfl, Nat.le_of_ble_eq_true rfl⟩ rfl hl.1 rfl (Nat.le_of_ble_eq_true rfl) ⟨Nat.zero_le _, Nat.zero_le _⟩ dX0_from_26 (fun r_4 wr_4 => ?_)
    have wr_4 : r_4.toInt = 0 := wr_4
    have el_5 : r_4 = 0 := i_inj (wr_4.trans (by rfl))
    subst el_5
    refine lv_istore (lv' := [(7, .int 0), (6, .int 0), (5, .int 4), (0, .ref (ad 9)), (1, .int 4), (2, .int 2), (3, .int p3), (4, .int p4)]) hx hb dX0_from_29 hl (by decide) rfl (fun ls hl => ?_)
    refine lv_iload hx hb dX0_from_31 (lv_at hl 0 rfl) ?_
    refine lv_if_eq (tgt := 59) hx hb dX0_from_33 (by decide) (fun c_6 => ?_) (fun c_6 => absurd c_6 (by decide))
    obtain ⟨t0, t1, t2, ⟨a0, b0⟩, ⟨a1, b1⟩, ⟨a2, b2⟩⟩ := id hZ
    refine va_gets hx hb a2 hS hown (hg _ q4_143) (fun _ h9 => h9) dX0_from_59 ?_
    refine lv_iload hx hb dX0_from_62 (lv_at hl 2 rfl) ?_
    refine va_ti hx hb b2 hS (i_in (by decide) (by decide)) (v := .int 1) rfl dX0_from_64 ?_
    refine lv_istore (lv' := [(5, .int 1), (7, .int 0), (6, .int 0), (0, .ref (ad 9)), (1, .int 4), (2, .int 2), (3, .int p3), (4, .int p4)]) hx hb dX0_from_65 hl (by decide) rfl (fun ls hl => ?_)
    obtain ⟨x_7, ex_7⟩ : ∃ y : Int32, y = 0 + 1 := ⟨_, rfl⟩
    have fx_7 : x_7.toInt = (0 : Int) + 1 := by rw [ex_7]; exact i_add (by first | omega | (show (_ : Int) ≤ (0 : Int) + 1; omega)) (by first | omega | (show (0 : Int) + 1 ≤ (_ : Int); omega))
    refine lv_iinc (v := x_7) (lv' := [(6, .int x_7), (5, .int 1), (7, .int 0), (0, .ref (ad 9)), (1, .int 4), (2, .int 2), (3, .int p3), (4, .int p4)]) hx hb dX0_from_67 hl (k := 2) rfl (by rw [ex_7]; rfl) (by decide) rfl (fun ls hl => ?_)
    refine lv_goto (tgt := 6) hx hb dX0_from_70 (by decide) ?_
    refine lv_iload hx hb dX0_from_6 (lv_at hl 0 rfl) ?_
    obtain ⟨t0, t1, t2, ⟨a0, b0⟩, ⟨a1, b1⟩, ⟨a2, b2⟩⟩ := id hZ
    refine va_gets hx hb a2 hS hown (hg _ q4_143) (fun _ h9 => h9) dX0_from_8 ?_
    refine va_tlen hx hb b2 hS (v := 8) rfl dX0_from_11 ?_
    refine lv_icmp_ge (tgt := 73) hx hb dX0_from_12 (by decide) (fun c_8 => ?_) (fun c_8 => ?_)
    ·
      have kc_8 : (8 : Int) ≤ x_7.toInt := i_le c_8
      exfalso; omega
    ·
      have kc_8 : x_7.toInt < (8 : Int) := i_nle c_8
      refine lv_iload hx hb dX0_from_15 (lv_at hl 1 rfl) ?_
      refine cS_p (As := [.int 1]) (rest := []) ⟨hx, hb, hml, hown, hg⟩ (k_IK_2 l    ) ca_X0_isKind q4_145 ⟨rfl, rfl⟩ ⟨Nat.le_of_ble_eq_true rfl, Nat.le_of_ble_eq_true rfl⟩ rfl hl.1 rfl (Nat.le_of_ble_eq_true rfl) ⟨Nat.zero_le _, Nat.zero_le _⟩ dX0_from_17 (fun r_9 wr_9 => ?_)
      have wr_9 : r_9.toInt = 1 := wr_9
      refine lv_if_eq (tgt := 73) hx hb dX0_from_20 (by decide) (fun c_10 => ?_) (fun c_10 => ?_)
      ·
        have kc_10 : r_9.toInt = (0 : Int) := i_eq c_10
        exfalso; omega
      ·
        have kc_10 : r_9.toInt ≠ (0 : Int) := i_ne c_10
        refine lv_iload hx hb dX0_from_23 (lv_at hl 1 rfl) ?_
        refine lv_iload_n hx hb dX0_from_25 rfl (lv_at hl 5 rfl) ?_
        refine cS_p (As := [.int 1, .int 2]) (rest := []) ⟨hx, hb, hml, hown, hg⟩ (k_B_1_2 l    ) ca_X0_bodyOf q4_146 ⟨rfl, rfl⟩ ⟨Nat.le_of_ble_eq_true rfl, Nat.le_of_ble_eq_true rfl⟩ rfl hl.1 rfl (Nat.le_of_ble_eq_true rfl) ⟨Nat.zero_le _, Nat.zero_le _⟩ dX0_from_26 (fun r_11 wr_11 => ?_)
        have wr_11 : r_11.toInt = 0 := wr_11
        have el_12 : r_11 = 0 := i_inj (wr_11.trans (by rfl))
        subst el_12
        refine lv_istore (lv' := [(7, .int 0), (6, .int x_7), (5, .int 1), (0, .ref (ad 9)), (1, .int 4), (2, .int 2), (3, .int p3), (4, .int p4)]) hx hb dX0_from_29 hl (by decide) rfl (fun ls hl => ?_)
        refine lv_iload hx hb dX0_from_31 (lv_at hl 0 rfl) ?_
        refine lv_if_eq (tgt := 59) hx hb dX0_from_33 (by decide) (fun c_13 => ?_) (fun c_13 => absurd c_13 (by decide))
        obtain ⟨t0, t1, t2, ⟨a0, b0⟩, ⟨a1, b1⟩, ⟨a2, b2⟩⟩ := id hZ
        refine va_gets hx hb a2 hS hown (hg _ q4_143) (fun _ h9 => h9) dX0_from_59 ?_
        refine lv_iload hx hb dX0_from_62 (lv_at hl 2 rfl) ?_
        refine va_ti hx hb b2 hS (i_in (by decide) (by decide)) (v := .int 0) rfl dX0_from_64 ?_
        refine lv_istore (lv' := [(5, .int 0), (7, .int 0), (6, .int x_7), (0, .ref (ad 9)), (1, .int 4), (2, .int 2), (3, .int p3), (4, .int p4)]) hx hb dX0_from_65 hl (by decide) rfl (fun ls hl => ?_)
        obtain ⟨x_14, ex_14⟩ : ∃ y : Int32, y = x_7 + 1 := ⟨_, rfl⟩
        have fx_14 : x_14.toInt = x_7.toInt + 1 := by rw [ex_14]; exact i_add (by first | omega | (show (_ : Int) ≤ x_7.toInt + 1; omega)) (by first | omega | (show x_7.toInt + 1 ≤ (_ : Int); omega))
        refine lv_iinc (v := x_14) (lv' := [(6, .int x_14), (5, .int 0), (7, .int 0), (0, .ref (ad 9)), (1, .int 4), (2, .int 2), (3, .int p3), (4, .int p4)]) hx hb dX0_from_67 hl (k := 2) rfl (by rw [ex_14]; rfl) (by decide) rfl (fun ls hl => ?_)
        refine lv_goto (tgt := 6) hx hb dX0_from_70 (by decide) ?_
        refine lv_iload hx hb dX0_from_6 (lv_at hl 0 rfl) ?_
        obtain ⟨t0, t1, t2, ⟨a0, b0⟩, ⟨a1, b1⟩, ⟨a2, b2⟩⟩ := id hZ
        refine va_gets hx hb a2 hS hown (hg _ q4_143) (fun _ h9 => h9) dX0_from_8 ?_
        refine va_tlen hx hb b2 hS (v := 8) rfl dX0_from_11 ?_
        refine lv_icmp_ge (tgt := 73) hx hb dX0_from_12 (by decide) (fun c_15 => ?_) (fun c_15 => ?_)
        ·
          have kc_15 : (8 : Int) ≤ x_14.toInt := i_le c_15
          exfalso; omega
        ·
          have kc_15 : x_14.toInt < (8 : Int) := i_nle c_15
          refine lv_iload hx hb dX0_from_15 (lv_at hl 1 rfl) ?_
          refine cS_p (As := [.int 0]) (rest := []) ⟨hx, hb, hml, hown, hg⟩ (k_IK_1 l    ) ca_X0_isKind q4_145 ⟨rfl, rfl⟩ ⟨Nat.le_of_ble_eq_true rfl, Nat.le_of_ble_eq_true rfl⟩ rfl hl.1 rfl (Nat.le_of_ble_eq_true rfl) ⟨Nat.zero_le _, Nat.zero_le _⟩ dX0_from_17 (fun r_16 wr_16 => ?_)
          have wr_16 : r_16.toInt = 1 := wr_16
          refine lv_if_eq (tgt := 73) hx hb dX0_from_20 (by decide) (fun c_17 => ?_) (fun c_17 => ?_)
          ·
            have kc_17 : r_16.toInt = (0 : Int) := i_eq c_17
            exfalso; omega
          ·
            have kc_17 : r_16.toInt ≠ (0 : Int) := i_ne c_17
            refine lv_iload hx hb dX0_from_23 (lv_at hl 1 rfl) ?_
            refine lv_iload_n hx hb dX0_from_25 rfl (lv_at hl 5 rfl) ?_
            refine cS_p (As := [.int 0, .int 2]) (rest := []) ⟨hx, hb, hml, hown, hg⟩ (k_B_0_2 l    ) ca_X0_bodyOf q4_146 ⟨rfl, rfl⟩ ⟨Nat.le_of_ble_eq_true rfl, Nat.le_of_ble_eq_true rfl⟩ rfl hl.1 rfl (Nat.le_of_ble_eq_true rfl) ⟨Nat.zero_le _, Nat.zero_le _⟩ dX0_from_26 (fun r_18 wr_18 => ?_)
            have wr_18 : r_18.toInt = 11 := wr_18
            have el_19 : r_18 = 11 := i_inj (wr_18.trans (by rfl))
            subst el_19
            refine lv_istore (lv' := [(7, .int 11), (6, .int x_14), (5, .int 0), (0, .ref (ad 9)), (1, .int 4), (2, .int 2), (3, .int p3), (4, .int p4)]) hx hb dX0_from_29 hl (by decide) rfl (fun ls hl => ?_)
            refine lv_iload hx hb dX0_from_31 (lv_at hl 0 rfl) ?_
            refine lv_if_eq (tgt := 59) hx hb dX0_from_33 (by decide) (fun c_20 => absurd c_20 (by decide)) (fun c_20 => ?_)
            refine lv_iload hx hb dX0_from_36 (lv_at hl 7 rfl) ?_
            refine lv_bipush (v := 40) hx hb dX0_from_38 (by decide) ?_
            refine lv_icmp_ge (tgt := 57) hx hb dX0_from_40 (by decide) (fun c_21 => ?_) (fun c_21 => ?_)
            ·
              have kc_21 : (40 : Int) ≤ p4.toInt := i_le c_21
              exfalso; omega
            ·
              have kc_21 : p4.toInt < (40 : Int) := i_nle c_21
              refine lv_aload_n hx hb dX0_from_43 rfl (lv_at hl 3 rfl) ?_
              refine lv_iload hx hb dX0_from_44 (lv_at hl 0 rfl) ?_
              refine lv_iload_n hx hb dX0_from_46 rfl (lv_at hl 6 rfl) ?_
              refine lv_iload hx hb dX0_from_47 (lv_at hl 7 rfl) ?_
              refine lv_iconst (v := 1) hx hb dX0_from_49 (by decide) ?_
              refine lv_iadd hx hb dX0_from_50 ?_
              refine lv_topi (fun x_22 ex_22 => ?_)
              have fx_22 : x_22.toInt = p4.toInt + (1 : Int) := by rw [ex_22]; exact i_add (by first | omega | (show (_ : Int) ≤ p4.toInt + (1 : Int); omega)) (by first | omega | (show p4.toInt + (1 : Int) ≤ (_ : Int); omega))
              refine cV_i (As := [.int 11, .int p3, .int x_22]) (rest := []) ⟨hx, hb, hml, hown, hg⟩ (k_R_x_11 l D cs A ad fa fq rv v a w fv fp  p3 x_22 (show 0 ≤ (v 22).toInt by first | omega | decide) (show (v 22).toInt ≤ 23 by first | omega | decide) (show 0 ≤ x_22.toInt by first | omega | decide) (show x_22.toInt ≤ 38 by first | omega | decide) (show 0 ≤ (v 22).toInt by first | omega | decide) (show (v 22).toInt ≤ 1000 by first | omega | decide) (show 0 ≤ (v 23).toInt by first | omega | decide) (show (v 23).toInt ≤ 49 by first | omega | decide)) ca_X0_run q4_149 ⟨rfl, rfl⟩ ⟨Nat.le_of_ble_eq_true rfl, Nat.le_of_ble_eq_true rfl⟩ (rc_acts hK hP) hK hP hD hS hZ rfl hl.1 rfl (Nat.le_of_ble_eq_true rfl) ⟨Nat.zero_le _, Nat.zero_le _⟩ dX0_from_51 (fun r_23 z_26 H locs wr_23 hP hD hS => ?_)
              obtain ⟨o_v22_24, o_a38_25⟩ := z_26
              have hP : va_P D vwCl (CW cs ad fa fq rv (va_up v 22 o_v22_24) (va_up a 38 o_a38_25) w fv fp) H := hP
              have hD : va_D A (CW cs ad fa fq rv (va_up v 22 o_v22_24) (va_up a 38 o_a38_25) w fv fp) := hD
              obtain ⟨wr_23_0, wr_23_1, wr_23_2, wr_23_3, wr_23_4⟩ : (o_v22_24.toInt = (v 22).toInt + 1) ∧ (o_a38_25 = TRW (a 38) (v 22).toInt.toNat [11]) ∧ (r_23 = (p3 ^^^ (v 23))) ∧ (0 ≤ o_v22_24.toInt) ∧ (o_v22_24.toInt ≤ 1000) := wr_23
              have kt_27 : o_a38_25 = TRW (a 38) (v 22).toInt.toNat [11] := by rw [wr_23_1]
              refine lv_goto (tgt := 58) hx hb dX0_from_54 (by decide) ?_
              exact W.iret (v := r_23) hx hb hr (fun tt ht hW => ⟨⟨r_23, ⟨o_v22_24, o_a38_25⟩, rfl, ⟨(by first | rfl | omega | trivial | assumption | (dsimp only; first | omega | assumption)), (by (try dsimp only); first | assumption | rfl), (by simp only [wr_23_2, ex_22]), (show 0 ≤ o_v22_24.toInt by first | omega | assumption), (show o_v22_24.toInt ≤ 1000 by first | omega | assumption)⟩, by rw [ht]; exact hP, hD⟩, hS.F ht⟩) hS.2.2 dX0_from_58
set_option maxHeartbeats 4000000 in
set_option maxRecDepth 100000 in
theorem k_S_4_2 (l : Launch) (D : va_G) (cs : Nat → ClassId) (A : Nat → Prop) (ad fa fq rv : Nat → Nat) (v : Nat → Int32) (a : Nat → Nat → Int32) (w : Nat → Nat → Int64) (fv fp : Nat → Nat → Int32)  (p2 : Int32) (p3 : Int32) (hkn : (a 37) (v 23).toNatClampNeg = 4) (hr0 : 0 ≤ (v 22).toInt) (hr1 : (v 22).toInt ≤ 23) (hd0 : 0 ≤ p3.toInt) (hd1 : p3.toInt ≤ 37) (iv23_0 : 0 ≤ (v 23).toInt) (iv23_1 : (v 23).toInt ≤ 49) (ia37_0 : AB 0 7 (a 37)) (iv22_0 : 0 ≤ (v 22).toInt) (iv22_1 : (v 22).toInt ≤ 1000) : Met l yX0_self (Cond.code yX0_self cX0_self 4 (some .int) :: gw) ({ frames := 2, cells := 0, slots := 0, locals := 50 }) (va_Pc [.ref (ad 9), .int 2, .int p2, .int p3] (XPre D (TY cs) (CW cs ad fa fq rv v a w fv fp) A)) (va_Qi (fun (r : Int32) (z : Int32 × (Nat → Int32)) => (z.1.toInt = (v 22).toInt + 1) ∧ (z.2 = TRW (a 38) (v 22).toInt.toNat [11]) ∧ (r = (p2 ^^^ (v 23))) ∧ (0 ≤ z.1.toInt) ∧ (z.1.toInt ≤ 1000)) (XPo D (fun (z : Int32 × (Nat → Int32)) => CW cs ad fa fq rv (va_up v 22 z.1) (va_up a 38 z.2) w fv fp) A) A) 0 0 A := by
  refine Met.ofW (cc := cX0_self) (maxL := 4) (ret := (some .int)) (by decide) rfl ?_
  intro p e s m args below meth c s₁ B hml hv
  obtain ⟨rfl, hP, hK, hD, hZ⟩ := hv
  have hx := B.exec
  have hb := B.bytes
  have hr := B.returns
  have hts := atoms_spec (ws := (Cond.code yX0_self cX0_self 4 (some .int) :: gw)) B.pre
  have hg : ∀ w ∈ gw, w.before ([.ref (ad 9), .int 2, .int p2, .int p3] : List Value).toArray s = true := fun w h => hts w (List.mem_cons_of_mem _ h)
  have hown : s.vm.findClass RX0 = some m.cls := findClass_of_methodNamed B.named
  have hlocks := B.notSynchronized
  have hS : va_S A s.heap s.heap [] := va_S.rf
  have hP : va_P D vwCl (CW cs ad fa fq rv v a w fv fp) s.heap := hP
  have hl := lv_entry ([.ref (ad 9), .int 2, .int p2, .int p3]) (n := 4) (Nat.le_of_ble_eq_true rfl)
  rw [lg_entry_eq]
  generalize (lg_sl ([.ref (ad 9), .int 2, .int p2, .int p3]) ++ List.replicate (4 - (lg_sl ([.ref (ad 9), .int 2, .int p2, .int p3])).length) Slot.unset).toArray = ls at hl ⊢
  have hl : lv_has ls 4 [(0, .ref (ad 9)), (1, .int 2), (2, .int p2), (3, .int p3)] := hl
  refine lv_aload_n hx hb dX0_self_0 rfl (lv_at hl 0 rfl) ?_
  refine lv_aload_n hx hb dX0_self_1 rfl (lv_at hl 0 rfl) ?_
  refine gf_acts_kind hx hb hg hown hK hP rfl (hg _ q1_83) dX0_self_2 ?_
  refine lv_aload_n hx hb dX0_self_5 rfl (lv_at hl 0 rfl) ?_
  refine gf_acts_number hx hb hg hown hK hP (x := (v 23)) rfl (hg _ q1_90) dX0_self_6 ?_
  refine ld_Akind hx hb hK hP (i_in (by omega) (by omega)) dX0_self_9 ?_
  refine lv_topi (fun x_1 ex_1 => ?_)
  have ex_1 : x_1 = (a 37) (v 23).toNatClampNeg := ex_1
  have hx_1 : x_1.toInt = ((a 37) (v 23).toNatClampNeg).toInt := by rw [ex_1]
  have bx_1 := ia37_0 (v 23).toNatClampNeg
  rw [← ex_1] at bx_1
  have fx_1 : x_1 = 4 := by rw [ex_1]; exact hkn
  subst fx_1
  refine lv_iload_n hx hb dX0_self_10 rfl (lv_at hl 1 rfl) ?_
  refine lv_iload_n hx hb dX0_self_11 rfl (lv_at hl 2 rfl) ?_
  refine lv_iload_n hx hb dX0_self_12 rfl (lv_at hl 3 rfl) ?_
  refine cV_i (As := [.int 4, .int 2, .int p2, .int p3]) (rest := []) ⟨hx, hb, hml, hown, hg⟩ (k_F_x_4_2 l D cs A ad fa fq rv v a w fv fp  p2 p3 (show 0 ≤ (v 22).toInt by first | omega | decide) (show (v 22).toInt ≤ 23 by first | omega | decide) (show 0 ≤ p3.toInt by first | omega | decide) (show p3.toInt ≤ 37 by first | omega | decide) (show 0 ≤ (v 22).toInt by first | omega | decide) (show (v 22).toInt ≤ 1000 by first | omega | decide) (show 0 ≤ (v 23).toInt by first | omega | decide) (show (v 23).toInt ≤ 49 by first | omega | decide)) ca_X0_from q4_139 ⟨rfl, rfl⟩ ⟨Nat.le_of_ble_eq_true rfl, Nat.le_of_ble_eq_true rfl⟩ (rc_acts hK hP) hK hP hD hS hZ rfl hl.1 rfl (Nat.le_of_ble_eq_true rfl) ⟨Nat.zero_le _, Nat.zero_le _⟩ dX0_self_13 (fun r_2 z_5 H locs wr_2 hP hD hS => ?_)
  obtain ⟨o_v22_3, o_a38_4⟩ := z_5
  have hP : va_P D vwCl (CW cs ad fa fq rv (va_up v 22 o_v22_3) (va_up a 38 o_a38_4) w fv fp) H := hP
  have hD : va_D A (CW cs ad fa fq rv (va_up v 22 o_v22_3) (va_up a 38 o_a38_4) w fv fp) := hD
  obtain ⟨wr_2_0, wr_2_1, wr_2_2, wr_2_3, wr_2_4⟩ : (o_v22_3.toInt = (v 22).toInt + 1) ∧ (o_a38_4 = TRW (a 38) (v 22).toInt.toNat [11]) ∧ (r_2 = (p2 ^^^ (v 23))) ∧ (0 ≤ o_v22_3.toInt) ∧ (o_v22_3.toInt ≤ 1000) := wr_2
  have kt_6 : o_a38_4 = TRW (a 38) (v 22).toInt.toNat [11] := by rw [wr_2_1]
  exact W.iret (v := r_2) hx hb hr (fun tt ht hW => ⟨⟨r_2, ⟨o_v22_3, o_a38_4⟩, rfl, ⟨(by first | rfl | omega | trivial | assumption | (dsimp only; first | omega | assumption)), (by (try dsimp only); first | assumption | rfl), (by simp only [wr_2_2]), (show 0 ≤ o_v22_3.toInt by first | omega | assumption), (show o_v22_3.toInt ≤ 1000 by first | omega | assumption)⟩, by rw [ht]; exact hP, hD⟩, hS.F ht⟩) hS.2.2 dX0_self_16
set_option maxHeartbeats 4000000 in
set_option maxRecDepth 100000 in
theorem k_R_4_2 (l : Launch) (D : va_G) (cs : Nat → ClassId) (A : Nat → Prop) (ad fa fq rv : Nat → Nat) (v : Nat → Int32) (a : Nat → Nat → Int32) (w : Nat → Nat → Int64) (fv fp : Nat → Nat → Int32)  (p2 : Int32) (p3 : Int32) (hkn : (a 37) (v 23).toNatClampNeg = 4) (hr0 : 0 ≤ (v 22).toInt) (hr1 : (v 22).toInt ≤ 19) (hd0 : 0 ≤ p3.toInt) (hd1 : p3.toInt ≤ 35) (iv22_0 : 0 ≤ (v 22).toInt) (iv22_1 : (v 22).toInt ≤ 1000) (iv23_0 : 0 ≤ (v 23).toInt) (iv23_1 : (v 23).toInt ≤ 49) (ia37_0 : AB 0 7 (a 37)) : Met l yX0_run (Cond.code yX0_run cX0_run 4 (some .int) :: gw) ({ frames := 8, cells := 0, slots := 0, locals := 196 }) (va_Pc [.ref (ad 9), .int 2, .int p2, .int p3] (XPre D (TY cs) (CW cs ad fa fq rv v a w fv fp) A)) (va_Qi (fun (r : Int32) (z : Int32 × (Nat → Int32)) => (z.1.toInt = (v 22).toInt + 5) ∧ (z.2 = TRW (a 38) (v 22).toInt.toNat [2, 10, 20, 1, 11]) ∧ (r = ((((p2 + (v 23)) + 3) * 2) - ((1 : Int32) ^^^ (v 23)))) ∧ (0 ≤ z.1.toInt) ∧ (z.1.toInt ≤ 1000)) (XPo D (fun (z : Int32 × (Nat → Int32)) => CW cs ad fa fq rv (va_up v 22 z.1) (va_up a 38 z.2) w fv fp) A) A) 0 0 A := by
  refine Met.ofW (cc := cX0_run) (maxL := 4) (ret := (some .int)) (by decide) rfl ?_
  intro p e s m args below meth c s₁ B hml hv
  obtain ⟨rfl, hP, hK, hD, hZ⟩ := hv
  have hx := B.exec
  have hb := B.bytes
  have hr := B.returns
  have hts := atoms_spec (ws := (Cond.code yX0_run cX0_run 4 (some .int) :: gw)) B.pre
  have hg : ∀ w ∈ gw, w.before ([.ref (ad 9), .int 2, .int p2, .int p3] : List Value).toArray s = true := fun w h => hts w (List.mem_cons_of_mem _ h)
  have hown : s.vm.findClass RX0 = some m.cls := findClass_of_methodNamed B.named
  have hlocks := B.notSynchronized
  have hS : va_S A s.heap s.heap [] := va_S.rf
  have hP : va_P D vwCl (CW cs ad fa fq rv v a w fv fp) s.heap := hP
  have hl := lv_entry ([.ref (ad 9), .int 2, .int p2, .int p3]) (n := 4) (Nat.le_of_ble_eq_true rfl)
  rw [lg_entry_eq]
  generalize (lg_sl ([.ref (ad 9), .int 2, .int p2, .int p3]) ++ List.replicate (4 - (lg_sl ([.ref (ad 9), .int 2, .int p2, .int p3])).length) Slot.unset).toArray = ls at hl ⊢
  have hl : lv_has ls 4 [(0, .ref (ad 9)), (1, .int 2), (2, .int p2), (3, .int p3)] := hl
  refine lv_aload_n hx hb dX0_run_0 rfl (lv_at hl 0 rfl) ?_
  refine gf_acts_ran hx hb hg hown hK hP (x := (v 22)) rfl (hg _ q1_88) dX0_run_1 ?_
  refine lv_bipush (v := 24) hx hb dX0_run_4 (by decide) ?_
  refine lv_icmp_ge (tgt := 19) hx hb dX0_run_6 (by decide) (fun c_1 => ?_) (fun c_1 => ?_)
  ·
    have kc_1 : (24 : Int) ≤ (v 22).toInt := i_le c_1
    exfalso; omega
  ·
    have kc_1 : (v 22).toInt < (24 : Int) := i_nle c_1
    refine lv_aload_n hx hb dX0_run_9 rfl (lv_at hl 0 rfl) ?_
    refine gf_acts_traced hx hb hg hown hK hP rfl (hg _ q1_86) dX0_run_10 ?_
    refine lv_aload_n hx hb dX0_run_13 rfl (lv_at hl 0 rfl) ?_
    refine gf_acts_ran hx hb hg hown hK hP (x := (v 22)) rfl (hg _ q1_88) dX0_run_14 ?_
    refine lv_iload_n hx hb dX0_run_17 rfl (lv_at hl 1 rfl) ?_
    refine st_Atraced hx hb hK hP hD hS (i_in (by omega) (by omega)) dX0_run_18 (fun H locs hP hD hS => ?_)
    refine lv_aload_n hx hb dX0_run_19 rfl (lv_at hl 0 rfl) ?_
    refine lv_dup hx hb dX0_run_20 rfl ?_
    refine gf_acts_ran hx hb hg hown hK hP (x := (v 22)) rfl (hg _ q1_88) dX0_run_21 ?_
    refine lv_iconst (v := 1) hx hb dX0_run_24 (by decide) ?_
    refine lv_iadd hx hb dX0_run_25 ?_
    refine lv_topi (fun x_2 ex_2 => ?_)
    have fx_2 : x_2.toInt = (v 22).toInt + (1 : Int) := by rw [ex_2]; exact i_add (by first | omega | (show (_ : Int) ≤ (v 22).toInt + (1 : Int); omega)) (by first | omega | (show (v 22).toInt + (1 : Int) ≤ (_ : Int); omega))
    refine pf_acts_ran hx hb hg hown hK hP hD hS (hg _ q1_88) dX0_run_26 (fun H locs hP hD hS => ?_)
    refine lv_iload_n hx hb dX0_run_29 rfl (lv_at hl 1 rfl) ?_
    refine lv_lookup (tgt := 159) hx hb dX0_run_30 (by decide) (off := 129) (by decide) (by decide) ?_
    refine lv_aload_n hx hb dX0_run_159 rfl (lv_at hl 0 rfl) ?_
    refine lv_iconst (v := 1) hx hb dX0_run_160 (by decide) ?_
    refine lv_iload_n hx hb dX0_run_161 rfl (lv_at hl 2 rfl) ?_
    refine lv_iload_n hx hb dX0_run_162 rfl (lv_at hl 3 rfl) ?_
    refine cV_i (As := [.int 1, .int p2, .int p3]) (rest := []) ⟨hx, hb, hml, hown, hg⟩ (k_S_4_1 l D cs A ad fa fq rv (va_up v 22 x_2) (va_up a 38 (upd (a 38) (v 22).toNatClampNeg 2)) w fv fp  p2 p3 hkn (show 0 ≤ x_2.toInt by first | omega | decide) (show x_2.toInt ≤ 21 by first | omega | decide) (show 0 ≤ p3.toInt by first | omega | decide) (show p3.toInt ≤ 35 by first | omega | decide) (show 0 ≤ (v 23).toInt by first | omega | decide) (show (v 23).toInt ≤ 49 by first | omega | decide) ia37_0 (show 0 ≤ x_2.toInt by first | omega | decide) (show x_2.toInt ≤ 1000 by first | omega | decide)) ca_X0_self q4_135 ⟨rfl, rfl⟩ ⟨Nat.le_of_ble_eq_true rfl, Nat.le_of_ble_eq_true rfl⟩ (rc_acts hK hP) hK hP hD hS hZ rfl hl.1 rfl (Nat.le_of_ble_eq_true rfl) ⟨Nat.zero_le _, Nat.zero_le _⟩ dX0_run_163 (fun r_4 z_7 H locs wr_4 hP hD hS => ?_)
    obtain ⟨o_v22_5, o_a38_6⟩ := z_7
    have hP : va_P D vwCl (CW cs ad fa fq rv (va_up v 22 o_v22_5) (va_up a 38 o_a38_6) w fv fp) H := hP
    have hD : va_D A (CW cs ad fa fq rv (va_up v 22 o_v22_5) (va_up a 38 o_a38_6) w fv fp) := hD
    obtain ⟨wr_4_0, wr_4_1, wr_4_2, wr_4_3, wr_4_4⟩ : (o_v22_5.toInt = x_2.toInt + 3) ∧ (o_a38_6 = TRW (upd (a 38) (v 22).toNatClampNeg 2) x_2.toInt.toNat [10, 20, 1]) ∧ (r_4 = (((p2 + (v 23)) + 3) * 2)) ∧ (0 ≤ o_v22_5.toInt) ∧ (o_v22_5.toInt ≤ 1000) := wr_4
    have kt_8 : o_a38_6 = TRW (a 38) (v 22).toInt.toNat [2, 10, 20, 1] := by rw [wr_4_1, show (x_2).toInt.toNat = (v 22).toInt.toNat + 1 from by omega]; rfl
    refine lv_aload_n hx hb dX0_run_166 rfl (lv_at hl 0 rfl) ?_
    refine lv_iconst (v := 2) hx hb dX0_run_167 (by decide) ?_
    refine lv_iconst (v := 1) hx hb dX0_run_168 (by decide) ?_
    refine lv_iload_n hx hb dX0_run_169 rfl (lv_at hl 3 rfl) ?_
    refine cV_i (As := [.int 2, .int 1, .int p3]) (rest := [.int r_4]) ⟨hx, hb, hml, hown, hg⟩ (k_S_4_2 l D cs A ad fa fq rv (va_up v 22 o_v22_5) (va_up a 38 o_a38_6) w fv fp  1 p3 hkn (show 0 ≤ o_v22_5.toInt by first | omega | decide) (show o_v22_5.toInt ≤ 23 by first | omega | decide) (show 0 ≤ p3.toInt by first | omega | decide) (show p3.toInt ≤ 37 by first | omega | decide) (show 0 ≤ (v 23).toInt by first | omega | decide) (show (v 23).toInt ≤ 49 by first | omega | decide) ia37_0 (show 0 ≤ o_v22_5.toInt by first | omega | decide) (show o_v22_5.toInt ≤ 1000 by first | omega | decide)) ca_X0_self q4_135 ⟨rfl, rfl⟩ ⟨Nat.le_of_ble_eq_true rfl, Nat.le_of_ble_eq_true rfl⟩ (rc_acts hK hP) hK hP hD hS hZ rfl hl.1 rfl (Nat.le_of_ble_eq_true rfl) ⟨Nat.zero_le _, Nat.zero_le _⟩ dX0_run_170 (fun r_9 z_12 H locs wr_9 hP hD hS => ?_)
    obtain ⟨o_v22_10, o_a38_11⟩ := z_12
    have hP : va_P D vwCl (CW cs ad fa fq rv (va_up v 22 o_v22_10) (va_up a 38 o_a38_11) w fv fp) H := hP
    have hD : va_D A (CW cs ad fa fq rv (va_up v 22 o_v22_10) (va_up a 38 o_a38_11) w fv fp) := hD
    obtain ⟨wr_9_0, wr_9_1, wr_9_2, wr_9_3, wr_9_4⟩ : (o_v22_10.toInt = o_v22_5.toInt + 1) ∧ (o_a38_11 = TRW o_a38_6 o_v22_5.toInt.toNat [11]) ∧ (r_9 = ((1 : Int32) ^^^ (v 23))) ∧ (0 ≤ o_v22_10.toInt) ∧ (o_v22_10.toInt ≤ 1000) := wr_9
    have kt_13 : o_a38_11 = TRW (a 38) (v 22).toInt.toNat [2, 10, 20, 1, 11] := by rw [wr_9_1, kt_8, show (o_v22_5).toInt.toNat = (v 22).toInt.toNat + 4 from by omega]; rfl
    refine lv_isub hx hb dX0_run_173 ?_
    refine lv_topi (fun x_14 ex_14 => ?_)
    exact W.iret (v := x_14) hx hb hr (fun tt ht hW => ⟨⟨x_14, ⟨o_v22_10, o_a38_11⟩, rfl, ⟨(by first | rfl | omega | trivial | assumption | (dsimp only; first | omega | assumption)), (by (try dsimp only); first | assumption | rfl), (by simp only [ex_14, wr_9_2, wr_4_2, ex_2]), (show 0 ≤ o_v22_10.toInt by first | omega | assumption), (show o_v22_10.toInt ≤ 1000 by first | omega | assumption)⟩, by rw [ht]; exact hP, hD⟩, hS.F ht⟩) hS.2.2 dX0_run_174
set_option maxHeartbeats 4000000 in
set_option maxRecDepth 100000 in
theorem k_F_4_1_3 (l : Launch) (D : va_G) (cs : Nat → ClassId) (A : Nat → Prop) (ad fa fq rv : Nat → Nat) (v : Nat → Int32) (a : Nat → Nat → Int32) (w : Nat → Nat → Int64) (fv fp : Nat → Nat → Int32)  (p3 : Int32) (p4 : Int32) (hkn : (a 37) (v 23).toNatClampNeg = 4) (hr0 : 0 ≤ (v 22).toInt) (hr1 : (v 22).toInt ≤ 19) (hd0 : 0 ≤ p4.toInt) (hd1 : p4.toInt ≤ 34) (iv22_0 : 0 ≤ (v 22).toInt) (iv22_1 : (v 22).toInt ≤ 1000) (iv23_0 : 0 ≤ (v 23).toInt) (iv23_1 : (v 23).toInt ≤ 49) (ia37_0 : AB 0 7 (a 37)) : Met l yX0_from (Cond.code yX0_from cX0_from 8 (some .int) :: gw) ({ frames := 9, cells := 0, slots := 0, locals := 219 }) (va_Pc [.ref (ad 9), .int 1, .int 3, .int p3, .int p4] (XPre D (TY cs) (CW cs ad fa fq rv v a w fv fp) A)) (va_Qi (fun (r : Int32) (z : Int32 × (Nat → Int32)) => (z.1.toInt = (v 22).toInt + 5) ∧ (z.2 = TRW (a 38) (v 22).toInt.toNat [2, 10, 20, 1, 11]) ∧ (r = ((((p3 + (v 23)) + 3) * 2) - ((1 : Int32) ^^^ (v 23)))) ∧ (0 ≤ z.1.toInt) ∧ (z.1.toInt ≤ 1000)) (XPo D (fun (z : Int32 × (Nat → Int32)) => CW cs ad fa fq rv (va_up v 22 z.1) (va_up a 38 z.2) w fv fp) A) A) 0 0 A := by
  refine Met.ofW (cc := cX0_from) (maxL := 8) (ret := (some .int)) (by decide) rfl ?_
  intro p e s m args below meth c s₁ B hml hv
  obtain ⟨rfl, hP, hK, hD, hZ⟩ := hv
  have hx := B.exec
  have hb := B.bytes
  have hr := B.returns
  have hts := atoms_spec (ws := (Cond.code yX0_from cX0_from 8 (some .int) :: gw)) B.pre
  have hg : ∀ w ∈ gw, w.before ([.ref (ad 9), .int 1, .int 3, .int p3, .int p4] : List Value).toArray s = true := fun w h => hts w (List.mem_cons_of_mem _ h)
  have hown : s.vm.findClass RX0 = some m.cls := findClass_of_methodNamed B.named
  have hlocks := B.notSynchronized
  have hS : va_S A s.heap s.heap [] := va_S.rf
  have hP : va_P D vwCl (CW cs ad fa fq rv v a w fv fp) s.heap := hP
  have hl := lv_entry ([.ref (ad 9), .int 1, .int 3, .int p3, .int p4]) (n := 8) (Nat.le_of_ble_eq_true rfl)
  rw [lg_entry_eq]
  generalize (lg_sl ([.ref (ad 9), .int 1, .int 3, .int p3, .int p4]) ++ List.replicate (8 - (lg_sl ([.ref (ad 9), .int 1, .int 3, .int p3, .int p4])).length) Slot.unset).toArray = ls at hl ⊢
  have hl : lv_has ls 8 [(0, .ref (ad 9)), (1, .int 1), (2, .int 3), (3, .int p3), (4, .int p4)] := hl
  refine lv_iload_n hx hb dX0_from_0 rfl (lv_at hl 1 rfl) ?_
  refine lv_istore (lv' := [(5, .int 1), (0, .ref (ad 9)), (1, .int 1), (2, .int 3), (3, .int p3), (4, .int p4)]) hx hb dX0_from_1 hl (by decide) rfl (fun ls hl => ?_)
  refine lv_iconst (v := 0) hx hb dX0_from_3 (by decide) ?_
  refine lv_istore (lv' := [(6, .int 0), (5, .int 1), (0, .ref (ad 9)), (1, .int 1), (2, .int 3), (3, .int p3), (4, .int p4)]) hx hb dX0_from_4 hl (by decide) rfl (fun ls hl => ?_)
  refine lv_iload hx hb dX0_from_6 (lv_at hl 0 rfl) ?_
  obtain ⟨t0, t1, t2, ⟨a0, b0⟩, ⟨a1, b1⟩, ⟨a2, b2⟩⟩ := id hZ
  refine va_gets hx hb a2 hS hown (hg _ q4_143) (fun _ h9 => h9) dX0_from_8 ?_
  refine va_tlen hx hb b2 hS (v := 8) rfl dX0_from_11 ?_
  refine lv_icmp_ge (tgt := 73) hx hb dX0_from_12 (by decide) (fun c_1 => absurd c_1 (by decide)) (fun c_1 => ?_)
  refine lv_iload hx hb dX0_from_15 (lv_at hl 1 rfl) ?_
  refine cS_p (As := [.int 1]) (rest := []) ⟨hx, hb, hml, hown, hg⟩ (k_IK_2 l    ) ca_X0_isKind q4_145 ⟨rfl, rfl⟩ ⟨Nat.le_of_ble_eq_true rfl, Nat.le_of_ble_eq_true rfl⟩ rfl hl.1 rfl (Nat.le_of_ble_eq_true rfl) ⟨Nat.zero_le _, Nat.zero_le _⟩ dX0_from_17 (fun r_2 wr_2 => ?_)
  have wr_2 : r_2.toInt = 1 := wr_2
  refine lv_if_eq (tgt := 73) hx hb dX0_from_20 (by decide) (fun c_3 => ?_) (fun c_3 => ?_)
  ·
    have kc_3 : r_2.toInt = (0 : Int) := i_eq c_3
    exfalso; omega
  ·
    have kc_3 : r_2.toInt ≠ (0 : Int) := i_ne c_3
    refine lv_iload hx hb dX0_from_23 (lv_at hl 1 rfl) ?_
    refine lv_iload_n hx hb dX0_from_25 rfl (lv_at hl 4 rfl) ?_
    refine cS_p (As := [.int 1, .int 3]) (rest := []) ⟨hx, hb, hml, hown, hg⟩ (k_B_1_3 l    ) ca_X0_bodyOf q4_146 ⟨rfl, rfl⟩ ⟨Nat.le_of_ble_eq_true rfl, Nat.le_of_ble_eq_true rfl⟩ rfl hl.1 rfl (Nat.le_of_ble_eq_true rfl) ⟨Nat.zero_le _, Nat.zero_le _⟩ dX0_from_26 (fun r_4 wr_4 => ?_)
    have wr_4 : r_4.toInt = 0 := wr_4
    have el_5 : r_4 = 0 := i_inj (wr_4.trans (by rfl))
    subst el_5
    refine lv_istore (lv' := [(7, .int 0), (6, .int 0), (5, .int 1), (0, .ref (ad 9)), (1, .int 1), (2, .int 3), (3, .int p3), (4, .int p4)]) hx hb dX0_from_29 hl (by decide) rfl (fun ls hl => ?_)
    refine lv_iload hx hb dX0_from_31 (lv_at hl 0 rfl) ?_
    refine lv_if_eq (tgt := 59) hx hb dX0_from_33 (by decide) (fun c_6 => ?_) (fun c_6 => absurd c_6 (by decide))
    obtain ⟨t0, t1, t2, ⟨a0, b0⟩, ⟨a1, b1⟩, ⟨a2, b2⟩⟩ := id hZ
    refine va_gets hx hb a2 hS hown (hg _ q4_143) (fun _ h9 => h9) dX0_from_59 ?_
    refine lv_iload hx hb dX0_from_62 (lv_at hl 2 rfl) ?_
    refine va_ti hx hb b2 hS (i_in (by decide) (by decide)) (v := .int 0) rfl dX0_from_64 ?_
    refine lv_istore (lv' := [(5, .int 0), (7, .int 0), (6, .int 0), (0, .ref (ad 9)), (1, .int 1), (2, .int 3), (3, .int p3), (4, .int p4)]) hx hb dX0_from_65 hl (by decide) rfl (fun ls hl => ?_)
    obtain ⟨x_7, ex_7⟩ : ∃ y : Int32, y = 0 + 1 := ⟨_, rfl⟩
    have fx_7 : x_7.toInt = (0 : Int) + 1 := by rw [ex_7]; exact i_add (by first | omega | (show (_ : Int) ≤ (0 : Int) + 1; omega)) (by first | omega | (show (0 : Int) + 1 ≤ (_ : Int); omega))
    refine lv_iinc (v := x_7) (lv' := [(6, .int x_7), (5, .int 0), (7, .int 0), (0, .ref (ad 9)), (1, .int 1), (2, .int 3), (3, .int p3), (4, .int p4)]) hx hb dX0_from_67 hl (k := 2) rfl (by rw [ex_7]; rfl) (by decide) rfl (fun ls hl => ?_)
    refine lv_goto (tgt := 6) hx hb dX0_from_70 (by decide) ?_
    refine lv_iload hx hb dX0_from_6 (lv_at hl 0 rfl) ?_
    obtain ⟨t0, t1, t2, ⟨a0, b0⟩, ⟨a1, b1⟩, ⟨a2, b2⟩⟩ := id hZ
    refine va_gets hx hb a2 hS hown (hg _ q4_143) (fun _ h9 => h9) dX0_from_8 ?_
    refine va_tlen hx hb b2 hS (v := 8) rfl dX0_from_11 ?_
    refine lv_icmp_ge (tgt := 73) hx hb dX0_from_12 (by decide) (fun c_8 => ?_) (fun c_8 => ?_)
    ·
      have kc_8 : (8 : Int) ≤ x_7.toInt := i_le c_8
      exfalso; omega
    ·
      have kc_8 : x_7.toInt < (8 : Int) := i_nle c_8
      refine lv_iload hx hb dX0_from_15 (lv_at hl 1 rfl) ?_
      refine cS_p (As := [.int 0]) (rest := []) ⟨hx, hb, hml, hown, hg⟩ (k_IK_1 l    ) ca_X0_isKind q4_145 ⟨rfl, rfl⟩ ⟨Nat.le_of_ble_eq_true rfl, Nat.le_of_ble_eq_true rfl⟩ rfl hl.1 rfl (Nat.le_of_ble_eq_true rfl) ⟨Nat.zero_le _, Nat.zero_le _⟩ dX0_from_17 (fun r_9 wr_9 => ?_)
      have wr_9 : r_9.toInt = 1 := wr_9
      refine lv_if_eq (tgt := 73) hx hb dX0_from_20 (by decide) (fun c_10 => ?_) (fun c_10 => ?_)
      ·
        have kc_10 : r_9.toInt = (0 : Int) := i_eq c_10
        exfalso; omega
      ·
        have kc_10 : r_9.toInt ≠ (0 : Int) := i_ne c_10
        refine lv_iload hx hb dX0_from_23 (lv_at hl 1 rfl) ?_
        refine lv_iload_n hx hb dX0_from_25 rfl (lv_at hl 5 rfl) ?_
        refine cS_p (As := [.int 0, .int 3]) (rest := []) ⟨hx, hb, hml, hown, hg⟩ (k_B_0_3 l    ) ca_X0_bodyOf q4_146 ⟨rfl, rfl⟩ ⟨Nat.le_of_ble_eq_true rfl, Nat.le_of_ble_eq_true rfl⟩ rfl hl.1 rfl (Nat.le_of_ble_eq_true rfl) ⟨Nat.zero_le _, Nat.zero_le _⟩ dX0_from_26 (fun r_11 wr_11 => ?_)
        have wr_11 : r_11.toInt = 2 := wr_11
        have el_12 : r_11 = 2 := i_inj (wr_11.trans (by rfl))
        subst el_12
        refine lv_istore (lv' := [(7, .int 2), (6, .int x_7), (5, .int 0), (0, .ref (ad 9)), (1, .int 1), (2, .int 3), (3, .int p3), (4, .int p4)]) hx hb dX0_from_29 hl (by decide) rfl (fun ls hl => ?_)
        refine lv_iload hx hb dX0_from_31 (lv_at hl 0 rfl) ?_
        refine lv_if_eq (tgt := 59) hx hb dX0_from_33 (by decide) (fun c_13 => absurd c_13 (by decide)) (fun c_13 => ?_)
        refine lv_iload hx hb dX0_from_36 (lv_at hl 7 rfl) ?_
        refine lv_bipush (v := 40) hx hb dX0_from_38 (by decide) ?_
        refine lv_icmp_ge (tgt := 57) hx hb dX0_from_40 (by decide) (fun c_14 => ?_) (fun c_14 => ?_)
        ·
          have kc_14 : (40 : Int) ≤ p4.toInt := i_le c_14
          exfalso; omega
        ·
          have kc_14 : p4.toInt < (40 : Int) := i_nle c_14
          refine lv_aload_n hx hb dX0_from_43 rfl (lv_at hl 3 rfl) ?_
          refine lv_iload hx hb dX0_from_44 (lv_at hl 0 rfl) ?_
          refine lv_iload_n hx hb dX0_from_46 rfl (lv_at hl 6 rfl) ?_
          refine lv_iload hx hb dX0_from_47 (lv_at hl 7 rfl) ?_
          refine lv_iconst (v := 1) hx hb dX0_from_49 (by decide) ?_
          refine lv_iadd hx hb dX0_from_50 ?_
          refine lv_topi (fun x_15 ex_15 => ?_)
          have fx_15 : x_15.toInt = p4.toInt + (1 : Int) := by rw [ex_15]; exact i_add (by first | omega | (show (_ : Int) ≤ p4.toInt + (1 : Int); omega)) (by first | omega | (show p4.toInt + (1 : Int) ≤ (_ : Int); omega))
          refine cV_i (As := [.int 2, .int p3, .int x_15]) (rest := []) ⟨hx, hb, hml, hown, hg⟩ (k_R_4_2 l D cs A ad fa fq rv v a w fv fp  p3 x_15 hkn (show 0 ≤ (v 22).toInt by first | omega | decide) (show (v 22).toInt ≤ 19 by first | omega | decide) (show 0 ≤ x_15.toInt by first | omega | decide) (show x_15.toInt ≤ 35 by first | omega | decide) (show 0 ≤ (v 22).toInt by first | omega | decide) (show (v 22).toInt ≤ 1000 by first | omega | decide) (show 0 ≤ (v 23).toInt by first | omega | decide) (show (v 23).toInt ≤ 49 by first | omega | decide) ia37_0) ca_X0_run q4_149 ⟨rfl, rfl⟩ ⟨Nat.le_of_ble_eq_true rfl, Nat.le_of_ble_eq_true rfl⟩ (rc_acts hK hP) hK hP hD hS hZ rfl hl.1 rfl (Nat.le_of_ble_eq_true rfl) ⟨Nat.zero_le _, Nat.zero_le _⟩ dX0_from_51 (fun r_16 z_19 H locs wr_16 hP hD hS => ?_)
          obtain ⟨o_v22_17, o_a38_18⟩ := z_19
          have hP : va_P D vwCl (CW cs ad fa fq rv (va_up v 22 o_v22_17) (va_up a 38 o_a38_18) w fv fp) H := hP
          have hD : va_D A (CW cs ad fa fq rv (va_up v 22 o_v22_17) (va_up a 38 o_a38_18) w fv fp) := hD
          obtain ⟨wr_16_0, wr_16_1, wr_16_2, wr_16_3, wr_16_4⟩ : (o_v22_17.toInt = (v 22).toInt + 5) ∧ (o_a38_18 = TRW (a 38) (v 22).toInt.toNat [2, 10, 20, 1, 11]) ∧ (r_16 = ((((p3 + (v 23)) + 3) * 2) - ((1 : Int32) ^^^ (v 23)))) ∧ (0 ≤ o_v22_17.toInt) ∧ (o_v22_17.toInt ≤ 1000) := wr_16
          have kt_20 : o_a38_18 = TRW (a 38) (v 22).toInt.toNat [2, 10, 20, 1, 11] := by rw [wr_16_1]
          refine lv_goto (tgt := 58) hx hb dX0_from_54 (by decide) ?_
          exact W.iret (v := r_16) hx hb hr (fun tt ht hW => ⟨⟨r_16, ⟨o_v22_17, o_a38_18⟩, rfl, ⟨(by first | rfl | omega | trivial | assumption | (dsimp only; first | omega | assumption)), (by (try dsimp only); first | assumption | rfl), (by simp only [wr_16_2, ex_15]), (show 0 ≤ o_v22_17.toInt by first | omega | assumption), (show o_v22_17.toInt ≤ 1000 by first | omega | assumption)⟩, by rw [ht]; exact hP, hD⟩, hS.F ht⟩) hS.2.2 dX0_from_58
set_option maxHeartbeats 4000000 in
set_option maxRecDepth 100000 in
theorem k_R_4_50 (l : Launch) (D : va_G) (cs : Nat → ClassId) (A : Nat → Prop) (ad fa fq rv : Nat → Nat) (v : Nat → Int32) (a : Nat → Nat → Int32) (w : Nat → Nat → Int64) (fv fp : Nat → Nat → Int32)  (p2 : Int32) (p3 : Int32) (hkn : (a 37) (v 23).toNatClampNeg = 4) (hr0 : 0 ≤ (v 22).toInt) (hr1 : (v 22).toInt ≤ 18) (hd0 : 0 ≤ p3.toInt) (hd1 : p3.toInt ≤ 34) (iv22_0 : 0 ≤ (v 22).toInt) (iv22_1 : (v 22).toInt ≤ 1000) (iv23_0 : 0 ≤ (v 23).toInt) (iv23_1 : (v 23).toInt ≤ 49) (ia37_0 : AB 0 7 (a 37)) : Met l yX0_run (Cond.code yX0_run cX0_run 4 (some .int) :: gw) ({ frames := 10, cells := 0, slots := 0, locals := 246 }) (va_Pc [.ref (ad 9), .int 50, .int p2, .int p3] (XPre D (TY cs) (CW cs ad fa fq rv v a w fv fp) A)) (va_Qi (fun (r : Int32) (z : Int32 × (Nat → Int32)) => (z.1.toInt = (v 22).toInt + 6) ∧ (z.2 = TRW (a 38) (v 22).toInt.toNat [50, 2, 10, 20, 1, 11]) ∧ (r = (((((p2 + (v 23)) + 3) * 2) - ((1 : Int32) ^^^ (v 23))) ^^^ 5)) ∧ (0 ≤ z.1.toInt) ∧ (z.1.toInt ≤ 1000)) (XPo D (fun (z : Int32 × (Nat → Int32)) => CW cs ad fa fq rv (va_up v 22 z.1) (va_up a 38 z.2) w fv fp) A) A) 0 0 A := by
  refine Met.ofW (cc := cX0_run) (maxL := 4) (ret := (some .int)) (by decide) rfl ?_
  intro p e s m args below meth c s₁ B hml hv
  obtain ⟨rfl, hP, hK, hD, hZ⟩ := hv
  have hx := B.exec
  have hb := B.bytes
  have hr := B.returns
  have hts := atoms_spec (ws := (Cond.code yX0_run cX0_run 4 (some .int) :: gw)) B.pre
  have hg : ∀ w ∈ gw, w.before ([.ref (ad 9), .int 50, .int p2, .int p3] : List Value).toArray s = true := fun w h => hts w (List.mem_cons_of_mem _ h)
  have hown : s.vm.findClass RX0 = some m.cls := findClass_of_methodNamed B.named
  have hlocks := B.notSynchronized
  have hS : va_S A s.heap s.heap [] := va_S.rf
  have hP : va_P D vwCl (CW cs ad fa fq rv v a w fv fp) s.heap := hP
  have hl := lv_entry ([.ref (ad 9), .int 50, .int p2, .int p3]) (n := 4) (Nat.le_of_ble_eq_true rfl)
  rw [lg_entry_eq]
  generalize (lg_sl ([.ref (ad 9), .int 50, .int p2, .int p3]) ++ List.replicate (4 - (lg_sl ([.ref (ad 9), .int 50, .int p2, .int p3])).length) Slot.unset).toArray = ls at hl ⊢
  have hl : lv_has ls 4 [(0, .ref (ad 9)), (1, .int 50), (2, .int p2), (3, .int p3)] := hl
  refine lv_aload_n hx hb dX0_run_0 rfl (lv_at hl 0 rfl) ?_
  refine gf_acts_ran hx hb hg hown hK hP (x := (v 22)) rfl (hg _ q1_88) dX0_run_1 ?_
  refine lv_bipush (v := 24) hx hb dX0_run_4 (by decide) ?_
  refine lv_icmp_ge (tgt := 19) hx hb dX0_run_6 (by decide) (fun c_1 => ?_) (fun c_1 => ?_)
  ·
    have kc_1 : (24 : Int) ≤ (v 22).toInt := i_le c_1
    exfalso; omega
  ·
    have kc_1 : (v 22).toInt < (24 : Int) := i_nle c_1
    refine lv_aload_n hx hb dX0_run_9 rfl (lv_at hl 0 rfl) ?_
    refine gf_acts_traced hx hb hg hown hK hP rfl (hg _ q1_86) dX0_run_10 ?_
    refine lv_aload_n hx hb dX0_run_13 rfl (lv_at hl 0 rfl) ?_
    refine gf_acts_ran hx hb hg hown hK hP (x := (v 22)) rfl (hg _ q1_88) dX0_run_14 ?_
    refine lv_iload_n hx hb dX0_run_17 rfl (lv_at hl 1 rfl) ?_
    refine st_Atraced hx hb hK hP hD hS (i_in (by omega) (by omega)) dX0_run_18 (fun H locs hP hD hS => ?_)
    refine lv_aload_n hx hb dX0_run_19 rfl (lv_at hl 0 rfl) ?_
    refine lv_dup hx hb dX0_run_20 rfl ?_
    refine gf_acts_ran hx hb hg hown hK hP (x := (v 22)) rfl (hg _ q1_88) dX0_run_21 ?_
    refine lv_iconst (v := 1) hx hb dX0_run_24 (by decide) ?_
    refine lv_iadd hx hb dX0_run_25 ?_
    refine lv_topi (fun x_2 ex_2 => ?_)
    have fx_2 : x_2.toInt = (v 22).toInt + (1 : Int) := by rw [ex_2]; exact i_add (by first | omega | (show (_ : Int) ≤ (v 22).toInt + (1 : Int); omega)) (by first | omega | (show (v 22).toInt + (1 : Int) ≤ (_ : Int); omega))
    refine pf_acts_ran hx hb hg hown hK hP hD hS (hg _ q1_88) dX0_run_26 (fun H locs hP hD hS => ?_)
    refine lv_iload_n hx hb dX0_run_29 rfl (lv_at hl 1 rfl) ?_
    refine lv_lookup (tgt := 251) hx hb dX0_run_30 (by decide) (off := 221) (by decide) (by decide) ?_
    refine lv_aload_n hx hb dX0_run_251 rfl (lv_at hl 0 rfl) ?_
    obtain ⟨t0, t1, t2, ⟨a0, b0⟩, ⟨a1, b1⟩, ⟨a2, b2⟩⟩ := id hZ
    refine va_gets hx hb a2 hS hown (hg _ q4_143) (fun _ h9 => h9) dX0_run_252 ?_
    refine lv_iconst (v := 4) hx hb dX0_run_255 (by decide) ?_
    refine va_ti hx hb b2 hS (i_in (by decide) (by decide)) (v := .int 1) rfl dX0_run_256 ?_
    refine lv_iconst (v := 3) hx hb dX0_run_257 (by decide) ?_
    refine lv_iload_n hx hb dX0_run_258 rfl (lv_at hl 2 rfl) ?_
    refine lv_iload_n hx hb dX0_run_259 rfl (lv_at hl 3 rfl) ?_
    refine cV_i (As := [.int 1, .int 3, .int p2, .int p3]) (rest := []) ⟨hx, hb, hml, hown, hg⟩ (k_F_4_1_3 l D cs A ad fa fq rv (va_up v 22 x_2) (va_up a 38 (upd (a 38) (v 22).toNatClampNeg 50)) w fv fp  p2 p3 hkn (show 0 ≤ x_2.toInt by first | omega | decide) (show x_2.toInt ≤ 19 by first | omega | decide) (show 0 ≤ p3.toInt by first | omega | decide) (show p3.toInt ≤ 34 by first | omega | decide) (show 0 ≤ x_2.toInt by first | omega | decide) (show x_2.toInt ≤ 1000 by first | omega | decide) (show 0 ≤ (v 23).toInt by first | omega | decide) (show (v 23).toInt ≤ 49 by first | omega | decide) ia37_0) ca_X0_from q4_139 ⟨rfl, rfl⟩ ⟨Nat.le_of_ble_eq_true rfl, Nat.le_of_ble_eq_true rfl⟩ (rc_acts hK hP) hK hP hD hS hZ rfl hl.1 rfl (Nat.le_of_ble_eq_true rfl) ⟨Nat.zero_le _, Nat.zero_le _⟩ dX0_run_260 (fun r_4 z_7 H locs wr_4 hP hD hS => ?_)
    obtain ⟨o_v22_5, o_a38_6⟩ := z_7
    have hP : va_P D vwCl (CW cs ad fa fq rv (va_up v 22 o_v22_5) (va_up a 38 o_a38_6) w fv fp) H := hP
    have hD : va_D A (CW cs ad fa fq rv (va_up v 22 o_v22_5) (va_up a 38 o_a38_6) w fv fp) := hD
    obtain ⟨wr_4_0, wr_4_1, wr_4_2, wr_4_3, wr_4_4⟩ : (o_v22_5.toInt = x_2.toInt + 5) ∧ (o_a38_6 = TRW (upd (a 38) (v 22).toNatClampNeg 50) x_2.toInt.toNat [2, 10, 20, 1, 11]) ∧ (r_4 = ((((p2 + (v 23)) + 3) * 2) - ((1 : Int32) ^^^ (v 23)))) ∧ (0 ≤ o_v22_5.toInt) ∧ (o_v22_5.toInt ≤ 1000) := wr_4
    have kt_8 : o_a38_6 = TRW (a 38) (v 22).toInt.toNat [50, 2, 10, 20, 1, 11] := by rw [wr_4_1, show (x_2).toInt.toNat = (v 22).toInt.toNat + 1 from by omega]; rfl
    refine lv_iconst (v := 5) hx hb dX0_run_263 (by decide) ?_
    refine lv_ixor hx hb dX0_run_264 ?_
    refine lv_topi (fun x_9 ex_9 => ?_)
    exact W.iret (v := x_9) hx hb hr (fun tt ht hW => ⟨⟨x_9, ⟨o_v22_5, o_a38_6⟩, rfl, ⟨(by first | rfl | omega | trivial | assumption | (dsimp only; first | omega | assumption)), (by (try dsimp only); first | assumption | rfl), (by simp only [ex_9, wr_4_2, ex_2]), (show 0 ≤ o_v22_5.toInt by first | omega | assumption), (show o_v22_5.toInt ≤ 1000 by first | omega | assumption)⟩, by rw [ht]; exact hP, hD⟩, hS.F ht⟩) hS.2.2 dX0_run_265
set_option maxHeartbeats 4000000 in
set_option maxRecDepth 100000 in
theorem k_F_4_4_3 (l : Launch) (D : va_G) (cs : Nat → ClassId) (A : Nat → Prop) (ad fa fq rv : Nat → Nat) (v : Nat → Int32) (a : Nat → Nat → Int32) (w : Nat → Nat → Int64) (fv fp : Nat → Nat → Int32)  (p3 : Int32) (p4 : Int32) (hkn : (a 37) (v 23).toNatClampNeg = 4) (hr0 : 0 ≤ (v 22).toInt) (hr1 : (v 22).toInt ≤ 18) (hd0 : 0 ≤ p4.toInt) (hd1 : p4.toInt ≤ 33) (iv22_0 : 0 ≤ (v 22).toInt) (iv22_1 : (v 22).toInt ≤ 1000) (iv23_0 : 0 ≤ (v 23).toInt) (iv23_1 : (v 23).toInt ≤ 49) (ia37_0 : AB 0 7 (a 37)) : Met l yX0_from (Cond.code yX0_from cX0_from 8 (some .int) :: gw) ({ frames := 11, cells := 0, slots := 0, locals := 269 }) (va_Pc [.ref (ad 9), .int 4, .int 3, .int p3, .int p4] (XPre D (TY cs) (CW cs ad fa fq rv v a w fv fp) A)) (va_Qi (fun (r : Int32) (z : Int32 × (Nat → Int32)) => (z.1.toInt = (v 22).toInt + 6) ∧ (z.2 = TRW (a 38) (v 22).toInt.toNat [50, 2, 10, 20, 1, 11]) ∧ (r = (((((p3 + (v 23)) + 3) * 2) - ((1 : Int32) ^^^ (v 23))) ^^^ 5)) ∧ (0 ≤ z.1.toInt) ∧ (z.1.toInt ≤ 1000)) (XPo D (fun (z : Int32 × (Nat → Int32)) => CW cs ad fa fq rv (va_up v 22 z.1) (va_up a 38 z.2) w fv fp) A) A) 0 0 A := by
  refine Met.ofW (cc := cX0_from) (maxL := 8) (ret := (some .int)) (by decide) rfl ?_
  intro p e s m args below meth c s₁ B hml hv
  obtain ⟨rfl, hP, hK, hD, hZ⟩ := hv
  have hx := B.exec
  have hb := B.bytes
  have hr := B.returns
  have hts := atoms_spec (ws := (Cond.code yX0_from cX0_from 8 (some .int) :: gw)) B.pre
  have hg : ∀ w ∈ gw, w.before ([.ref (ad 9), .int 4, .int 3, .int p3, .int p4] : List Value).toArray s = true := fun w h => hts w (List.mem_cons_of_mem _ h)
  have hown : s.vm.findClass RX0 = some m.cls := findClass_of_methodNamed B.named
  have hlocks := B.notSynchronized
  have hS : va_S A s.heap s.heap [] := va_S.rf
  have hP : va_P D vwCl (CW cs ad fa fq rv v a w fv fp) s.heap := hP
  have hl := lv_entry ([.ref (ad 9), .int 4, .int 3, .int p3, .int p4]) (n := 8) (Nat.le_of_ble_eq_true rfl)
  rw [lg_entry_eq]
  generalize (lg_sl ([.ref (ad 9), .int 4, .int 3, .int p3, .int p4]) ++ List.replicate (8 - (lg_sl ([.ref (ad 9), .int 4, .int 3, .int p3, .int p4])).length) Slot.unset).toArray = ls at hl ⊢
  have hl : lv_has ls 8 [(0, .ref (ad 9)), (1, .int 4), (2, .int 3), (3, .int p3), (4, .int p4)] := hl
  refine lv_iload_n hx hb dX0_from_0 rfl (lv_at hl 1 rfl) ?_
  refine lv_istore (lv' := [(5, .int 4), (0, .ref (ad 9)), (1, .int 4), (2, .int 3), (3, .int p3), (4, .int p4)]) hx hb dX0_from_1 hl (by decide) rfl (fun ls hl => ?_)
  refine lv_iconst (v := 0) hx hb dX0_from_3 (by decide) ?_
  refine lv_istore (lv' := [(6, .int 0), (5, .int 4), (0, .ref (ad 9)), (1, .int 4), (2, .int 3), (3, .int p3), (4, .int p4)]) hx hb dX0_from_4 hl (by decide) rfl (fun ls hl => ?_)
  refine lv_iload hx hb dX0_from_6 (lv_at hl 0 rfl) ?_
  obtain ⟨t0, t1, t2, ⟨a0, b0⟩, ⟨a1, b1⟩, ⟨a2, b2⟩⟩ := id hZ
  refine va_gets hx hb a2 hS hown (hg _ q4_143) (fun _ h9 => h9) dX0_from_8 ?_
  refine va_tlen hx hb b2 hS (v := 8) rfl dX0_from_11 ?_
  refine lv_icmp_ge (tgt := 73) hx hb dX0_from_12 (by decide) (fun c_1 => absurd c_1 (by decide)) (fun c_1 => ?_)
  refine lv_iload hx hb dX0_from_15 (lv_at hl 1 rfl) ?_
  refine cS_p (As := [.int 4]) (rest := []) ⟨hx, hb, hml, hown, hg⟩ (k_IK_5 l    ) ca_X0_isKind q4_145 ⟨rfl, rfl⟩ ⟨Nat.le_of_ble_eq_true rfl, Nat.le_of_ble_eq_true rfl⟩ rfl hl.1 rfl (Nat.le_of_ble_eq_true rfl) ⟨Nat.zero_le _, Nat.zero_le _⟩ dX0_from_17 (fun r_2 wr_2 => ?_)
  have wr_2 : r_2.toInt = 1 := wr_2
  refine lv_if_eq (tgt := 73) hx hb dX0_from_20 (by decide) (fun c_3 => ?_) (fun c_3 => ?_)
  ·
    have kc_3 : r_2.toInt = (0 : Int) := i_eq c_3
    exfalso; omega
  ·
    have kc_3 : r_2.toInt ≠ (0 : Int) := i_ne c_3
    refine lv_iload hx hb dX0_from_23 (lv_at hl 1 rfl) ?_
    refine lv_iload_n hx hb dX0_from_25 rfl (lv_at hl 4 rfl) ?_
    refine cS_p (As := [.int 4, .int 3]) (rest := []) ⟨hx, hb, hml, hown, hg⟩ (k_B_4_3 l    ) ca_X0_bodyOf q4_146 ⟨rfl, rfl⟩ ⟨Nat.le_of_ble_eq_true rfl, Nat.le_of_ble_eq_true rfl⟩ rfl hl.1 rfl (Nat.le_of_ble_eq_true rfl) ⟨Nat.zero_le _, Nat.zero_le _⟩ dX0_from_26 (fun r_4 wr_4 => ?_)
    have wr_4 : r_4.toInt = 50 := wr_4
    have el_5 : r_4 = 50 := i_inj (wr_4.trans (by rfl))
    subst el_5
    refine lv_istore (lv' := [(7, .int 50), (6, .int 0), (5, .int 4), (0, .ref (ad 9)), (1, .int 4), (2, .int 3), (3, .int p3), (4, .int p4)]) hx hb dX0_from_29 hl (by decide) rfl (fun ls hl => ?_)
    refine lv_iload hx hb dX0_from_31 (lv_at hl 0 rfl) ?_
    refine lv_if_eq (tgt := 59) hx hb dX0_from_33 (by decide) (fun c_6 => absurd c_6 (by decide)) (fun c_6 => ?_)
    refine lv_iload hx hb dX0_from_36 (lv_at hl 7 rfl) ?_
    refine lv_bipush (v := 40) hx hb dX0_from_38 (by decide) ?_
    refine lv_icmp_ge (tgt := 57) hx hb dX0_from_40 (by decide) (fun c_7 => ?_) (fun c_7 => ?_)
    ·
      have kc_7 : (40 : Int) ≤ p4.toInt := i_le c_7
      exfalso; omega
    ·
      have kc_7 : p4.toInt < (40 : Int) := i_nle c_7
      refine lv_aload_n hx hb dX0_from_43 rfl (lv_at hl 3 rfl) ?_
      refine lv_iload hx hb dX0_from_44 (lv_at hl 0 rfl) ?_
      refine lv_iload_n hx hb dX0_from_46 rfl (lv_at hl 6 rfl) ?_
      refine lv_iload hx hb dX0_from_47 (lv_at hl 7 rfl) ?_
      refine lv_iconst (v := 1) hx hb dX0_from_49 (by decide) ?_
      refine lv_iadd hx hb dX0_from_50 ?_
      refine lv_topi (fun x_8 ex_8 => ?_)
      have fx_8 : x_8.toInt = p4.toInt + (1 : Int) := by rw [ex_8]; exact i_add (by first | omega | (show (_ : Int) ≤ p4.toInt + (1 : Int); omega)) (by first | omega | (show p4.toInt + (1 : Int) ≤ (_ : Int); omega))
      refine cV_i (As := [.int 50, .int p3, .int x_8]) (rest := []) ⟨hx, hb, hml, hown, hg⟩ (k_R_4_50 l D cs A ad fa fq rv v a w fv fp  p3 x_8 hkn (show 0 ≤ (v 22).toInt by first | omega | decide) (show (v 22).toInt ≤ 18 by first | omega | decide) (show 0 ≤ x_8.toInt by first | omega | decide) (show x_8.toInt ≤ 34 by first | omega | decide) (show 0 ≤ (v 22).toInt by first | omega | decide) (show (v 22).toInt ≤ 1000 by first | omega | decide) (show 0 ≤ (v 23).toInt by first | omega | decide) (show (v 23).toInt ≤ 49 by first | omega | decide) ia37_0) ca_X0_run q4_149 ⟨rfl, rfl⟩ ⟨Nat.le_of_ble_eq_true rfl, Nat.le_of_ble_eq_true rfl⟩ (rc_acts hK hP) hK hP hD hS hZ rfl hl.1 rfl (Nat.le_of_ble_eq_true rfl) ⟨Nat.zero_le _, Nat.zero_le _⟩ dX0_from_51 (fun r_9 z_12 H locs wr_9 hP hD hS => ?_)
      obtain ⟨o_v22_10, o_a38_11⟩ := z_12
      have hP : va_P D vwCl (CW cs ad fa fq rv (va_up v 22 o_v22_10) (va_up a 38 o_a38_11) w fv fp) H := hP
      have hD : va_D A (CW cs ad fa fq rv (va_up v 22 o_v22_10) (va_up a 38 o_a38_11) w fv fp) := hD
      obtain ⟨wr_9_0, wr_9_1, wr_9_2, wr_9_3, wr_9_4⟩ : (o_v22_10.toInt = (v 22).toInt + 6) ∧ (o_a38_11 = TRW (a 38) (v 22).toInt.toNat [50, 2, 10, 20, 1, 11]) ∧ (r_9 = (((((p3 + (v 23)) + 3) * 2) - ((1 : Int32) ^^^ (v 23))) ^^^ 5)) ∧ (0 ≤ o_v22_10.toInt) ∧ (o_v22_10.toInt ≤ 1000) := wr_9
      have kt_13 : o_a38_11 = TRW (a 38) (v 22).toInt.toNat [50, 2, 10, 20, 1, 11] := by rw [wr_9_1]
      refine lv_goto (tgt := 58) hx hb dX0_from_54 (by decide) ?_
      exact W.iret (v := r_9) hx hb hr (fun tt ht hW => ⟨⟨r_9, ⟨o_v22_10, o_a38_11⟩, rfl, ⟨(by first | rfl | omega | trivial | assumption | (dsimp only; first | omega | assumption)), (by (try dsimp only); first | assumption | rfl), (by simp only [wr_9_2, ex_8]), (show 0 ≤ o_v22_10.toInt by first | omega | assumption), (show o_v22_10.toInt ≤ 1000 by first | omega | assumption)⟩, by rw [ht]; exact hP, hD⟩, hS.F ht⟩) hS.2.2 dX0_from_58
set_option maxHeartbeats 4000000 in
set_option maxRecDepth 100000 in
theorem k_S_4_3 (l : Launch) (D : va_G) (cs : Nat → ClassId) (A : Nat → Prop) (ad fa fq rv : Nat → Nat) (v : Nat → Int32) (a : Nat → Nat → Int32) (w : Nat → Nat → Int64) (fv fp : Nat → Nat → Int32)  (p2 : Int32) (p3 : Int32) (hkn : (a 37) (v 23).toNatClampNeg = 4) (hr0 : 0 ≤ (v 22).toInt) (hr1 : (v 22).toInt ≤ 18) (hd0 : 0 ≤ p3.toInt) (hd1 : p3.toInt ≤ 33) (iv23_0 : 0 ≤ (v 23).toInt) (iv23_1 : (v 23).toInt ≤ 49) (ia37_0 : AB 0 7 (a 37)) (iv22_0 : 0 ≤ (v 22).toInt) (iv22_1 : (v 22).toInt ≤ 1000) : Met l yX0_self (Cond.code yX0_self cX0_self 4 (some .int) :: gw) ({ frames := 12, cells := 0, slots := 0, locals := 296 }) (va_Pc [.ref (ad 9), .int 3, .int p2, .int p3] (XPre D (TY cs) (CW cs ad fa fq rv v a w fv fp) A)) (va_Qi (fun (r : Int32) (z : Int32 × (Nat → Int32)) => (z.1.toInt = (v 22).toInt + 6) ∧ (z.2 = TRW (a 38) (v 22).toInt.toNat [50, 2, 10, 20, 1, 11]) ∧ (r = (((((p2 + (v 23)) + 3) * 2) - ((1 : Int32) ^^^ (v 23))) ^^^ 5)) ∧ (0 ≤ z.1.toInt) ∧ (z.1.toInt ≤ 1000)) (XPo D (fun (z : Int32 × (Nat → Int32)) => CW cs ad fa fq rv (va_up v 22 z.1) (va_up a 38 z.2) w fv fp) A) A) 0 0 A := by
  refine Met.ofW (cc := cX0_self) (maxL := 4) (ret := (some .int)) (by decide) rfl ?_
  intro p e s m args below meth c s₁ B hml hv
  obtain ⟨rfl, hP, hK, hD, hZ⟩ := hv
  have hx := B.exec
  have hb := B.bytes
  have hr := B.returns
  have hts := atoms_spec (ws := (Cond.code yX0_self cX0_self 4 (some .int) :: gw)) B.pre
  have hg : ∀ w ∈ gw, w.before ([.ref (ad 9), .int 3, .int p2, .int p3] : List Value).toArray s = true := fun w h => hts w (List.mem_cons_of_mem _ h)
  have hown : s.vm.findClass RX0 = some m.cls := findClass_of_methodNamed B.named
  have hlocks := B.notSynchronized
  have hS : va_S A s.heap s.heap [] := va_S.rf
  have hP : va_P D vwCl (CW cs ad fa fq rv v a w fv fp) s.heap := hP
  have hl := lv_entry ([.ref (ad 9), .int 3, .int p2, .int p3]) (n := 4) (Nat.le_of_ble_eq_true rfl)
  rw [lg_entry_eq]
  generalize (lg_sl ([.ref (ad 9), .int 3, .int p2, .int p3]) ++ List.replicate (4 - (lg_sl ([.ref (ad 9), .int 3, .int p2, .int p3])).length) Slot.unset).toArray = ls at hl ⊢
  have hl : lv_has ls 4 [(0, .ref (ad 9)), (1, .int 3), (2, .int p2), (3, .int p3)] := hl
  refine lv_aload_n hx hb dX0_self_0 rfl (lv_at hl 0 rfl) ?_
  refine lv_aload_n hx hb dX0_self_1 rfl (lv_at hl 0 rfl) ?_
  refine gf_acts_kind hx hb hg hown hK hP rfl (hg _ q1_83) dX0_self_2 ?_
  refine lv_aload_n hx hb dX0_self_5 rfl (lv_at hl 0 rfl) ?_
  refine gf_acts_number hx hb hg hown hK hP (x := (v 23)) rfl (hg _ q1_90) dX0_self_6 ?_
  refine ld_Akind hx hb hK hP (i_in (by omega) (by omega)) dX0_self_9 ?_
  refine lv_topi (fun x_1 ex_1 => ?_)
  have ex_1 : x_1 = (a 37) (v 23).toNatClampNeg := ex_1
  have hx_1 : x_1.toInt = ((a 37) (v 23).toNatClampNeg).toInt := by rw [ex_1]
  have bx_1 := ia37_0 (v 23).toNatClampNeg
  rw [← ex_1] at bx_1
  have fx_1 : x_1 = 4 := by rw [ex_1]; exact hkn
  subst fx_1
  refine lv_iload_n hx hb dX0_self_10 rfl (lv_at hl 1 rfl) ?_
  refine lv_iload_n hx hb dX0_self_11 rfl (lv_at hl 2 rfl) ?_
  refine lv_iload_n hx hb dX0_self_12 rfl (lv_at hl 3 rfl) ?_
  refine cV_i (As := [.int 4, .int 3, .int p2, .int p3]) (rest := []) ⟨hx, hb, hml, hown, hg⟩ (k_F_4_4_3 l D cs A ad fa fq rv v a w fv fp  p2 p3 hkn (show 0 ≤ (v 22).toInt by first | omega | decide) (show (v 22).toInt ≤ 18 by first | omega | decide) (show 0 ≤ p3.toInt by first | omega | decide) (show p3.toInt ≤ 33 by first | omega | decide) (show 0 ≤ (v 22).toInt by first | omega | decide) (show (v 22).toInt ≤ 1000 by first | omega | decide) (show 0 ≤ (v 23).toInt by first | omega | decide) (show (v 23).toInt ≤ 49 by first | omega | decide) ia37_0) ca_X0_from q4_139 ⟨rfl, rfl⟩ ⟨Nat.le_of_ble_eq_true rfl, Nat.le_of_ble_eq_true rfl⟩ (rc_acts hK hP) hK hP hD hS hZ rfl hl.1 rfl (Nat.le_of_ble_eq_true rfl) ⟨Nat.zero_le _, Nat.zero_le _⟩ dX0_self_13 (fun r_2 z_5 H locs wr_2 hP hD hS => ?_)
  obtain ⟨o_v22_3, o_a38_4⟩ := z_5
  have hP : va_P D vwCl (CW cs ad fa fq rv (va_up v 22 o_v22_3) (va_up a 38 o_a38_4) w fv fp) H := hP
  have hD : va_D A (CW cs ad fa fq rv (va_up v 22 o_v22_3) (va_up a 38 o_a38_4) w fv fp) := hD
  obtain ⟨wr_2_0, wr_2_1, wr_2_2, wr_2_3, wr_2_4⟩ : (o_v22_3.toInt = (v 22).toInt + 6) ∧ (o_a38_4 = TRW (a 38) (v 22).toInt.toNat [50, 2, 10, 20, 1, 11]) ∧ (r_2 = (((((p2 + (v 23)) + 3) * 2) - ((1 : Int32) ^^^ (v 23))) ^^^ 5)) ∧ (0 ≤ o_v22_3.toInt) ∧ (o_v22_3.toInt ≤ 1000) := wr_2
  have kt_6 : o_a38_4 = TRW (a 38) (v 22).toInt.toNat [50, 2, 10, 20, 1, 11] := by rw [wr_2_1]
  exact W.iret (v := r_2) hx hb hr (fun tt ht hW => ⟨⟨r_2, ⟨o_v22_3, o_a38_4⟩, rfl, ⟨(by first | rfl | omega | trivial | assumption | (dsimp only; first | omega | assumption)), (by (try dsimp only); first | assumption | rfl), (by simp only [wr_2_2]), (show 0 ≤ o_v22_3.toInt by first | omega | assumption), (show o_v22_3.toInt ≤ 1000 by first | omega | assumption)⟩, by rw [ht]; exact hP, hD⟩, hS.F ht⟩) hS.2.2 dX0_self_16
set_option maxHeartbeats 4000000 in
set_option maxRecDepth 100000 in
theorem k_F_x_5_0 (l : Launch) (D : va_G) (cs : Nat → ClassId) (A : Nat → Prop) (ad fa fq rv : Nat → Nat) (v : Nat → Int32) (a : Nat → Nat → Int32) (w : Nat → Nat → Int64) (fv fp : Nat → Nat → Int32)  (p3 : Int32) (p4 : Int32) (hr0 : 0 ≤ (v 22).toInt) (hr1 : (v 22).toInt ≤ 23) (hd0 : 0 ≤ p4.toInt) (hd1 : p4.toInt ≤ 37) (iv22_0 : 0 ≤ (v 22).toInt) (iv22_1 : (v 22).toInt ≤ 1000) (iv23_0 : 0 ≤ (v 23).toInt) (iv23_1 : (v 23).toInt ≤ 49) : Met l yX0_from (Cond.code yX0_from cX0_from 8 (some .int) :: gw) ({ frames := 1, cells := 0, slots := 0, locals := 23 }) (va_Pc [.ref (ad 9), .int 5, .int 0, .int p3, .int p4] (XPre D (TY cs) (CW cs ad fa fq rv v a w fv fp) A)) (va_Qi (fun (r : Int32) (z : Int32 × (Nat → Int32)) => (z.1.toInt = (v 22).toInt + 1) ∧ (z.2 = TRW (a 38) (v 22).toInt.toNat [1]) ∧ (r = (p3 + (v 23))) ∧ (0 ≤ z.1.toInt) ∧ (z.1.toInt ≤ 1000)) (XPo D (fun (z : Int32 × (Nat → Int32)) => CW cs ad fa fq rv (va_up v 22 z.1) (va_up a 38 z.2) w fv fp) A) A) 0 0 A := by
  refine Met.ofW (cc := cX0_from) (maxL := 8) (ret := (some .int)) (by decide) rfl ?_
  intro p e s m args below meth c s₁ B hml hv
  obtain ⟨rfl, hP, hK, hD, hZ⟩ := hv
  have hx := B.exec
  have hb := B.bytes
  have hr := B.returns
  have hts := atoms_spec (ws := (Cond.code yX0_from cX0_from 8 (some .int) :: gw)) B.pre
  have hg : ∀ w ∈ gw, w.before ([.ref (ad 9), .int 5, .int 0, .int p3, .int p4] : List Value).toArray s = true := fun w h => hts w (List.mem_cons_of_mem _ h)
  have hown : s.vm.findClass RX0 = some m.cls := findClass_of_methodNamed B.named
  have hlocks := B.notSynchronized
  have hS : va_S A s.heap s.heap [] := va_S.rf
  have hP : va_P D vwCl (CW cs ad fa fq rv v a w fv fp) s.heap := hP
  have hl := lv_entry ([.ref (ad 9), .int 5, .int 0, .int p3, .int p4]) (n := 8) (Nat.le_of_ble_eq_true rfl)
  rw [lg_entry_eq]
  generalize (lg_sl ([.ref (ad 9), .int 5, .int 0, .int p3, .int p4]) ++ List.replicate (8 - (lg_sl ([.ref (ad 9), .int 5, .int 0, .int p3, .int p4])).length) Slot.unset).toArray = ls at hl ⊢
  have hl : lv_has ls 8 [(0, .ref (ad 9)), (1, .int 5), (2, .int 0), (3, .int p3), (4, .int p4)] := hl
  refine lv_iload_n hx hb dX0_from_0 rfl (lv_at hl 1 rfl) ?_
  refine lv_istore (lv' := [(5, .int 5), (0, .ref (ad 9)), (1, .int 5), (2, .int 0), (3, .int p3), (4, .int p4)]) hx hb dX0_from_1 hl (by decide) rfl (fun ls hl => ?_)
  refine lv_iconst (v := 0) hx hb dX0_from_3 (by decide) ?_
  refine lv_istore (lv' := [(6, .int 0), (5, .int 5), (0, .ref (ad 9)), (1, .int 5), (2, .int 0), (3, .int p3), (4, .int p4)]) hx hb dX0_from_4 hl (by decide) rfl (fun ls hl => ?_)
  refine lv_iload hx hb dX0_from_6 (lv_at hl 0 rfl) ?_
  obtain ⟨t0, t1, t2, ⟨a0, b0⟩, ⟨a1, b1⟩, ⟨a2, b2⟩⟩ := id hZ
  refine va_gets hx hb a2 hS hown (hg _ q4_143) (fun _ h9 => h9) dX0_from_8 ?_
  refine va_tlen hx hb b2 hS (v := 8) rfl dX0_from_11 ?_
  refine lv_icmp_ge (tgt := 73) hx hb dX0_from_12 (by decide) (fun c_1 => absurd c_1 (by decide)) (fun c_1 => ?_)
  refine lv_iload hx hb dX0_from_15 (lv_at hl 1 rfl) ?_
  refine cS_p (As := [.int 5]) (rest := []) ⟨hx, hb, hml, hown, hg⟩ (k_IK_6 l    ) ca_X0_isKind q4_145 ⟨rfl, rfl⟩ ⟨Nat.le_of_ble_eq_true rfl, Nat.le_of_ble_eq_true rfl⟩ rfl hl.1 rfl (Nat.le_of_ble_eq_true rfl) ⟨Nat.zero_le _, Nat.zero_le _⟩ dX0_from_17 (fun r_2 wr_2 => ?_)
  have wr_2 : r_2.toInt = 1 := wr_2
  refine lv_if_eq (tgt := 73) hx hb dX0_from_20 (by decide) (fun c_3 => ?_) (fun c_3 => ?_)
  ·
    have kc_3 : r_2.toInt = (0 : Int) := i_eq c_3
    exfalso; omega
  ·
    have kc_3 : r_2.toInt ≠ (0 : Int) := i_ne c_3
    refine lv_iload hx hb dX0_from_23 (lv_at hl 1 rfl) ?_
    refine lv_iload_n hx hb dX0_from_25 rfl (lv_at hl 4 rfl) ?_
    refine cS_p (As := [.int 5, .int 0]) (rest := []) ⟨hx, hb, hml, hown, hg⟩ (k_B_5_0 l    ) ca_X0_bodyOf q4_146 ⟨rfl, rfl⟩ ⟨Nat.le_of_ble_eq_true rfl, Nat.le_of_ble_eq_true rfl⟩ rfl hl.1 rfl (Nat.le_of_ble_eq_true rfl) ⟨Nat.zero_le _, Nat.zero_le _⟩ dX0_from_26 (fun r_4 wr_4 => ?_)
    have wr_4 : r_4.toInt = 0 := wr_4
    have el_5 : r_4 = 0 := i_inj (wr_4.trans (by rfl))
    subst el_5
    refine lv_istore (lv' := [(7, .int 0), (6, .int 0), (5, .int 5), (0, .ref (ad 9)), (1, .int 5), (2, .int 0), (3, .int p3), (4, .int p4)]) hx hb dX0_from_29 hl (by decide) rfl (fun ls hl => ?_)
    refine lv_iload hx hb dX0_from_31 (lv_at hl 0 rfl) ?_
    refine lv_if_eq (tgt := 59) hx hb dX0_from_33 (by decide) (fun c_6 => ?_) (fun c_6 => absurd c_6 (by decide))
    obtain ⟨t0, t1, t2, ⟨a0, b0⟩, ⟨a1, b1⟩, ⟨a2, b2⟩⟩ := id hZ
    refine va_gets hx hb a2 hS hown (hg _ q4_143) (fun _ h9 => h9) dX0_from_59 ?_
    refine lv_iload hx hb dX0_from_62 (lv_at hl 2 rfl) ?_
    refine va_ti hx hb b2 hS (i_in (by decide) (by decide)) (v := .int 3) rfl dX0_from_64 ?_
    refine lv_istore (lv' := [(5, .int 3), (7, .int 0), (6, .int 0), (0, .ref (ad 9)), (1, .int 5), (2, .int 0), (3, .int p3), (4, .int p4)]) hx hb dX0_from_65 hl (by decide) rfl (fun ls hl => ?_)
    obtain ⟨x_7, ex_7⟩ : ∃ y : Int32, y = 0 + 1 := ⟨_, rfl⟩
    have fx_7 : x_7.toInt = (0 : Int) + 1 := by rw [ex_7]; exact i_add (by first | omega | (show (_ : Int) ≤ (0 : Int) + 1; omega)) (by first | omega | (show (0 : Int) + 1 ≤ (_ : Int); omega))
    refine lv_iinc (v := x_7) (lv' := [(6, .int x_7), (5, .int 3), (7, .int 0), (0, .ref (ad 9)), (1, .int 5), (2, .int 0), (3, .int p3), (4, .int p4)]) hx hb dX0_from_67 hl (k := 2) rfl (by rw [ex_7]; rfl) (by decide) rfl (fun ls hl => ?_)
    refine lv_goto (tgt := 6) hx hb dX0_from_70 (by decide) ?_
    refine lv_iload hx hb dX0_from_6 (lv_at hl 0 rfl) ?_
    obtain ⟨t0, t1, t2, ⟨a0, b0⟩, ⟨a1, b1⟩, ⟨a2, b2⟩⟩ := id hZ
    refine va_gets hx hb a2 hS hown (hg _ q4_143) (fun _ h9 => h9) dX0_from_8 ?_
    refine va_tlen hx hb b2 hS (v := 8) rfl dX0_from_11 ?_
    refine lv_icmp_ge (tgt := 73) hx hb dX0_from_12 (by decide) (fun c_8 => ?_) (fun c_8 => ?_)
    ·
      have kc_8 : (8 : Int) ≤ x_7.toInt := i_le c_8
      exfalso; omega
    ·
      have kc_8 : x_7.toInt < (8 : Int) := i_nle c_8
      refine lv_iload hx hb dX0_from_15 (lv_at hl 1 rfl) ?_
      refine cS_p (As := [.int 3]) (rest := []) ⟨hx, hb, hml, hown, hg⟩ (k_IK_4 l    ) ca_X0_isKind q4_145 ⟨rfl, rfl⟩ ⟨Nat.le_of_ble_eq_true rfl, Nat.le_of_ble_eq_true rfl⟩ rfl hl.1 rfl (Nat.le_of_ble_eq_true rfl) ⟨Nat.zero_le _, Nat.zero_le _⟩ dX0_from_17 (fun r_9 wr_9 => ?_)
      have wr_9 : r_9.toInt = 1 := wr_9
      refine lv_if_eq (tgt := 73) hx hb dX0_from_20 (by decide) (fun c_10 => ?_) (fun c_10 => ?_)
      ·
        have kc_10 : r_9.toInt = (0 : Int) := i_eq c_10
        exfalso; omega
      ·
        have kc_10 : r_9.toInt ≠ (0 : Int) := i_ne c_10
        refine lv_iload hx hb dX0_from_23 (lv_at hl 1 rfl) ?_
        refine lv_iload_n hx hb dX0_from_25 rfl (lv_at hl 5 rfl) ?_
        refine cS_p (As := [.int 3, .int 0]) (rest := []) ⟨hx, hb, hml, hown, hg⟩ (k_B_3_0 l    ) ca_X0_bodyOf q4_146 ⟨rfl, rfl⟩ ⟨Nat.le_of_ble_eq_true rfl, Nat.le_of_ble_eq_true rfl⟩ rfl hl.1 rfl (Nat.le_of_ble_eq_true rfl) ⟨Nat.zero_le _, Nat.zero_le _⟩ dX0_from_26 (fun r_11 wr_11 => ?_)
        have wr_11 : r_11.toInt = 0 := wr_11
        have el_12 : r_11 = 0 := i_inj (wr_11.trans (by rfl))
        subst el_12
        refine lv_istore (lv' := [(7, .int 0), (6, .int x_7), (5, .int 3), (0, .ref (ad 9)), (1, .int 5), (2, .int 0), (3, .int p3), (4, .int p4)]) hx hb dX0_from_29 hl (by decide) rfl (fun ls hl => ?_)
        refine lv_iload hx hb dX0_from_31 (lv_at hl 0 rfl) ?_
        refine lv_if_eq (tgt := 59) hx hb dX0_from_33 (by decide) (fun c_13 => ?_) (fun c_13 => absurd c_13 (by decide))
        obtain ⟨t0, t1, t2, ⟨a0, b0⟩, ⟨a1, b1⟩, ⟨a2, b2⟩⟩ := id hZ
        refine va_gets hx hb a2 hS hown (hg _ q4_143) (fun _ h9 => h9) dX0_from_59 ?_
        refine lv_iload hx hb dX0_from_62 (lv_at hl 2 rfl) ?_
        refine va_ti hx hb b2 hS (i_in (by decide) (by decide)) (v := .int 2) rfl dX0_from_64 ?_
        refine lv_istore (lv' := [(5, .int 2), (7, .int 0), (6, .int x_7), (0, .ref (ad 9)), (1, .int 5), (2, .int 0), (3, .int p3), (4, .int p4)]) hx hb dX0_from_65 hl (by decide) rfl (fun ls hl => ?_)
        obtain ⟨x_14, ex_14⟩ : ∃ y : Int32, y = x_7 + 1 := ⟨_, rfl⟩
        have fx_14 : x_14.toInt = x_7.toInt + 1 := by rw [ex_14]; exact i_add (by first | omega | (show (_ : Int) ≤ x_7.toInt + 1; omega)) (by first | omega | (show x_7.toInt + 1 ≤ (_ : Int); omega))
        refine lv_iinc (v := x_14) (lv' := [(6, .int x_14), (5, .int 2), (7, .int 0), (0, .ref (ad 9)), (1, .int 5), (2, .int 0), (3, .int p3), (4, .int p4)]) hx hb dX0_from_67 hl (k := 2) rfl (by rw [ex_14]; rfl) (by decide) rfl (fun ls hl => ?_)
        refine lv_goto (tgt := 6) hx hb dX0_from_70 (by decide) ?_
        refine lv_iload hx hb dX0_from_6 (lv_at hl 0 rfl) ?_
        obtain ⟨t0, t1, t2, ⟨a0, b0⟩, ⟨a1, b1⟩, ⟨a2, b2⟩⟩ := id hZ
        refine va_gets hx hb a2 hS hown (hg _ q4_143) (fun _ h9 => h9) dX0_from_8 ?_
        refine va_tlen hx hb b2 hS (v := 8) rfl dX0_from_11 ?_
        refine lv_icmp_ge (tgt := 73) hx hb dX0_from_12 (by decide) (fun c_15 => ?_) (fun c_15 => ?_)
        ·
          have kc_15 : (8 : Int) ≤ x_14.toInt := i_le c_15
          exfalso; omega
        ·
          have kc_15 : x_14.toInt < (8 : Int) := i_nle c_15
          refine lv_iload hx hb dX0_from_15 (lv_at hl 1 rfl) ?_
          refine cS_p (As := [.int 2]) (rest := []) ⟨hx, hb, hml, hown, hg⟩ (k_IK_3 l    ) ca_X0_isKind q4_145 ⟨rfl, rfl⟩ ⟨Nat.le_of_ble_eq_true rfl, Nat.le_of_ble_eq_true rfl⟩ rfl hl.1 rfl (Nat.le_of_ble_eq_true rfl) ⟨Nat.zero_le _, Nat.zero_le _⟩ dX0_from_17 (fun r_16 wr_16 => ?_)
          have wr_16 : r_16.toInt = 1 := wr_16
          refine lv_if_eq (tgt := 73) hx hb dX0_from_20 (by decide) (fun c_17 => ?_) (fun c_17 => ?_)
          ·
            have kc_17 : r_16.toInt = (0 : Int) := i_eq c_17
            exfalso; omega
          ·
            have kc_17 : r_16.toInt ≠ (0 : Int) := i_ne c_17
            refine lv_iload hx hb dX0_from_23 (lv_at hl 1 rfl) ?_
            refine lv_iload_n hx hb dX0_from_25 rfl (lv_at hl 5 rfl) ?_
            refine cS_p (As := [.int 2, .int 0]) (rest := []) ⟨hx, hb, hml, hown, hg⟩ (k_B_2_0 l    ) ca_X0_bodyOf q4_146 ⟨rfl, rfl⟩ ⟨Nat.le_of_ble_eq_true rfl, Nat.le_of_ble_eq_true rfl⟩ rfl hl.1 rfl (Nat.le_of_ble_eq_true rfl) ⟨Nat.zero_le _, Nat.zero_le _⟩ dX0_from_26 (fun r_18 wr_18 => ?_)
            have wr_18 : r_18.toInt = 0 := wr_18
            have el_19 : r_18 = 0 := i_inj (wr_18.trans (by rfl))
            subst el_19
            refine lv_istore (lv' := [(7, .int 0), (6, .int x_14), (5, .int 2), (0, .ref (ad 9)), (1, .int 5), (2, .int 0), (3, .int p3), (4, .int p4)]) hx hb dX0_from_29 hl (by decide) rfl (fun ls hl => ?_)
            refine lv_iload hx hb dX0_from_31 (lv_at hl 0 rfl) ?_
            refine lv_if_eq (tgt := 59) hx hb dX0_from_33 (by decide) (fun c_20 => ?_) (fun c_20 => absurd c_20 (by decide))
            obtain ⟨t0, t1, t2, ⟨a0, b0⟩, ⟨a1, b1⟩, ⟨a2, b2⟩⟩ := id hZ
            refine va_gets hx hb a2 hS hown (hg _ q4_143) (fun _ h9 => h9) dX0_from_59 ?_
            refine lv_iload hx hb dX0_from_62 (lv_at hl 2 rfl) ?_
            refine va_ti hx hb b2 hS (i_in (by decide) (by decide)) (v := .int 0) rfl dX0_from_64 ?_
            refine lv_istore (lv' := [(5, .int 0), (7, .int 0), (6, .int x_14), (0, .ref (ad 9)), (1, .int 5), (2, .int 0), (3, .int p3), (4, .int p4)]) hx hb dX0_from_65 hl (by decide) rfl (fun ls hl => ?_)
            obtain ⟨x_21, ex_21⟩ : ∃ y : Int32, y = x_14 + 1 := ⟨_, rfl⟩
            have fx_21 : x_21.toInt = x_14.toInt + 1 := by rw [ex_21]; exact i_add (by first | omega | (show (_ : Int) ≤ x_14.toInt + 1; omega)) (by first | omega | (show x_14.toInt + 1 ≤ (_ : Int); omega))
            refine lv_iinc (v := x_21) (lv' := [(6, .int x_21), (5, .int 0), (7, .int 0), (0, .ref (ad 9)), (1, .int 5), (2, .int 0), (3, .int p3), (4, .int p4)]) hx hb dX0_from_67 hl (k := 2) rfl (by rw [ex_21]; rfl) (by decide) rfl (fun ls hl => ?_)
            refine lv_goto (tgt := 6) hx hb dX0_from_70 (by decide) ?_
            refine lv_iload hx hb dX0_from_6 (lv_at hl 0 rfl) ?_
            obtain ⟨t0, t1, t2, ⟨a0, b0⟩, ⟨a1, b1⟩, ⟨a2, b2⟩⟩ := id hZ
            refine va_gets hx hb a2 hS hown (hg _ q4_143) (fun _ h9 => h9) dX0_from_8 ?_
            refine va_tlen hx hb b2 hS (v := 8) rfl dX0_from_11 ?_
            refine lv_icmp_ge (tgt := 73) hx hb dX0_from_12 (by decide) (fun c_22 => ?_) (fun c_22 => ?_)
            ·
              have kc_22 : (8 : Int) ≤ x_21.toInt := i_le c_22
              exfalso; omega
            ·
              have kc_22 : x_21.toInt < (8 : Int) := i_nle c_22
              refine lv_iload hx hb dX0_from_15 (lv_at hl 1 rfl) ?_
              refine cS_p (As := [.int 0]) (rest := []) ⟨hx, hb, hml, hown, hg⟩ (k_IK_1 l    ) ca_X0_isKind q4_145 ⟨rfl, rfl⟩ ⟨Nat.le_of_ble_eq_true rfl, Nat.le_of_ble_eq_true rfl⟩ rfl hl.1 rfl (Nat.le_of_ble_eq_true rfl) ⟨Nat.zero_le _, Nat.zero_le _⟩ dX0_from_17 (fun r_23 wr_23 => ?_)
              have wr_23 : r_23.toInt = 1 := wr_23
              refine lv_if_eq (tgt := 73) hx hb dX0_from_20 (by decide) (fun c_24 => ?_) (fun c_24 => ?_)
              ·
                have kc_24 : r_23.toInt = (0 : Int) := i_eq c_24
                exfalso; omega
              ·
                have kc_24 : r_23.toInt ≠ (0 : Int) := i_ne c_24
                refine lv_iload hx hb dX0_from_23 (lv_at hl 1 rfl) ?_
                refine lv_iload_n hx hb dX0_from_25 rfl (lv_at hl 5 rfl) ?_
                refine cS_p (As := [.int 0, .int 0]) (rest := []) ⟨hx, hb, hml, hown, hg⟩ (k_B_0_0 l    ) ca_X0_bodyOf q4_146 ⟨rfl, rfl⟩ ⟨Nat.le_of_ble_eq_true rfl, Nat.le_of_ble_eq_true rfl⟩ rfl hl.1 rfl (Nat.le_of_ble_eq_true rfl) ⟨Nat.zero_le _, Nat.zero_le _⟩ dX0_from_26 (fun r_25 wr_25 => ?_)
                have wr_25 : r_25.toInt = 1 := wr_25
                have el_26 : r_25 = 1 := i_inj (wr_25.trans (by rfl))
                subst el_26
                refine lv_istore (lv' := [(7, .int 1), (6, .int x_21), (5, .int 0), (0, .ref (ad 9)), (1, .int 5), (2, .int 0), (3, .int p3), (4, .int p4)]) hx hb dX0_from_29 hl (by decide) rfl (fun ls hl => ?_)
                refine lv_iload hx hb dX0_from_31 (lv_at hl 0 rfl) ?_
                refine lv_if_eq (tgt := 59) hx hb dX0_from_33 (by decide) (fun c_27 => absurd c_27 (by decide)) (fun c_27 => ?_)
                refine lv_iload hx hb dX0_from_36 (lv_at hl 7 rfl) ?_
                refine lv_bipush (v := 40) hx hb dX0_from_38 (by decide) ?_
                refine lv_icmp_ge (tgt := 57) hx hb dX0_from_40 (by decide) (fun c_28 => ?_) (fun c_28 => ?_)
                ·
                  have kc_28 : (40 : Int) ≤ p4.toInt := i_le c_28
                  exfalso; omega
                ·
                  have kc_28 : p4.toInt < (40 : Int) := i_nle c_28
                  refine lv_aload_n hx hb dX0_from_43 rfl (lv_at hl 3 rfl) ?_
                  refine lv_iload hx hb dX0_from_44 (lv_at hl 0 rfl) ?_
                  refine lv_iload_n hx hb dX0_from_46 rfl (lv_at hl 6 rfl) ?_
                  refine lv_iload hx hb dX0_from_47 (lv_at hl 7 rfl) ?_
                  refine lv_iconst (v := 1) hx hb dX0_from_49 (by decide) ?_
                  refine lv_iadd hx hb dX0_from_50 ?_
                  refine lv_topi (fun x_29 ex_29 => ?_)
                  have fx_29 : x_29.toInt = p4.toInt + (1 : Int) := by rw [ex_29]; exact i_add (by first | omega | (show (_ : Int) ≤ p4.toInt + (1 : Int); omega)) (by first | omega | (show p4.toInt + (1 : Int) ≤ (_ : Int); omega))
                  refine cV_i (As := [.int 1, .int p3, .int x_29]) (rest := []) ⟨hx, hb, hml, hown, hg⟩ (k_R_x_1 l D cs A ad fa fq rv v a w fv fp  p3 x_29 (show 0 ≤ (v 22).toInt by first | omega | decide) (show (v 22).toInt ≤ 23 by first | omega | decide) (show 0 ≤ x_29.toInt by first | omega | decide) (show x_29.toInt ≤ 38 by first | omega | decide) (show 0 ≤ (v 22).toInt by first | omega | decide) (show (v 22).toInt ≤ 1000 by first | omega | decide) (show 0 ≤ (v 23).toInt by first | omega | decide) (show (v 23).toInt ≤ 49 by first | omega | decide)) ca_X0_run q4_149 ⟨rfl, rfl⟩ ⟨Nat.le_of_ble_eq_true rfl, Nat.le_of_ble_eq_true rfl⟩ (rc_acts hK hP) hK hP hD hS hZ rfl hl.1 rfl (Nat.le_of_ble_eq_true rfl) ⟨Nat.zero_le _, Nat.zero_le _⟩ dX0_from_51 (fun r_30 z_33 H locs wr_30 hP hD hS => ?_)
                  obtain ⟨o_v22_31, o_a38_32⟩ := z_33
                  have hP : va_P D vwCl (CW cs ad fa fq rv (va_up v 22 o_v22_31) (va_up a 38 o_a38_32) w fv fp) H := hP
                  have hD : va_D A (CW cs ad fa fq rv (va_up v 22 o_v22_31) (va_up a 38 o_a38_32) w fv fp) := hD
                  obtain ⟨wr_30_0, wr_30_1, wr_30_2, wr_30_3, wr_30_4⟩ : (o_v22_31.toInt = (v 22).toInt + 1) ∧ (o_a38_32 = TRW (a 38) (v 22).toInt.toNat [1]) ∧ (r_30 = (p3 + (v 23))) ∧ (0 ≤ o_v22_31.toInt) ∧ (o_v22_31.toInt ≤ 1000) := wr_30
                  have kt_34 : o_a38_32 = TRW (a 38) (v 22).toInt.toNat [1] := by rw [wr_30_1]
                  refine lv_goto (tgt := 58) hx hb dX0_from_54 (by decide) ?_
                  exact W.iret (v := r_30) hx hb hr (fun tt ht hW => ⟨⟨r_30, ⟨o_v22_31, o_a38_32⟩, rfl, ⟨(by first | rfl | omega | trivial | assumption | (dsimp only; first | omega | assumption)), (by (try dsimp only); first | assumption | rfl), (by simp only [wr_30_2, ex_29]), (show 0 ≤ o_v22_31.toInt by first | omega | assumption), (show o_v22_31.toInt ≤ 1000 by first | omega | assumption)⟩, by rw [ht]; exact hP, hD⟩, hS.F ht⟩) hS.2.2 dX0_from_58
set_option maxHeartbeats 4000000 in
set_option maxRecDepth 100000 in
theorem k_S_5_0 (l : Launch) (D : va_G) (cs : Nat → ClassId) (A : Nat → Prop) (ad fa fq rv : Nat → Nat) (v : Nat → Int32) (a : Nat → Nat → Int32) (w : Nat → Nat → Int64) (fv fp : Nat → Nat → Int32)  (p2 : Int32) (p3 : Int32) (hkn : (a 37) (v 23).toNatClampNeg = 5) (hr0 : 0 ≤ (v 22).toInt) (hr1 : (v 22).toInt ≤ 23) (hd0 : 0 ≤ p3.toInt) (hd1 : p3.toInt ≤ 37) (iv23_0 : 0 ≤ (v 23).toInt) (iv23_1 : (v 23).toInt ≤ 49) (ia37_0 : AB 0 7 (a 37)) (iv22_0 : 0 ≤ (v 22).toInt) (iv22_1 : (v 22).toInt ≤ 1000) : Met l yX0_self (Cond.code yX0_self cX0_self 4 (some .int) :: gw) ({ frames := 2, cells := 0, slots := 0, locals := 50 }) (va_Pc [.ref (ad 9), .int 0, .int p2, .int p3] (XPre D (TY cs) (CW cs ad fa fq rv v a w fv fp) A)) (va_Qi (fun (r : Int32) (z : Int32 × (Nat → Int32)) => (z.1.toInt = (v 22).toInt + 1) ∧ (z.2 = TRW (a 38) (v 22).toInt.toNat [1]) ∧ (r = (p2 + (v 23))) ∧ (0 ≤ z.1.toInt) ∧ (z.1.toInt ≤ 1000)) (XPo D (fun (z : Int32 × (Nat → Int32)) => CW cs ad fa fq rv (va_up v 22 z.1) (va_up a 38 z.2) w fv fp) A) A) 0 0 A := by
  refine Met.ofW (cc := cX0_self) (maxL := 4) (ret := (some .int)) (by decide) rfl ?_
  intro p e s m args below meth c s₁ B hml hv
  obtain ⟨rfl, hP, hK, hD, hZ⟩ := hv
  have hx := B.exec
  have hb := B.bytes
  have hr := B.returns
  have hts := atoms_spec (ws := (Cond.code yX0_self cX0_self 4 (some .int) :: gw)) B.pre
  have hg : ∀ w ∈ gw, w.before ([.ref (ad 9), .int 0, .int p2, .int p3] : List Value).toArray s = true := fun w h => hts w (List.mem_cons_of_mem _ h)
  have hown : s.vm.findClass RX0 = some m.cls := findClass_of_methodNamed B.named
  have hlocks := B.notSynchronized
  have hS : va_S A s.heap s.heap [] := va_S.rf
  have hP : va_P D vwCl (CW cs ad fa fq rv v a w fv fp) s.heap := hP
  have hl := lv_entry ([.ref (ad 9), .int 0, .int p2, .int p3]) (n := 4) (Nat.le_of_ble_eq_true rfl)
  rw [lg_entry_eq]
  generalize (lg_sl ([.ref (ad 9), .int 0, .int p2, .int p3]) ++ List.replicate (4 - (lg_sl ([.ref (ad 9), .int 0, .int p2, .int p3])).length) Slot.unset).toArray = ls at hl ⊢
  have hl : lv_has ls 4 [(0, .ref (ad 9)), (1, .int 0), (2, .int p2), (3, .int p3)] := hl
  refine lv_aload_n hx hb dX0_self_0 rfl (lv_at hl 0 rfl) ?_
  refine lv_aload_n hx hb dX0_self_1 rfl (lv_at hl 0 rfl) ?_
  refine gf_acts_kind hx hb hg hown hK hP rfl (hg _ q1_83) dX0_self_2 ?_
  refine lv_aload_n hx hb dX0_self_5 rfl (lv_at hl 0 rfl) ?_
  refine gf_acts_number hx hb hg hown hK hP (x := (v 23)) rfl (hg _ q1_90) dX0_self_6 ?_
  refine ld_Akind hx hb hK hP (i_in (by omega) (by omega)) dX0_self_9 ?_
  refine lv_topi (fun x_1 ex_1 => ?_)
  have ex_1 : x_1 = (a 37) (v 23).toNatClampNeg := ex_1
  have hx_1 : x_1.toInt = ((a 37) (v 23).toNatClampNeg).toInt := by rw [ex_1]
  have bx_1 := ia37_0 (v 23).toNatClampNeg
  rw [← ex_1] at bx_1
  have fx_1 : x_1 = 5 := by rw [ex_1]; exact hkn
  subst fx_1
  refine lv_iload_n hx hb dX0_self_10 rfl (lv_at hl 1 rfl) ?_
  refine lv_iload_n hx hb dX0_self_11 rfl (lv_at hl 2 rfl) ?_
  refine lv_iload_n hx hb dX0_self_12 rfl (lv_at hl 3 rfl) ?_
  refine cV_i (As := [.int 5, .int 0, .int p2, .int p3]) (rest := []) ⟨hx, hb, hml, hown, hg⟩ (k_F_x_5_0 l D cs A ad fa fq rv v a w fv fp  p2 p3 (show 0 ≤ (v 22).toInt by first | omega | decide) (show (v 22).toInt ≤ 23 by first | omega | decide) (show 0 ≤ p3.toInt by first | omega | decide) (show p3.toInt ≤ 37 by first | omega | decide) (show 0 ≤ (v 22).toInt by first | omega | decide) (show (v 22).toInt ≤ 1000 by first | omega | decide) (show 0 ≤ (v 23).toInt by first | omega | decide) (show (v 23).toInt ≤ 49 by first | omega | decide)) ca_X0_from q4_139 ⟨rfl, rfl⟩ ⟨Nat.le_of_ble_eq_true rfl, Nat.le_of_ble_eq_true rfl⟩ (rc_acts hK hP) hK hP hD hS hZ rfl hl.1 rfl (Nat.le_of_ble_eq_true rfl) ⟨Nat.zero_le _, Nat.zero_le _⟩ dX0_self_13 (fun r_2 z_5 H locs wr_2 hP hD hS => ?_)
  obtain ⟨o_v22_3, o_a38_4⟩ := z_5
  have hP : va_P D vwCl (CW cs ad fa fq rv (va_up v 22 o_v22_3) (va_up a 38 o_a38_4) w fv fp) H := hP
  have hD : va_D A (CW cs ad fa fq rv (va_up v 22 o_v22_3) (va_up a 38 o_a38_4) w fv fp) := hD
  obtain ⟨wr_2_0, wr_2_1, wr_2_2, wr_2_3, wr_2_4⟩ : (o_v22_3.toInt = (v 22).toInt + 1) ∧ (o_a38_4 = TRW (a 38) (v 22).toInt.toNat [1]) ∧ (r_2 = (p2 + (v 23))) ∧ (0 ≤ o_v22_3.toInt) ∧ (o_v22_3.toInt ≤ 1000) := wr_2
  have kt_6 : o_a38_4 = TRW (a 38) (v 22).toInt.toNat [1] := by rw [wr_2_1]
  exact W.iret (v := r_2) hx hb hr (fun tt ht hW => ⟨⟨r_2, ⟨o_v22_3, o_a38_4⟩, rfl, ⟨(by first | rfl | omega | trivial | assumption | (dsimp only; first | omega | assumption)), (by (try dsimp only); first | assumption | rfl), (by simp only [wr_2_2]), (show 0 ≤ o_v22_3.toInt by first | omega | assumption), (show o_v22_3.toInt ≤ 1000 by first | omega | assumption)⟩, by rw [ht]; exact hP, hD⟩, hS.F ht⟩) hS.2.2 dX0_self_16
set_option maxHeartbeats 4000000 in
set_option maxRecDepth 100000 in
theorem k_R_5_10 (l : Launch) (D : va_G) (cs : Nat → ClassId) (A : Nat → Prop) (ad fa fq rv : Nat → Nat) (v : Nat → Int32) (a : Nat → Nat → Int32) (w : Nat → Nat → Int64) (fv fp : Nat → Nat → Int32)  (p2 : Int32) (p3 : Int32) (hkn : (a 37) (v 23).toNatClampNeg = 5) (hr0 : 0 ≤ (v 22).toInt) (hr1 : (v 22).toInt ≤ 22) (hd0 : 0 ≤ p3.toInt) (hd1 : p3.toInt ≤ 37) (iv22_0 : 0 ≤ (v 22).toInt) (iv22_1 : (v 22).toInt ≤ 1000) (iv23_0 : 0 ≤ (v 23).toInt) (iv23_1 : (v 23).toInt ≤ 49) (ia37_0 : AB 0 7 (a 37)) : Met l yX0_run (Cond.code yX0_run cX0_run 4 (some .int) :: gw) ({ frames := 3, cells := 0, slots := 0, locals := 73 }) (va_Pc [.ref (ad 9), .int 10, .int p2, .int p3] (XPre D (TY cs) (CW cs ad fa fq rv v a w fv fp) A)) (va_Qi (fun (r : Int32) (z : Int32 × (Nat → Int32)) => (z.1.toInt = (v 22).toInt + 2) ∧ (z.2 = TRW (a 38) (v 22).toInt.toNat [10, 1]) ∧ (r = ((p2 + (v 23)) * 2)) ∧ (0 ≤ z.1.toInt) ∧ (z.1.toInt ≤ 1000)) (XPo D (fun (z : Int32 × (Nat → Int32)) => CW cs ad fa fq rv (va_up v 22 z.1) (va_up a 38 z.2) w fv fp) A) A) 0 0 A := by
  refine Met.ofW (cc := cX0_run) (maxL := 4) (ret := (some .int)) (by decide) rfl ?_
  intro p e s m args below meth c s₁ B hml hv
  obtain ⟨rfl, hP, hK, hD, hZ⟩ := hv
  have hx := B.exec
  have hb := B.bytes
  have hr := B.returns
  have hts := atoms_spec (ws := (Cond.code yX0_run cX0_run 4 (some .int) :: gw)) B.pre
  have hg : ∀ w ∈ gw, w.before ([.ref (ad 9), .int 10, .int p2, .int p3] : List Value).toArray s = true := fun w h => hts w (List.mem_cons_of_mem _ h)
  have hown : s.vm.findClass RX0 = some m.cls := findClass_of_methodNamed B.named
  have hlocks := B.notSynchronized
  have hS : va_S A s.heap s.heap [] := va_S.rf
  have hP : va_P D vwCl (CW cs ad fa fq rv v a w fv fp) s.heap := hP
  have hl := lv_entry ([.ref (ad 9), .int 10, .int p2, .int p3]) (n := 4) (Nat.le_of_ble_eq_true rfl)
  rw [lg_entry_eq]
  generalize (lg_sl ([.ref (ad 9), .int 10, .int p2, .int p3]) ++ List.replicate (4 - (lg_sl ([.ref (ad 9), .int 10, .int p2, .int p3])).length) Slot.unset).toArray = ls at hl ⊢
  have hl : lv_has ls 4 [(0, .ref (ad 9)), (1, .int 10), (2, .int p2), (3, .int p3)] := hl
  refine lv_aload_n hx hb dX0_run_0 rfl (lv_at hl 0 rfl) ?_
  refine gf_acts_ran hx hb hg hown hK hP (x := (v 22)) rfl (hg _ q1_88) dX0_run_1 ?_
  refine lv_bipush (v := 24) hx hb dX0_run_4 (by decide) ?_
  refine lv_icmp_ge (tgt := 19) hx hb dX0_run_6 (by decide) (fun c_1 => ?_) (fun c_1 => ?_)
  ·
    have kc_1 : (24 : Int) ≤ (v 22).toInt := i_le c_1
    exfalso; omega
  ·
    have kc_1 : (v 22).toInt < (24 : Int) := i_nle c_1
    refine lv_aload_n hx hb dX0_run_9 rfl (lv_at hl 0 rfl) ?_
    refine gf_acts_traced hx hb hg hown hK hP rfl (hg _ q1_86) dX0_run_10 ?_
    refine lv_aload_n hx hb dX0_run_13 rfl (lv_at hl 0 rfl) ?_
    refine gf_acts_ran hx hb hg hown hK hP (x := (v 22)) rfl (hg _ q1_88) dX0_run_14 ?_
    refine lv_iload_n hx hb dX0_run_17 rfl (lv_at hl 1 rfl) ?_
    refine st_Atraced hx hb hK hP hD hS (i_in (by omega) (by omega)) dX0_run_18 (fun H locs hP hD hS => ?_)
    refine lv_aload_n hx hb dX0_run_19 rfl (lv_at hl 0 rfl) ?_
    refine lv_dup hx hb dX0_run_20 rfl ?_
    refine gf_acts_ran hx hb hg hown hK hP (x := (v 22)) rfl (hg _ q1_88) dX0_run_21 ?_
    refine lv_iconst (v := 1) hx hb dX0_run_24 (by decide) ?_
    refine lv_iadd hx hb dX0_run_25 ?_
    refine lv_topi (fun x_2 ex_2 => ?_)
    have fx_2 : x_2.toInt = (v 22).toInt + (1 : Int) := by rw [ex_2]; exact i_add (by first | omega | (show (_ : Int) ≤ (v 22).toInt + (1 : Int); omega)) (by first | omega | (show (v 22).toInt + (1 : Int) ≤ (_ : Int); omega))
    refine pf_acts_ran hx hb hg hown hK hP hD hS (hg _ q1_88) dX0_run_26 (fun H locs hP hD hS => ?_)
    refine lv_iload_n hx hb dX0_run_29 rfl (lv_at hl 1 rfl) ?_
    refine lv_lookup (tgt := 175) hx hb dX0_run_30 (by decide) (off := 145) (by decide) (by decide) ?_
    refine lv_aload_n hx hb dX0_run_175 rfl (lv_at hl 0 rfl) ?_
    refine lv_iconst (v := 0) hx hb dX0_run_176 (by decide) ?_
    refine lv_iload_n hx hb dX0_run_177 rfl (lv_at hl 2 rfl) ?_
    refine lv_iload_n hx hb dX0_run_178 rfl (lv_at hl 3 rfl) ?_
    refine cV_i (As := [.int 0, .int p2, .int p3]) (rest := []) ⟨hx, hb, hml, hown, hg⟩ (k_S_5_0 l D cs A ad fa fq rv (va_up v 22 x_2) (va_up a 38 (upd (a 38) (v 22).toNatClampNeg 10)) w fv fp  p2 p3 hkn (show 0 ≤ x_2.toInt by first | omega | decide) (show x_2.toInt ≤ 23 by first | omega | decide) (show 0 ≤ p3.toInt by first | omega | decide) (show p3.toInt ≤ 37 by first | omega | decide) (show 0 ≤ (v 23).toInt by first | omega | decide) (show (v 23).toInt ≤ 49 by first | omega | decide) ia37_0 (show 0 ≤ x_2.toInt by first | omega | decide) (show x_2.toInt ≤ 1000 by first | omega | decide)) ca_X0_self q4_135 ⟨rfl, rfl⟩ ⟨Nat.le_of_ble_eq_true rfl, Nat.le_of_ble_eq_true rfl⟩ (rc_acts hK hP) hK hP hD hS hZ rfl hl.1 rfl (Nat.le_of_ble_eq_true rfl) ⟨Nat.zero_le _, Nat.zero_le _⟩ dX0_run_179 (fun r_4 z_7 H locs wr_4 hP hD hS => ?_)
    obtain ⟨o_v22_5, o_a38_6⟩ := z_7
    have hP : va_P D vwCl (CW cs ad fa fq rv (va_up v 22 o_v22_5) (va_up a 38 o_a38_6) w fv fp) H := hP
    have hD : va_D A (CW cs ad fa fq rv (va_up v 22 o_v22_5) (va_up a 38 o_a38_6) w fv fp) := hD
    obtain ⟨wr_4_0, wr_4_1, wr_4_2, wr_4_3, wr_4_4⟩ : (o_v22_5.toInt = x_2.toInt + 1) ∧ (o_a38_6 = TRW (upd (a 38) (v 22).toNatClampNeg 10) x_2.toInt.toNat [1]) ∧ (r_4 = (p2 + (v 23))) ∧ (0 ≤ o_v22_5.toInt) ∧ (o_v22_5.toInt ≤ 1000) := wr_4
    have kt_8 : o_a38_6 = TRW (a 38) (v 22).toInt.toNat [10, 1] := by rw [wr_4_1, show (x_2).toInt.toNat = (v 22).toInt.toNat + 1 from by omega]; rfl
    refine lv_iconst (v := 2) hx hb dX0_run_182 (by decide) ?_
    refine lv_imul hx hb dX0_run_183 ?_
    refine lv_topi (fun x_9 ex_9 => ?_)
    exact W.iret (v := x_9) hx hb hr (fun tt ht hW => ⟨⟨x_9, ⟨o_v22_5, o_a38_6⟩, rfl, ⟨(by first | rfl | omega | trivial | assumption | (dsimp only; first | omega | assumption)), (by (try dsimp only); first | assumption | rfl), (by simp only [ex_9, wr_4_2, ex_2]), (show 0 ≤ o_v22_5.toInt by first | omega | assumption), (show o_v22_5.toInt ≤ 1000 by first | omega | assumption)⟩, by rw [ht]; exact hP, hD⟩, hS.F ht⟩) hS.2.2 dX0_run_184
set_option maxHeartbeats 4000000 in
set_option maxRecDepth 100000 in
theorem k_F_5_0_1 (l : Launch) (D : va_G) (cs : Nat → ClassId) (A : Nat → Prop) (ad fa fq rv : Nat → Nat) (v : Nat → Int32) (a : Nat → Nat → Int32) (w : Nat → Nat → Int64) (fv fp : Nat → Nat → Int32)  (p3 : Int32) (p4 : Int32) (hkn : (a 37) (v 23).toNatClampNeg = 5) (hr0 : 0 ≤ (v 22).toInt) (hr1 : (v 22).toInt ≤ 22) (hd0 : 0 ≤ p4.toInt) (hd1 : p4.toInt ≤ 36) (iv22_0 : 0 ≤ (v 22).toInt) (iv22_1 : (v 22).toInt ≤ 1000) (iv23_0 : 0 ≤ (v 23).toInt) (iv23_1 : (v 23).toInt ≤ 49) (ia37_0 : AB 0 7 (a 37)) : Met l yX0_from (Cond.code yX0_from cX0_from 8 (some .int) :: gw) ({ frames := 4, cells := 0, slots := 0, locals := 96 }) (va_Pc [.ref (ad 9), .int 0, .int 1, .int p3, .int p4] (XPre D (TY cs) (CW cs ad fa fq rv v a w fv fp) A)) (va_Qi (fun (r : Int32) (z : Int32 × (Nat → Int32)) => (z.1.toInt = (v 22).toInt + 2) ∧ (z.2 = TRW (a 38) (v 22).toInt.toNat [10, 1]) ∧ (r = ((p3 + (v 23)) * 2)) ∧ (0 ≤ z.1.toInt) ∧ (z.1.toInt ≤ 1000)) (XPo D (fun (z : Int32 × (Nat → Int32)) => CW cs ad fa fq rv (va_up v 22 z.1) (va_up a 38 z.2) w fv fp) A) A) 0 0 A := by
  refine Met.ofW (cc := cX0_from) (maxL := 8) (ret := (some .int)) (by decide) rfl ?_
  intro p e s m args below meth c s₁ B hml hv
  obtain ⟨rfl, hP, hK, hD, hZ⟩ := hv
  have hx := B.exec
  have hb := B.bytes
  have hr := B.returns
  have hts := atoms_spec (ws := (Cond.code yX0_from cX0_from 8 (some .int) :: gw)) B.pre
  have hg : ∀ w ∈ gw, w.before ([.ref (ad 9), .int 0, .int 1, .int p3, .int p4] : List Value).toArray s = true := fun w h => hts w (List.mem_cons_of_mem _ h)
  have hown : s.vm.findClass RX0 = some m.cls := findClass_of_methodNamed B.named
  have hlocks := B.notSynchronized
  have hS : va_S A s.heap s.heap [] := va_S.rf
  have hP : va_P D vwCl (CW cs ad fa fq rv v a w fv fp) s.heap := hP
  have hl := lv_entry ([.ref (ad 9), .int 0, .int 1, .int p3, .int p4]) (n := 8) (Nat.le_of_ble_eq_true rfl)
  rw [lg_entry_eq]
  generalize (lg_sl ([.ref (ad 9), .int 0, .int 1, .int p3, .int p4]) ++ List.replicate (8 - (lg_sl ([.ref (ad 9), .int 0, .int 1, .int p3, .int p4])).length) Slot.unset).toArray = ls at hl ⊢
  have hl : lv_has ls 8 [(0, .ref (ad 9)), (1, .int 0), (2, .int 1), (3, .int p3), (4, .int p4)] := hl
  refine lv_iload_n hx hb dX0_from_0 rfl (lv_at hl 1 rfl) ?_
  refine lv_istore (lv' := [(5, .int 0), (0, .ref (ad 9)), (1, .int 0), (2, .int 1), (3, .int p3), (4, .int p4)]) hx hb dX0_from_1 hl (by decide) rfl (fun ls hl => ?_)
  refine lv_iconst (v := 0) hx hb dX0_from_3 (by decide) ?_
  refine lv_istore (lv' := [(6, .int 0), (5, .int 0), (0, .ref (ad 9)), (1, .int 0), (2, .int 1), (3, .int p3), (4, .int p4)]) hx hb dX0_from_4 hl (by decide) rfl (fun ls hl => ?_)
  refine lv_iload hx hb dX0_from_6 (lv_at hl 0 rfl) ?_
  obtain ⟨t0, t1, t2, ⟨a0, b0⟩, ⟨a1, b1⟩, ⟨a2, b2⟩⟩ := id hZ
  refine va_gets hx hb a2 hS hown (hg _ q4_143) (fun _ h9 => h9) dX0_from_8 ?_
  refine va_tlen hx hb b2 hS (v := 8) rfl dX0_from_11 ?_
  refine lv_icmp_ge (tgt := 73) hx hb dX0_from_12 (by decide) (fun c_1 => absurd c_1 (by decide)) (fun c_1 => ?_)
  refine lv_iload hx hb dX0_from_15 (lv_at hl 1 rfl) ?_
  refine cS_p (As := [.int 0]) (rest := []) ⟨hx, hb, hml, hown, hg⟩ (k_IK_1 l    ) ca_X0_isKind q4_145 ⟨rfl, rfl⟩ ⟨Nat.le_of_ble_eq_true rfl, Nat.le_of_ble_eq_true rfl⟩ rfl hl.1 rfl (Nat.le_of_ble_eq_true rfl) ⟨Nat.zero_le _, Nat.zero_le _⟩ dX0_from_17 (fun r_2 wr_2 => ?_)
  have wr_2 : r_2.toInt = 1 := wr_2
  refine lv_if_eq (tgt := 73) hx hb dX0_from_20 (by decide) (fun c_3 => ?_) (fun c_3 => ?_)
  ·
    have kc_3 : r_2.toInt = (0 : Int) := i_eq c_3
    exfalso; omega
  ·
    have kc_3 : r_2.toInt ≠ (0 : Int) := i_ne c_3
    refine lv_iload hx hb dX0_from_23 (lv_at hl 1 rfl) ?_
    refine lv_iload_n hx hb dX0_from_25 rfl (lv_at hl 4 rfl) ?_
    refine cS_p (As := [.int 0, .int 1]) (rest := []) ⟨hx, hb, hml, hown, hg⟩ (k_B_0_1 l    ) ca_X0_bodyOf q4_146 ⟨rfl, rfl⟩ ⟨Nat.le_of_ble_eq_true rfl, Nat.le_of_ble_eq_true rfl⟩ rfl hl.1 rfl (Nat.le_of_ble_eq_true rfl) ⟨Nat.zero_le _, Nat.zero_le _⟩ dX0_from_26 (fun r_4 wr_4 => ?_)
    have wr_4 : r_4.toInt = 10 := wr_4
    have el_5 : r_4 = 10 := i_inj (wr_4.trans (by rfl))
    subst el_5
    refine lv_istore (lv' := [(7, .int 10), (6, .int 0), (5, .int 0), (0, .ref (ad 9)), (1, .int 0), (2, .int 1), (3, .int p3), (4, .int p4)]) hx hb dX0_from_29 hl (by decide) rfl (fun ls hl => ?_)
    refine lv_iload hx hb dX0_from_31 (lv_at hl 0 rfl) ?_
    refine lv_if_eq (tgt := 59) hx hb dX0_from_33 (by decide) (fun c_6 => absurd c_6 (by decide)) (fun c_6 => ?_)
    refine lv_iload hx hb dX0_from_36 (lv_at hl 7 rfl) ?_
    refine lv_bipush (v := 40) hx hb dX0_from_38 (by decide) ?_
    refine lv_icmp_ge (tgt := 57) hx hb dX0_from_40 (by decide) (fun c_7 => ?_) (fun c_7 => ?_)
    ·
      have kc_7 : (40 : Int) ≤ p4.toInt := i_le c_7
      exfalso; omega
    ·
      have kc_7 : p4.toInt < (40 : Int) := i_nle c_7
      refine lv_aload_n hx hb dX0_from_43 rfl (lv_at hl 3 rfl) ?_
      refine lv_iload hx hb dX0_from_44 (lv_at hl 0 rfl) ?_
      refine lv_iload_n hx hb dX0_from_46 rfl (lv_at hl 6 rfl) ?_
      refine lv_iload hx hb dX0_from_47 (lv_at hl 7 rfl) ?_
      refine lv_iconst (v := 1) hx hb dX0_from_49 (by decide) ?_
      refine lv_iadd hx hb dX0_from_50 ?_
      refine lv_topi (fun x_8 ex_8 => ?_)
      have fx_8 : x_8.toInt = p4.toInt + (1 : Int) := by rw [ex_8]; exact i_add (by first | omega | (show (_ : Int) ≤ p4.toInt + (1 : Int); omega)) (by first | omega | (show p4.toInt + (1 : Int) ≤ (_ : Int); omega))
      refine cV_i (As := [.int 10, .int p3, .int x_8]) (rest := []) ⟨hx, hb, hml, hown, hg⟩ (k_R_5_10 l D cs A ad fa fq rv v a w fv fp  p3 x_8 hkn (show 0 ≤ (v 22).toInt by first | omega | decide) (show (v 22).toInt ≤ 22 by first | omega | decide) (show 0 ≤ x_8.toInt by first | omega | decide) (show x_8.toInt ≤ 37 by first | omega | decide) (show 0 ≤ (v 22).toInt by first | omega | decide) (show (v 22).toInt ≤ 1000 by first | omega | decide) (show 0 ≤ (v 23).toInt by first | omega | decide) (show (v 23).toInt ≤ 49 by first | omega | decide) ia37_0) ca_X0_run q4_149 ⟨rfl, rfl⟩ ⟨Nat.le_of_ble_eq_true rfl, Nat.le_of_ble_eq_true rfl⟩ (rc_acts hK hP) hK hP hD hS hZ rfl hl.1 rfl (Nat.le_of_ble_eq_true rfl) ⟨Nat.zero_le _, Nat.zero_le _⟩ dX0_from_51 (fun r_9 z_12 H locs wr_9 hP hD hS => ?_)
      obtain ⟨o_v22_10, o_a38_11⟩ := z_12
      have hP : va_P D vwCl (CW cs ad fa fq rv (va_up v 22 o_v22_10) (va_up a 38 o_a38_11) w fv fp) H := hP
      have hD : va_D A (CW cs ad fa fq rv (va_up v 22 o_v22_10) (va_up a 38 o_a38_11) w fv fp) := hD
      obtain ⟨wr_9_0, wr_9_1, wr_9_2, wr_9_3, wr_9_4⟩ : (o_v22_10.toInt = (v 22).toInt + 2) ∧ (o_a38_11 = TRW (a 38) (v 22).toInt.toNat [10, 1]) ∧ (r_9 = ((p3 + (v 23)) * 2)) ∧ (0 ≤ o_v22_10.toInt) ∧ (o_v22_10.toInt ≤ 1000) := wr_9
      have kt_13 : o_a38_11 = TRW (a 38) (v 22).toInt.toNat [10, 1] := by rw [wr_9_1]
      refine lv_goto (tgt := 58) hx hb dX0_from_54 (by decide) ?_
      exact W.iret (v := r_9) hx hb hr (fun tt ht hW => ⟨⟨r_9, ⟨o_v22_10, o_a38_11⟩, rfl, ⟨(by first | rfl | omega | trivial | assumption | (dsimp only; first | omega | assumption)), (by (try dsimp only); first | assumption | rfl), (by simp only [wr_9_2, ex_8]), (show 0 ≤ o_v22_10.toInt by first | omega | assumption), (show o_v22_10.toInt ≤ 1000 by first | omega | assumption)⟩, by rw [ht]; exact hP, hD⟩, hS.F ht⟩) hS.2.2 dX0_from_58
set_option maxHeartbeats 4000000 in
set_option maxRecDepth 100000 in
theorem k_R_5_30 (l : Launch) (D : va_G) (cs : Nat → ClassId) (A : Nat → Prop) (ad fa fq rv : Nat → Nat) (v : Nat → Int32) (a : Nat → Nat → Int32) (w : Nat → Nat → Int64) (fv fp : Nat → Nat → Int32)  (p2 : Int32) (p3 : Int32) (hkn : (a 37) (v 23).toNatClampNeg = 5) (hr0 : 0 ≤ (v 22).toInt) (hr1 : (v 22).toInt ≤ 21) (hd0 : 0 ≤ p3.toInt) (hd1 : p3.toInt ≤ 36) (iv22_0 : 0 ≤ (v 22).toInt) (iv22_1 : (v 22).toInt ≤ 1000) (iv23_0 : 0 ≤ (v 23).toInt) (iv23_1 : (v 23).toInt ≤ 49) (ia37_0 : AB 0 7 (a 37)) : Met l yX0_run (Cond.code yX0_run cX0_run 4 (some .int) :: gw) ({ frames := 5, cells := 0, slots := 0, locals := 123 }) (va_Pc [.ref (ad 9), .int 30, .int p2, .int p3] (XPre D (TY cs) (CW cs ad fa fq rv v a w fv fp) A)) (va_Qi (fun (r : Int32) (z : Int32 × (Nat → Int32)) => (z.1.toInt = (v 22).toInt + 3) ∧ (z.2 = TRW (a 38) (v 22).toInt.toNat [30, 10, 1]) ∧ (r = (-((p2 + (v 23)) * 2))) ∧ (0 ≤ z.1.toInt) ∧ (z.1.toInt ≤ 1000)) (XPo D (fun (z : Int32 × (Nat → Int32)) => CW cs ad fa fq rv (va_up v 22 z.1) (va_up a 38 z.2) w fv fp) A) A) 0 0 A := by
  refine Met.ofW (cc := cX0_run) (maxL := 4) (ret := (some .int)) (by decide) rfl ?_
  intro p e s m args below meth c s₁ B hml hv
  obtain ⟨rfl, hP, hK, hD, hZ⟩ := hv
  have hx := B.exec
  have hb := B.bytes
  have hr := B.returns
  have hts := atoms_spec (ws := (Cond.code yX0_run cX0_run 4 (some .int) :: gw)) B.pre
  have hg : ∀ w ∈ gw, w.before ([.ref (ad 9), .int 30, .int p2, .int p3] : List Value).toArray s = true := fun w h => hts w (List.mem_cons_of_mem _ h)
  have hown : s.vm.findClass RX0 = some m.cls := findClass_of_methodNamed B.named
  have hlocks := B.notSynchronized
  have hS : va_S A s.heap s.heap [] := va_S.rf
  have hP : va_P D vwCl (CW cs ad fa fq rv v a w fv fp) s.heap := hP
  have hl := lv_entry ([.ref (ad 9), .int 30, .int p2, .int p3]) (n := 4) (Nat.le_of_ble_eq_true rfl)
  rw [lg_entry_eq]
  generalize (lg_sl ([.ref (ad 9), .int 30, .int p2, .int p3]) ++ List.replicate (4 - (lg_sl ([.ref (ad 9), .int 30, .int p2, .int p3])).length) Slot.unset).toArray = ls at hl ⊢
  have hl : lv_has ls 4 [(0, .ref (ad 9)), (1, .int 30), (2, .int p2), (3, .int p3)] := hl
  refine lv_aload_n hx hb dX0_run_0 rfl (lv_at hl 0 rfl) ?_
  refine gf_acts_ran hx hb hg hown hK hP (x := (v 22)) rfl (hg _ q1_88) dX0_run_1 ?_
  refine lv_bipush (v := 24) hx hb dX0_run_4 (by decide) ?_
  refine lv_icmp_ge (tgt := 19) hx hb dX0_run_6 (by decide) (fun c_1 => ?_) (fun c_1 => ?_)
  ·
    have kc_1 : (24 : Int) ≤ (v 22).toInt := i_le c_1
    exfalso; omega
  ·
    have kc_1 : (v 22).toInt < (24 : Int) := i_nle c_1
    refine lv_aload_n hx hb dX0_run_9 rfl (lv_at hl 0 rfl) ?_
    refine gf_acts_traced hx hb hg hown hK hP rfl (hg _ q1_86) dX0_run_10 ?_
    refine lv_aload_n hx hb dX0_run_13 rfl (lv_at hl 0 rfl) ?_
    refine gf_acts_ran hx hb hg hown hK hP (x := (v 22)) rfl (hg _ q1_88) dX0_run_14 ?_
    refine lv_iload_n hx hb dX0_run_17 rfl (lv_at hl 1 rfl) ?_
    refine st_Atraced hx hb hK hP hD hS (i_in (by omega) (by omega)) dX0_run_18 (fun H locs hP hD hS => ?_)
    refine lv_aload_n hx hb dX0_run_19 rfl (lv_at hl 0 rfl) ?_
    refine lv_dup hx hb dX0_run_20 rfl ?_
    refine gf_acts_ran hx hb hg hown hK hP (x := (v 22)) rfl (hg _ q1_88) dX0_run_21 ?_
    refine lv_iconst (v := 1) hx hb dX0_run_24 (by decide) ?_
    refine lv_iadd hx hb dX0_run_25 ?_
    refine lv_topi (fun x_2 ex_2 => ?_)
    have fx_2 : x_2.toInt = (v 22).toInt + (1 : Int) := by rw [ex_2]; exact i_add (by first | omega | (show (_ : Int) ≤ (v 22).toInt + (1 : Int); omega)) (by first | omega | (show (v 22).toInt + (1 : Int) ≤ (_ : Int); omega))
    refine pf_acts_ran hx hb hg hown hK hP hD hS (hg _ q1_88) dX0_run_26 (fun H locs hP hD hS => ?_)
    refine lv_iload_n hx hb dX0_run_29 rfl (lv_at hl 1 rfl) ?_
    refine lv_lookup (tgt := 207) hx hb dX0_run_30 (by decide) (off := 177) (by decide) (by decide) ?_
    refine lv_aload_n hx hb dX0_run_207 rfl (lv_at hl 0 rfl) ?_
    obtain ⟨t0, t1, t2, ⟨a0, b0⟩, ⟨a1, b1⟩, ⟨a2, b2⟩⟩ := id hZ
    refine va_gets hx hb a2 hS hown (hg _ q4_143) (fun _ h9 => h9) dX0_run_208 ?_
    refine lv_iconst (v := 2) hx hb dX0_run_211 (by decide) ?_
    refine va_ti hx hb b2 hS (i_in (by decide) (by decide)) (v := .int 0) rfl dX0_run_212 ?_
    refine lv_iconst (v := 1) hx hb dX0_run_213 (by decide) ?_
    refine lv_iload_n hx hb dX0_run_214 rfl (lv_at hl 2 rfl) ?_
    refine lv_iload_n hx hb dX0_run_215 rfl (lv_at hl 3 rfl) ?_
    refine cV_i (As := [.int 0, .int 1, .int p2, .int p3]) (rest := []) ⟨hx, hb, hml, hown, hg⟩ (k_F_5_0_1 l D cs A ad fa fq rv (va_up v 22 x_2) (va_up a 38 (upd (a 38) (v 22).toNatClampNeg 30)) w fv fp  p2 p3 hkn (show 0 ≤ x_2.toInt by first | omega | decide) (show x_2.toInt ≤ 22 by first | omega | decide) (show 0 ≤ p3.toInt by first | omega | decide) (show p3.toInt ≤ 36 by first | omega | decide) (show 0 ≤ x_2.toInt by first | omega | decide) (show x_2.toInt ≤ 1000 by first | omega | decide) (show 0 ≤ (v 23).toInt by first | omega | decide) (show (v 23).toInt ≤ 49 by first | omega | decide) ia37_0) ca_X0_from q4_139 ⟨rfl, rfl⟩ ⟨Nat.le_of_ble_eq_true rfl, Nat.le_of_ble_eq_true rfl⟩ (rc_acts hK hP) hK hP hD hS hZ rfl hl.1 rfl (Nat.le_of_ble_eq_true rfl) ⟨Nat.zero_le _, Nat.zero_le _⟩ dX0_run_216 (fun r_4 z_7 H locs wr_4 hP hD hS => ?_)
    obtain ⟨o_v22_5, o_a38_6⟩ := z_7
    have hP : va_P D vwCl (CW cs ad fa fq rv (va_up v 22 o_v22_5) (va_up a 38 o_a38_6) w fv fp) H := hP
    have hD : va_D A (CW cs ad fa fq rv (va_up v 22 o_v22_5) (va_up a 38 o_a38_6) w fv fp) := hD
    obtain ⟨wr_4_0, wr_4_1, wr_4_2, wr_4_3, wr_4_4⟩ : (o_v22_5.toInt = x_2.toInt + 2) ∧ (o_a38_6 = TRW (upd (a 38) (v 22).toNatClampNeg 30) x_2.toInt.toNat [10, 1]) ∧ (r_4 = ((p2 + (v 23)) * 2)) ∧ (0 ≤ o_v22_5.toInt) ∧ (o_v22_5.toInt ≤ 1000) := wr_4
    have kt_8 : o_a38_6 = TRW (a 38) (v 22).toInt.toNat [30, 10, 1] := by rw [wr_4_1, show (x_2).toInt.toNat = (v 22).toInt.toNat + 1 from by omega]; rfl
    refine lv_ineg hx hb dX0_run_219 ?_
    refine lv_topi (fun x_9 ex_9 => ?_)
    exact W.iret (v := x_9) hx hb hr (fun tt ht hW => ⟨⟨x_9, ⟨o_v22_5, o_a38_6⟩, rfl, ⟨(by first | rfl | omega | trivial | assumption | (dsimp only; first | omega | assumption)), (by (try dsimp only); first | assumption | rfl), (by simp only [ex_9, wr_4_2, ex_2]), (show 0 ≤ o_v22_5.toInt by first | omega | assumption), (show o_v22_5.toInt ≤ 1000 by first | omega | assumption)⟩, by rw [ht]; exact hP, hD⟩, hS.F ht⟩) hS.2.2 dX0_run_220
set_option maxHeartbeats 4000000 in
set_option maxRecDepth 100000 in
theorem k_F_5_2_1 (l : Launch) (D : va_G) (cs : Nat → ClassId) (A : Nat → Prop) (ad fa fq rv : Nat → Nat) (v : Nat → Int32) (a : Nat → Nat → Int32) (w : Nat → Nat → Int64) (fv fp : Nat → Nat → Int32)  (p3 : Int32) (p4 : Int32) (hkn : (a 37) (v 23).toNatClampNeg = 5) (hr0 : 0 ≤ (v 22).toInt) (hr1 : (v 22).toInt ≤ 21) (hd0 : 0 ≤ p4.toInt) (hd1 : p4.toInt ≤ 35) (iv22_0 : 0 ≤ (v 22).toInt) (iv22_1 : (v 22).toInt ≤ 1000) (iv23_0 : 0 ≤ (v 23).toInt) (iv23_1 : (v 23).toInt ≤ 49) (ia37_0 : AB 0 7 (a 37)) : Met l yX0_from (Cond.code yX0_from cX0_from 8 (some .int) :: gw) ({ frames := 6, cells := 0, slots := 0, locals := 146 }) (va_Pc [.ref (ad 9), .int 2, .int 1, .int p3, .int p4] (XPre D (TY cs) (CW cs ad fa fq rv v a w fv fp) A)) (va_Qi (fun (r : Int32) (z : Int32 × (Nat → Int32)) => (z.1.toInt = (v 22).toInt + 3) ∧ (z.2 = TRW (a 38) (v 22).toInt.toNat [30, 10, 1]) ∧ (r = (-((p3 + (v 23)) * 2))) ∧ (0 ≤ z.1.toInt) ∧ (z.1.toInt ≤ 1000)) (XPo D (fun (z : Int32 × (Nat → Int32)) => CW cs ad fa fq rv (va_up v 22 z.1) (va_up a 38 z.2) w fv fp) A) A) 0 0 A := by
  refine Met.ofW (cc := cX0_from) (maxL := 8) (ret := (some .int)) (by decide) rfl ?_
  intro p e s m args below meth c s₁ B hml hv
  obtain ⟨rfl, hP, hK, hD, hZ⟩ := hv
  have hx := B.exec
  have hb := B.bytes
  have hr := B.returns
  have hts := atoms_spec (ws := (Cond.code yX0_from cX0_from 8 (some .int) :: gw)) B.pre
  have hg : ∀ w ∈ gw, w.before ([.ref (ad 9), .int 2, .int 1, .int p3, .int p4] : List Value).toArray s = true := fun w h => hts w (List.mem_cons_of_mem _ h)
  have hown : s.vm.findClass RX0 = some m.cls := findClass_of_methodNamed B.named
  have hlocks := B.notSynchronized
  have hS : va_S A s.heap s.heap [] := va_S.rf
  have hP : va_P D vwCl (CW cs ad fa fq rv v a w fv fp) s.heap := hP
  have hl := lv_entry ([.ref (ad 9), .int 2, .int 1, .int p3, .int p4]) (n := 8) (Nat.le_of_ble_eq_true rfl)
  rw [lg_entry_eq]
  generalize (lg_sl ([.ref (ad 9), .int 2, .int 1, .int p3, .int p4]) ++ List.replicate (8 - (lg_sl ([.ref (ad 9), .int 2, .int 1, .int p3, .int p4])).length) Slot.unset).toArray = ls at hl ⊢
  have hl : lv_has ls 8 [(0, .ref (ad 9)), (1, .int 2), (2, .int 1), (3, .int p3), (4, .int p4)] := hl
  refine lv_iload_n hx hb dX0_from_0 rfl (lv_at hl 1 rfl) ?_
  refine lv_istore (lv' := [(5, .int 2), (0, .ref (ad 9)), (1, .int 2), (2, .int 1), (3, .int p3), (4, .int p4)]) hx hb dX0_from_1 hl (by decide) rfl (fun ls hl => ?_)
  refine lv_iconst (v := 0) hx hb dX0_from_3 (by decide) ?_
  refine lv_istore (lv' := [(6, .int 0), (5, .int 2), (0, .ref (ad 9)), (1, .int 2), (2, .int 1), (3, .int p3), (4, .int p4)]) hx hb dX0_from_4 hl (by decide) rfl (fun ls hl => ?_)
  refine lv_iload hx hb dX0_from_6 (lv_at hl 0 rfl) ?_
  obtain ⟨t0, t1, t2, ⟨a0, b0⟩, ⟨a1, b1⟩, ⟨a2, b2⟩⟩ := id hZ
  refine va_gets hx hb a2 hS hown (hg _ q4_143) (fun _ h9 => h9) dX0_from_8 ?_
  refine va_tlen hx hb b2 hS (v := 8) rfl dX0_from_11 ?_
  refine lv_icmp_ge (tgt := 73) hx hb dX0_from_12 (by decide) (fun c_1 => absurd c_1 (by decide)) (fun c_1 => ?_)
  refine lv_iload hx hb dX0_from_15 (lv_at hl 1 rfl) ?_
  refine cS_p (As := [.int 2]) (rest := []) ⟨hx, hb, hml, hown, hg⟩ (k_IK_3 l    ) ca_X0_isKind q4_145 ⟨rfl, rfl⟩ ⟨Nat.le_of_ble_eq_true rfl, Nat.le_of_ble_eq_true rfl⟩ rfl hl.1 rfl (Nat.le_of_ble_eq_true rfl) ⟨Nat.zero_le _, Nat.zero_le _⟩ dX0_from_17 (fun r_2 wr_2 => ?_)
  have wr_2 : r_2.toInt = 1 := wr_2
  refine lv_if_eq (tgt := 73) hx hb dX0_from_20 (by decide) (fun c_3 => ?_) (fun c_3 => ?_)
  ·
    have kc_3 : r_2.toInt = (0 : Int) := i_eq c_3
    exfalso; omega
  ·
    have kc_3 : r_2.toInt ≠ (0 : Int) := i_ne c_3
    refine lv_iload hx hb dX0_from_23 (lv_at hl 1 rfl) ?_
    refine lv_iload_n hx hb dX0_from_25 rfl (lv_at hl 4 rfl) ?_
    refine cS_p (As := [.int 2, .int 1]) (rest := []) ⟨hx, hb, hml, hown, hg⟩ (k_B_2_1 l    ) ca_X0_bodyOf q4_146 ⟨rfl, rfl⟩ ⟨Nat.le_of_ble_eq_true rfl, Nat.le_of_ble_eq_true rfl⟩ rfl hl.1 rfl (Nat.le_of_ble_eq_true rfl) ⟨Nat.zero_le _, Nat.zero_le _⟩ dX0_from_26 (fun r_4 wr_4 => ?_)
    have wr_4 : r_4.toInt = 30 := wr_4
    have el_5 : r_4 = 30 := i_inj (wr_4.trans (by rfl))
    subst el_5
    refine lv_istore (lv' := [(7, .int 30), (6, .int 0), (5, .int 2), (0, .ref (ad 9)), (1, .int 2), (2, .int 1), (3, .int p3), (4, .int p4)]) hx hb dX0_from_29 hl (by decide) rfl (fun ls hl => ?_)
    refine lv_iload hx hb dX0_from_31 (lv_at hl 0 rfl) ?_
    refine lv_if_eq (tgt := 59) hx hb dX0_from_33 (by decide) (fun c_6 => absurd c_6 (by decide)) (fun c_6 => ?_)
    refine lv_iload hx hb dX0_from_36 (lv_at hl 7 rfl) ?_
    refine lv_bipush (v := 40) hx hb dX0_from_38 (by decide) ?_
    refine lv_icmp_ge (tgt := 57) hx hb dX0_from_40 (by decide) (fun c_7 => ?_) (fun c_7 => ?_)
    ·
      have kc_7 : (40 : Int) ≤ p4.toInt := i_le c_7
      exfalso; omega
    ·
      have kc_7 : p4.toInt < (40 : Int) := i_nle c_7
      refine lv_aload_n hx hb dX0_from_43 rfl (lv_at hl 3 rfl) ?_
      refine lv_iload hx hb dX0_from_44 (lv_at hl 0 rfl) ?_
      refine lv_iload_n hx hb dX0_from_46 rfl (lv_at hl 6 rfl) ?_
      refine lv_iload hx hb dX0_from_47 (lv_at hl 7 rfl) ?_
      refine lv_iconst (v := 1) hx hb dX0_from_49 (by decide) ?_
      refine lv_iadd hx hb dX0_from_50 ?_
      refine lv_topi (fun x_8 ex_8 => ?_)
      have fx_8 : x_8.toInt = p4.toInt + (1 : Int) := by rw [ex_8]; exact i_add (by first | omega | (show (_ : Int) ≤ p4.toInt + (1 : Int); omega)) (by first | omega | (show p4.toInt + (1 : Int) ≤ (_ : Int); omega))
      refine cV_i (As := [.int 30, .int p3, .int x_8]) (rest := []) ⟨hx, hb, hml, hown, hg⟩ (k_R_5_30 l D cs A ad fa fq rv v a w fv fp  p3 x_8 hkn (show 0 ≤ (v 22).toInt by first | omega | decide) (show (v 22).toInt ≤ 21 by first | omega | decide) (show 0 ≤ x_8.toInt by first | omega | decide) (show x_8.toInt ≤ 36 by first | omega | decide) (show 0 ≤ (v 22).toInt by first | omega | decide) (show (v 22).toInt ≤ 1000 by first | omega | decide) (show 0 ≤ (v 23).toInt by first | omega | decide) (show (v 23).toInt ≤ 49 by first | omega | decide) ia37_0) ca_X0_run q4_149 ⟨rfl, rfl⟩ ⟨Nat.le_of_ble_eq_true rfl, Nat.le_of_ble_eq_true rfl⟩ (rc_acts hK hP) hK hP hD hS hZ rfl hl.1 rfl (Nat.le_of_ble_eq_true rfl) ⟨Nat.zero_le _, Nat.zero_le _⟩ dX0_from_51 (fun r_9 z_12 H locs wr_9 hP hD hS => ?_)
      obtain ⟨o_v22_10, o_a38_11⟩ := z_12
      have hP : va_P D vwCl (CW cs ad fa fq rv (va_up v 22 o_v22_10) (va_up a 38 o_a38_11) w fv fp) H := hP
      have hD : va_D A (CW cs ad fa fq rv (va_up v 22 o_v22_10) (va_up a 38 o_a38_11) w fv fp) := hD
      obtain ⟨wr_9_0, wr_9_1, wr_9_2, wr_9_3, wr_9_4⟩ : (o_v22_10.toInt = (v 22).toInt + 3) ∧ (o_a38_11 = TRW (a 38) (v 22).toInt.toNat [30, 10, 1]) ∧ (r_9 = (-((p3 + (v 23)) * 2))) ∧ (0 ≤ o_v22_10.toInt) ∧ (o_v22_10.toInt ≤ 1000) := wr_9
      have kt_13 : o_a38_11 = TRW (a 38) (v 22).toInt.toNat [30, 10, 1] := by rw [wr_9_1]
      refine lv_goto (tgt := 58) hx hb dX0_from_54 (by decide) ?_
      exact W.iret (v := r_9) hx hb hr (fun tt ht hW => ⟨⟨r_9, ⟨o_v22_10, o_a38_11⟩, rfl, ⟨(by first | rfl | omega | trivial | assumption | (dsimp only; first | omega | assumption)), (by (try dsimp only); first | assumption | rfl), (by simp only [wr_9_2, ex_8]), (show 0 ≤ o_v22_10.toInt by first | omega | assumption), (show o_v22_10.toInt ≤ 1000 by first | omega | assumption)⟩, by rw [ht]; exact hP, hD⟩, hS.F ht⟩) hS.2.2 dX0_from_58
set_option maxHeartbeats 4000000 in
set_option maxRecDepth 100000 in
theorem k_R_5_41 (l : Launch) (D : va_G) (cs : Nat → ClassId) (A : Nat → Prop) (ad fa fq rv : Nat → Nat) (v : Nat → Int32) (a : Nat → Nat → Int32) (w : Nat → Nat → Int64) (fv fp : Nat → Nat → Int32)  (p2 : Int32) (p3 : Int32) (hkn : (a 37) (v 23).toNatClampNeg = 5) (hr0 : 0 ≤ (v 22).toInt) (hr1 : (v 22).toInt ≤ 20) (hd0 : 0 ≤ p3.toInt) (hd1 : p3.toInt ≤ 35) (iv22_0 : 0 ≤ (v 22).toInt) (iv22_1 : (v 22).toInt ≤ 1000) (iv23_0 : 0 ≤ (v 23).toInt) (iv23_1 : (v 23).toInt ≤ 49) (ia37_0 : AB 0 7 (a 37)) : Met l yX0_run (Cond.code yX0_run cX0_run 4 (some .int) :: gw) ({ frames := 7, cells := 0, slots := 0, locals := 173 }) (va_Pc [.ref (ad 9), .int 41, .int p2, .int p3] (XPre D (TY cs) (CW cs ad fa fq rv v a w fv fp) A)) (va_Qi (fun (r : Int32) (z : Int32 × (Nat → Int32)) => (z.1.toInt = (v 22).toInt + 4) ∧ (z.2 = TRW (a 38) (v 22).toInt.toNat [41, 30, 10, 1]) ∧ (r = (-(((p2 + 1) + (v 23)) * 2))) ∧ (0 ≤ z.1.toInt) ∧ (z.1.toInt ≤ 1000)) (XPo D (fun (z : Int32 × (Nat → Int32)) => CW cs ad fa fq rv (va_up v 22 z.1) (va_up a 38 z.2) w fv fp) A) A) 0 0 A := by
  refine Met.ofW (cc := cX0_run) (maxL := 4) (ret := (some .int)) (by decide) rfl ?_
  intro p e s m args below meth c s₁ B hml hv
  obtain ⟨rfl, hP, hK, hD, hZ⟩ := hv
  have hx := B.exec
  have hb := B.bytes
  have hr := B.returns
  have hts := atoms_spec (ws := (Cond.code yX0_run cX0_run 4 (some .int) :: gw)) B.pre
  have hg : ∀ w ∈ gw, w.before ([.ref (ad 9), .int 41, .int p2, .int p3] : List Value).toArray s = true := fun w h => hts w (List.mem_cons_of_mem _ h)
  have hown : s.vm.findClass RX0 = some m.cls := findClass_of_methodNamed B.named
  have hlocks := B.notSynchronized
  have hS : va_S A s.heap s.heap [] := va_S.rf
  have hP : va_P D vwCl (CW cs ad fa fq rv v a w fv fp) s.heap := hP
  have hl := lv_entry ([.ref (ad 9), .int 41, .int p2, .int p3]) (n := 4) (Nat.le_of_ble_eq_true rfl)
  rw [lg_entry_eq]
  generalize (lg_sl ([.ref (ad 9), .int 41, .int p2, .int p3]) ++ List.replicate (4 - (lg_sl ([.ref (ad 9), .int 41, .int p2, .int p3])).length) Slot.unset).toArray = ls at hl ⊢
  have hl : lv_has ls 4 [(0, .ref (ad 9)), (1, .int 41), (2, .int p2), (3, .int p3)] := hl
  refine lv_aload_n hx hb dX0_run_0 rfl (lv_at hl 0 rfl) ?_
  refine gf_acts_ran hx hb hg hown hK hP (x := (v 22)) rfl (hg _ q1_88) dX0_run_1 ?_
  refine lv_bipush (v := 24) hx hb dX0_run_4 (by decide) ?_
  refine lv_icmp_ge (tgt := 19) hx hb dX0_run_6 (by decide) (fun c_1 => ?_) (fun c_1 => ?_)
  ·
    have kc_1 : (24 : Int) ≤ (v 22).toInt := i_le c_1
    exfalso; omega
  ·
    have kc_1 : (v 22).toInt < (24 : Int) := i_nle c_1
    refine lv_aload_n hx hb dX0_run_9 rfl (lv_at hl 0 rfl) ?_
    refine gf_acts_traced hx hb hg hown hK hP rfl (hg _ q1_86) dX0_run_10 ?_
    refine lv_aload_n hx hb dX0_run_13 rfl (lv_at hl 0 rfl) ?_
    refine gf_acts_ran hx hb hg hown hK hP (x := (v 22)) rfl (hg _ q1_88) dX0_run_14 ?_
    refine lv_iload_n hx hb dX0_run_17 rfl (lv_at hl 1 rfl) ?_
    refine st_Atraced hx hb hK hP hD hS (i_in (by omega) (by omega)) dX0_run_18 (fun H locs hP hD hS => ?_)
    refine lv_aload_n hx hb dX0_run_19 rfl (lv_at hl 0 rfl) ?_
    refine lv_dup hx hb dX0_run_20 rfl ?_
    refine gf_acts_ran hx hb hg hown hK hP (x := (v 22)) rfl (hg _ q1_88) dX0_run_21 ?_
    refine lv_iconst (v := 1) hx hb dX0_run_24 (by decide) ?_
    refine lv_iadd hx hb dX0_run_25 ?_
    refine lv_topi (fun x_2 ex_2 => ?_)
    have fx_2 : x_2.toInt = (v 22).toInt + (1 : Int) := by rw [ex_2]; exact i_add (by first | omega | (show (_ : Int) ≤ (v 22).toInt + (1 : Int); omega)) (by first | omega | (show (v 22).toInt + (1 : Int) ≤ (_ : Int); omega))
    refine pf_acts_ran hx hb hg hown hK hP hD hS (hg _ q1_88) dX0_run_26 (fun H locs hP hD hS => ?_)
    refine lv_iload_n hx hb dX0_run_29 rfl (lv_at hl 1 rfl) ?_
    refine lv_lookup (tgt := 236) hx hb dX0_run_30 (by decide) (off := 206) (by decide) (by decide) ?_
    refine lv_aload_n hx hb dX0_run_236 rfl (lv_at hl 0 rfl) ?_
    obtain ⟨t0, t1, t2, ⟨a0, b0⟩, ⟨a1, b1⟩, ⟨a2, b2⟩⟩ := id hZ
    refine va_gets hx hb a2 hS hown (hg _ q4_143) (fun _ h9 => h9) dX0_run_237 ?_
    refine lv_iconst (v := 3) hx hb dX0_run_240 (by decide) ?_
    refine va_ti hx hb b2 hS (i_in (by decide) (by decide)) (v := .int 2) rfl dX0_run_241 ?_
    refine lv_iconst (v := 1) hx hb dX0_run_242 (by decide) ?_
    refine lv_iload_n hx hb dX0_run_243 rfl (lv_at hl 2 rfl) ?_
    refine lv_iconst (v := 1) hx hb dX0_run_244 (by decide) ?_
    refine lv_iadd hx hb dX0_run_245 ?_
    refine lv_topi (fun x_4 ex_4 => ?_)
    refine lv_iload_n hx hb dX0_run_246 rfl (lv_at hl 3 rfl) ?_
    refine cV_i (As := [.int 2, .int 1, .int x_4, .int p3]) (rest := []) ⟨hx, hb, hml, hown, hg⟩ (k_F_5_2_1 l D cs A ad fa fq rv (va_up v 22 x_2) (va_up a 38 (upd (a 38) (v 22).toNatClampNeg 41)) w fv fp  x_4 p3 hkn (show 0 ≤ x_2.toInt by first | omega | decide) (show x_2.toInt ≤ 21 by first | omega | decide) (show 0 ≤ p3.toInt by first | omega | decide) (show p3.toInt ≤ 35 by first | omega | decide) (show 0 ≤ x_2.toInt by first | omega | decide) (show x_2.toInt ≤ 1000 by first | omega | decide) (show 0 ≤ (v 23).toInt by first | omega | decide) (show (v 23).toInt ≤ 49 by first | omega | decide) ia37_0) ca_X0_from q4_139 ⟨rfl, rfl⟩ ⟨Nat.le_of_ble_eq_true rfl, Nat.le_of_ble_eq_true rfl⟩ (rc_acts hK hP) hK hP hD hS hZ rfl hl.1 rfl (Nat.le_of_ble_eq_true rfl) ⟨Nat.zero_le _, Nat.zero_le _⟩ dX0_run_247 (fun r_5 z_8 H locs wr_5 hP hD hS => ?_)
    obtain ⟨o_v22_6, o_a38_7⟩ := z_8
    have hP : va_P D vwCl (CW cs ad fa fq rv (va_up v 22 o_v22_6) (va_up a 38 o_a38_7) w fv fp) H := hP
    have hD : va_D A (CW cs ad fa fq rv (va_up v 22 o_v22_6) (va_up a 38 o_a38_7) w fv fp) := hD
    obtain ⟨wr_5_0, wr_5_1, wr_5_2, wr_5_3, wr_5_4⟩ : (o_v22_6.toInt = x_2.toInt + 3) ∧ (o_a38_7 = TRW (upd (a 38) (v 22).toNatClampNeg 41) x_2.toInt.toNat [30, 10, 1]) ∧ (r_5 = (-((x_4 + (v 23)) * 2))) ∧ (0 ≤ o_v22_6.toInt) ∧ (o_v22_6.toInt ≤ 1000) := wr_5
    have kt_9 : o_a38_7 = TRW (a 38) (v 22).toInt.toNat [41, 30, 10, 1] := by rw [wr_5_1, show (x_2).toInt.toNat = (v 22).toInt.toNat + 1 from by omega]; rfl
    exact W.iret (v := r_5) hx hb hr (fun tt ht hW => ⟨⟨r_5, ⟨o_v22_6, o_a38_7⟩, rfl, ⟨(by first | rfl | omega | trivial | assumption | (dsimp only; first | omega | assumption)), (by (try dsimp only); first | assumption | rfl), (by simp only [wr_5_2, ex_4, ex_2]), (show 0 ≤ o_v22_6.toInt by first | omega | assumption), (show o_v22_6.toInt ≤ 1000 by first | omega | assumption)⟩, by rw [ht]; exact hP, hD⟩, hS.F ht⟩) hS.2.2 dX0_run_250
set_option maxHeartbeats 4000000 in
set_option maxRecDepth 100000 in
theorem k_F_5_5_1 (l : Launch) (D : va_G) (cs : Nat → ClassId) (A : Nat → Prop) (ad fa fq rv : Nat → Nat) (v : Nat → Int32) (a : Nat → Nat → Int32) (w : Nat → Nat → Int64) (fv fp : Nat → Nat → Int32)  (p3 : Int32) (p4 : Int32) (hkn : (a 37) (v 23).toNatClampNeg = 5) (hr0 : 0 ≤ (v 22).toInt) (hr1 : (v 22).toInt ≤ 20) (hd0 : 0 ≤ p4.toInt) (hd1 : p4.toInt ≤ 34) (iv22_0 : 0 ≤ (v 22).toInt) (iv22_1 : (v 22).toInt ≤ 1000) (iv23_0 : 0 ≤ (v 23).toInt) (iv23_1 : (v 23).toInt ≤ 49) (ia37_0 : AB 0 7 (a 37)) : Met l yX0_from (Cond.code yX0_from cX0_from 8 (some .int) :: gw) ({ frames := 8, cells := 0, slots := 0, locals := 196 }) (va_Pc [.ref (ad 9), .int 5, .int 1, .int p3, .int p4] (XPre D (TY cs) (CW cs ad fa fq rv v a w fv fp) A)) (va_Qi (fun (r : Int32) (z : Int32 × (Nat → Int32)) => (z.1.toInt = (v 22).toInt + 4) ∧ (z.2 = TRW (a 38) (v 22).toInt.toNat [41, 30, 10, 1]) ∧ (r = (-(((p3 + 1) + (v 23)) * 2))) ∧ (0 ≤ z.1.toInt) ∧ (z.1.toInt ≤ 1000)) (XPo D (fun (z : Int32 × (Nat → Int32)) => CW cs ad fa fq rv (va_up v 22 z.1) (va_up a 38 z.2) w fv fp) A) A) 0 0 A := by
  refine Met.ofW (cc := cX0_from) (maxL := 8) (ret := (some .int)) (by decide) rfl ?_
  intro p e s m args below meth c s₁ B hml hv
  obtain ⟨rfl, hP, hK, hD, hZ⟩ := hv
  have hx := B.exec
  have hb := B.bytes
  have hr := B.returns
  have hts := atoms_spec (ws := (Cond.code yX0_from cX0_from 8 (some .int) :: gw)) B.pre
  have hg : ∀ w ∈ gw, w.before ([.ref (ad 9), .int 5, .int 1, .int p3, .int p4] : List Value).toArray s = true := fun w h => hts w (List.mem_cons_of_mem _ h)
  have hown : s.vm.findClass RX0 = some m.cls := findClass_of_methodNamed B.named
  have hlocks := B.notSynchronized
  have hS : va_S A s.heap s.heap [] := va_S.rf
  have hP : va_P D vwCl (CW cs ad fa fq rv v a w fv fp) s.heap := hP
  have hl := lv_entry ([.ref (ad 9), .int 5, .int 1, .int p3, .int p4]) (n := 8) (Nat.le_of_ble_eq_true rfl)
  rw [lg_entry_eq]
  generalize (lg_sl ([.ref (ad 9), .int 5, .int 1, .int p3, .int p4]) ++ List.replicate (8 - (lg_sl ([.ref (ad 9), .int 5, .int 1, .int p3, .int p4])).length) Slot.unset).toArray = ls at hl ⊢
  have hl : lv_has ls 8 [(0, .ref (ad 9)), (1, .int 5), (2, .int 1), (3, .int p3), (4, .int p4)] := hl
  refine lv_iload_n hx hb dX0_from_0 rfl (lv_at hl 1 rfl) ?_
  refine lv_istore (lv' := [(5, .int 5), (0, .ref (ad 9)), (1, .int 5), (2, .int 1), (3, .int p3), (4, .int p4)]) hx hb dX0_from_1 hl (by decide) rfl (fun ls hl => ?_)
  refine lv_iconst (v := 0) hx hb dX0_from_3 (by decide) ?_
  refine lv_istore (lv' := [(6, .int 0), (5, .int 5), (0, .ref (ad 9)), (1, .int 5), (2, .int 1), (3, .int p3), (4, .int p4)]) hx hb dX0_from_4 hl (by decide) rfl (fun ls hl => ?_)
  refine lv_iload hx hb dX0_from_6 (lv_at hl 0 rfl) ?_
  obtain ⟨t0, t1, t2, ⟨a0, b0⟩, ⟨a1, b1⟩, ⟨a2, b2⟩⟩ := id hZ
  refine va_gets hx hb a2 hS hown (hg _ q4_143) (fun _ h9 => h9) dX0_from_8 ?_
  refine va_tlen hx hb b2 hS (v := 8) rfl dX0_from_11 ?_
  refine lv_icmp_ge (tgt := 73) hx hb dX0_from_12 (by decide) (fun c_1 => absurd c_1 (by decide)) (fun c_1 => ?_)
  refine lv_iload hx hb dX0_from_15 (lv_at hl 1 rfl) ?_
  refine cS_p (As := [.int 5]) (rest := []) ⟨hx, hb, hml, hown, hg⟩ (k_IK_6 l    ) ca_X0_isKind q4_145 ⟨rfl, rfl⟩ ⟨Nat.le_of_ble_eq_true rfl, Nat.le_of_ble_eq_true rfl⟩ rfl hl.1 rfl (Nat.le_of_ble_eq_true rfl) ⟨Nat.zero_le _, Nat.zero_le _⟩ dX0_from_17 (fun r_2 wr_2 => ?_)
  have wr_2 : r_2.toInt = 1 := wr_2
  refine lv_if_eq (tgt := 73) hx hb dX0_from_20 (by decide) (fun c_3 => ?_) (fun c_3 => ?_)
  ·
    have kc_3 : r_2.toInt = (0 : Int) := i_eq c_3
    exfalso; omega
  ·
    have kc_3 : r_2.toInt ≠ (0 : Int) := i_ne c_3
    refine lv_iload hx hb dX0_from_23 (lv_at hl 1 rfl) ?_
    refine lv_iload_n hx hb dX0_from_25 rfl (lv_at hl 4 rfl) ?_
    refine cS_p (As := [.int 5, .int 1]) (rest := []) ⟨hx, hb, hml, hown, hg⟩ (k_B_5_1 l    ) ca_X0_bodyOf q4_146 ⟨rfl, rfl⟩ ⟨Nat.le_of_ble_eq_true rfl, Nat.le_of_ble_eq_true rfl⟩ rfl hl.1 rfl (Nat.le_of_ble_eq_true rfl) ⟨Nat.zero_le _, Nat.zero_le _⟩ dX0_from_26 (fun r_4 wr_4 => ?_)
    have wr_4 : r_4.toInt = 0 := wr_4
    have el_5 : r_4 = 0 := i_inj (wr_4.trans (by rfl))
    subst el_5
    refine lv_istore (lv' := [(7, .int 0), (6, .int 0), (5, .int 5), (0, .ref (ad 9)), (1, .int 5), (2, .int 1), (3, .int p3), (4, .int p4)]) hx hb dX0_from_29 hl (by decide) rfl (fun ls hl => ?_)
    refine lv_iload hx hb dX0_from_31 (lv_at hl 0 rfl) ?_
    refine lv_if_eq (tgt := 59) hx hb dX0_from_33 (by decide) (fun c_6 => ?_) (fun c_6 => absurd c_6 (by decide))
    obtain ⟨t0, t1, t2, ⟨a0, b0⟩, ⟨a1, b1⟩, ⟨a2, b2⟩⟩ := id hZ
    refine va_gets hx hb a2 hS hown (hg _ q4_143) (fun _ h9 => h9) dX0_from_59 ?_
    refine lv_iload hx hb dX0_from_62 (lv_at hl 2 rfl) ?_
    refine va_ti hx hb b2 hS (i_in (by decide) (by decide)) (v := .int 3) rfl dX0_from_64 ?_
    refine lv_istore (lv' := [(5, .int 3), (7, .int 0), (6, .int 0), (0, .ref (ad 9)), (1, .int 5), (2, .int 1), (3, .int p3), (4, .int p4)]) hx hb dX0_from_65 hl (by decide) rfl (fun ls hl => ?_)
    obtain ⟨x_7, ex_7⟩ : ∃ y : Int32, y = 0 + 1 := ⟨_, rfl⟩
    have fx_7 : x_7.toInt = (0 : Int) + 1 := by rw [ex_7]; exact i_add (by first | omega | (show (_ : Int) ≤ (0 : Int) + 1; omega)) (by first | omega | (show (0 : Int) + 1 ≤ (_ : Int); omega))
    refine lv_iinc (v := x_7) (lv' := [(6, .int x_7), (5, .int 3), (7, .int 0), (0, .ref (ad 9)), (1, .int 5), (2, .int 1), (3, .int p3), (4, .int p4)]) hx hb dX0_from_67 hl (k := 2) rfl (by rw [ex_7]; rfl) (by decide) rfl (fun ls hl => ?_)
    refine lv_goto (tgt := 6) hx hb dX0_from_70 (by decide) ?_
    refine lv_iload hx hb dX0_from_6 (lv_at hl 0 rfl) ?_
    obtain ⟨t0, t1, t2, ⟨a0, b0⟩, ⟨a1, b1⟩, ⟨a2, b2⟩⟩ := id hZ
    refine va_gets hx hb a2 hS hown (hg _ q4_143) (fun _ h9 => h9) dX0_from_8 ?_
    refine va_tlen hx hb b2 hS (v := 8) rfl dX0_from_11 ?_
    refine lv_icmp_ge (tgt := 73) hx hb dX0_from_12 (by decide) (fun c_8 => ?_) (fun c_8 => ?_)
    ·
      have kc_8 : (8 : Int) ≤ x_7.toInt := i_le c_8
      exfalso; omega
    ·
      have kc_8 : x_7.toInt < (8 : Int) := i_nle c_8
      refine lv_iload hx hb dX0_from_15 (lv_at hl 1 rfl) ?_
      refine cS_p (As := [.int 3]) (rest := []) ⟨hx, hb, hml, hown, hg⟩ (k_IK_4 l    ) ca_X0_isKind q4_145 ⟨rfl, rfl⟩ ⟨Nat.le_of_ble_eq_true rfl, Nat.le_of_ble_eq_true rfl⟩ rfl hl.1 rfl (Nat.le_of_ble_eq_true rfl) ⟨Nat.zero_le _, Nat.zero_le _⟩ dX0_from_17 (fun r_9 wr_9 => ?_)
      have wr_9 : r_9.toInt = 1 := wr_9
      refine lv_if_eq (tgt := 73) hx hb dX0_from_20 (by decide) (fun c_10 => ?_) (fun c_10 => ?_)
      ·
        have kc_10 : r_9.toInt = (0 : Int) := i_eq c_10
        exfalso; omega
      ·
        have kc_10 : r_9.toInt ≠ (0 : Int) := i_ne c_10
        refine lv_iload hx hb dX0_from_23 (lv_at hl 1 rfl) ?_
        refine lv_iload_n hx hb dX0_from_25 rfl (lv_at hl 5 rfl) ?_
        refine cS_p (As := [.int 3, .int 1]) (rest := []) ⟨hx, hb, hml, hown, hg⟩ (k_B_3_1 l    ) ca_X0_bodyOf q4_146 ⟨rfl, rfl⟩ ⟨Nat.le_of_ble_eq_true rfl, Nat.le_of_ble_eq_true rfl⟩ rfl hl.1 rfl (Nat.le_of_ble_eq_true rfl) ⟨Nat.zero_le _, Nat.zero_le _⟩ dX0_from_26 (fun r_11 wr_11 => ?_)
        have wr_11 : r_11.toInt = 41 := wr_11
        have el_12 : r_11 = 41 := i_inj (wr_11.trans (by rfl))
        subst el_12
        refine lv_istore (lv' := [(7, .int 41), (6, .int x_7), (5, .int 3), (0, .ref (ad 9)), (1, .int 5), (2, .int 1), (3, .int p3), (4, .int p4)]) hx hb dX0_from_29 hl (by decide) rfl (fun ls hl => ?_)
        refine lv_iload hx hb dX0_from_31 (lv_at hl 0 rfl) ?_
        refine lv_if_eq (tgt := 59) hx hb dX0_from_33 (by decide) (fun c_13 => absurd c_13 (by decide)) (fun c_13 => ?_)
        refine lv_iload hx hb dX0_from_36 (lv_at hl 7 rfl) ?_
        refine lv_bipush (v := 40) hx hb dX0_from_38 (by decide) ?_
        refine lv_icmp_ge (tgt := 57) hx hb dX0_from_40 (by decide) (fun c_14 => ?_) (fun c_14 => ?_)
        ·
          have kc_14 : (40 : Int) ≤ p4.toInt := i_le c_14
          exfalso; omega
        ·
          have kc_14 : p4.toInt < (40 : Int) := i_nle c_14
          refine lv_aload_n hx hb dX0_from_43 rfl (lv_at hl 3 rfl) ?_
          refine lv_iload hx hb dX0_from_44 (lv_at hl 0 rfl) ?_
          refine lv_iload_n hx hb dX0_from_46 rfl (lv_at hl 6 rfl) ?_
          refine lv_iload hx hb dX0_from_47 (lv_at hl 7 rfl) ?_
          refine lv_iconst (v := 1) hx hb dX0_from_49 (by decide) ?_
          refine lv_iadd hx hb dX0_from_50 ?_
          refine lv_topi (fun x_15 ex_15 => ?_)
          have fx_15 : x_15.toInt = p4.toInt + (1 : Int) := by rw [ex_15]; exact i_add (by first | omega | (show (_ : Int) ≤ p4.toInt + (1 : Int); omega)) (by first | omega | (show p4.toInt + (1 : Int) ≤ (_ : Int); omega))
          refine cV_i (As := [.int 41, .int p3, .int x_15]) (rest := []) ⟨hx, hb, hml, hown, hg⟩ (k_R_5_41 l D cs A ad fa fq rv v a w fv fp  p3 x_15 hkn (show 0 ≤ (v 22).toInt by first | omega | decide) (show (v 22).toInt ≤ 20 by first | omega | decide) (show 0 ≤ x_15.toInt by first | omega | decide) (show x_15.toInt ≤ 35 by first | omega | decide) (show 0 ≤ (v 22).toInt by first | omega | decide) (show (v 22).toInt ≤ 1000 by first | omega | decide) (show 0 ≤ (v 23).toInt by first | omega | decide) (show (v 23).toInt ≤ 49 by first | omega | decide) ia37_0) ca_X0_run q4_149 ⟨rfl, rfl⟩ ⟨Nat.le_of_ble_eq_true rfl, Nat.le_of_ble_eq_true rfl⟩ (rc_acts hK hP) hK hP hD hS hZ rfl hl.1 rfl (Nat.le_of_ble_eq_true rfl) ⟨Nat.zero_le _, Nat.zero_le _⟩ dX0_from_51 (fun r_16 z_19 H locs wr_16 hP hD hS => ?_)
          obtain ⟨o_v22_17, o_a38_18⟩ := z_19
          have hP : va_P D vwCl (CW cs ad fa fq rv (va_up v 22 o_v22_17) (va_up a 38 o_a38_18) w fv fp) H := hP
          have hD : va_D A (CW cs ad fa fq rv (va_up v 22 o_v22_17) (va_up a 38 o_a38_18) w fv fp) := hD
          obtain ⟨wr_16_0, wr_16_1, wr_16_2, wr_16_3, wr_16_4⟩ : (o_v22_17.toInt = (v 22).toInt + 4) ∧ (o_a38_18 = TRW (a 38) (v 22).toInt.toNat [41, 30, 10, 1]) ∧ (r_16 = (-(((p3 + 1) + (v 23)) * 2))) ∧ (0 ≤ o_v22_17.toInt) ∧ (o_v22_17.toInt ≤ 1000) := wr_16
          have kt_20 : o_a38_18 = TRW (a 38) (v 22).toInt.toNat [41, 30, 10, 1] := by rw [wr_16_1]
          refine lv_goto (tgt := 58) hx hb dX0_from_54 (by decide) ?_
          exact W.iret (v := r_16) hx hb hr (fun tt ht hW => ⟨⟨r_16, ⟨o_v22_17, o_a38_18⟩, rfl, ⟨(by first | rfl | omega | trivial | assumption | (dsimp only; first | omega | assumption)), (by (try dsimp only); first | assumption | rfl), (by simp only [wr_16_2, ex_15]), (show 0 ≤ o_v22_17.toInt by first | omega | assumption), (show o_v22_17.toInt ≤ 1000 by first | omega | assumption)⟩, by rw [ht]; exact hP, hD⟩, hS.F ht⟩) hS.2.2 dX0_from_58
set_option maxHeartbeats 4000000 in
set_option maxRecDepth 100000 in
theorem k_S_5_1 (l : Launch) (D : va_G) (cs : Nat → ClassId) (A : Nat → Prop) (ad fa fq rv : Nat → Nat) (v : Nat → Int32) (a : Nat → Nat → Int32) (w : Nat → Nat → Int64) (fv fp : Nat → Nat → Int32)  (p2 : Int32) (p3 : Int32) (hkn : (a 37) (v 23).toNatClampNeg = 5) (hr0 : 0 ≤ (v 22).toInt) (hr1 : (v 22).toInt ≤ 20) (hd0 : 0 ≤ p3.toInt) (hd1 : p3.toInt ≤ 34) (iv23_0 : 0 ≤ (v 23).toInt) (iv23_1 : (v 23).toInt ≤ 49) (ia37_0 : AB 0 7 (a 37)) (iv22_0 : 0 ≤ (v 22).toInt) (iv22_1 : (v 22).toInt ≤ 1000) : Met l yX0_self (Cond.code yX0_self cX0_self 4 (some .int) :: gw) ({ frames := 9, cells := 0, slots := 0, locals := 223 }) (va_Pc [.ref (ad 9), .int 1, .int p2, .int p3] (XPre D (TY cs) (CW cs ad fa fq rv v a w fv fp) A)) (va_Qi (fun (r : Int32) (z : Int32 × (Nat → Int32)) => (z.1.toInt = (v 22).toInt + 4) ∧ (z.2 = TRW (a 38) (v 22).toInt.toNat [41, 30, 10, 1]) ∧ (r = (-(((p2 + 1) + (v 23)) * 2))) ∧ (0 ≤ z.1.toInt) ∧ (z.1.toInt ≤ 1000)) (XPo D (fun (z : Int32 × (Nat → Int32)) => CW cs ad fa fq rv (va_up v 22 z.1) (va_up a 38 z.2) w fv fp) A) A) 0 0 A := by
  refine Met.ofW (cc := cX0_self) (maxL := 4) (ret := (some .int)) (by decide) rfl ?_
  intro p e s m args below meth c s₁ B hml hv
  obtain ⟨rfl, hP, hK, hD, hZ⟩ := hv
  have hx := B.exec
  have hb := B.bytes
  have hr := B.returns
  have hts := atoms_spec (ws := (Cond.code yX0_self cX0_self 4 (some .int) :: gw)) B.pre
  have hg : ∀ w ∈ gw, w.before ([.ref (ad 9), .int 1, .int p2, .int p3] : List Value).toArray s = true := fun w h => hts w (List.mem_cons_of_mem _ h)
  have hown : s.vm.findClass RX0 = some m.cls := findClass_of_methodNamed B.named
  have hlocks := B.notSynchronized
  have hS : va_S A s.heap s.heap [] := va_S.rf
  have hP : va_P D vwCl (CW cs ad fa fq rv v a w fv fp) s.heap := hP
  have hl := lv_entry ([.ref (ad 9), .int 1, .int p2, .int p3]) (n := 4) (Nat.le_of_ble_eq_true rfl)
  rw [lg_entry_eq]
  generalize (lg_sl ([.ref (ad 9), .int 1, .int p2, .int p3]) ++ List.replicate (4 - (lg_sl ([.ref (ad 9), .int 1, .int p2, .int p3])).length) Slot.unset).toArray = ls at hl ⊢
  have hl : lv_has ls 4 [(0, .ref (ad 9)), (1, .int 1), (2, .int p2), (3, .int p3)] := hl
  refine lv_aload_n hx hb dX0_self_0 rfl (lv_at hl 0 rfl) ?_
  refine lv_aload_n hx hb dX0_self_1 rfl (lv_at hl 0 rfl) ?_
  refine gf_acts_kind hx hb hg hown hK hP rfl (hg _ q1_83) dX0_self_2 ?_
  refine lv_aload_n hx hb dX0_self_5 rfl (lv_at hl 0 rfl) ?_
  refine gf_acts_number hx hb hg hown hK hP (x := (v 23)) rfl (hg _ q1_90) dX0_self_6 ?_
  refine ld_Akind hx hb hK hP (i_in (by omega) (by omega)) dX0_self_9 ?_
  refine lv_topi (fun x_1 ex_1 => ?_)
  have ex_1 : x_1 = (a 37) (v 23).toNatClampNeg := ex_1
  have hx_1 : x_1.toInt = ((a 37) (v 23).toNatClampNeg).toInt := by rw [ex_1]
  have bx_1 := ia37_0 (v 23).toNatClampNeg
  rw [← ex_1] at bx_1
  have fx_1 : x_1 = 5 := by rw [ex_1]; exact hkn
  subst fx_1
  refine lv_iload_n hx hb dX0_self_10 rfl (lv_at hl 1 rfl) ?_
  refine lv_iload_n hx hb dX0_self_11 rfl (lv_at hl 2 rfl) ?_
  refine lv_iload_n hx hb dX0_self_12 rfl (lv_at hl 3 rfl) ?_
  refine cV_i (As := [.int 5, .int 1, .int p2, .int p3]) (rest := []) ⟨hx, hb, hml, hown, hg⟩ (k_F_5_5_1 l D cs A ad fa fq rv v a w fv fp  p2 p3 hkn (show 0 ≤ (v 22).toInt by first | omega | decide) (show (v 22).toInt ≤ 20 by first | omega | decide) (show 0 ≤ p3.toInt by first | omega | decide) (show p3.toInt ≤ 34 by first | omega | decide) (show 0 ≤ (v 22).toInt by first | omega | decide) (show (v 22).toInt ≤ 1000 by first | omega | decide) (show 0 ≤ (v 23).toInt by first | omega | decide) (show (v 23).toInt ≤ 49 by first | omega | decide) ia37_0) ca_X0_from q4_139 ⟨rfl, rfl⟩ ⟨Nat.le_of_ble_eq_true rfl, Nat.le_of_ble_eq_true rfl⟩ (rc_acts hK hP) hK hP hD hS hZ rfl hl.1 rfl (Nat.le_of_ble_eq_true rfl) ⟨Nat.zero_le _, Nat.zero_le _⟩ dX0_self_13 (fun r_2 z_5 H locs wr_2 hP hD hS => ?_)
  obtain ⟨o_v22_3, o_a38_4⟩ := z_5
  have hP : va_P D vwCl (CW cs ad fa fq rv (va_up v 22 o_v22_3) (va_up a 38 o_a38_4) w fv fp) H := hP
  have hD : va_D A (CW cs ad fa fq rv (va_up v 22 o_v22_3) (va_up a 38 o_a38_4) w fv fp) := hD
  obtain ⟨wr_2_0, wr_2_1, wr_2_2, wr_2_3, wr_2_4⟩ : (o_v22_3.toInt = (v 22).toInt + 4) ∧ (o_a38_4 = TRW (a 38) (v 22).toInt.toNat [41, 30, 10, 1]) ∧ (r_2 = (-(((p2 + 1) + (v 23)) * 2))) ∧ (0 ≤ o_v22_3.toInt) ∧ (o_v22_3.toInt ≤ 1000) := wr_2
  have kt_6 : o_a38_4 = TRW (a 38) (v 22).toInt.toNat [41, 30, 10, 1] := by rw [wr_2_1]
  exact W.iret (v := r_2) hx hb hr (fun tt ht hW => ⟨⟨r_2, ⟨o_v22_3, o_a38_4⟩, rfl, ⟨(by first | rfl | omega | trivial | assumption | (dsimp only; first | omega | assumption)), (by (try dsimp only); first | assumption | rfl), (by simp only [wr_2_2]), (show 0 ≤ o_v22_3.toInt by first | omega | assumption), (show o_v22_3.toInt ≤ 1000 by first | omega | assumption)⟩, by rw [ht]; exact hP, hD⟩, hS.F ht⟩) hS.2.2 dX0_self_16
set_option maxHeartbeats 4000000 in
set_option maxRecDepth 100000 in
theorem k_R_5_60 (l : Launch) (D : va_G) (cs : Nat → ClassId) (A : Nat → Prop) (ad fa fq rv : Nat → Nat) (v : Nat → Int32) (a : Nat → Nat → Int32) (w : Nat → Nat → Int64) (fv fp : Nat → Nat → Int32)  (p2 : Int32) (p3 : Int32) (hkn : (a 37) (v 23).toNatClampNeg = 5) (hr0 : 0 ≤ (v 22).toInt) (hr1 : (v 22).toInt ≤ 20) (hd0 : 0 ≤ p3.toInt) (hd1 : p3.toInt ≤ 36) (iv22_0 : 0 ≤ (v 22).toInt) (iv22_1 : (v 22).toInt ≤ 1000) (iv23_0 : 0 ≤ (v 23).toInt) (iv23_1 : (v 23).toInt ≤ 49) (ia37_0 : AB 0 7 (a 37)) : Met l yX0_run (Cond.code yX0_run cX0_run 4 (some .int) :: gw) ({ frames := 4, cells := 0, slots := 0, locals := 100 }) (va_Pc [.ref (ad 9), .int 60, .int p2, .int p3] (XPre D (TY cs) (CW cs ad fa fq rv v a w fv fp) A)) (va_Qi (fun (r : Int32) (z : Int32 × (Nat → Int32)) => (z.1.toInt = (v 22).toInt + 4) ∧ (z.2 = TRW (a 38) (v 22).toInt.toNat [60, 40, 11, 1]) ∧ (r = (((p2 ^^^ (v 23)) * 3) - ((2 : Int32) + (v 23)))) ∧ (0 ≤ z.1.toInt) ∧ (z.1.toInt ≤ 1000)) (XPo D (fun (z : Int32 × (Nat → Int32)) => CW cs ad fa fq rv (va_up v 22 z.1) (va_up a 38 z.2) w fv fp) A) A) 0 0 A := by
  refine Met.ofW (cc := cX0_run) (maxL := 4) (ret := (some .int)) (by decide) rfl ?_
  intro p e s m args below meth c s₁ B hml hv
  obtain ⟨rfl, hP, hK, hD, hZ⟩ := hv
  have hx := B.exec
  have hb := B.bytes
  have hr := B.returns
  have hts := atoms_spec (ws := (Cond.code yX0_run cX0_run 4 (some .int) :: gw)) B.pre
  have hg : ∀ w ∈ gw, w.before ([.ref (ad 9), .int 60, .int p2, .int p3] : List Value).toArray s = true := fun w h => hts w (List.mem_cons_of_mem _ h)
  have hown : s.vm.findClass RX0 = some m.cls := findClass_of_methodNamed B.named
  have hlocks := B.notSynchronized
  have hS : va_S A s.heap s.heap [] := va_S.rf
  have hP : va_P D vwCl (CW cs ad fa fq rv v a w fv fp) s.heap := hP
  have hl := lv_entry ([.ref (ad 9), .int 60, .int p2, .int p3]) (n := 4) (Nat.le_of_ble_eq_true rfl)
  rw [lg_entry_eq]
  generalize (lg_sl ([.ref (ad 9), .int 60, .int p2, .int p3]) ++ List.replicate (4 - (lg_sl ([.ref (ad 9), .int 60, .int p2, .int p3])).length) Slot.unset).toArray = ls at hl ⊢
  have hl : lv_has ls 4 [(0, .ref (ad 9)), (1, .int 60), (2, .int p2), (3, .int p3)] := hl
  refine lv_aload_n hx hb dX0_run_0 rfl (lv_at hl 0 rfl) ?_
  refine gf_acts_ran hx hb hg hown hK hP (x := (v 22)) rfl (hg _ q1_88) dX0_run_1 ?_
  refine lv_bipush (v := 24) hx hb dX0_run_4 (by decide) ?_
  refine lv_icmp_ge (tgt := 19) hx hb dX0_run_6 (by decide) (fun c_1 => ?_) (fun c_1 => ?_)
  ·
    have kc_1 : (24 : Int) ≤ (v 22).toInt := i_le c_1
    exfalso; omega
  ·
    have kc_1 : (v 22).toInt < (24 : Int) := i_nle c_1
    refine lv_aload_n hx hb dX0_run_9 rfl (lv_at hl 0 rfl) ?_
    refine gf_acts_traced hx hb hg hown hK hP rfl (hg _ q1_86) dX0_run_10 ?_
    refine lv_aload_n hx hb dX0_run_13 rfl (lv_at hl 0 rfl) ?_
    refine gf_acts_ran hx hb hg hown hK hP (x := (v 22)) rfl (hg _ q1_88) dX0_run_14 ?_
    refine lv_iload_n hx hb dX0_run_17 rfl (lv_at hl 1 rfl) ?_
    refine st_Atraced hx hb hK hP hD hS (i_in (by omega) (by omega)) dX0_run_18 (fun H locs hP hD hS => ?_)
    refine lv_aload_n hx hb dX0_run_19 rfl (lv_at hl 0 rfl) ?_
    refine lv_dup hx hb dX0_run_20 rfl ?_
    refine gf_acts_ran hx hb hg hown hK hP (x := (v 22)) rfl (hg _ q1_88) dX0_run_21 ?_
    refine lv_iconst (v := 1) hx hb dX0_run_24 (by decide) ?_
    refine lv_iadd hx hb dX0_run_25 ?_
    refine lv_topi (fun x_2 ex_2 => ?_)
    have fx_2 : x_2.toInt = (v 22).toInt + (1 : Int) := by rw [ex_2]; exact i_add (by first | omega | (show (_ : Int) ≤ (v 22).toInt + (1 : Int); omega)) (by first | omega | (show (v 22).toInt + (1 : Int) ≤ (_ : Int); omega))
    refine pf_acts_ran hx hb hg hown hK hP hD hS (hg _ q1_88) dX0_run_26 (fun H locs hP hD hS => ?_)
    refine lv_iload_n hx hb dX0_run_29 rfl (lv_at hl 1 rfl) ?_
    refine lv_lookup (tgt := 266) hx hb dX0_run_30 (by decide) (off := 236) (by decide) (by decide) ?_
    refine lv_aload_n hx hb dX0_run_266 rfl (lv_at hl 0 rfl) ?_
    obtain ⟨t0, t1, t2, ⟨a0, b0⟩, ⟨a1, b1⟩, ⟨a2, b2⟩⟩ := id hZ
    refine va_gets hx hb a2 hS hown (hg _ q4_143) (fun _ h9 => h9) dX0_run_267 ?_
    refine lv_iconst (v := 5) hx hb dX0_run_270 (by decide) ?_
    refine va_ti hx hb b2 hS (i_in (by decide) (by decide)) (v := .int 3) rfl dX0_run_271 ?_
    refine lv_iconst (v := 2) hx hb dX0_run_272 (by decide) ?_
    refine lv_iload_n hx hb dX0_run_273 rfl (lv_at hl 2 rfl) ?_
    refine lv_iload_n hx hb dX0_run_274 rfl (lv_at hl 3 rfl) ?_
    refine cV_i (As := [.int 3, .int 2, .int p2, .int p3]) (rest := []) ⟨hx, hb, hml, hown, hg⟩ (k_F_x_3_2 l D cs A ad fa fq rv (va_up v 22 x_2) (va_up a 38 (upd (a 38) (v 22).toNatClampNeg 60)) w fv fp  p2 p3 (show 0 ≤ x_2.toInt by first | omega | decide) (show x_2.toInt ≤ 22 by first | omega | decide) (show 0 ≤ p3.toInt by first | omega | decide) (show p3.toInt ≤ 36 by first | omega | decide) (show 0 ≤ x_2.toInt by first | omega | decide) (show x_2.toInt ≤ 1000 by first | omega | decide) (show 0 ≤ (v 23).toInt by first | omega | decide) (show (v 23).toInt ≤ 49 by first | omega | decide)) ca_X0_from q4_139 ⟨rfl, rfl⟩ ⟨Nat.le_of_ble_eq_true rfl, Nat.le_of_ble_eq_true rfl⟩ (rc_acts hK hP) hK hP hD hS hZ rfl hl.1 rfl (Nat.le_of_ble_eq_true rfl) ⟨Nat.zero_le _, Nat.zero_le _⟩ dX0_run_275 (fun r_4 z_7 H locs wr_4 hP hD hS => ?_)
    obtain ⟨o_v22_5, o_a38_6⟩ := z_7
    have hP : va_P D vwCl (CW cs ad fa fq rv (va_up v 22 o_v22_5) (va_up a 38 o_a38_6) w fv fp) H := hP
    have hD : va_D A (CW cs ad fa fq rv (va_up v 22 o_v22_5) (va_up a 38 o_a38_6) w fv fp) := hD
    obtain ⟨wr_4_0, wr_4_1, wr_4_2, wr_4_3, wr_4_4⟩ : (o_v22_5.toInt = x_2.toInt + 2) ∧ (o_a38_6 = TRW (upd (a 38) (v 22).toNatClampNeg 60) x_2.toInt.toNat [40, 11]) ∧ (r_4 = ((p2 ^^^ (v 23)) * 3)) ∧ (0 ≤ o_v22_5.toInt) ∧ (o_v22_5.toInt ≤ 1000) := wr_4
    have kt_8 : o_a38_6 = TRW (a 38) (v 22).toInt.toNat [60, 40, 11] := by rw [wr_4_1, show (x_2).toInt.toNat = (v 22).toInt.toNat + 1 from by omega]; rfl
    refine lv_aload_n hx hb dX0_run_278 rfl (lv_at hl 0 rfl) ?_
    refine lv_iconst (v := 0) hx hb dX0_run_279 (by decide) ?_
    refine lv_iconst (v := 2) hx hb dX0_run_280 (by decide) ?_
    refine lv_iload_n hx hb dX0_run_281 rfl (lv_at hl 3 rfl) ?_
    refine cV_i (As := [.int 0, .int 2, .int p3]) (rest := [.int r_4]) ⟨hx, hb, hml, hown, hg⟩ (k_S_5_0 l D cs A ad fa fq rv (va_up v 22 o_v22_5) (va_up a 38 o_a38_6) w fv fp  2 p3 hkn (show 0 ≤ o_v22_5.toInt by first | omega | decide) (show o_v22_5.toInt ≤ 23 by first | omega | decide) (show 0 ≤ p3.toInt by first | omega | decide) (show p3.toInt ≤ 37 by first | omega | decide) (show 0 ≤ (v 23).toInt by first | omega | decide) (show (v 23).toInt ≤ 49 by first | omega | decide) ia37_0 (show 0 ≤ o_v22_5.toInt by first | omega | decide) (show o_v22_5.toInt ≤ 1000 by first | omega | decide)) ca_X0_self q4_135 ⟨rfl, rfl⟩ ⟨Nat.le_of_ble_eq_true rfl, Nat.le_of_ble_eq_true rfl⟩ (rc_acts hK hP) hK hP hD hS hZ rfl hl.1 rfl (Nat.le_of_ble_eq_true rfl) ⟨Nat.zero_le _, Nat.zero_le _⟩ dX0_run_282 (fun r_9 z_12 H locs wr_9 hP hD hS => ?_)
    obtain ⟨o_v22_10, o_a38_11⟩ := z_12
    have hP : va_P D vwCl (CW cs ad fa fq rv (va_up v 22 o_v22_10) (va_up a 38 o_a38_11) w fv fp) H := hP
    have hD : va_D A (CW cs ad fa fq rv (va_up v 22 o_v22_10) (va_up a 38 o_a38_11) w fv fp) := hD
    obtain ⟨wr_9_0, wr_9_1, wr_9_2, wr_9_3, wr_9_4⟩ : (o_v22_10.toInt = o_v22_5.toInt + 1) ∧ (o_a38_11 = TRW o_a38_6 o_v22_5.toInt.toNat [1]) ∧ (r_9 = ((2 : Int32) + (v 23))) ∧ (0 ≤ o_v22_10.toInt) ∧ (o_v22_10.toInt ≤ 1000) := wr_9
    have kt_13 : o_a38_11 = TRW (a 38) (v 22).toInt.toNat [60, 40, 11, 1] := by rw [wr_9_1, kt_8, show (o_v22_5).toInt.toNat = (v 22).toInt.toNat + 3 from by omega]; rfl
    refine lv_isub hx hb dX0_run_285 ?_
    refine lv_topi (fun x_14 ex_14 => ?_)
    exact W.iret (v := x_14) hx hb hr (fun tt ht hW => ⟨⟨x_14, ⟨o_v22_10, o_a38_11⟩, rfl, ⟨(by first | rfl | omega | trivial | assumption | (dsimp only; first | omega | assumption)), (by (try dsimp only); first | assumption | rfl), (by simp only [ex_14, wr_9_2, wr_4_2, ex_2]), (show 0 ≤ o_v22_10.toInt by first | omega | assumption), (show o_v22_10.toInt ≤ 1000 by first | omega | assumption)⟩, by rw [ht]; exact hP, hD⟩, hS.F ht⟩) hS.2.2 dX0_run_286
set_option maxHeartbeats 4000000 in
set_option maxRecDepth 100000 in
theorem k_F_5_5_2 (l : Launch) (D : va_G) (cs : Nat → ClassId) (A : Nat → Prop) (ad fa fq rv : Nat → Nat) (v : Nat → Int32) (a : Nat → Nat → Int32) (w : Nat → Nat → Int64) (fv fp : Nat → Nat → Int32)  (p3 : Int32) (p4 : Int32) (hkn : (a 37) (v 23).toNatClampNeg = 5) (hr0 : 0 ≤ (v 22).toInt) (hr1 : (v 22).toInt ≤ 20) (hd0 : 0 ≤ p4.toInt) (hd1 : p4.toInt ≤ 35) (iv22_0 : 0 ≤ (v 22).toInt) (iv22_1 : (v 22).toInt ≤ 1000) (iv23_0 : 0 ≤ (v 23).toInt) (iv23_1 : (v 23).toInt ≤ 49) (ia37_0 : AB 0 7 (a 37)) : Met l yX0_from (Cond.code yX0_from cX0_from 8 (some .int) :: gw) ({ frames := 5, cells := 0, slots := 0, locals := 123 }) (va_Pc [.ref (ad 9), .int 5, .int 2, .int p3, .int p4] (XPre D (TY cs) (CW cs ad fa fq rv v a w fv fp) A)) (va_Qi (fun (r : Int32) (z : Int32 × (Nat → Int32)) => (z.1.toInt = (v 22).toInt + 4) ∧ (z.2 = TRW (a 38) (v 22).toInt.toNat [60, 40, 11, 1]) ∧ (r = (((p3 ^^^ (v 23)) * 3) - ((2 : Int32) + (v 23)))) ∧ (0 ≤ z.1.toInt) ∧ (z.1.toInt ≤ 1000)) (XPo D (fun (z : Int32 × (Nat → Int32)) => CW cs ad fa fq rv (va_up v 22 z.1) (va_up a 38 z.2) w fv fp) A) A) 0 0 A := by
  refine Met.ofW (cc := cX0_from) (maxL := 8) (ret := (some .int)) (by decide) rfl ?_
  intro p e s m args below meth c s₁ B hml hv
  obtain ⟨rfl, hP, hK, hD, hZ⟩ := hv
  have hx := B.exec
  have hb := B.bytes
  have hr := B.returns
  have hts := atoms_spec (ws := (Cond.code yX0_from cX0_from 8 (some .int) :: gw)) B.pre
  have hg : ∀ w ∈ gw, w.before ([.ref (ad 9), .int 5, .int 2, .int p3, .int p4] : List Value).toArray s = true := fun w h => hts w (List.mem_cons_of_mem _ h)
  have hown : s.vm.findClass RX0 = some m.cls := findClass_of_methodNamed B.named
  have hlocks := B.notSynchronized
  have hS : va_S A s.heap s.heap [] := va_S.rf
  have hP : va_P D vwCl (CW cs ad fa fq rv v a w fv fp) s.heap := hP
  have hl := lv_entry ([.ref (ad 9), .int 5, .int 2, .int p3, .int p4]) (n := 8) (Nat.le_of_ble_eq_true rfl)
  rw [lg_entry_eq]
  generalize (lg_sl ([.ref (ad 9), .int 5, .int 2, .int p3, .int p4]) ++ List.replicate (8 - (lg_sl ([.ref (ad 9), .int 5, .int 2, .int p3, .int p4])).length) Slot.unset).toArray = ls at hl ⊢
  have hl : lv_has ls 8 [(0, .ref (ad 9)), (1, .int 5), (2, .int 2), (3, .int p3), (4, .int p4)] := hl
  refine lv_iload_n hx hb dX0_from_0 rfl (lv_at hl 1 rfl) ?_
  refine lv_istore (lv' := [(5, .int 5), (0, .ref (ad 9)), (1, .int 5), (2, .int 2), (3, .int p3), (4, .int p4)]) hx hb dX0_from_1 hl (by decide) rfl (fun ls hl => ?_)
  refine lv_iconst (v := 0) hx hb dX0_from_3 (by decide) ?_
  refine lv_istore (lv' := [(6, .int 0), (5, .int 5), (0, .ref (ad 9)), (1, .int 5), (2, .int 2), (3, .int p3), (4, .int p4)]) hx hb dX0_from_4 hl (by decide) rfl (fun ls hl => ?_)
  refine lv_iload hx hb dX0_from_6 (lv_at hl 0 rfl) ?_
  obtain ⟨t0, t1, t2, ⟨a0, b0⟩, ⟨a1, b1⟩, ⟨a2, b2⟩⟩ := id hZ
  refine va_gets hx hb a2 hS hown (hg _ q4_143) (fun _ h9 => h9) dX0_from_8 ?_
  refine va_tlen hx hb b2 hS (v := 8) rfl dX0_from_11 ?_
  refine lv_icmp_ge (tgt := 73) hx hb dX0_from_12 (by decide) (fun c_1 => absurd c_1 (by decide)) (fun c_1 => ?_)
  refine lv_iload hx hb dX0_from_15 (lv_at hl 1 rfl) ?_
  refine cS_p (As := [.int 5]) (rest := []) ⟨hx, hb, hml, hown, hg⟩ (k_IK_6 l    ) ca_X0_isKind q4_145 ⟨rfl, rfl⟩ ⟨Nat.le_of_ble_eq_true rfl, Nat.le_of_ble_eq_true rfl⟩ rfl hl.1 rfl (Nat.le_of_ble_eq_true rfl) ⟨Nat.zero_le _, Nat.zero_le _⟩ dX0_from_17 (fun r_2 wr_2 => ?_)
  have wr_2 : r_2.toInt = 1 := wr_2
  refine lv_if_eq (tgt := 73) hx hb dX0_from_20 (by decide) (fun c_3 => ?_) (fun c_3 => ?_)
  ·
    have kc_3 : r_2.toInt = (0 : Int) := i_eq c_3
    exfalso; omega
  ·
    have kc_3 : r_2.toInt ≠ (0 : Int) := i_ne c_3
    refine lv_iload hx hb dX0_from_23 (lv_at hl 1 rfl) ?_
    refine lv_iload_n hx hb dX0_from_25 rfl (lv_at hl 4 rfl) ?_
    refine cS_p (As := [.int 5, .int 2]) (rest := []) ⟨hx, hb, hml, hown, hg⟩ (k_B_5_2 l    ) ca_X0_bodyOf q4_146 ⟨rfl, rfl⟩ ⟨Nat.le_of_ble_eq_true rfl, Nat.le_of_ble_eq_true rfl⟩ rfl hl.1 rfl (Nat.le_of_ble_eq_true rfl) ⟨Nat.zero_le _, Nat.zero_le _⟩ dX0_from_26 (fun r_4 wr_4 => ?_)
    have wr_4 : r_4.toInt = 60 := wr_4
    have el_5 : r_4 = 60 := i_inj (wr_4.trans (by rfl))
    subst el_5
    refine lv_istore (lv' := [(7, .int 60), (6, .int 0), (5, .int 5), (0, .ref (ad 9)), (1, .int 5), (2, .int 2), (3, .int p3), (4, .int p4)]) hx hb dX0_from_29 hl (by decide) rfl (fun ls hl => ?_)
    refine lv_iload hx hb dX0_from_31 (lv_at hl 0 rfl) ?_
    refine lv_if_eq (tgt := 59) hx hb dX0_from_33 (by decide) (fun c_6 => absurd c_6 (by decide)) (fun c_6 => ?_)
    refine lv_iload hx hb dX0_from_36 (lv_at hl 7 rfl) ?_
    refine lv_bipush (v := 40) hx hb dX0_from_38 (by decide) ?_
    refine lv_icmp_ge (tgt := 57) hx hb dX0_from_40 (by decide) (fun c_7 => ?_) (fun c_7 => ?_)
    ·
      have kc_7 : (40 : Int) ≤ p4.toInt := i_le c_7
      exfalso; omega
    ·
      have kc_7 : p4.toInt < (40 : Int) := i_nle c_7
      refine lv_aload_n hx hb dX0_from_43 rfl (lv_at hl 3 rfl) ?_
      refine lv_iload hx hb dX0_from_44 (lv_at hl 0 rfl) ?_
      refine lv_iload_n hx hb dX0_from_46 rfl (lv_at hl 6 rfl) ?_
      refine lv_iload hx hb dX0_from_47 (lv_at hl 7 rfl) ?_
      refine lv_iconst (v := 1) hx hb dX0_from_49 (by decide) ?_
      refine lv_iadd hx hb dX0_from_50 ?_
      refine lv_topi (fun x_8 ex_8 => ?_)
      have fx_8 : x_8.toInt = p4.toInt + (1 : Int) := by rw [ex_8]; exact i_add (by first | omega | (show (_ : Int) ≤ p4.toInt + (1 : Int); omega)) (by first | omega | (show p4.toInt + (1 : Int) ≤ (_ : Int); omega))
      refine cV_i (As := [.int 60, .int p3, .int x_8]) (rest := []) ⟨hx, hb, hml, hown, hg⟩ (k_R_5_60 l D cs A ad fa fq rv v a w fv fp  p3 x_8 hkn (show 0 ≤ (v 22).toInt by first | omega | decide) (show (v 22).toInt ≤ 20 by first | omega | decide) (show 0 ≤ x_8.toInt by first | omega | decide) (show x_8.toInt ≤ 36 by first | omega | decide) (show 0 ≤ (v 22).toInt by first | omega | decide) (show (v 22).toInt ≤ 1000 by first | omega | decide) (show 0 ≤ (v 23).toInt by first | omega | decide) (show (v 23).toInt ≤ 49 by first | omega | decide) ia37_0) ca_X0_run q4_149 ⟨rfl, rfl⟩ ⟨Nat.le_of_ble_eq_true rfl, Nat.le_of_ble_eq_true rfl⟩ (rc_acts hK hP) hK hP hD hS hZ rfl hl.1 rfl (Nat.le_of_ble_eq_true rfl) ⟨Nat.zero_le _, Nat.zero_le _⟩ dX0_from_51 (fun r_9 z_12 H locs wr_9 hP hD hS => ?_)
      obtain ⟨o_v22_10, o_a38_11⟩ := z_12
      have hP : va_P D vwCl (CW cs ad fa fq rv (va_up v 22 o_v22_10) (va_up a 38 o_a38_11) w fv fp) H := hP
      have hD : va_D A (CW cs ad fa fq rv (va_up v 22 o_v22_10) (va_up a 38 o_a38_11) w fv fp) := hD
      obtain ⟨wr_9_0, wr_9_1, wr_9_2, wr_9_3, wr_9_4⟩ : (o_v22_10.toInt = (v 22).toInt + 4) ∧ (o_a38_11 = TRW (a 38) (v 22).toInt.toNat [60, 40, 11, 1]) ∧ (r_9 = (((p3 ^^^ (v 23)) * 3) - ((2 : Int32) + (v 23)))) ∧ (0 ≤ o_v22_10.toInt) ∧ (o_v22_10.toInt ≤ 1000) := wr_9
      have kt_13 : o_a38_11 = TRW (a 38) (v 22).toInt.toNat [60, 40, 11, 1] := by rw [wr_9_1]
      refine lv_goto (tgt := 58) hx hb dX0_from_54 (by decide) ?_
      exact W.iret (v := r_9) hx hb hr (fun tt ht hW => ⟨⟨r_9, ⟨o_v22_10, o_a38_11⟩, rfl, ⟨(by first | rfl | omega | trivial | assumption | (dsimp only; first | omega | assumption)), (by (try dsimp only); first | assumption | rfl), (by simp only [wr_9_2, ex_8]), (show 0 ≤ o_v22_10.toInt by first | omega | assumption), (show o_v22_10.toInt ≤ 1000 by first | omega | assumption)⟩, by rw [ht]; exact hP, hD⟩, hS.F ht⟩) hS.2.2 dX0_from_58
set_option maxHeartbeats 4000000 in
set_option maxRecDepth 100000 in
theorem k_S_5_2 (l : Launch) (D : va_G) (cs : Nat → ClassId) (A : Nat → Prop) (ad fa fq rv : Nat → Nat) (v : Nat → Int32) (a : Nat → Nat → Int32) (w : Nat → Nat → Int64) (fv fp : Nat → Nat → Int32)  (p2 : Int32) (p3 : Int32) (hkn : (a 37) (v 23).toNatClampNeg = 5) (hr0 : 0 ≤ (v 22).toInt) (hr1 : (v 22).toInt ≤ 20) (hd0 : 0 ≤ p3.toInt) (hd1 : p3.toInt ≤ 35) (iv23_0 : 0 ≤ (v 23).toInt) (iv23_1 : (v 23).toInt ≤ 49) (ia37_0 : AB 0 7 (a 37)) (iv22_0 : 0 ≤ (v 22).toInt) (iv22_1 : (v 22).toInt ≤ 1000) : Met l yX0_self (Cond.code yX0_self cX0_self 4 (some .int) :: gw) ({ frames := 6, cells := 0, slots := 0, locals := 150 }) (va_Pc [.ref (ad 9), .int 2, .int p2, .int p3] (XPre D (TY cs) (CW cs ad fa fq rv v a w fv fp) A)) (va_Qi (fun (r : Int32) (z : Int32 × (Nat → Int32)) => (z.1.toInt = (v 22).toInt + 4) ∧ (z.2 = TRW (a 38) (v 22).toInt.toNat [60, 40, 11, 1]) ∧ (r = (((p2 ^^^ (v 23)) * 3) - ((2 : Int32) + (v 23)))) ∧ (0 ≤ z.1.toInt) ∧ (z.1.toInt ≤ 1000)) (XPo D (fun (z : Int32 × (Nat → Int32)) => CW cs ad fa fq rv (va_up v 22 z.1) (va_up a 38 z.2) w fv fp) A) A) 0 0 A := by
  refine Met.ofW (cc := cX0_self) (maxL := 4) (ret := (some .int)) (by decide) rfl ?_
  intro p e s m args below meth c s₁ B hml hv
  obtain ⟨rfl, hP, hK, hD, hZ⟩ := hv
  have hx := B.exec
  have hb := B.bytes
  have hr := B.returns
  have hts := atoms_spec (ws := (Cond.code yX0_self cX0_self 4 (some .int) :: gw)) B.pre
  have hg : ∀ w ∈ gw, w.before ([.ref (ad 9), .int 2, .int p2, .int p3] : List Value).toArray s = true := fun w h => hts w (List.mem_cons_of_mem _ h)
  have hown : s.vm.findClass RX0 = some m.cls := findClass_of_methodNamed B.named
  have hlocks := B.notSynchronized
  have hS : va_S A s.heap s.heap [] := va_S.rf
  have hP : va_P D vwCl (CW cs ad fa fq rv v a w fv fp) s.heap := hP
  have hl := lv_entry ([.ref (ad 9), .int 2, .int p2, .int p3]) (n := 4) (Nat.le_of_ble_eq_true rfl)
  rw [lg_entry_eq]
  generalize (lg_sl ([.ref (ad 9), .int 2, .int p2, .int p3]) ++ List.replicate (4 - (lg_sl ([.ref (ad 9), .int 2, .int p2, .int p3])).length) Slot.unset).toArray = ls at hl ⊢
  have hl : lv_has ls 4 [(0, .ref (ad 9)), (1, .int 2), (2, .int p2), (3, .int p3)] := hl
  refine lv_aload_n hx hb dX0_self_0 rfl (lv_at hl 0 rfl) ?_
  refine lv_aload_n hx hb dX0_self_1 rfl (lv_at hl 0 rfl) ?_
  refine gf_acts_kind hx hb hg hown hK hP rfl (hg _ q1_83) dX0_self_2 ?_
  refine lv_aload_n hx hb dX0_self_5 rfl (lv_at hl 0 rfl) ?_
  refine gf_acts_number hx hb hg hown hK hP (x := (v 23)) rfl (hg _ q1_90) dX0_self_6 ?_
  refine ld_Akind hx hb hK hP (i_in (by omega) (by omega)) dX0_self_9 ?_
  refine lv_topi (fun x_1 ex_1 => ?_)
  have ex_1 : x_1 = (a 37) (v 23).toNatClampNeg := ex_1
  have hx_1 : x_1.toInt = ((a 37) (v 23).toNatClampNeg).toInt := by rw [ex_1]
  have bx_1 := ia37_0 (v 23).toNatClampNeg
  rw [← ex_1] at bx_1
  have fx_1 : x_1 = 5 := by rw [ex_1]; exact hkn
  subst fx_1
  refine lv_iload_n hx hb dX0_self_10 rfl (lv_at hl 1 rfl) ?_
  refine lv_iload_n hx hb dX0_self_11 rfl (lv_at hl 2 rfl) ?_
  refine lv_iload_n hx hb dX0_self_12 rfl (lv_at hl 3 rfl) ?_
  refine cV_i (As := [.int 5, .int 2, .int p2, .int p3]) (rest := []) ⟨hx, hb, hml, hown, hg⟩ (k_F_5_5_2 l D cs A ad fa fq rv v a w fv fp  p2 p3 hkn (show 0 ≤ (v 22).toInt by first | omega | decide) (show (v 22).toInt ≤ 20 by first | omega | decide) (show 0 ≤ p3.toInt by first | omega | decide) (show p3.toInt ≤ 35 by first | omega | decide) (show 0 ≤ (v 22).toInt by first | omega | decide) (show (v 22).toInt ≤ 1000 by first | omega | decide) (show 0 ≤ (v 23).toInt by first | omega | decide) (show (v 23).toInt ≤ 49 by first | omega | decide) ia37_0) ca_X0_from q4_139 ⟨rfl, rfl⟩ ⟨Nat.le_of_ble_eq_true rfl, Nat.le_of_ble_eq_true rfl⟩ (rc_acts hK hP) hK hP hD hS hZ rfl hl.1 rfl (Nat.le_of_ble_eq_true rfl) ⟨Nat.zero_le _, Nat.zero_le _⟩ dX0_self_13 (fun r_2 z_5 H locs wr_2 hP hD hS => ?_)
  obtain ⟨o_v22_3, o_a38_4⟩ := z_5
  have hP : va_P D vwCl (CW cs ad fa fq rv (va_up v 22 o_v22_3) (va_up a 38 o_a38_4) w fv fp) H := hP
  have hD : va_D A (CW cs ad fa fq rv (va_up v 22 o_v22_3) (va_up a 38 o_a38_4) w fv fp) := hD
  obtain ⟨wr_2_0, wr_2_1, wr_2_2, wr_2_3, wr_2_4⟩ : (o_v22_3.toInt = (v 22).toInt + 4) ∧ (o_a38_4 = TRW (a 38) (v 22).toInt.toNat [60, 40, 11, 1]) ∧ (r_2 = (((p2 ^^^ (v 23)) * 3) - ((2 : Int32) + (v 23)))) ∧ (0 ≤ o_v22_3.toInt) ∧ (o_v22_3.toInt ≤ 1000) := wr_2
  have kt_6 : o_a38_4 = TRW (a 38) (v 22).toInt.toNat [60, 40, 11, 1] := by rw [wr_2_1]
  exact W.iret (v := r_2) hx hb hr (fun tt ht hW => ⟨⟨r_2, ⟨o_v22_3, o_a38_4⟩, rfl, ⟨(by first | rfl | omega | trivial | assumption | (dsimp only; first | omega | assumption)), (by (try dsimp only); first | assumption | rfl), (by simp only [wr_2_2]), (show 0 ≤ o_v22_3.toInt by first | omega | assumption), (show o_v22_3.toInt ≤ 1000 by first | omega | assumption)⟩, by rw [ht]; exact hP, hD⟩, hS.F ht⟩) hS.2.2 dX0_self_16
set_option maxHeartbeats 4000000 in
set_option maxRecDepth 100000 in
theorem k_R_5_2 (l : Launch) (D : va_G) (cs : Nat → ClassId) (A : Nat → Prop) (ad fa fq rv : Nat → Nat) (v : Nat → Int32) (a : Nat → Nat → Int32) (w : Nat → Nat → Int64) (fv fp : Nat → Nat → Int32)  (p2 : Int32) (p3 : Int32) (hkn : (a 37) (v 23).toNatClampNeg = 5) (hr0 : 0 ≤ (v 22).toInt) (hr1 : (v 22).toInt ≤ 15) (hd0 : 0 ≤ p3.toInt) (hd1 : p3.toInt ≤ 34) (iv22_0 : 0 ≤ (v 22).toInt) (iv22_1 : (v 22).toInt ≤ 1000) (iv23_0 : 0 ≤ (v 23).toInt) (iv23_1 : (v 23).toInt ≤ 49) (ia37_0 : AB 0 7 (a 37)) : Met l yX0_run (Cond.code yX0_run cX0_run 4 (some .int) :: gw) ({ frames := 10, cells := 0, slots := 0, locals := 246 }) (va_Pc [.ref (ad 9), .int 2, .int p2, .int p3] (XPre D (TY cs) (CW cs ad fa fq rv v a w fv fp) A)) (va_Qi (fun (r : Int32) (z : Int32 × (Nat → Int32)) => (z.1.toInt = (v 22).toInt + 9) ∧ (z.2 = TRW (a 38) (v 22).toInt.toNat [2, 41, 30, 10, 1, 60, 40, 11, 1]) ∧ (r = ((-(((p2 + 1) + (v 23)) * 2)) - ((((1 : Int32) ^^^ (v 23)) * 3) - ((2 : Int32) + (v 23))))) ∧ (0 ≤ z.1.toInt) ∧ (z.1.toInt ≤ 1000)) (XPo D (fun (z : Int32 × (Nat → Int32)) => CW cs ad fa fq rv (va_up v 22 z.1) (va_up a 38 z.2) w fv fp) A) A) 0 0 A := by
  refine Met.ofW (cc := cX0_run) (maxL := 4) (ret := (some .int)) (by decide) rfl ?_
  intro p e s m args below meth c s₁ B hml hv
  obtain ⟨rfl, hP, hK, hD, hZ⟩ := hv
  have hx := B.exec
  have hb := B.bytes
  have hr := B.returns
  have hts := atoms_spec (ws := (Cond.code yX0_run cX0_run 4 (some .int) :: gw)) B.pre
  have hg : ∀ w ∈ gw, w.before ([.ref (ad 9), .int 2, .int p2, .int p3] : List Value).toArray s = true := fun w h => hts w (List.mem_cons_of_mem _ h)
  have hown : s.vm.findClass RX0 = some m.cls := findClass_of_methodNamed B.named
  have hlocks := B.notSynchronized
  have hS : va_S A s.heap s.heap [] := va_S.rf
  have hP : va_P D vwCl (CW cs ad fa fq rv v a w fv fp) s.heap := hP
  have hl := lv_entry ([.ref (ad 9), .int 2, .int p2, .int p3]) (n := 4) (Nat.le_of_ble_eq_true rfl)
  rw [lg_entry_eq]
  generalize (lg_sl ([.ref (ad 9), .int 2, .int p2, .int p3]) ++ List.replicate (4 - (lg_sl ([.ref (ad 9), .int 2, .int p2, .int p3])).length) Slot.unset).toArray = ls at hl ⊢
  have hl : lv_has ls 4 [(0, .ref (ad 9)), (1, .int 2), (2, .int p2), (3, .int p3)] := hl
  refine lv_aload_n hx hb dX0_run_0 rfl (lv_at hl 0 rfl) ?_
  refine gf_acts_ran hx hb hg hown hK hP (x := (v 22)) rfl (hg _ q1_88) dX0_run_1 ?_
  refine lv_bipush (v := 24) hx hb dX0_run_4 (by decide) ?_
  refine lv_icmp_ge (tgt := 19) hx hb dX0_run_6 (by decide) (fun c_1 => ?_) (fun c_1 => ?_)
  ·
    have kc_1 : (24 : Int) ≤ (v 22).toInt := i_le c_1
    exfalso; omega
  ·
    have kc_1 : (v 22).toInt < (24 : Int) := i_nle c_1
    refine lv_aload_n hx hb dX0_run_9 rfl (lv_at hl 0 rfl) ?_
    refine gf_acts_traced hx hb hg hown hK hP rfl (hg _ q1_86) dX0_run_10 ?_
    refine lv_aload_n hx hb dX0_run_13 rfl (lv_at hl 0 rfl) ?_
    refine gf_acts_ran hx hb hg hown hK hP (x := (v 22)) rfl (hg _ q1_88) dX0_run_14 ?_
    refine lv_iload_n hx hb dX0_run_17 rfl (lv_at hl 1 rfl) ?_
    refine st_Atraced hx hb hK hP hD hS (i_in (by omega) (by omega)) dX0_run_18 (fun H locs hP hD hS => ?_)
    refine lv_aload_n hx hb dX0_run_19 rfl (lv_at hl 0 rfl) ?_
    refine lv_dup hx hb dX0_run_20 rfl ?_
    refine gf_acts_ran hx hb hg hown hK hP (x := (v 22)) rfl (hg _ q1_88) dX0_run_21 ?_
    refine lv_iconst (v := 1) hx hb dX0_run_24 (by decide) ?_
    refine lv_iadd hx hb dX0_run_25 ?_
    refine lv_topi (fun x_2 ex_2 => ?_)
    have fx_2 : x_2.toInt = (v 22).toInt + (1 : Int) := by rw [ex_2]; exact i_add (by first | omega | (show (_ : Int) ≤ (v 22).toInt + (1 : Int); omega)) (by first | omega | (show (v 22).toInt + (1 : Int) ≤ (_ : Int); omega))
    refine pf_acts_ran hx hb hg hown hK hP hD hS (hg _ q1_88) dX0_run_26 (fun H locs hP hD hS => ?_)
    refine lv_iload_n hx hb dX0_run_29 rfl (lv_at hl 1 rfl) ?_
    refine lv_lookup (tgt := 159) hx hb dX0_run_30 (by decide) (off := 129) (by decide) (by decide) ?_
    refine lv_aload_n hx hb dX0_run_159 rfl (lv_at hl 0 rfl) ?_
    refine lv_iconst (v := 1) hx hb dX0_run_160 (by decide) ?_
    refine lv_iload_n hx hb dX0_run_161 rfl (lv_at hl 2 rfl) ?_
    refine lv_iload_n hx hb dX0_run_162 rfl (lv_at hl 3 rfl) ?_
    refine cV_i (As := [.int 1, .int p2, .int p3]) (rest := []) ⟨hx, hb, hml, hown, hg⟩ (k_S_5_1 l D cs A ad fa fq rv (va_up v 22 x_2) (va_up a 38 (upd (a 38) (v 22).toNatClampNeg 2)) w fv fp  p2 p3 hkn (show 0 ≤ x_2.toInt by first | omega | decide) (show x_2.toInt ≤ 20 by first | omega | decide) (show 0 ≤ p3.toInt by first | omega | decide) (show p3.toInt ≤ 34 by first | omega | decide) (show 0 ≤ (v 23).toInt by first | omega | decide) (show (v 23).toInt ≤ 49 by first | omega | decide) ia37_0 (show 0 ≤ x_2.toInt by first | omega | decide) (show x_2.toInt ≤ 1000 by first | omega | decide)) ca_X0_self q4_135 ⟨rfl, rfl⟩ ⟨Nat.le_of_ble_eq_true rfl, Nat.le_of_ble_eq_true rfl⟩ (rc_acts hK hP) hK hP hD hS hZ rfl hl.1 rfl (Nat.le_of_ble_eq_true rfl) ⟨Nat.zero_le _, Nat.zero_le _⟩ dX0_run_163 (fun r_4 z_7 H locs wr_4 hP hD hS => ?_)
    obtain ⟨o_v22_5, o_a38_6⟩ := z_7
    have hP : va_P D vwCl (CW cs ad fa fq rv (va_up v 22 o_v22_5) (va_up a 38 o_a38_6) w fv fp) H := hP
    have hD : va_D A (CW cs ad fa fq rv (va_up v 22 o_v22_5) (va_up a 38 o_a38_6) w fv fp) := hD
    obtain ⟨wr_4_0, wr_4_1, wr_4_2, wr_4_3, wr_4_4⟩ : (o_v22_5.toInt = x_2.toInt + 4) ∧ (o_a38_6 = TRW (upd (a 38) (v 22).toNatClampNeg 2) x_2.toInt.toNat [41, 30, 10, 1]) ∧ (r_4 = (-(((p2 + 1) + (v 23)) * 2))) ∧ (0 ≤ o_v22_5.toInt) ∧ (o_v22_5.toInt ≤ 1000) := wr_4
    have kt_8 : o_a38_6 = TRW (a 38) (v 22).toInt.toNat [2, 41, 30, 10, 1] := by rw [wr_4_1, show (x_2).toInt.toNat = (v 22).toInt.toNat + 1 from by omega]; rfl
    refine lv_aload_n hx hb dX0_run_166 rfl (lv_at hl 0 rfl) ?_
    refine lv_iconst (v := 2) hx hb dX0_run_167 (by decide) ?_
    refine lv_iconst (v := 1) hx hb dX0_run_168 (by decide) ?_
    refine lv_iload_n hx hb dX0_run_169 rfl (lv_at hl 3 rfl) ?_
    refine cV_i (As := [.int 2, .int 1, .int p3]) (rest := [.int r_4]) ⟨hx, hb, hml, hown, hg⟩ (k_S_5_2 l D cs A ad fa fq rv (va_up v 22 o_v22_5) (va_up a 38 o_a38_6) w fv fp  1 p3 hkn (show 0 ≤ o_v22_5.toInt by first | omega | decide) (show o_v22_5.toInt ≤ 20 by first | omega | decide) (show 0 ≤ p3.toInt by first | omega | decide) (show p3.toInt ≤ 35 by first | omega | decide) (show 0 ≤ (v 23).toInt by first | omega | decide) (show (v 23).toInt ≤ 49 by first | omega | decide) ia37_0 (show 0 ≤ o_v22_5.toInt by first | omega | decide) (show o_v22_5.toInt ≤ 1000 by first | omega | decide)) ca_X0_self q4_135 ⟨rfl, rfl⟩ ⟨Nat.le_of_ble_eq_true rfl, Nat.le_of_ble_eq_true rfl⟩ (rc_acts hK hP) hK hP hD hS hZ rfl hl.1 rfl (Nat.le_of_ble_eq_true rfl) ⟨Nat.zero_le _, Nat.zero_le _⟩ dX0_run_170 (fun r_9 z_12 H locs wr_9 hP hD hS => ?_)
    obtain ⟨o_v22_10, o_a38_11⟩ := z_12
    have hP : va_P D vwCl (CW cs ad fa fq rv (va_up v 22 o_v22_10) (va_up a 38 o_a38_11) w fv fp) H := hP
    have hD : va_D A (CW cs ad fa fq rv (va_up v 22 o_v22_10) (va_up a 38 o_a38_11) w fv fp) := hD
    obtain ⟨wr_9_0, wr_9_1, wr_9_2, wr_9_3, wr_9_4⟩ : (o_v22_10.toInt = o_v22_5.toInt + 4) ∧ (o_a38_11 = TRW o_a38_6 o_v22_5.toInt.toNat [60, 40, 11, 1]) ∧ (r_9 = ((((1 : Int32) ^^^ (v 23)) * 3) - ((2 : Int32) + (v 23)))) ∧ (0 ≤ o_v22_10.toInt) ∧ (o_v22_10.toInt ≤ 1000) := wr_9
    have kt_13 : o_a38_11 = TRW (a 38) (v 22).toInt.toNat [2, 41, 30, 10, 1, 60, 40, 11, 1] := by rw [wr_9_1, kt_8, show (o_v22_5).toInt.toNat = (v 22).toInt.toNat + 5 from by omega]; rfl
    refine lv_isub hx hb dX0_run_173 ?_
    refine lv_topi (fun x_14 ex_14 => ?_)
    exact W.iret (v := x_14) hx hb hr (fun tt ht hW => ⟨⟨x_14, ⟨o_v22_10, o_a38_11⟩, rfl, ⟨(by first | rfl | omega | trivial | assumption | (dsimp only; first | omega | assumption)), (by (try dsimp only); first | assumption | rfl), (by simp only [ex_14, wr_9_2, wr_4_2, ex_2]), (show 0 ≤ o_v22_10.toInt by first | omega | assumption), (show o_v22_10.toInt ≤ 1000 by first | omega | assumption)⟩, by rw [ht]; exact hP, hD⟩, hS.F ht⟩) hS.2.2 dX0_run_174
set_option maxHeartbeats 4000000 in
set_option maxRecDepth 100000 in
theorem k_F_5_3_3 (l : Launch) (D : va_G) (cs : Nat → ClassId) (A : Nat → Prop) (ad fa fq rv : Nat → Nat) (v : Nat → Int32) (a : Nat → Nat → Int32) (w : Nat → Nat → Int64) (fv fp : Nat → Nat → Int32)  (p3 : Int32) (p4 : Int32) (hkn : (a 37) (v 23).toNatClampNeg = 5) (hr0 : 0 ≤ (v 22).toInt) (hr1 : (v 22).toInt ≤ 15) (hd0 : 0 ≤ p4.toInt) (hd1 : p4.toInt ≤ 33) (iv22_0 : 0 ≤ (v 22).toInt) (iv22_1 : (v 22).toInt ≤ 1000) (iv23_0 : 0 ≤ (v 23).toInt) (iv23_1 : (v 23).toInt ≤ 49) (ia37_0 : AB 0 7 (a 37)) : Met l yX0_from (Cond.code yX0_from cX0_from 8 (some .int) :: gw) ({ frames := 11, cells := 0, slots := 0, locals := 269 }) (va_Pc [.ref (ad 9), .int 3, .int 3, .int p3, .int p4] (XPre D (TY cs) (CW cs ad fa fq rv v a w fv fp) A)) (va_Qi (fun (r : Int32) (z : Int32 × (Nat → Int32)) => (z.1.toInt = (v 22).toInt + 9) ∧ (z.2 = TRW (a 38) (v 22).toInt.toNat [2, 41, 30, 10, 1, 60, 40, 11, 1]) ∧ (r = ((-(((p3 + 1) + (v 23)) * 2)) - ((((1 : Int32) ^^^ (v 23)) * 3) - ((2 : Int32) + (v 23))))) ∧ (0 ≤ z.1.toInt) ∧ (z.1.toInt ≤ 1000)) (XPo D (fun (z : Int32 × (Nat → Int32)) => CW cs ad fa fq rv (va_up v 22 z.1) (va_up a 38 z.2) w fv fp) A) A) 0 0 A := by
  refine Met.ofW (cc := cX0_from) (maxL := 8) (ret := (some .int)) (by decide) rfl ?_
  intro p e s m args below meth c s₁ B hml hv
  obtain ⟨rfl, hP, hK, hD, hZ⟩ := hv
  have hx := B.exec
  have hb := B.bytes
  have hr := B.returns
  have hts := atoms_spec (ws := (Cond.code yX0_from cX0_from 8 (some .int) :: gw)) B.pre
  have hg : ∀ w ∈ gw, w.before ([.ref (ad 9), .int 3, .int 3, .int p3, .int p4] : List Value).toArray s = true := fun w h => hts w (List.mem_cons_of_mem _ h)
  have hown : s.vm.findClass RX0 = some m.cls := findClass_of_methodNamed B.named
  have hlocks := B.notSynchronized
  have hS : va_S A s.heap s.heap [] := va_S.rf
  have hP : va_P D vwCl (CW cs ad fa fq rv v a w fv fp) s.heap := hP
  have hl := lv_entry ([.ref (ad 9), .int 3, .int 3, .int p3, .int p4]) (n := 8) (Nat.le_of_ble_eq_true rfl)
  rw [lg_entry_eq]
  generalize (lg_sl ([.ref (ad 9), .int 3, .int 3, .int p3, .int p4]) ++ List.replicate (8 - (lg_sl ([.ref (ad 9), .int 3, .int 3, .int p3, .int p4])).length) Slot.unset).toArray = ls at hl ⊢
  have hl : lv_has ls 8 [(0, .ref (ad 9)), (1, .int 3), (2, .int 3), (3, .int p3), (4, .int p4)] := hl
  refine lv_iload_n hx hb dX0_from_0 rfl (lv_at hl 1 rfl) ?_
  refine lv_istore (lv' := [(5, .int 3), (0, .ref (ad 9)), (1, .int 3), (2, .int 3), (3, .int p3), (4, .int p4)]) hx hb dX0_from_1 hl (by decide) rfl (fun ls hl => ?_)
  refine lv_iconst (v := 0) hx hb dX0_from_3 (by decide) ?_
  refine lv_istore (lv' := [(6, .int 0), (5, .int 3), (0, .ref (ad 9)), (1, .int 3), (2, .int 3), (3, .int p3), (4, .int p4)]) hx hb dX0_from_4 hl (by decide) rfl (fun ls hl => ?_)
  refine lv_iload hx hb dX0_from_6 (lv_at hl 0 rfl) ?_
  obtain ⟨t0, t1, t2, ⟨a0, b0⟩, ⟨a1, b1⟩, ⟨a2, b2⟩⟩ := id hZ
  refine va_gets hx hb a2 hS hown (hg _ q4_143) (fun _ h9 => h9) dX0_from_8 ?_
  refine va_tlen hx hb b2 hS (v := 8) rfl dX0_from_11 ?_
  refine lv_icmp_ge (tgt := 73) hx hb dX0_from_12 (by decide) (fun c_1 => absurd c_1 (by decide)) (fun c_1 => ?_)
  refine lv_iload hx hb dX0_from_15 (lv_at hl 1 rfl) ?_
  refine cS_p (As := [.int 3]) (rest := []) ⟨hx, hb, hml, hown, hg⟩ (k_IK_4 l    ) ca_X0_isKind q4_145 ⟨rfl, rfl⟩ ⟨Nat.le_of_ble_eq_true rfl, Nat.le_of_ble_eq_true rfl⟩ rfl hl.1 rfl (Nat.le_of_ble_eq_true rfl) ⟨Nat.zero_le _, Nat.zero_le _⟩ dX0_from_17 (fun r_2 wr_2 => ?_)
  have wr_2 : r_2.toInt = 1 := wr_2
  refine lv_if_eq (tgt := 73) hx hb dX0_from_20 (by decide) (fun c_3 => ?_) (fun c_3 => ?_)
  ·
    have kc_3 : r_2.toInt = (0 : Int) := i_eq c_3
    exfalso; omega
  ·
    have kc_3 : r_2.toInt ≠ (0 : Int) := i_ne c_3
    refine lv_iload hx hb dX0_from_23 (lv_at hl 1 rfl) ?_
    refine lv_iload_n hx hb dX0_from_25 rfl (lv_at hl 4 rfl) ?_
    refine cS_p (As := [.int 3, .int 3]) (rest := []) ⟨hx, hb, hml, hown, hg⟩ (k_B_3_3 l    ) ca_X0_bodyOf q4_146 ⟨rfl, rfl⟩ ⟨Nat.le_of_ble_eq_true rfl, Nat.le_of_ble_eq_true rfl⟩ rfl hl.1 rfl (Nat.le_of_ble_eq_true rfl) ⟨Nat.zero_le _, Nat.zero_le _⟩ dX0_from_26 (fun r_4 wr_4 => ?_)
    have wr_4 : r_4.toInt = 0 := wr_4
    have el_5 : r_4 = 0 := i_inj (wr_4.trans (by rfl))
    subst el_5
    refine lv_istore (lv' := [(7, .int 0), (6, .int 0), (5, .int 3), (0, .ref (ad 9)), (1, .int 3), (2, .int 3), (3, .int p3), (4, .int p4)]) hx hb dX0_from_29 hl (by decide) rfl (fun ls hl => ?_)
    refine lv_iload hx hb dX0_from_31 (lv_at hl 0 rfl) ?_
    refine lv_if_eq (tgt := 59) hx hb dX0_from_33 (by decide) (fun c_6 => ?_) (fun c_6 => absurd c_6 (by decide))
    obtain ⟨t0, t1, t2, ⟨a0, b0⟩, ⟨a1, b1⟩, ⟨a2, b2⟩⟩ := id hZ
    refine va_gets hx hb a2 hS hown (hg _ q4_143) (fun _ h9 => h9) dX0_from_59 ?_
    refine lv_iload hx hb dX0_from_62 (lv_at hl 2 rfl) ?_
    refine va_ti hx hb b2 hS (i_in (by decide) (by decide)) (v := .int 2) rfl dX0_from_64 ?_
    refine lv_istore (lv' := [(5, .int 2), (7, .int 0), (6, .int 0), (0, .ref (ad 9)), (1, .int 3), (2, .int 3), (3, .int p3), (4, .int p4)]) hx hb dX0_from_65 hl (by decide) rfl (fun ls hl => ?_)
    obtain ⟨x_7, ex_7⟩ : ∃ y : Int32, y = 0 + 1 := ⟨_, rfl⟩
    have fx_7 : x_7.toInt = (0 : Int) + 1 := by rw [ex_7]; exact i_add (by first | omega | (show (_ : Int) ≤ (0 : Int) + 1; omega)) (by first | omega | (show (0 : Int) + 1 ≤ (_ : Int); omega))
    refine lv_iinc (v := x_7) (lv' := [(6, .int x_7), (5, .int 2), (7, .int 0), (0, .ref (ad 9)), (1, .int 3), (2, .int 3), (3, .int p3), (4, .int p4)]) hx hb dX0_from_67 hl (k := 2) rfl (by rw [ex_7]; rfl) (by decide) rfl (fun ls hl => ?_)
    refine lv_goto (tgt := 6) hx hb dX0_from_70 (by decide) ?_
    refine lv_iload hx hb dX0_from_6 (lv_at hl 0 rfl) ?_
    obtain ⟨t0, t1, t2, ⟨a0, b0⟩, ⟨a1, b1⟩, ⟨a2, b2⟩⟩ := id hZ
    refine va_gets hx hb a2 hS hown (hg _ q4_143) (fun _ h9 => h9) dX0_from_8 ?_
    refine va_tlen hx hb b2 hS (v := 8) rfl dX0_from_11 ?_
    refine lv_icmp_ge (tgt := 73) hx hb dX0_from_12 (by decide) (fun c_8 => ?_) (fun c_8 => ?_)
    ·
      have kc_8 : (8 : Int) ≤ x_7.toInt := i_le c_8
      exfalso; omega
    ·
      have kc_8 : x_7.toInt < (8 : Int) := i_nle c_8
      refine lv_iload hx hb dX0_from_15 (lv_at hl 1 rfl) ?_
      refine cS_p (As := [.int 2]) (rest := []) ⟨hx, hb, hml, hown, hg⟩ (k_IK_3 l    ) ca_X0_isKind q4_145 ⟨rfl, rfl⟩ ⟨Nat.le_of_ble_eq_true rfl, Nat.le_of_ble_eq_true rfl⟩ rfl hl.1 rfl (Nat.le_of_ble_eq_true rfl) ⟨Nat.zero_le _, Nat.zero_le _⟩ dX0_from_17 (fun r_9 wr_9 => ?_)
      have wr_9 : r_9.toInt = 1 := wr_9
      refine lv_if_eq (tgt := 73) hx hb dX0_from_20 (by decide) (fun c_10 => ?_) (fun c_10 => ?_)
      ·
        have kc_10 : r_9.toInt = (0 : Int) := i_eq c_10
        exfalso; omega
      ·
        have kc_10 : r_9.toInt ≠ (0 : Int) := i_ne c_10
        refine lv_iload hx hb dX0_from_23 (lv_at hl 1 rfl) ?_
        refine lv_iload_n hx hb dX0_from_25 rfl (lv_at hl 5 rfl) ?_
        refine cS_p (As := [.int 2, .int 3]) (rest := []) ⟨hx, hb, hml, hown, hg⟩ (k_B_2_3 l    ) ca_X0_bodyOf q4_146 ⟨rfl, rfl⟩ ⟨Nat.le_of_ble_eq_true rfl, Nat.le_of_ble_eq_true rfl⟩ rfl hl.1 rfl (Nat.le_of_ble_eq_true rfl) ⟨Nat.zero_le _, Nat.zero_le _⟩ dX0_from_26 (fun r_11 wr_11 => ?_)
        have wr_11 : r_11.toInt = 0 := wr_11
        have el_12 : r_11 = 0 := i_inj (wr_11.trans (by rfl))
        subst el_12
        refine lv_istore (lv' := [(7, .int 0), (6, .int x_7), (5, .int 2), (0, .ref (ad 9)), (1, .int 3), (2, .int 3), (3, .int p3), (4, .int p4)]) hx hb dX0_from_29 hl (by decide) rfl (fun ls hl => ?_)
        refine lv_iload hx hb dX0_from_31 (lv_at hl 0 rfl) ?_
        refine lv_if_eq (tgt := 59) hx hb dX0_from_33 (by decide) (fun c_13 => ?_) (fun c_13 => absurd c_13 (by decide))
        obtain ⟨t0, t1, t2, ⟨a0, b0⟩, ⟨a1, b1⟩, ⟨a2, b2⟩⟩ := id hZ
        refine va_gets hx hb a2 hS hown (hg _ q4_143) (fun _ h9 => h9) dX0_from_59 ?_
        refine lv_iload hx hb dX0_from_62 (lv_at hl 2 rfl) ?_
        refine va_ti hx hb b2 hS (i_in (by decide) (by decide)) (v := .int 0) rfl dX0_from_64 ?_
        refine lv_istore (lv' := [(5, .int 0), (7, .int 0), (6, .int x_7), (0, .ref (ad 9)), (1, .int 3), (2, .int 3), (3, .int p3), (4, .int p4)]) hx hb dX0_from_65 hl (by decide) rfl (fun ls hl => ?_)
        obtain ⟨x_14, ex_14⟩ : ∃ y : Int32, y = x_7 + 1 := ⟨_, rfl⟩
        have fx_14 : x_14.toInt = x_7.toInt + 1 := by rw [ex_14]; exact i_add (by first | omega | (show (_ : Int) ≤ x_7.toInt + 1; omega)) (by first | omega | (show x_7.toInt + 1 ≤ (_ : Int); omega))
        refine lv_iinc (v := x_14) (lv' := [(6, .int x_14), (5, .int 0), (7, .int 0), (0, .ref (ad 9)), (1, .int 3), (2, .int 3), (3, .int p3), (4, .int p4)]) hx hb dX0_from_67 hl (k := 2) rfl (by rw [ex_14]; rfl) (by decide) rfl (fun ls hl => ?_)
        refine lv_goto (tgt := 6) hx hb dX0_from_70 (by decide) ?_
        refine lv_iload hx hb dX0_from_6 (lv_at hl 0 rfl) ?_
        obtain ⟨t0, t1, t2, ⟨a0, b0⟩, ⟨a1, b1⟩, ⟨a2, b2⟩⟩ := id hZ
        refine va_gets hx hb a2 hS hown (hg _ q4_143) (fun _ h9 => h9) dX0_from_8 ?_
        refine va_tlen hx hb b2 hS (v := 8) rfl dX0_from_11 ?_
        refine lv_icmp_ge (tgt := 73) hx hb dX0_from_12 (by decide) (fun c_15 => ?_) (fun c_15 => ?_)
        ·
          have kc_15 : (8 : Int) ≤ x_14.toInt := i_le c_15
          exfalso; omega
        ·
          have kc_15 : x_14.toInt < (8 : Int) := i_nle c_15
          refine lv_iload hx hb dX0_from_15 (lv_at hl 1 rfl) ?_
          refine cS_p (As := [.int 0]) (rest := []) ⟨hx, hb, hml, hown, hg⟩ (k_IK_1 l    ) ca_X0_isKind q4_145 ⟨rfl, rfl⟩ ⟨Nat.le_of_ble_eq_true rfl, Nat.le_of_ble_eq_true rfl⟩ rfl hl.1 rfl (Nat.le_of_ble_eq_true rfl) ⟨Nat.zero_le _, Nat.zero_le _⟩ dX0_from_17 (fun r_16 wr_16 => ?_)
          have wr_16 : r_16.toInt = 1 := wr_16
          refine lv_if_eq (tgt := 73) hx hb dX0_from_20 (by decide) (fun c_17 => ?_) (fun c_17 => ?_)
          ·
            have kc_17 : r_16.toInt = (0 : Int) := i_eq c_17
            exfalso; omega
          ·
            have kc_17 : r_16.toInt ≠ (0 : Int) := i_ne c_17
            refine lv_iload hx hb dX0_from_23 (lv_at hl 1 rfl) ?_
            refine lv_iload_n hx hb dX0_from_25 rfl (lv_at hl 5 rfl) ?_
            refine cS_p (As := [.int 0, .int 3]) (rest := []) ⟨hx, hb, hml, hown, hg⟩ (k_B_0_3 l    ) ca_X0_bodyOf q4_146 ⟨rfl, rfl⟩ ⟨Nat.le_of_ble_eq_true rfl, Nat.le_of_ble_eq_true rfl⟩ rfl hl.1 rfl (Nat.le_of_ble_eq_true rfl) ⟨Nat.zero_le _, Nat.zero_le _⟩ dX0_from_26 (fun r_18 wr_18 => ?_)
            have wr_18 : r_18.toInt = 2 := wr_18
            have el_19 : r_18 = 2 := i_inj (wr_18.trans (by rfl))
            subst el_19
            refine lv_istore (lv' := [(7, .int 2), (6, .int x_14), (5, .int 0), (0, .ref (ad 9)), (1, .int 3), (2, .int 3), (3, .int p3), (4, .int p4)]) hx hb dX0_from_29 hl (by decide) rfl (fun ls hl => ?_)
            refine lv_iload hx hb dX0_from_31 (lv_at hl 0 rfl) ?_
            refine lv_if_eq (tgt := 59) hx hb dX0_from_33 (by decide) (fun c_20 => absurd c_20 (by decide)) (fun c_20 => ?_)
            refine lv_iload hx hb dX0_from_36 (lv_at hl 7 rfl) ?_
            refine lv_bipush (v := 40) hx hb dX0_from_38 (by decide) ?_
            refine lv_icmp_ge (tgt := 57) hx hb dX0_from_40 (by decide) (fun c_21 => ?_) (fun c_21 => ?_)
            ·
              have kc_21 : (40 : Int) ≤ p4.toInt := i_le c_21
              exfalso; omega
            ·
              have kc_21 : p4.toInt < (40 : Int) := i_nle c_21
              refine lv_aload_n hx hb dX0_from_43 rfl (lv_at hl 3 rfl) ?_
              refine lv_iload hx hb dX0_from_44 (lv_at hl 0 rfl) ?_
              refine lv_iload_n hx hb dX0_from_46 rfl (lv_at hl 6 rfl) ?_
              refine lv_iload hx hb dX0_from_47 (lv_at hl 7 rfl) ?_
              refine lv_iconst (v := 1) hx hb dX0_from_49 (by decide) ?_
              refine lv_iadd hx hb dX0_from_50 ?_
              refine lv_topi (fun x_22 ex_22 => ?_)
              have fx_22 : x_22.toInt = p4.toInt + (1 : Int) := by rw [ex_22]; exact i_add (by first | omega | (show (_ : Int) ≤ p4.toInt + (1 : Int); omega)) (by first | omega | (show p4.toInt + (1 : Int) ≤ (_ : Int); omega))
              refine cV_i (As := [.int 2, .int p3, .int x_22]) (rest := []) ⟨hx, hb, hml, hown, hg⟩ (k_R_5_2 l D cs A ad fa fq rv v a w fv fp  p3 x_22 hkn (show 0 ≤ (v 22).toInt by first | omega | decide) (show (v 22).toInt ≤ 15 by first | omega | decide) (show 0 ≤ x_22.toInt by first | omega | decide) (show x_22.toInt ≤ 34 by first | omega | decide) (show 0 ≤ (v 22).toInt by first | omega | decide) (show (v 22).toInt ≤ 1000 by first | omega | decide) (show 0 ≤ (v 23).toInt by first | omega | decide) (show (v 23).toInt ≤ 49 by first | omega | decide) ia37_0) ca_X0_run q4_149 ⟨rfl, rfl⟩ ⟨Nat.le_of_ble_eq_true rfl, Nat.le_of_ble_eq_true rfl⟩ (rc_acts hK hP) hK hP hD hS hZ rfl hl.1 rfl (Nat.le_of_ble_eq_true rfl) ⟨Nat.zero_le _, Nat.zero_le _⟩ dX0_from_51 (fun r_23 z_26 H locs wr_23 hP hD hS => ?_)
              obtain ⟨o_v22_24, o_a38_25⟩ := z_26
              have hP : va_P D vwCl (CW cs ad fa fq rv (va_up v 22 o_v22_24) (va_up a 38 o_a38_25) w fv fp) H := hP
              have hD : va_D A (CW cs ad fa fq rv (va_up v 22 o_v22_24) (va_up a 38 o_a38_25) w fv fp) := hD
              obtain ⟨wr_23_0, wr_23_1, wr_23_2, wr_23_3, wr_23_4⟩ : (o_v22_24.toInt = (v 22).toInt + 9) ∧ (o_a38_25 = TRW (a 38) (v 22).toInt.toNat [2, 41, 30, 10, 1, 60, 40, 11, 1]) ∧ (r_23 = ((-(((p3 + 1) + (v 23)) * 2)) - ((((1 : Int32) ^^^ (v 23)) * 3) - ((2 : Int32) + (v 23))))) ∧ (0 ≤ o_v22_24.toInt) ∧ (o_v22_24.toInt ≤ 1000) := wr_23
              have kt_27 : o_a38_25 = TRW (a 38) (v 22).toInt.toNat [2, 41, 30, 10, 1, 60, 40, 11, 1] := by rw [wr_23_1]
              refine lv_goto (tgt := 58) hx hb dX0_from_54 (by decide) ?_
              exact W.iret (v := r_23) hx hb hr (fun tt ht hW => ⟨⟨r_23, ⟨o_v22_24, o_a38_25⟩, rfl, ⟨(by first | rfl | omega | trivial | assumption | (dsimp only; first | omega | assumption)), (by (try dsimp only); first | assumption | rfl), (by simp only [wr_23_2, ex_22]), (show 0 ≤ o_v22_24.toInt by first | omega | assumption), (show o_v22_24.toInt ≤ 1000 by first | omega | assumption)⟩, by rw [ht]; exact hP, hD⟩, hS.F ht⟩) hS.2.2 dX0_from_58
set_option maxHeartbeats 4000000 in
set_option maxRecDepth 100000 in
theorem k_R_5_61 (l : Launch) (D : va_G) (cs : Nat → ClassId) (A : Nat → Prop) (ad fa fq rv : Nat → Nat) (v : Nat → Int32) (a : Nat → Nat → Int32) (w : Nat → Nat → Int64) (fv fp : Nat → Nat → Int32)  (p2 : Int32) (p3 : Int32) (hkn : (a 37) (v 23).toNatClampNeg = 5) (hr0 : 0 ≤ (v 22).toInt) (hr1 : (v 22).toInt ≤ 14) (hd0 : 0 ≤ p3.toInt) (hd1 : p3.toInt ≤ 33) (iv22_0 : 0 ≤ (v 22).toInt) (iv22_1 : (v 22).toInt ≤ 1000) (iv23_0 : 0 ≤ (v 23).toInt) (iv23_1 : (v 23).toInt ≤ 49) (ia37_0 : AB 0 7 (a 37)) : Met l yX0_run (Cond.code yX0_run cX0_run 4 (some .int) :: gw) ({ frames := 12, cells := 0, slots := 0, locals := 296 }) (va_Pc [.ref (ad 9), .int 61, .int p2, .int p3] (XPre D (TY cs) (CW cs ad fa fq rv v a w fv fp) A)) (va_Qi (fun (r : Int32) (z : Int32 × (Nat → Int32)) => (z.1.toInt = (v 22).toInt + 10) ∧ (z.2 = TRW (a 38) (v 22).toInt.toNat [61, 2, 41, 30, 10, 1, 60, 40, 11, 1]) ∧ (r = (((-(((p2 + 1) + (v 23)) * 2)) - ((((1 : Int32) ^^^ (v 23)) * 3) - ((2 : Int32) + (v 23)))) + 1)) ∧ (0 ≤ z.1.toInt) ∧ (z.1.toInt ≤ 1000)) (XPo D (fun (z : Int32 × (Nat → Int32)) => CW cs ad fa fq rv (va_up v 22 z.1) (va_up a 38 z.2) w fv fp) A) A) 0 0 A := by
  refine Met.ofW (cc := cX0_run) (maxL := 4) (ret := (some .int)) (by decide) rfl ?_
  intro p e s m args below meth c s₁ B hml hv
  obtain ⟨rfl, hP, hK, hD, hZ⟩ := hv
  have hx := B.exec
  have hb := B.bytes
  have hr := B.returns
  have hts := atoms_spec (ws := (Cond.code yX0_run cX0_run 4 (some .int) :: gw)) B.pre
  have hg : ∀ w ∈ gw, w.before ([.ref (ad 9), .int 61, .int p2, .int p3] : List Value).toArray s = true := fun w h => hts w (List.mem_cons_of_mem _ h)
  have hown : s.vm.findClass RX0 = some m.cls := findClass_of_methodNamed B.named
  have hlocks := B.notSynchronized
  have hS : va_S A s.heap s.heap [] := va_S.rf
  have hP : va_P D vwCl (CW cs ad fa fq rv v a w fv fp) s.heap := hP
  have hl := lv_entry ([.ref (ad 9), .int 61, .int p2, .int p3]) (n := 4) (Nat.le_of_ble_eq_true rfl)
  rw [lg_entry_eq]
  generalize (lg_sl ([.ref (ad 9), .int 61, .int p2, .int p3]) ++ List.replicate (4 - (lg_sl ([.ref (ad 9), .int 61, .int p2, .int p3])).length) Slot.unset).toArray = ls at hl ⊢
  have hl : lv_has ls 4 [(0, .ref (ad 9)), (1, .int 61), (2, .int p2), (3, .int p3)] := hl
  refine lv_aload_n hx hb dX0_run_0 rfl (lv_at hl 0 rfl) ?_
  refine gf_acts_ran hx hb hg hown hK hP (x := (v 22)) rfl (hg _ q1_88) dX0_run_1 ?_
  refine lv_bipush (v := 24) hx hb dX0_run_4 (by decide) ?_
  refine lv_icmp_ge (tgt := 19) hx hb dX0_run_6 (by decide) (fun c_1 => ?_) (fun c_1 => ?_)
  ·
    have kc_1 : (24 : Int) ≤ (v 22).toInt := i_le c_1
    exfalso; omega
  ·
    have kc_1 : (v 22).toInt < (24 : Int) := i_nle c_1
    refine lv_aload_n hx hb dX0_run_9 rfl (lv_at hl 0 rfl) ?_
    refine gf_acts_traced hx hb hg hown hK hP rfl (hg _ q1_86) dX0_run_10 ?_
    refine lv_aload_n hx hb dX0_run_13 rfl (lv_at hl 0 rfl) ?_
    refine gf_acts_ran hx hb hg hown hK hP (x := (v 22)) rfl (hg _ q1_88) dX0_run_14 ?_
    refine lv_iload_n hx hb dX0_run_17 rfl (lv_at hl 1 rfl) ?_
    refine st_Atraced hx hb hK hP hD hS (i_in (by omega) (by omega)) dX0_run_18 (fun H locs hP hD hS => ?_)
    refine lv_aload_n hx hb dX0_run_19 rfl (lv_at hl 0 rfl) ?_
    refine lv_dup hx hb dX0_run_20 rfl ?_
    refine gf_acts_ran hx hb hg hown hK hP (x := (v 22)) rfl (hg _ q1_88) dX0_run_21 ?_
    refine lv_iconst (v := 1) hx hb dX0_run_24 (by decide) ?_
    refine lv_iadd hx hb dX0_run_25 ?_
    refine lv_topi (fun x_2 ex_2 => ?_)
    have fx_2 : x_2.toInt = (v 22).toInt + (1 : Int) := by rw [ex_2]; exact i_add (by first | omega | (show (_ : Int) ≤ (v 22).toInt + (1 : Int); omega)) (by first | omega | (show (v 22).toInt + (1 : Int) ≤ (_ : Int); omega))
    refine pf_acts_ran hx hb hg hown hK hP hD hS (hg _ q1_88) dX0_run_26 (fun H locs hP hD hS => ?_)
    refine lv_iload_n hx hb dX0_run_29 rfl (lv_at hl 1 rfl) ?_
    refine lv_lookup (tgt := 287) hx hb dX0_run_30 (by decide) (off := 257) (by decide) (by decide) ?_
    refine lv_aload_n hx hb dX0_run_287 rfl (lv_at hl 0 rfl) ?_
    obtain ⟨t0, t1, t2, ⟨a0, b0⟩, ⟨a1, b1⟩, ⟨a2, b2⟩⟩ := id hZ
    refine va_gets hx hb a2 hS hown (hg _ q4_143) (fun _ h9 => h9) dX0_run_288 ?_
    refine lv_iconst (v := 5) hx hb dX0_run_291 (by decide) ?_
    refine va_ti hx hb b2 hS (i_in (by decide) (by decide)) (v := .int 3) rfl dX0_run_292 ?_
    refine lv_iconst (v := 3) hx hb dX0_run_293 (by decide) ?_
    refine lv_iload_n hx hb dX0_run_294 rfl (lv_at hl 2 rfl) ?_
    refine lv_iload_n hx hb dX0_run_295 rfl (lv_at hl 3 rfl) ?_
    refine cV_i (As := [.int 3, .int 3, .int p2, .int p3]) (rest := []) ⟨hx, hb, hml, hown, hg⟩ (k_F_5_3_3 l D cs A ad fa fq rv (va_up v 22 x_2) (va_up a 38 (upd (a 38) (v 22).toNatClampNeg 61)) w fv fp  p2 p3 hkn (show 0 ≤ x_2.toInt by first | omega | decide) (show x_2.toInt ≤ 15 by first | omega | decide) (show 0 ≤ p3.toInt by first | omega | decide) (show p3.toInt ≤ 33 by first | omega | decide) (show 0 ≤ x_2.toInt by first | omega | decide) (show x_2.toInt ≤ 1000 by first | omega | decide) (show 0 ≤ (v 23).toInt by first | omega | decide) (show (v 23).toInt ≤ 49 by first | omega | decide) ia37_0) ca_X0_from q4_139 ⟨rfl, rfl⟩ ⟨Nat.le_of_ble_eq_true rfl, Nat.le_of_ble_eq_true rfl⟩ (rc_acts hK hP) hK hP hD hS hZ rfl hl.1 rfl (Nat.le_of_ble_eq_true rfl) ⟨Nat.zero_le _, Nat.zero_le _⟩ dX0_run_296 (fun r_4 z_7 H locs wr_4 hP hD hS => ?_)
    obtain ⟨o_v22_5, o_a38_6⟩ := z_7
    have hP : va_P D vwCl (CW cs ad fa fq rv (va_up v 22 o_v22_5) (va_up a 38 o_a38_6) w fv fp) H := hP
    have hD : va_D A (CW cs ad fa fq rv (va_up v 22 o_v22_5) (va_up a 38 o_a38_6) w fv fp) := hD
    obtain ⟨wr_4_0, wr_4_1, wr_4_2, wr_4_3, wr_4_4⟩ : (o_v22_5.toInt = x_2.toInt + 9) ∧ (o_a38_6 = TRW (upd (a 38) (v 22).toNatClampNeg 61) x_2.toInt.toNat [2, 41, 30, 10, 1, 60, 40, 11, 1]) ∧ (r_4 = ((-(((p2 + 1) + (v 23)) * 2)) - ((((1 : Int32) ^^^ (v 23)) * 3) - ((2 : Int32) + (v 23))))) ∧ (0 ≤ o_v22_5.toInt) ∧ (o_v22_5.toInt ≤ 1000) := wr_4
    have kt_8 : o_a38_6 = TRW (a 38) (v 22).toInt.toNat [61, 2, 41, 30, 10, 1, 60, 40, 11, 1] := by rw [wr_4_1, show (x_2).toInt.toNat = (v 22).toInt.toNat + 1 from by omega]; rfl
    refine lv_iconst (v := 1) hx hb dX0_run_299 (by decide) ?_
    refine lv_iadd hx hb dX0_run_300 ?_
    refine lv_topi (fun x_9 ex_9 => ?_)
    exact W.iret (v := x_9) hx hb hr (fun tt ht hW => ⟨⟨x_9, ⟨o_v22_5, o_a38_6⟩, rfl, ⟨(by first | rfl | omega | trivial | assumption | (dsimp only; first | omega | assumption)), (by (try dsimp only); first | assumption | rfl), (by simp only [ex_9, wr_4_2, ex_2]), (show 0 ≤ o_v22_5.toInt by first | omega | assumption), (show o_v22_5.toInt ≤ 1000 by first | omega | assumption)⟩, by rw [ht]; exact hP, hD⟩, hS.F ht⟩) hS.2.2 dX0_run_301
set_option maxHeartbeats 4000000 in
set_option maxRecDepth 100000 in
theorem k_F_5_5_3 (l : Launch) (D : va_G) (cs : Nat → ClassId) (A : Nat → Prop) (ad fa fq rv : Nat → Nat) (v : Nat → Int32) (a : Nat → Nat → Int32) (w : Nat → Nat → Int64) (fv fp : Nat → Nat → Int32)  (p3 : Int32) (p4 : Int32) (hkn : (a 37) (v 23).toNatClampNeg = 5) (hr0 : 0 ≤ (v 22).toInt) (hr1 : (v 22).toInt ≤ 14) (hd0 : 0 ≤ p4.toInt) (hd1 : p4.toInt ≤ 32) (iv22_0 : 0 ≤ (v 22).toInt) (iv22_1 : (v 22).toInt ≤ 1000) (iv23_0 : 0 ≤ (v 23).toInt) (iv23_1 : (v 23).toInt ≤ 49) (ia37_0 : AB 0 7 (a 37)) : Met l yX0_from (Cond.code yX0_from cX0_from 8 (some .int) :: gw) ({ frames := 13, cells := 0, slots := 0, locals := 319 }) (va_Pc [.ref (ad 9), .int 5, .int 3, .int p3, .int p4] (XPre D (TY cs) (CW cs ad fa fq rv v a w fv fp) A)) (va_Qi (fun (r : Int32) (z : Int32 × (Nat → Int32)) => (z.1.toInt = (v 22).toInt + 10) ∧ (z.2 = TRW (a 38) (v 22).toInt.toNat [61, 2, 41, 30, 10, 1, 60, 40, 11, 1]) ∧ (r = (((-(((p3 + 1) + (v 23)) * 2)) - ((((1 : Int32) ^^^ (v 23)) * 3) - ((2 : Int32) + (v 23)))) + 1)) ∧ (0 ≤ z.1.toInt) ∧ (z.1.toInt ≤ 1000)) (XPo D (fun (z : Int32 × (Nat → Int32)) => CW cs ad fa fq rv (va_up v 22 z.1) (va_up a 38 z.2) w fv fp) A) A) 0 0 A := by
  refine Met.ofW (cc := cX0_from) (maxL := 8) (ret := (some .int)) (by decide) rfl ?_
  intro p e s m args below meth c s₁ B hml hv
  obtain ⟨rfl, hP, hK, hD, hZ⟩ := hv
  have hx := B.exec
  have hb := B.bytes
  have hr := B.returns
  have hts := atoms_spec (ws := (Cond.code yX0_from cX0_from 8 (some .int) :: gw)) B.pre
  have hg : ∀ w ∈ gw, w.before ([.ref (ad 9), .int 5, .int 3, .int p3, .int p4] : List Value).toArray s = true := fun w h => hts w (List.mem_cons_of_mem _ h)
  have hown : s.vm.findClass RX0 = some m.cls := findClass_of_methodNamed B.named
  have hlocks := B.notSynchronized
  have hS : va_S A s.heap s.heap [] := va_S.rf
  have hP : va_P D vwCl (CW cs ad fa fq rv v a w fv fp) s.heap := hP
  have hl := lv_entry ([.ref (ad 9), .int 5, .int 3, .int p3, .int p4]) (n := 8) (Nat.le_of_ble_eq_true rfl)
  rw [lg_entry_eq]
  generalize (lg_sl ([.ref (ad 9), .int 5, .int 3, .int p3, .int p4]) ++ List.replicate (8 - (lg_sl ([.ref (ad 9), .int 5, .int 3, .int p3, .int p4])).length) Slot.unset).toArray = ls at hl ⊢
  have hl : lv_has ls 8 [(0, .ref (ad 9)), (1, .int 5), (2, .int 3), (3, .int p3), (4, .int p4)] := hl
  refine lv_iload_n hx hb dX0_from_0 rfl (lv_at hl 1 rfl) ?_
  refine lv_istore (lv' := [(5, .int 5), (0, .ref (ad 9)), (1, .int 5), (2, .int 3), (3, .int p3), (4, .int p4)]) hx hb dX0_from_1 hl (by decide) rfl (fun ls hl => ?_)
  refine lv_iconst (v := 0) hx hb dX0_from_3 (by decide) ?_
  refine lv_istore (lv' := [(6, .int 0), (5, .int 5), (0, .ref (ad 9)), (1, .int 5), (2, .int 3), (3, .int p3), (4, .int p4)]) hx hb dX0_from_4 hl (by decide) rfl (fun ls hl => ?_)
  refine lv_iload hx hb dX0_from_6 (lv_at hl 0 rfl) ?_
  obtain ⟨t0, t1, t2, ⟨a0, b0⟩, ⟨a1, b1⟩, ⟨a2, b2⟩⟩ := id hZ
  refine va_gets hx hb a2 hS hown (hg _ q4_143) (fun _ h9 => h9) dX0_from_8 ?_
  refine va_tlen hx hb b2 hS (v := 8) rfl dX0_from_11 ?_
  refine lv_icmp_ge (tgt := 73) hx hb dX0_from_12 (by decide) (fun c_1 => absurd c_1 (by decide)) (fun c_1 => ?_)
  refine lv_iload hx hb dX0_from_15 (lv_at hl 1 rfl) ?_
  refine cS_p (As := [.int 5]) (rest := []) ⟨hx, hb, hml, hown, hg⟩ (k_IK_6 l    ) ca_X0_isKind q4_145 ⟨rfl, rfl⟩ ⟨Nat.le_of_ble_eq_true rfl, Nat.le_of_ble_eq_true rfl⟩ rfl hl.1 rfl (Nat.le_of_ble_eq_true rfl) ⟨Nat.zero_le _, Nat.zero_le _⟩ dX0_from_17 (fun r_2 wr_2 => ?_)
  have wr_2 : r_2.toInt = 1 := wr_2
  refine lv_if_eq (tgt := 73) hx hb dX0_from_20 (by decide) (fun c_3 => ?_) (fun c_3 => ?_)
  ·
    have kc_3 : r_2.toInt = (0 : Int) := i_eq c_3
    exfalso; omega
  ·
    have kc_3 : r_2.toInt ≠ (0 : Int) := i_ne c_3
    refine lv_iload hx hb dX0_from_23 (lv_at hl 1 rfl) ?_
    refine lv_iload_n hx hb dX0_from_25 rfl (lv_at hl 4 rfl) ?_
    refine cS_p (As := [.int 5, .int 3]) (rest := []) ⟨hx, hb, hml, hown, hg⟩ (k_B_5_3 l    ) ca_X0_bodyOf q4_146 ⟨rfl, rfl⟩ ⟨Nat.le_of_ble_eq_true rfl, Nat.le_of_ble_eq_true rfl⟩ rfl hl.1 rfl (Nat.le_of_ble_eq_true rfl) ⟨Nat.zero_le _, Nat.zero_le _⟩ dX0_from_26 (fun r_4 wr_4 => ?_)
    have wr_4 : r_4.toInt = 61 := wr_4
    have el_5 : r_4 = 61 := i_inj (wr_4.trans (by rfl))
    subst el_5
    refine lv_istore (lv' := [(7, .int 61), (6, .int 0), (5, .int 5), (0, .ref (ad 9)), (1, .int 5), (2, .int 3), (3, .int p3), (4, .int p4)]) hx hb dX0_from_29 hl (by decide) rfl (fun ls hl => ?_)
    refine lv_iload hx hb dX0_from_31 (lv_at hl 0 rfl) ?_
    refine lv_if_eq (tgt := 59) hx hb dX0_from_33 (by decide) (fun c_6 => absurd c_6 (by decide)) (fun c_6 => ?_)
    refine lv_iload hx hb dX0_from_36 (lv_at hl 7 rfl) ?_
    refine lv_bipush (v := 40) hx hb dX0_from_38 (by decide) ?_
    refine lv_icmp_ge (tgt := 57) hx hb dX0_from_40 (by decide) (fun c_7 => ?_) (fun c_7 => ?_)
    ·
      have kc_7 : (40 : Int) ≤ p4.toInt := i_le c_7
      exfalso; omega
    ·
      have kc_7 : p4.toInt < (40 : Int) := i_nle c_7
      refine lv_aload_n hx hb dX0_from_43 rfl (lv_at hl 3 rfl) ?_
      refine lv_iload hx hb dX0_from_44 (lv_at hl 0 rfl) ?_
      refine lv_iload_n hx hb dX0_from_46 rfl (lv_at hl 6 rfl) ?_
      refine lv_iload hx hb dX0_from_47 (lv_at hl 7 rfl) ?_
      refine lv_iconst (v := 1) hx hb dX0_from_49 (by decide) ?_
      refine lv_iadd hx hb dX0_from_50 ?_
      refine lv_topi (fun x_8 ex_8 => ?_)
      have fx_8 : x_8.toInt = p4.toInt + (1 : Int) := by rw [ex_8]; exact i_add (by first | omega | (show (_ : Int) ≤ p4.toInt + (1 : Int); omega)) (by first | omega | (show p4.toInt + (1 : Int) ≤ (_ : Int); omega))
      refine cV_i (As := [.int 61, .int p3, .int x_8]) (rest := []) ⟨hx, hb, hml, hown, hg⟩ (k_R_5_61 l D cs A ad fa fq rv v a w fv fp  p3 x_8 hkn (show 0 ≤ (v 22).toInt by first | omega | decide) (show (v 22).toInt ≤ 14 by first | omega | decide) (show 0 ≤ x_8.toInt by first | omega | decide) (show x_8.toInt ≤ 33 by first | omega | decide) (show 0 ≤ (v 22).toInt by first | omega | decide) (show (v 22).toInt ≤ 1000 by first | omega | decide) (show 0 ≤ (v 23).toInt by first | omega | decide) (show (v 23).toInt ≤ 49 by first | omega | decide) ia37_0) ca_X0_run q4_149 ⟨rfl, rfl⟩ ⟨Nat.le_of_ble_eq_true rfl, Nat.le_of_ble_eq_true rfl⟩ (rc_acts hK hP) hK hP hD hS hZ rfl hl.1 rfl (Nat.le_of_ble_eq_true rfl) ⟨Nat.zero_le _, Nat.zero_le _⟩ dX0_from_51 (fun r_9 z_12 H locs wr_9 hP hD hS => ?_)
      obtain ⟨o_v22_10, o_a38_11⟩ := z_12
      have hP : va_P D vwCl (CW cs ad fa fq rv (va_up v 22 o_v22_10) (va_up a 38 o_a38_11) w fv fp) H := hP
      have hD : va_D A (CW cs ad fa fq rv (va_up v 22 o_v22_10) (va_up a 38 o_a38_11) w fv fp) := hD
      obtain ⟨wr_9_0, wr_9_1, wr_9_2, wr_9_3, wr_9_4⟩ : (o_v22_10.toInt = (v 22).toInt + 10) ∧ (o_a38_11 = TRW (a 38) (v 22).toInt.toNat [61, 2, 41, 30, 10, 1, 60, 40, 11, 1]) ∧ (r_9 = (((-(((p3 + 1) + (v 23)) * 2)) - ((((1 : Int32) ^^^ (v 23)) * 3) - ((2 : Int32) + (v 23)))) + 1)) ∧ (0 ≤ o_v22_10.toInt) ∧ (o_v22_10.toInt ≤ 1000) := wr_9
      have kt_13 : o_a38_11 = TRW (a 38) (v 22).toInt.toNat [61, 2, 41, 30, 10, 1, 60, 40, 11, 1] := by rw [wr_9_1]
      refine lv_goto (tgt := 58) hx hb dX0_from_54 (by decide) ?_
      exact W.iret (v := r_9) hx hb hr (fun tt ht hW => ⟨⟨r_9, ⟨o_v22_10, o_a38_11⟩, rfl, ⟨(by first | rfl | omega | trivial | assumption | (dsimp only; first | omega | assumption)), (by (try dsimp only); first | assumption | rfl), (by simp only [wr_9_2, ex_8]), (show 0 ≤ o_v22_10.toInt by first | omega | assumption), (show o_v22_10.toInt ≤ 1000 by first | omega | assumption)⟩, by rw [ht]; exact hP, hD⟩, hS.F ht⟩) hS.2.2 dX0_from_58
set_option maxHeartbeats 4000000 in
set_option maxRecDepth 100000 in
theorem k_S_5_3 (l : Launch) (D : va_G) (cs : Nat → ClassId) (A : Nat → Prop) (ad fa fq rv : Nat → Nat) (v : Nat → Int32) (a : Nat → Nat → Int32) (w : Nat → Nat → Int64) (fv fp : Nat → Nat → Int32)  (p2 : Int32) (p3 : Int32) (hkn : (a 37) (v 23).toNatClampNeg = 5) (hr0 : 0 ≤ (v 22).toInt) (hr1 : (v 22).toInt ≤ 14) (hd0 : 0 ≤ p3.toInt) (hd1 : p3.toInt ≤ 32) (iv23_0 : 0 ≤ (v 23).toInt) (iv23_1 : (v 23).toInt ≤ 49) (ia37_0 : AB 0 7 (a 37)) (iv22_0 : 0 ≤ (v 22).toInt) (iv22_1 : (v 22).toInt ≤ 1000) : Met l yX0_self (Cond.code yX0_self cX0_self 4 (some .int) :: gw) ({ frames := 14, cells := 0, slots := 0, locals := 346 }) (va_Pc [.ref (ad 9), .int 3, .int p2, .int p3] (XPre D (TY cs) (CW cs ad fa fq rv v a w fv fp) A)) (va_Qi (fun (r : Int32) (z : Int32 × (Nat → Int32)) => (z.1.toInt = (v 22).toInt + 10) ∧ (z.2 = TRW (a 38) (v 22).toInt.toNat [61, 2, 41, 30, 10, 1, 60, 40, 11, 1]) ∧ (r = (((-(((p2 + 1) + (v 23)) * 2)) - ((((1 : Int32) ^^^ (v 23)) * 3) - ((2 : Int32) + (v 23)))) + 1)) ∧ (0 ≤ z.1.toInt) ∧ (z.1.toInt ≤ 1000)) (XPo D (fun (z : Int32 × (Nat → Int32)) => CW cs ad fa fq rv (va_up v 22 z.1) (va_up a 38 z.2) w fv fp) A) A) 0 0 A := by
  refine Met.ofW (cc := cX0_self) (maxL := 4) (ret := (some .int)) (by decide) rfl ?_
  intro p e s m args below meth c s₁ B hml hv
  obtain ⟨rfl, hP, hK, hD, hZ⟩ := hv
  have hx := B.exec
  have hb := B.bytes
  have hr := B.returns
  have hts := atoms_spec (ws := (Cond.code yX0_self cX0_self 4 (some .int) :: gw)) B.pre
  have hg : ∀ w ∈ gw, w.before ([.ref (ad 9), .int 3, .int p2, .int p3] : List Value).toArray s = true := fun w h => hts w (List.mem_cons_of_mem _ h)
  have hown : s.vm.findClass RX0 = some m.cls := findClass_of_methodNamed B.named
  have hlocks := B.notSynchronized
  have hS : va_S A s.heap s.heap [] := va_S.rf
  have hP : va_P D vwCl (CW cs ad fa fq rv v a w fv fp) s.heap := hP
  have hl := lv_entry ([.ref (ad 9), .int 3, .int p2, .int p3]) (n := 4) (Nat.le_of_ble_eq_true rfl)
  rw [lg_entry_eq]
  generalize (lg_sl ([.ref (ad 9), .int 3, .int p2, .int p3]) ++ List.replicate (4 - (lg_sl ([.ref (ad 9), .int 3, .int p2, .int p3])).length) Slot.unset).toArray = ls at hl ⊢
  have hl : lv_has ls 4 [(0, .ref (ad 9)), (1, .int 3), (2, .int p2), (3, .int p3)] := hl
  refine lv_aload_n hx hb dX0_self_0 rfl (lv_at hl 0 rfl) ?_
  refine lv_aload_n hx hb dX0_self_1 rfl (lv_at hl 0 rfl) ?_
  refine gf_acts_kind hx hb hg hown hK hP rfl (hg _ q1_83) dX0_self_2 ?_
  refine lv_aload_n hx hb dX0_self_5 rfl (lv_at hl 0 rfl) ?_
  refine gf_acts_number hx hb hg hown hK hP (x := (v 23)) rfl (hg _ q1_90) dX0_self_6 ?_
  refine ld_Akind hx hb hK hP (i_in (by omega) (by omega)) dX0_self_9 ?_
  refine lv_topi (fun x_1 ex_1 => ?_)
  have ex_1 : x_1 = (a 37) (v 23).toNatClampNeg := ex_1
  have hx_1 : x_1.toInt = ((a 37) (v 23).toNatClampNeg).toInt := by rw [ex_1]
  have bx_1 := ia37_0 (v 23).toNatClampNeg
  rw [← ex_1] at bx_1
  have fx_1 : x_1 = 5 := by rw [ex_1]; exact hkn
  subst fx_1
  refine lv_iload_n hx hb dX0_self_10 rfl (lv_at hl 1 rfl) ?_
  refine lv_iload_n hx hb dX0_self_11 rfl (lv_at hl 2 rfl) ?_
  refine lv_iload_n hx hb dX0_self_12 rfl (lv_at hl 3 rfl) ?_
  refine cV_i (As := [.int 5, .int 3, .int p2, .int p3]) (rest := []) ⟨hx, hb, hml, hown, hg⟩ (k_F_5_5_3 l D cs A ad fa fq rv v a w fv fp  p2 p3 hkn (show 0 ≤ (v 22).toInt by first | omega | decide) (show (v 22).toInt ≤ 14 by first | omega | decide) (show 0 ≤ p3.toInt by first | omega | decide) (show p3.toInt ≤ 32 by first | omega | decide) (show 0 ≤ (v 22).toInt by first | omega | decide) (show (v 22).toInt ≤ 1000 by first | omega | decide) (show 0 ≤ (v 23).toInt by first | omega | decide) (show (v 23).toInt ≤ 49 by first | omega | decide) ia37_0) ca_X0_from q4_139 ⟨rfl, rfl⟩ ⟨Nat.le_of_ble_eq_true rfl, Nat.le_of_ble_eq_true rfl⟩ (rc_acts hK hP) hK hP hD hS hZ rfl hl.1 rfl (Nat.le_of_ble_eq_true rfl) ⟨Nat.zero_le _, Nat.zero_le _⟩ dX0_self_13 (fun r_2 z_5 H locs wr_2 hP hD hS => ?_)
  obtain ⟨o_v22_3, o_a38_4⟩ := z_5
  have hP : va_P D vwCl (CW cs ad fa fq rv (va_up v 22 o_v22_3) (va_up a 38 o_a38_4) w fv fp) H := hP
  have hD : va_D A (CW cs ad fa fq rv (va_up v 22 o_v22_3) (va_up a 38 o_a38_4) w fv fp) := hD
  obtain ⟨wr_2_0, wr_2_1, wr_2_2, wr_2_3, wr_2_4⟩ : (o_v22_3.toInt = (v 22).toInt + 10) ∧ (o_a38_4 = TRW (a 38) (v 22).toInt.toNat [61, 2, 41, 30, 10, 1, 60, 40, 11, 1]) ∧ (r_2 = (((-(((p2 + 1) + (v 23)) * 2)) - ((((1 : Int32) ^^^ (v 23)) * 3) - ((2 : Int32) + (v 23)))) + 1)) ∧ (0 ≤ o_v22_3.toInt) ∧ (o_v22_3.toInt ≤ 1000) := wr_2
  have kt_6 : o_a38_4 = TRW (a 38) (v 22).toInt.toNat [61, 2, 41, 30, 10, 1, 60, 40, 11, 1] := by rw [wr_2_1]
  exact W.iret (v := r_2) hx hb hr (fun tt ht hW => ⟨⟨r_2, ⟨o_v22_3, o_a38_4⟩, rfl, ⟨(by first | rfl | omega | trivial | assumption | (dsimp only; first | omega | assumption)), (by (try dsimp only); first | assumption | rfl), (by simp only [wr_2_2]), (show 0 ≤ o_v22_3.toInt by first | omega | assumption), (show o_v22_3.toInt ≤ 1000 by first | omega | assumption)⟩, by rw [ht]; exact hP, hD⟩, hS.F ht⟩) hS.2.2 dX0_self_16
set_option maxHeartbeats 4000000 in
set_option maxRecDepth 100000 in
theorem k_R_x_70 (l : Launch) (D : va_G) (cs : Nat → ClassId) (A : Nat → Prop) (ad fa fq rv : Nat → Nat) (v : Nat → Int32) (a : Nat → Nat → Int32) (w : Nat → Nat → Int64) (fv fp : Nat → Nat → Int32)  (p2 : Int32) (p3 : Int32) (hr0 : 0 ≤ (v 22).toInt) (hr1 : (v 22).toInt ≤ 22) (hd0 : 0 ≤ p3.toInt) (hd1 : p3.toInt ≤ 37) (iv22_0 : 0 ≤ (v 22).toInt) (iv22_1 : (v 22).toInt ≤ 1000) (iv23_0 : 0 ≤ (v 23).toInt) (iv23_1 : (v 23).toInt ≤ 49) : Met l yX0_run (Cond.code yX0_run cX0_run 4 (some .int) :: gw) ({ frames := 2, cells := 0, slots := 0, locals := 50 }) (va_Pc [.ref (ad 9), .int 70, .int p2, .int p3] (XPre D (TY cs) (CW cs ad fa fq rv v a w fv fp) A)) (va_Qi (fun (r : Int32) (z : Int32 × (Nat → Int32)) => (z.1.toInt = (v 22).toInt + 2) ∧ (z.2 = TRW (a 38) (v 22).toInt.toNat [70, 1]) ∧ (r = ((p2 + (v 23)) * 2)) ∧ (0 ≤ z.1.toInt) ∧ (z.1.toInt ≤ 1000)) (XPo D (fun (z : Int32 × (Nat → Int32)) => CW cs ad fa fq rv (va_up v 22 z.1) (va_up a 38 z.2) w fv fp) A) A) 0 0 A := by
  refine Met.ofW (cc := cX0_run) (maxL := 4) (ret := (some .int)) (by decide) rfl ?_
  intro p e s m args below meth c s₁ B hml hv
  obtain ⟨rfl, hP, hK, hD, hZ⟩ := hv
  have hx := B.exec
  have hb := B.bytes
  have hr := B.returns
  have hts := atoms_spec (ws := (Cond.code yX0_run cX0_run 4 (some .int) :: gw)) B.pre
  have hg : ∀ w ∈ gw, w.before ([.ref (ad 9), .int 70, .int p2, .int p3] : List Value).toArray s = true := fun w h => hts w (List.mem_cons_of_mem _ h)
  have hown : s.vm.findClass RX0 = some m.cls := findClass_of_methodNamed B.named
  have hlocks := B.notSynchronized
  have hS : va_S A s.heap s.heap [] := va_S.rf
  have hP : va_P D vwCl (CW cs ad fa fq rv v a w fv fp) s.heap := hP
  have hl := lv_entry ([.ref (ad 9), .int 70, .int p2, .int p3]) (n := 4) (Nat.le_of_ble_eq_true rfl)
  rw [lg_entry_eq]
  generalize (lg_sl ([.ref (ad 9), .int 70, .int p2, .int p3]) ++ List.replicate (4 - (lg_sl ([.ref (ad 9), .int 70, .int p2, .int p3])).length) Slot.unset).toArray = ls at hl ⊢
  have hl : lv_has ls 4 [(0, .ref (ad 9)), (1, .int 70), (2, .int p2), (3, .int p3)] := hl
  refine lv_aload_n hx hb dX0_run_0 rfl (lv_at hl 0 rfl) ?_
  refine gf_acts_ran hx hb hg hown hK hP (x := (v 22)) rfl (hg _ q1_88) dX0_run_1 ?_
  refine lv_bipush (v := 24) hx hb dX0_run_4 (by decide) ?_
  refine lv_icmp_ge (tgt := 19) hx hb dX0_run_6 (by decide) (fun c_1 => ?_) (fun c_1 => ?_)
  ·
    have kc_1 : (24 : Int) ≤ (v 22).toInt := i_le c_1
    exfalso; omega
  ·
    have kc_1 : (v 22).toInt < (24 : Int) := i_nle c_1
    refine lv_aload_n hx hb dX0_run_9 rfl (lv_at hl 0 rfl) ?_
    refine gf_acts_traced hx hb hg hown hK hP rfl (hg _ q1_86) dX0_run_10 ?_
    refine lv_aload_n hx hb dX0_run_13 rfl (lv_at hl 0 rfl) ?_
    refine gf_acts_ran hx hb hg hown hK hP (x := (v 22)) rfl (hg _ q1_88) dX0_run_14 ?_
    refine lv_iload_n hx hb dX0_run_17 rfl (lv_at hl 1 rfl) ?_
    refine st_Atraced hx hb hK hP hD hS (i_in (by omega) (by omega)) dX0_run_18 (fun H locs hP hD hS => ?_)
    refine lv_aload_n hx hb dX0_run_19 rfl (lv_at hl 0 rfl) ?_
    refine lv_dup hx hb dX0_run_20 rfl ?_
    refine gf_acts_ran hx hb hg hown hK hP (x := (v 22)) rfl (hg _ q1_88) dX0_run_21 ?_
    refine lv_iconst (v := 1) hx hb dX0_run_24 (by decide) ?_
    refine lv_iadd hx hb dX0_run_25 ?_
    refine lv_topi (fun x_2 ex_2 => ?_)
    have fx_2 : x_2.toInt = (v 22).toInt + (1 : Int) := by rw [ex_2]; exact i_add (by first | omega | (show (_ : Int) ≤ (v 22).toInt + (1 : Int); omega)) (by first | omega | (show (v 22).toInt + (1 : Int) ≤ (_ : Int); omega))
    refine pf_acts_ran hx hb hg hown hK hP hD hS (hg _ q1_88) dX0_run_26 (fun H locs hP hD hS => ?_)
    refine lv_iload_n hx hb dX0_run_29 rfl (lv_at hl 1 rfl) ?_
    refine lv_lookup (tgt := 302) hx hb dX0_run_30 (by decide) (off := 272) (by decide) (by decide) ?_
    refine lv_aload_n hx hb dX0_run_302 rfl (lv_at hl 0 rfl) ?_
    obtain ⟨t0, t1, t2, ⟨a0, b0⟩, ⟨a1, b1⟩, ⟨a2, b2⟩⟩ := id hZ
    refine va_gets hx hb a2 hS hown (hg _ q4_143) (fun _ h9 => h9) dX0_run_303 ?_
    refine lv_bipush (v := 6) hx hb dX0_run_306 (by decide) ?_
    refine va_ti hx hb b2 hS (i_in (by decide) (by decide)) (v := .int 0) rfl dX0_run_308 ?_
    refine lv_iconst (v := 0) hx hb dX0_run_309 (by decide) ?_
    refine lv_iload_n hx hb dX0_run_310 rfl (lv_at hl 2 rfl) ?_
    refine lv_iload_n hx hb dX0_run_311 rfl (lv_at hl 3 rfl) ?_
    refine cV_i (As := [.int 0, .int 0, .int p2, .int p3]) (rest := []) ⟨hx, hb, hml, hown, hg⟩ (k_F_x_0_0 l D cs A ad fa fq rv (va_up v 22 x_2) (va_up a 38 (upd (a 38) (v 22).toNatClampNeg 70)) w fv fp  p2 p3 (show 0 ≤ x_2.toInt by first | omega | decide) (show x_2.toInt ≤ 23 by first | omega | decide) (show 0 ≤ p3.toInt by first | omega | decide) (show p3.toInt ≤ 37 by first | omega | decide) (show 0 ≤ x_2.toInt by first | omega | decide) (show x_2.toInt ≤ 1000 by first | omega | decide) (show 0 ≤ (v 23).toInt by first | omega | decide) (show (v 23).toInt ≤ 49 by first | omega | decide)) ca_X0_from q4_139 ⟨rfl, rfl⟩ ⟨Nat.le_of_ble_eq_true rfl, Nat.le_of_ble_eq_true rfl⟩ (rc_acts hK hP) hK hP hD hS hZ rfl hl.1 rfl (Nat.le_of_ble_eq_true rfl) ⟨Nat.zero_le _, Nat.zero_le _⟩ dX0_run_312 (fun r_4 z_7 H locs wr_4 hP hD hS => ?_)
    obtain ⟨o_v22_5, o_a38_6⟩ := z_7
    have hP : va_P D vwCl (CW cs ad fa fq rv (va_up v 22 o_v22_5) (va_up a 38 o_a38_6) w fv fp) H := hP
    have hD : va_D A (CW cs ad fa fq rv (va_up v 22 o_v22_5) (va_up a 38 o_a38_6) w fv fp) := hD
    obtain ⟨wr_4_0, wr_4_1, wr_4_2, wr_4_3, wr_4_4⟩ : (o_v22_5.toInt = x_2.toInt + 1) ∧ (o_a38_6 = TRW (upd (a 38) (v 22).toNatClampNeg 70) x_2.toInt.toNat [1]) ∧ (r_4 = (p2 + (v 23))) ∧ (0 ≤ o_v22_5.toInt) ∧ (o_v22_5.toInt ≤ 1000) := wr_4
    have kt_8 : o_a38_6 = TRW (a 38) (v 22).toInt.toNat [70, 1] := by rw [wr_4_1, show (x_2).toInt.toNat = (v 22).toInt.toNat + 1 from by omega]; rfl
    refine lv_iconst (v := 2) hx hb dX0_run_315 (by decide) ?_
    refine lv_imul hx hb dX0_run_316 ?_
    refine lv_topi (fun x_9 ex_9 => ?_)
    exact W.iret (v := x_9) hx hb hr (fun tt ht hW => ⟨⟨x_9, ⟨o_v22_5, o_a38_6⟩, rfl, ⟨(by first | rfl | omega | trivial | assumption | (dsimp only; first | omega | assumption)), (by (try dsimp only); first | assumption | rfl), (by simp only [ex_9, wr_4_2, ex_2]), (show 0 ≤ o_v22_5.toInt by first | omega | assumption), (show o_v22_5.toInt ≤ 1000 by first | omega | assumption)⟩, by rw [ht]; exact hP, hD⟩, hS.F ht⟩) hS.2.2 dX0_run_317
set_option maxHeartbeats 4000000 in
set_option maxRecDepth 100000 in
theorem k_F_x_6_0 (l : Launch) (D : va_G) (cs : Nat → ClassId) (A : Nat → Prop) (ad fa fq rv : Nat → Nat) (v : Nat → Int32) (a : Nat → Nat → Int32) (w : Nat → Nat → Int64) (fv fp : Nat → Nat → Int32)  (p3 : Int32) (p4 : Int32) (hr0 : 0 ≤ (v 22).toInt) (hr1 : (v 22).toInt ≤ 22) (hd0 : 0 ≤ p4.toInt) (hd1 : p4.toInt ≤ 36) (iv22_0 : 0 ≤ (v 22).toInt) (iv22_1 : (v 22).toInt ≤ 1000) (iv23_0 : 0 ≤ (v 23).toInt) (iv23_1 : (v 23).toInt ≤ 49) : Met l yX0_from (Cond.code yX0_from cX0_from 8 (some .int) :: gw) ({ frames := 3, cells := 0, slots := 0, locals := 73 }) (va_Pc [.ref (ad 9), .int 6, .int 0, .int p3, .int p4] (XPre D (TY cs) (CW cs ad fa fq rv v a w fv fp) A)) (va_Qi (fun (r : Int32) (z : Int32 × (Nat → Int32)) => (z.1.toInt = (v 22).toInt + 2) ∧ (z.2 = TRW (a 38) (v 22).toInt.toNat [70, 1]) ∧ (r = ((p3 + (v 23)) * 2)) ∧ (0 ≤ z.1.toInt) ∧ (z.1.toInt ≤ 1000)) (XPo D (fun (z : Int32 × (Nat → Int32)) => CW cs ad fa fq rv (va_up v 22 z.1) (va_up a 38 z.2) w fv fp) A) A) 0 0 A := by
  refine Met.ofW (cc := cX0_from) (maxL := 8) (ret := (some .int)) (by decide) rfl ?_
  intro p e s m args below meth c s₁ B hml hv
  obtain ⟨rfl, hP, hK, hD, hZ⟩ := hv
  have hx := B.exec
  have hb := B.bytes
  have hr := B.returns
  have hts := atoms_spec (ws := (Cond.code yX0_from cX0_from 8 (some .int) :: gw)) B.pre
  have hg : ∀ w ∈ gw, w.before ([.ref (ad 9), .int 6, .int 0, .int p3, .int p4] : List Value).toArray s = true := fun w h => hts w (List.mem_cons_of_mem _ h)
  have hown : s.vm.findClass RX0 = some m.cls := findClass_of_methodNamed B.named
  have hlocks := B.notSynchronized
  have hS : va_S A s.heap s.heap [] := va_S.rf
  have hP : va_P D vwCl (CW cs ad fa fq rv v a w fv fp) s.heap := hP
  have hl := lv_entry ([.ref (ad 9), .int 6, .int 0, .int p3, .int p4]) (n := 8) (Nat.le_of_ble_eq_true rfl)
  rw [lg_entry_eq]
  generalize (lg_sl ([.ref (ad 9), .int 6, .int 0, .int p3, .int p4]) ++ List.replicate (8 - (lg_sl ([.ref (ad 9), .int 6, .int 0, .int p3, .int p4])).length) Slot.unset).toArray = ls at hl ⊢
  have hl : lv_has ls 8 [(0, .ref (ad 9)), (1, .int 6), (2, .int 0), (3, .int p3), (4, .int p4)] := hl
  refine lv_iload_n hx hb dX0_from_0 rfl (lv_at hl 1 rfl) ?_
  refine lv_istore (lv' := [(5, .int 6), (0, .ref (ad 9)), (1, .int 6), (2, .int 0), (3, .int p3), (4, .int p4)]) hx hb dX0_from_1 hl (by decide) rfl (fun ls hl => ?_)
  refine lv_iconst (v := 0) hx hb dX0_from_3 (by decide) ?_
  refine lv_istore (lv' := [(6, .int 0), (5, .int 6), (0, .ref (ad 9)), (1, .int 6), (2, .int 0), (3, .int p3), (4, .int p4)]) hx hb dX0_from_4 hl (by decide) rfl (fun ls hl => ?_)
  refine lv_iload hx hb dX0_from_6 (lv_at hl 0 rfl) ?_
  obtain ⟨t0, t1, t2, ⟨a0, b0⟩, ⟨a1, b1⟩, ⟨a2, b2⟩⟩ := id hZ
  refine va_gets hx hb a2 hS hown (hg _ q4_143) (fun _ h9 => h9) dX0_from_8 ?_
  refine va_tlen hx hb b2 hS (v := 8) rfl dX0_from_11 ?_
  refine lv_icmp_ge (tgt := 73) hx hb dX0_from_12 (by decide) (fun c_1 => absurd c_1 (by decide)) (fun c_1 => ?_)
  refine lv_iload hx hb dX0_from_15 (lv_at hl 1 rfl) ?_
  refine cS_p (As := [.int 6]) (rest := []) ⟨hx, hb, hml, hown, hg⟩ (k_IK_7 l    ) ca_X0_isKind q4_145 ⟨rfl, rfl⟩ ⟨Nat.le_of_ble_eq_true rfl, Nat.le_of_ble_eq_true rfl⟩ rfl hl.1 rfl (Nat.le_of_ble_eq_true rfl) ⟨Nat.zero_le _, Nat.zero_le _⟩ dX0_from_17 (fun r_2 wr_2 => ?_)
  have wr_2 : r_2.toInt = 1 := wr_2
  refine lv_if_eq (tgt := 73) hx hb dX0_from_20 (by decide) (fun c_3 => ?_) (fun c_3 => ?_)
  ·
    have kc_3 : r_2.toInt = (0 : Int) := i_eq c_3
    exfalso; omega
  ·
    have kc_3 : r_2.toInt ≠ (0 : Int) := i_ne c_3
    refine lv_iload hx hb dX0_from_23 (lv_at hl 1 rfl) ?_
    refine lv_iload_n hx hb dX0_from_25 rfl (lv_at hl 4 rfl) ?_
    refine cS_p (As := [.int 6, .int 0]) (rest := []) ⟨hx, hb, hml, hown, hg⟩ (k_B_6_0 l    ) ca_X0_bodyOf q4_146 ⟨rfl, rfl⟩ ⟨Nat.le_of_ble_eq_true rfl, Nat.le_of_ble_eq_true rfl⟩ rfl hl.1 rfl (Nat.le_of_ble_eq_true rfl) ⟨Nat.zero_le _, Nat.zero_le _⟩ dX0_from_26 (fun r_4 wr_4 => ?_)
    have wr_4 : r_4.toInt = 70 := wr_4
    have el_5 : r_4 = 70 := i_inj (wr_4.trans (by rfl))
    subst el_5
    refine lv_istore (lv' := [(7, .int 70), (6, .int 0), (5, .int 6), (0, .ref (ad 9)), (1, .int 6), (2, .int 0), (3, .int p3), (4, .int p4)]) hx hb dX0_from_29 hl (by decide) rfl (fun ls hl => ?_)
    refine lv_iload hx hb dX0_from_31 (lv_at hl 0 rfl) ?_
    refine lv_if_eq (tgt := 59) hx hb dX0_from_33 (by decide) (fun c_6 => absurd c_6 (by decide)) (fun c_6 => ?_)
    refine lv_iload hx hb dX0_from_36 (lv_at hl 7 rfl) ?_
    refine lv_bipush (v := 40) hx hb dX0_from_38 (by decide) ?_
    refine lv_icmp_ge (tgt := 57) hx hb dX0_from_40 (by decide) (fun c_7 => ?_) (fun c_7 => ?_)
    ·
      have kc_7 : (40 : Int) ≤ p4.toInt := i_le c_7
      exfalso; omega
    ·
      have kc_7 : p4.toInt < (40 : Int) := i_nle c_7
      refine lv_aload_n hx hb dX0_from_43 rfl (lv_at hl 3 rfl) ?_
      refine lv_iload hx hb dX0_from_44 (lv_at hl 0 rfl) ?_
      refine lv_iload_n hx hb dX0_from_46 rfl (lv_at hl 6 rfl) ?_
      refine lv_iload hx hb dX0_from_47 (lv_at hl 7 rfl) ?_
      refine lv_iconst (v := 1) hx hb dX0_from_49 (by decide) ?_
      refine lv_iadd hx hb dX0_from_50 ?_
      refine lv_topi (fun x_8 ex_8 => ?_)
      have fx_8 : x_8.toInt = p4.toInt + (1 : Int) := by rw [ex_8]; exact i_add (by first | omega | (show (_ : Int) ≤ p4.toInt + (1 : Int); omega)) (by first | omega | (show p4.toInt + (1 : Int) ≤ (_ : Int); omega))
      refine cV_i (As := [.int 70, .int p3, .int x_8]) (rest := []) ⟨hx, hb, hml, hown, hg⟩ (k_R_x_70 l D cs A ad fa fq rv v a w fv fp  p3 x_8 (show 0 ≤ (v 22).toInt by first | omega | decide) (show (v 22).toInt ≤ 22 by first | omega | decide) (show 0 ≤ x_8.toInt by first | omega | decide) (show x_8.toInt ≤ 37 by first | omega | decide) (show 0 ≤ (v 22).toInt by first | omega | decide) (show (v 22).toInt ≤ 1000 by first | omega | decide) (show 0 ≤ (v 23).toInt by first | omega | decide) (show (v 23).toInt ≤ 49 by first | omega | decide)) ca_X0_run q4_149 ⟨rfl, rfl⟩ ⟨Nat.le_of_ble_eq_true rfl, Nat.le_of_ble_eq_true rfl⟩ (rc_acts hK hP) hK hP hD hS hZ rfl hl.1 rfl (Nat.le_of_ble_eq_true rfl) ⟨Nat.zero_le _, Nat.zero_le _⟩ dX0_from_51 (fun r_9 z_12 H locs wr_9 hP hD hS => ?_)
      obtain ⟨o_v22_10, o_a38_11⟩ := z_12
      have hP : va_P D vwCl (CW cs ad fa fq rv (va_up v 22 o_v22_10) (va_up a 38 o_a38_11) w fv fp) H := hP
      have hD : va_D A (CW cs ad fa fq rv (va_up v 22 o_v22_10) (va_up a 38 o_a38_11) w fv fp) := hD
      obtain ⟨wr_9_0, wr_9_1, wr_9_2, wr_9_3, wr_9_4⟩ : (o_v22_10.toInt = (v 22).toInt + 2) ∧ (o_a38_11 = TRW (a 38) (v 22).toInt.toNat [70, 1]) ∧ (r_9 = ((p3 + (v 23)) * 2)) ∧ (0 ≤ o_v22_10.toInt) ∧ (o_v22_10.toInt ≤ 1000) := wr_9
      have kt_13 : o_a38_11 = TRW (a 38) (v 22).toInt.toNat [70, 1] := by rw [wr_9_1]
      refine lv_goto (tgt := 58) hx hb dX0_from_54 (by decide) ?_
      exact W.iret (v := r_9) hx hb hr (fun tt ht hW => ⟨⟨r_9, ⟨o_v22_10, o_a38_11⟩, rfl, ⟨(by first | rfl | omega | trivial | assumption | (dsimp only; first | omega | assumption)), (by (try dsimp only); first | assumption | rfl), (by simp only [wr_9_2, ex_8]), (show 0 ≤ o_v22_10.toInt by first | omega | assumption), (show o_v22_10.toInt ≤ 1000 by first | omega | assumption)⟩, by rw [ht]; exact hP, hD⟩, hS.F ht⟩) hS.2.2 dX0_from_58
set_option maxHeartbeats 4000000 in
set_option maxRecDepth 100000 in
theorem k_S_6_0 (l : Launch) (D : va_G) (cs : Nat → ClassId) (A : Nat → Prop) (ad fa fq rv : Nat → Nat) (v : Nat → Int32) (a : Nat → Nat → Int32) (w : Nat → Nat → Int64) (fv fp : Nat → Nat → Int32)  (p2 : Int32) (p3 : Int32) (hkn : (a 37) (v 23).toNatClampNeg = 6) (hr0 : 0 ≤ (v 22).toInt) (hr1 : (v 22).toInt ≤ 22) (hd0 : 0 ≤ p3.toInt) (hd1 : p3.toInt ≤ 36) (iv23_0 : 0 ≤ (v 23).toInt) (iv23_1 : (v 23).toInt ≤ 49) (ia37_0 : AB 0 7 (a 37)) (iv22_0 : 0 ≤ (v 22).toInt) (iv22_1 : (v 22).toInt ≤ 1000) : Met l yX0_self (Cond.code yX0_self cX0_self 4 (some .int) :: gw) ({ frames := 4, cells := 0, slots := 0, locals := 100 }) (va_Pc [.ref (ad 9), .int 0, .int p2, .int p3] (XPre D (TY cs) (CW cs ad fa fq rv v a w fv fp) A)) (va_Qi (fun (r : Int32) (z : Int32 × (Nat → Int32)) => (z.1.toInt = (v 22).toInt + 2) ∧ (z.2 = TRW (a 38) (v 22).toInt.toNat [70, 1]) ∧ (r = ((p2 + (v 23)) * 2)) ∧ (0 ≤ z.1.toInt) ∧ (z.1.toInt ≤ 1000)) (XPo D (fun (z : Int32 × (Nat → Int32)) => CW cs ad fa fq rv (va_up v 22 z.1) (va_up a 38 z.2) w fv fp) A) A) 0 0 A := by
  refine Met.ofW (cc := cX0_self) (maxL := 4) (ret := (some .int)) (by decide) rfl ?_
  intro p e s m args below meth c s₁ B hml hv
  obtain ⟨rfl, hP, hK, hD, hZ⟩ := hv
  have hx := B.exec
  have hb := B.bytes
  have hr := B.returns
  have hts := atoms_spec (ws := (Cond.code yX0_self cX0_self 4 (some .int) :: gw)) B.pre
  have hg : ∀ w ∈ gw, w.before ([.ref (ad 9), .int 0, .int p2, .int p3] : List Value).toArray s = true := fun w h => hts w (List.mem_cons_of_mem _ h)
  have hown : s.vm.findClass RX0 = some m.cls := findClass_of_methodNamed B.named
  have hlocks := B.notSynchronized
  have hS : va_S A s.heap s.heap [] := va_S.rf
  have hP : va_P D vwCl (CW cs ad fa fq rv v a w fv fp) s.heap := hP
  have hl := lv_entry ([.ref (ad 9), .int 0, .int p2, .int p3]) (n := 4) (Nat.le_of_ble_eq_true rfl)
  rw [lg_entry_eq]
  generalize (lg_sl ([.ref (ad 9), .int 0, .int p2, .int p3]) ++ List.replicate (4 - (lg_sl ([.ref (ad 9), .int 0, .int p2, .int p3])).length) Slot.unset).toArray = ls at hl ⊢
  have hl : lv_has ls 4 [(0, .ref (ad 9)), (1, .int 0), (2, .int p2), (3, .int p3)] := hl
  refine lv_aload_n hx hb dX0_self_0 rfl (lv_at hl 0 rfl) ?_
  refine lv_aload_n hx hb dX0_self_1 rfl (lv_at hl 0 rfl) ?_
  refine gf_acts_kind hx hb hg hown hK hP rfl (hg _ q1_83) dX0_self_2 ?_
  refine lv_aload_n hx hb dX0_self_5 rfl (lv_at hl 0 rfl) ?_
  refine gf_acts_number hx hb hg hown hK hP (x := (v 23)) rfl (hg _ q1_90) dX0_self_6 ?_
  refine ld_Akind hx hb hK hP (i_in (by omega) (by omega)) dX0_self_9 ?_
  refine lv_topi (fun x_1 ex_1 => ?_)
  have ex_1 : x_1 = (a 37) (v 23).toNatClampNeg := ex_1
  have hx_1 : x_1.toInt = ((a 37) (v 23).toNatClampNeg).toInt := by rw [ex_1]
  have bx_1 := ia37_0 (v 23).toNatClampNeg
  rw [← ex_1] at bx_1
  have fx_1 : x_1 = 6 := by rw [ex_1]; exact hkn
  subst fx_1
  refine lv_iload_n hx hb dX0_self_10 rfl (lv_at hl 1 rfl) ?_
  refine lv_iload_n hx hb dX0_self_11 rfl (lv_at hl 2 rfl) ?_
  refine lv_iload_n hx hb dX0_self_12 rfl (lv_at hl 3 rfl) ?_
  refine cV_i (As := [.int 6, .int 0, .int p2, .int p3]) (rest := []) ⟨hx, hb, hml, hown, hg⟩ (k_F_x_6_0 l D cs A ad fa fq rv v a w fv fp  p2 p3 (show 0 ≤ (v 22).toInt by first | omega | decide) (show (v 22).toInt ≤ 22 by first | omega | decide) (show 0 ≤ p3.toInt by first | omega | decide) (show p3.toInt ≤ 36 by first | omega | decide) (show 0 ≤ (v 22).toInt by first | omega | decide) (show (v 22).toInt ≤ 1000 by first | omega | decide) (show 0 ≤ (v 23).toInt by first | omega | decide) (show (v 23).toInt ≤ 49 by first | omega | decide)) ca_X0_from q4_139 ⟨rfl, rfl⟩ ⟨Nat.le_of_ble_eq_true rfl, Nat.le_of_ble_eq_true rfl⟩ (rc_acts hK hP) hK hP hD hS hZ rfl hl.1 rfl (Nat.le_of_ble_eq_true rfl) ⟨Nat.zero_le _, Nat.zero_le _⟩ dX0_self_13 (fun r_2 z_5 H locs wr_2 hP hD hS => ?_)
  obtain ⟨o_v22_3, o_a38_4⟩ := z_5
  have hP : va_P D vwCl (CW cs ad fa fq rv (va_up v 22 o_v22_3) (va_up a 38 o_a38_4) w fv fp) H := hP
  have hD : va_D A (CW cs ad fa fq rv (va_up v 22 o_v22_3) (va_up a 38 o_a38_4) w fv fp) := hD
  obtain ⟨wr_2_0, wr_2_1, wr_2_2, wr_2_3, wr_2_4⟩ : (o_v22_3.toInt = (v 22).toInt + 2) ∧ (o_a38_4 = TRW (a 38) (v 22).toInt.toNat [70, 1]) ∧ (r_2 = ((p2 + (v 23)) * 2)) ∧ (0 ≤ o_v22_3.toInt) ∧ (o_v22_3.toInt ≤ 1000) := wr_2
  have kt_6 : o_a38_4 = TRW (a 38) (v 22).toInt.toNat [70, 1] := by rw [wr_2_1]
  exact W.iret (v := r_2) hx hb hr (fun tt ht hW => ⟨⟨r_2, ⟨o_v22_3, o_a38_4⟩, rfl, ⟨(by first | rfl | omega | trivial | assumption | (dsimp only; first | omega | assumption)), (by (try dsimp only); first | assumption | rfl), (by simp only [wr_2_2]), (show 0 ≤ o_v22_3.toInt by first | omega | assumption), (show o_v22_3.toInt ≤ 1000 by first | omega | assumption)⟩, by rw [ht]; exact hP, hD⟩, hS.F ht⟩) hS.2.2 dX0_self_16
set_option maxHeartbeats 4000000 in
set_option maxRecDepth 100000 in
theorem k_R_6_10 (l : Launch) (D : va_G) (cs : Nat → ClassId) (A : Nat → Prop) (ad fa fq rv : Nat → Nat) (v : Nat → Int32) (a : Nat → Nat → Int32) (w : Nat → Nat → Int64) (fv fp : Nat → Nat → Int32)  (p2 : Int32) (p3 : Int32) (hkn : (a 37) (v 23).toNatClampNeg = 6) (hr0 : 0 ≤ (v 22).toInt) (hr1 : (v 22).toInt ≤ 21) (hd0 : 0 ≤ p3.toInt) (hd1 : p3.toInt ≤ 36) (iv22_0 : 0 ≤ (v 22).toInt) (iv22_1 : (v 22).toInt ≤ 1000) (iv23_0 : 0 ≤ (v 23).toInt) (iv23_1 : (v 23).toInt ≤ 49) (ia37_0 : AB 0 7 (a 37)) : Met l yX0_run (Cond.code yX0_run cX0_run 4 (some .int) :: gw) ({ frames := 5, cells := 0, slots := 0, locals := 123 }) (va_Pc [.ref (ad 9), .int 10, .int p2, .int p3] (XPre D (TY cs) (CW cs ad fa fq rv v a w fv fp) A)) (va_Qi (fun (r : Int32) (z : Int32 × (Nat → Int32)) => (z.1.toInt = (v 22).toInt + 3) ∧ (z.2 = TRW (a 38) (v 22).toInt.toNat [10, 70, 1]) ∧ (r = (((p2 + (v 23)) * 2) * 2)) ∧ (0 ≤ z.1.toInt) ∧ (z.1.toInt ≤ 1000)) (XPo D (fun (z : Int32 × (Nat → Int32)) => CW cs ad fa fq rv (va_up v 22 z.1) (va_up a 38 z.2) w fv fp) A) A) 0 0 A := by
  refine Met.ofW (cc := cX0_run) (maxL := 4) (ret := (some .int)) (by decide) rfl ?_
  intro p e s m args below meth c s₁ B hml hv
  obtain ⟨rfl, hP, hK, hD, hZ⟩ := hv
  have hx := B.exec
  have hb := B.bytes
  have hr := B.returns
  have hts := atoms_spec (ws := (Cond.code yX0_run cX0_run 4 (some .int) :: gw)) B.pre
  have hg : ∀ w ∈ gw, w.before ([.ref (ad 9), .int 10, .int p2, .int p3] : List Value).toArray s = true := fun w h => hts w (List.mem_cons_of_mem _ h)
  have hown : s.vm.findClass RX0 = some m.cls := findClass_of_methodNamed B.named
  have hlocks := B.notSynchronized
  have hS : va_S A s.heap s.heap [] := va_S.rf
  have hP : va_P D vwCl (CW cs ad fa fq rv v a w fv fp) s.heap := hP
  have hl := lv_entry ([.ref (ad 9), .int 10, .int p2, .int p3]) (n := 4) (Nat.le_of_ble_eq_true rfl)
  rw [lg_entry_eq]
  generalize (lg_sl ([.ref (ad 9), .int 10, .int p2, .int p3]) ++ List.replicate (4 - (lg_sl ([.ref (ad 9), .int 10, .int p2, .int p3])).length) Slot.unset).toArray = ls at hl ⊢
  have hl : lv_has ls 4 [(0, .ref (ad 9)), (1, .int 10), (2, .int p2), (3, .int p3)] := hl
  refine lv_aload_n hx hb dX0_run_0 rfl (lv_at hl 0 rfl) ?_
  refine gf_acts_ran hx hb hg hown hK hP (x := (v 22)) rfl (hg _ q1_88) dX0_run_1 ?_
  refine lv_bipush (v := 24) hx hb dX0_run_4 (by decide) ?_
  refine lv_icmp_ge (tgt := 19) hx hb dX0_run_6 (by decide) (fun c_1 => ?_) (fun c_1 => ?_)
  ·
    have kc_1 : (24 : Int) ≤ (v 22).toInt := i_le c_1
    exfalso; omega
  ·
    have kc_1 : (v 22).toInt < (24 : Int) := i_nle c_1
    refine lv_aload_n hx hb dX0_run_9 rfl (lv_at hl 0 rfl) ?_
    refine gf_acts_traced hx hb hg hown hK hP rfl (hg _ q1_86) dX0_run_10 ?_
    refine lv_aload_n hx hb dX0_run_13 rfl (lv_at hl 0 rfl) ?_
    refine gf_acts_ran hx hb hg hown hK hP (x := (v 22)) rfl (hg _ q1_88) dX0_run_14 ?_
    refine lv_iload_n hx hb dX0_run_17 rfl (lv_at hl 1 rfl) ?_
    refine st_Atraced hx hb hK hP hD hS (i_in (by omega) (by omega)) dX0_run_18 (fun H locs hP hD hS => ?_)
    refine lv_aload_n hx hb dX0_run_19 rfl (lv_at hl 0 rfl) ?_
    refine lv_dup hx hb dX0_run_20 rfl ?_
    refine gf_acts_ran hx hb hg hown hK hP (x := (v 22)) rfl (hg _ q1_88) dX0_run_21 ?_
    refine lv_iconst (v := 1) hx hb dX0_run_24 (by decide) ?_
    refine lv_iadd hx hb dX0_run_25 ?_
    refine lv_topi (fun x_2 ex_2 => ?_)
    have fx_2 : x_2.toInt = (v 22).toInt + (1 : Int) := by rw [ex_2]; exact i_add (by first | omega | (show (_ : Int) ≤ (v 22).toInt + (1 : Int); omega)) (by first | omega | (show (v 22).toInt + (1 : Int) ≤ (_ : Int); omega))
    refine pf_acts_ran hx hb hg hown hK hP hD hS (hg _ q1_88) dX0_run_26 (fun H locs hP hD hS => ?_)
    refine lv_iload_n hx hb dX0_run_29 rfl (lv_at hl 1 rfl) ?_
    refine lv_lookup (tgt := 175) hx hb dX0_run_30 (by decide) (off := 145) (by decide) (by decide) ?_
    refine lv_aload_n hx hb dX0_run_175 rfl (lv_at hl 0 rfl) ?_
    refine lv_iconst (v := 0) hx hb dX0_run_176 (by decide) ?_
    refine lv_iload_n hx hb dX0_run_177 rfl (lv_at hl 2 rfl) ?_
    refine lv_iload_n hx hb dX0_run_178 rfl (lv_at hl 3 rfl) ?_
    refine cV_i (As := [.int 0, .int p2, .int p3]) (rest := []) ⟨hx, hb, hml, hown, hg⟩ (k_S_6_0 l D cs A ad fa fq rv (va_up v 22 x_2) (va_up a 38 (upd (a 38) (v 22).toNatClampNeg 10)) w fv fp  p2 p3 hkn (show 0 ≤ x_2.toInt by first | omega | decide) (show x_2.toInt ≤ 22 by first | omega | decide) (show 0 ≤ p3.toInt by first | omega | decide) (show p3.toInt ≤ 36 by first | omega | decide) (show 0 ≤ (v 23).toInt by first | omega | decide) (show (v 23).toInt ≤ 49 by first | omega | decide) ia37_0 (show 0 ≤ x_2.toInt by first | omega | decide) (show x_2.toInt ≤ 1000 by first | omega | decide)) ca_X0_self q4_135 ⟨rfl, rfl⟩ ⟨Nat.le_of_ble_eq_true rfl, Nat.le_of_ble_eq_true rfl⟩ (rc_acts hK hP) hK hP hD hS hZ rfl hl.1 rfl (Nat.le_of_ble_eq_true rfl) ⟨Nat.zero_le _, Nat.zero_le _⟩ dX0_run_179 (fun r_4 z_7 H locs wr_4 hP hD hS => ?_)
    obtain ⟨o_v22_5, o_a38_6⟩ := z_7
    have hP : va_P D vwCl (CW cs ad fa fq rv (va_up v 22 o_v22_5) (va_up a 38 o_a38_6) w fv fp) H := hP
    have hD : va_D A (CW cs ad fa fq rv (va_up v 22 o_v22_5) (va_up a 38 o_a38_6) w fv fp) := hD
    obtain ⟨wr_4_0, wr_4_1, wr_4_2, wr_4_3, wr_4_4⟩ : (o_v22_5.toInt = x_2.toInt + 2) ∧ (o_a38_6 = TRW (upd (a 38) (v 22).toNatClampNeg 10) x_2.toInt.toNat [70, 1]) ∧ (r_4 = ((p2 + (v 23)) * 2)) ∧ (0 ≤ o_v22_5.toInt) ∧ (o_v22_5.toInt ≤ 1000) := wr_4
    have kt_8 : o_a38_6 = TRW (a 38) (v 22).toInt.toNat [10, 70, 1] := by rw [wr_4_1, show (x_2).toInt.toNat = (v 22).toInt.toNat + 1 from by omega]; rfl
    refine lv_iconst (v := 2) hx hb dX0_run_182 (by decide) ?_
    refine lv_imul hx hb dX0_run_183 ?_
    refine lv_topi (fun x_9 ex_9 => ?_)
    exact W.iret (v := x_9) hx hb hr (fun tt ht hW => ⟨⟨x_9, ⟨o_v22_5, o_a38_6⟩, rfl, ⟨(by first | rfl | omega | trivial | assumption | (dsimp only; first | omega | assumption)), (by (try dsimp only); first | assumption | rfl), (by simp only [ex_9, wr_4_2, ex_2]), (show 0 ≤ o_v22_5.toInt by first | omega | assumption), (show o_v22_5.toInt ≤ 1000 by first | omega | assumption)⟩, by rw [ht]; exact hP, hD⟩, hS.F ht⟩) hS.2.2 dX0_run_184
set_option maxHeartbeats 4000000 in
set_option maxRecDepth 100000 in
theorem k_F_6_6_1 (l : Launch) (D : va_G) (cs : Nat → ClassId) (A : Nat → Prop) (ad fa fq rv : Nat → Nat) (v : Nat → Int32) (a : Nat → Nat → Int32) (w : Nat → Nat → Int64) (fv fp : Nat → Nat → Int32)  (p3 : Int32) (p4 : Int32) (hkn : (a 37) (v 23).toNatClampNeg = 6) (hr0 : 0 ≤ (v 22).toInt) (hr1 : (v 22).toInt ≤ 21) (hd0 : 0 ≤ p4.toInt) (hd1 : p4.toInt ≤ 35) (iv22_0 : 0 ≤ (v 22).toInt) (iv22_1 : (v 22).toInt ≤ 1000) (iv23_0 : 0 ≤ (v 23).toInt) (iv23_1 : (v 23).toInt ≤ 49) (ia37_0 : AB 0 7 (a 37)) : Met l yX0_from (Cond.code yX0_from cX0_from 8 (some .int) :: gw) ({ frames := 6, cells := 0, slots := 0, locals := 146 }) (va_Pc [.ref (ad 9), .int 6, .int 1, .int p3, .int p4] (XPre D (TY cs) (CW cs ad fa fq rv v a w fv fp) A)) (va_Qi (fun (r : Int32) (z : Int32 × (Nat → Int32)) => (z.1.toInt = (v 22).toInt + 3) ∧ (z.2 = TRW (a 38) (v 22).toInt.toNat [10, 70, 1]) ∧ (r = (((p3 + (v 23)) * 2) * 2)) ∧ (0 ≤ z.1.toInt) ∧ (z.1.toInt ≤ 1000)) (XPo D (fun (z : Int32 × (Nat → Int32)) => CW cs ad fa fq rv (va_up v 22 z.1) (va_up a 38 z.2) w fv fp) A) A) 0 0 A := by
  refine Met.ofW (cc := cX0_from) (maxL := 8) (ret := (some .int)) (by decide) rfl ?_
  intro p e s m args below meth c s₁ B hml hv
  obtain ⟨rfl, hP, hK, hD, hZ⟩ := hv
  have hx := B.exec
  have hb := B.bytes
  have hr := B.returns
  have hts := atoms_spec (ws := (Cond.code yX0_from cX0_from 8 (some .int) :: gw)) B.pre
  have hg : ∀ w ∈ gw, w.before ([.ref (ad 9), .int 6, .int 1, .int p3, .int p4] : List Value).toArray s = true := fun w h => hts w (List.mem_cons_of_mem _ h)
  have hown : s.vm.findClass RX0 = some m.cls := findClass_of_methodNamed B.named
  have hlocks := B.notSynchronized
  have hS : va_S A s.heap s.heap [] := va_S.rf
  have hP : va_P D vwCl (CW cs ad fa fq rv v a w fv fp) s.heap := hP
  have hl := lv_entry ([.ref (ad 9), .int 6, .int 1, .int p3, .int p4]) (n := 8) (Nat.le_of_ble_eq_true rfl)
  rw [lg_entry_eq]
  generalize (lg_sl ([.ref (ad 9), .int 6, .int 1, .int p3, .int p4]) ++ List.replicate (8 - (lg_sl ([.ref (ad 9), .int 6, .int 1, .int p3, .int p4])).length) Slot.unset).toArray = ls at hl ⊢
  have hl : lv_has ls 8 [(0, .ref (ad 9)), (1, .int 6), (2, .int 1), (3, .int p3), (4, .int p4)] := hl
  refine lv_iload_n hx hb dX0_from_0 rfl (lv_at hl 1 rfl) ?_
  refine lv_istore (lv' := [(5, .int 6), (0, .ref (ad 9)), (1, .int 6), (2, .int 1), (3, .int p3), (4, .int p4)]) hx hb dX0_from_1 hl (by decide) rfl (fun ls hl => ?_)
  refine lv_iconst (v := 0) hx hb dX0_from_3 (by decide) ?_
  refine lv_istore (lv' := [(6, .int 0), (5, .int 6), (0, .ref (ad 9)), (1, .int 6), (2, .int 1), (3, .int p3), (4, .int p4)]) hx hb dX0_from_4 hl (by decide) rfl (fun ls hl => ?_)
  refine lv_iload hx hb dX0_from_6 (lv_at hl 0 rfl) ?_
  obtain ⟨t0, t1, t2, ⟨a0, b0⟩, ⟨a1, b1⟩, ⟨a2, b2⟩⟩ := id hZ
  refine va_gets hx hb a2 hS hown (hg _ q4_143) (fun _ h9 => h9) dX0_from_8 ?_
  refine va_tlen hx hb b2 hS (v := 8) rfl dX0_from_11 ?_
  refine lv_icmp_ge (tgt := 73) hx hb dX0_from_12 (by decide) (fun c_1 => absurd c_1 (by decide)) (fun c_1 => ?_)
  refine lv_iload hx hb dX0_from_15 (lv_at hl 1 rfl) ?_
  refine cS_p (As := [.int 6]) (rest := []) ⟨hx, hb, hml, hown, hg⟩ (k_IK_7 l    ) ca_X0_isKind q4_145 ⟨rfl, rfl⟩ ⟨Nat.le_of_ble_eq_true rfl, Nat.le_of_ble_eq_true rfl⟩ rfl hl.1 rfl (Nat.le_of_ble_eq_true rfl) ⟨Nat.zero_le _, Nat.zero_le _⟩ dX0_from_17 (fun r_2 wr_2 => ?_)
  have wr_2 : r_2.toInt = 1 := wr_2
  refine lv_if_eq (tgt := 73) hx hb dX0_from_20 (by decide) (fun c_3 => ?_) (fun c_3 => ?_)
  ·
    have kc_3 : r_2.toInt = (0 : Int) := i_eq c_3
    exfalso; omega
  ·
    have kc_3 : r_2.toInt ≠ (0 : Int) := i_ne c_3
    refine lv_iload hx hb dX0_from_23 (lv_at hl 1 rfl) ?_
    refine lv_iload_n hx hb dX0_from_25 rfl (lv_at hl 4 rfl) ?_
    refine cS_p (As := [.int 6, .int 1]) (rest := []) ⟨hx, hb, hml, hown, hg⟩ (k_B_6_1 l    ) ca_X0_bodyOf q4_146 ⟨rfl, rfl⟩ ⟨Nat.le_of_ble_eq_true rfl, Nat.le_of_ble_eq_true rfl⟩ rfl hl.1 rfl (Nat.le_of_ble_eq_true rfl) ⟨Nat.zero_le _, Nat.zero_le _⟩ dX0_from_26 (fun r_4 wr_4 => ?_)
    have wr_4 : r_4.toInt = 0 := wr_4
    have el_5 : r_4 = 0 := i_inj (wr_4.trans (by rfl))
    subst el_5
    refine lv_istore (lv' := [(7, .int 0), (6, .int 0), (5, .int 6), (0, .ref (ad 9)), (1, .int 6), (2, .int 1), (3, .int p3), (4, .int p4)]) hx hb dX0_from_29 hl (by decide) rfl (fun ls hl => ?_)
    refine lv_iload hx hb dX0_from_31 (lv_at hl 0 rfl) ?_
    refine lv_if_eq (tgt := 59) hx hb dX0_from_33 (by decide) (fun c_6 => ?_) (fun c_6 => absurd c_6 (by decide))
    obtain ⟨t0, t1, t2, ⟨a0, b0⟩, ⟨a1, b1⟩, ⟨a2, b2⟩⟩ := id hZ
    refine va_gets hx hb a2 hS hown (hg _ q4_143) (fun _ h9 => h9) dX0_from_59 ?_
    refine lv_iload hx hb dX0_from_62 (lv_at hl 2 rfl) ?_
    refine va_ti hx hb b2 hS (i_in (by decide) (by decide)) (v := .int 0) rfl dX0_from_64 ?_
    refine lv_istore (lv' := [(5, .int 0), (7, .int 0), (6, .int 0), (0, .ref (ad 9)), (1, .int 6), (2, .int 1), (3, .int p3), (4, .int p4)]) hx hb dX0_from_65 hl (by decide) rfl (fun ls hl => ?_)
    obtain ⟨x_7, ex_7⟩ : ∃ y : Int32, y = 0 + 1 := ⟨_, rfl⟩
    have fx_7 : x_7.toInt = (0 : Int) + 1 := by rw [ex_7]; exact i_add (by first | omega | (show (_ : Int) ≤ (0 : Int) + 1; omega)) (by first | omega | (show (0 : Int) + 1 ≤ (_ : Int); omega))
    refine lv_iinc (v := x_7) (lv' := [(6, .int x_7), (5, .int 0), (7, .int 0), (0, .ref (ad 9)), (1, .int 6), (2, .int 1), (3, .int p3), (4, .int p4)]) hx hb dX0_from_67 hl (k := 2) rfl (by rw [ex_7]; rfl) (by decide) rfl (fun ls hl => ?_)
    refine lv_goto (tgt := 6) hx hb dX0_from_70 (by decide) ?_
    refine lv_iload hx hb dX0_from_6 (lv_at hl 0 rfl) ?_
    obtain ⟨t0, t1, t2, ⟨a0, b0⟩, ⟨a1, b1⟩, ⟨a2, b2⟩⟩ := id hZ
    refine va_gets hx hb a2 hS hown (hg _ q4_143) (fun _ h9 => h9) dX0_from_8 ?_
    refine va_tlen hx hb b2 hS (v := 8) rfl dX0_from_11 ?_
    refine lv_icmp_ge (tgt := 73) hx hb dX0_from_12 (by decide) (fun c_8 => ?_) (fun c_8 => ?_)
    ·
      have kc_8 : (8 : Int) ≤ x_7.toInt := i_le c_8
      exfalso; omega
    ·
      have kc_8 : x_7.toInt < (8 : Int) := i_nle c_8
      refine lv_iload hx hb dX0_from_15 (lv_at hl 1 rfl) ?_
      refine cS_p (As := [.int 0]) (rest := []) ⟨hx, hb, hml, hown, hg⟩ (k_IK_1 l    ) ca_X0_isKind q4_145 ⟨rfl, rfl⟩ ⟨Nat.le_of_ble_eq_true rfl, Nat.le_of_ble_eq_true rfl⟩ rfl hl.1 rfl (Nat.le_of_ble_eq_true rfl) ⟨Nat.zero_le _, Nat.zero_le _⟩ dX0_from_17 (fun r_9 wr_9 => ?_)
      have wr_9 : r_9.toInt = 1 := wr_9
      refine lv_if_eq (tgt := 73) hx hb dX0_from_20 (by decide) (fun c_10 => ?_) (fun c_10 => ?_)
      ·
        have kc_10 : r_9.toInt = (0 : Int) := i_eq c_10
        exfalso; omega
      ·
        have kc_10 : r_9.toInt ≠ (0 : Int) := i_ne c_10
        refine lv_iload hx hb dX0_from_23 (lv_at hl 1 rfl) ?_
        refine lv_iload_n hx hb dX0_from_25 rfl (lv_at hl 5 rfl) ?_
        refine cS_p (As := [.int 0, .int 1]) (rest := []) ⟨hx, hb, hml, hown, hg⟩ (k_B_0_1 l    ) ca_X0_bodyOf q4_146 ⟨rfl, rfl⟩ ⟨Nat.le_of_ble_eq_true rfl, Nat.le_of_ble_eq_true rfl⟩ rfl hl.1 rfl (Nat.le_of_ble_eq_true rfl) ⟨Nat.zero_le _, Nat.zero_le _⟩ dX0_from_26 (fun r_11 wr_11 => ?_)
        have wr_11 : r_11.toInt = 10 := wr_11
        have el_12 : r_11 = 10 := i_inj (wr_11.trans (by rfl))
        subst el_12
        refine lv_istore (lv' := [(7, .int 10), (6, .int x_7), (5, .int 0), (0, .ref (ad 9)), (1, .int 6), (2, .int 1), (3, .int p3), (4, .int p4)]) hx hb dX0_from_29 hl (by decide) rfl (fun ls hl => ?_)
        refine lv_iload hx hb dX0_from_31 (lv_at hl 0 rfl) ?_
        refine lv_if_eq (tgt := 59) hx hb dX0_from_33 (by decide) (fun c_13 => absurd c_13 (by decide)) (fun c_13 => ?_)
        refine lv_iload hx hb dX0_from_36 (lv_at hl 7 rfl) ?_
        refine lv_bipush (v := 40) hx hb dX0_from_38 (by decide) ?_
        refine lv_icmp_ge (tgt := 57) hx hb dX0_from_40 (by decide) (fun c_14 => ?_) (fun c_14 => ?_)
        ·
          have kc_14 : (40 : Int) ≤ p4.toInt := i_le c_14
          exfalso; omega
        ·
          have kc_14 : p4.toInt < (40 : Int) := i_nle c_14
          refine lv_aload_n hx hb dX0_from_43 rfl (lv_at hl 3 rfl) ?_
          refine lv_iload hx hb dX0_from_44 (lv_at hl 0 rfl) ?_
          refine lv_iload_n hx hb dX0_from_46 rfl (lv_at hl 6 rfl) ?_
          refine lv_iload hx hb dX0_from_47 (lv_at hl 7 rfl) ?_
          refine lv_iconst (v := 1) hx hb dX0_from_49 (by decide) ?_
          refine lv_iadd hx hb dX0_from_50 ?_
          refine lv_topi (fun x_15 ex_15 => ?_)
          have fx_15 : x_15.toInt = p4.toInt + (1 : Int) := by rw [ex_15]; exact i_add (by first | omega | (show (_ : Int) ≤ p4.toInt + (1 : Int); omega)) (by first | omega | (show p4.toInt + (1 : Int) ≤ (_ : Int); omega))
          refine cV_i (As := [.int 10, .int p3, .int x_15]) (rest := []) ⟨hx, hb, hml, hown, hg⟩ (k_R_6_10 l D cs A ad fa fq rv v a w fv fp  p3 x_15 hkn (show 0 ≤ (v 22).toInt by first | omega | decide) (show (v 22).toInt ≤ 21 by first | omega | decide) (show 0 ≤ x_15.toInt by first | omega | decide) (show x_15.toInt ≤ 36 by first | omega | decide) (show 0 ≤ (v 22).toInt by first | omega | decide) (show (v 22).toInt ≤ 1000 by first | omega | decide) (show 0 ≤ (v 23).toInt by first | omega | decide) (show (v 23).toInt ≤ 49 by first | omega | decide) ia37_0) ca_X0_run q4_149 ⟨rfl, rfl⟩ ⟨Nat.le_of_ble_eq_true rfl, Nat.le_of_ble_eq_true rfl⟩ (rc_acts hK hP) hK hP hD hS hZ rfl hl.1 rfl (Nat.le_of_ble_eq_true rfl) ⟨Nat.zero_le _, Nat.zero_le _⟩ dX0_from_51 (fun r_16 z_19 H locs wr_16 hP hD hS => ?_)
          obtain ⟨o_v22_17, o_a38_18⟩ := z_19
          have hP : va_P D vwCl (CW cs ad fa fq rv (va_up v 22 o_v22_17) (va_up a 38 o_a38_18) w fv fp) H := hP
          have hD : va_D A (CW cs ad fa fq rv (va_up v 22 o_v22_17) (va_up a 38 o_a38_18) w fv fp) := hD
          obtain ⟨wr_16_0, wr_16_1, wr_16_2, wr_16_3, wr_16_4⟩ : (o_v22_17.toInt = (v 22).toInt + 3) ∧ (o_a38_18 = TRW (a 38) (v 22).toInt.toNat [10, 70, 1]) ∧ (r_16 = (((p3 + (v 23)) * 2) * 2)) ∧ (0 ≤ o_v22_17.toInt) ∧ (o_v22_17.toInt ≤ 1000) := wr_16
          have kt_20 : o_a38_18 = TRW (a 38) (v 22).toInt.toNat [10, 70, 1] := by rw [wr_16_1]
          refine lv_goto (tgt := 58) hx hb dX0_from_54 (by decide) ?_
          exact W.iret (v := r_16) hx hb hr (fun tt ht hW => ⟨⟨r_16, ⟨o_v22_17, o_a38_18⟩, rfl, ⟨(by first | rfl | omega | trivial | assumption | (dsimp only; first | omega | assumption)), (by (try dsimp only); first | assumption | rfl), (by simp only [wr_16_2, ex_15]), (show 0 ≤ o_v22_17.toInt by first | omega | assumption), (show o_v22_17.toInt ≤ 1000 by first | omega | assumption)⟩, by rw [ht]; exact hP, hD⟩, hS.F ht⟩) hS.2.2 dX0_from_58
set_option maxHeartbeats 4000000 in
set_option maxRecDepth 100000 in
theorem k_S_6_1 (l : Launch) (D : va_G) (cs : Nat → ClassId) (A : Nat → Prop) (ad fa fq rv : Nat → Nat) (v : Nat → Int32) (a : Nat → Nat → Int32) (w : Nat → Nat → Int64) (fv fp : Nat → Nat → Int32)  (p2 : Int32) (p3 : Int32) (hkn : (a 37) (v 23).toNatClampNeg = 6) (hr0 : 0 ≤ (v 22).toInt) (hr1 : (v 22).toInt ≤ 21) (hd0 : 0 ≤ p3.toInt) (hd1 : p3.toInt ≤ 35) (iv23_0 : 0 ≤ (v 23).toInt) (iv23_1 : (v 23).toInt ≤ 49) (ia37_0 : AB 0 7 (a 37)) (iv22_0 : 0 ≤ (v 22).toInt) (iv22_1 : (v 22).toInt ≤ 1000) : Met l yX0_self (Cond.code yX0_self cX0_self 4 (some .int) :: gw) ({ frames := 7, cells := 0, slots := 0, locals := 173 }) (va_Pc [.ref (ad 9), .int 1, .int p2, .int p3] (XPre D (TY cs) (CW cs ad fa fq rv v a w fv fp) A)) (va_Qi (fun (r : Int32) (z : Int32 × (Nat → Int32)) => (z.1.toInt = (v 22).toInt + 3) ∧ (z.2 = TRW (a 38) (v 22).toInt.toNat [10, 70, 1]) ∧ (r = (((p2 + (v 23)) * 2) * 2)) ∧ (0 ≤ z.1.toInt) ∧ (z.1.toInt ≤ 1000)) (XPo D (fun (z : Int32 × (Nat → Int32)) => CW cs ad fa fq rv (va_up v 22 z.1) (va_up a 38 z.2) w fv fp) A) A) 0 0 A := by
  refine Met.ofW (cc := cX0_self) (maxL := 4) (ret := (some .int)) (by decide) rfl ?_
  intro p e s m args below meth c s₁ B hml hv
  obtain ⟨rfl, hP, hK, hD, hZ⟩ := hv
  have hx := B.exec
  have hb := B.bytes
  have hr := B.returns
  have hts := atoms_spec (ws := (Cond.code yX0_self cX0_self 4 (some .int) :: gw)) B.pre
  have hg : ∀ w ∈ gw, w.before ([.ref (ad 9), .int 1, .int p2, .int p3] : List Value).toArray s = true := fun w h => hts w (List.mem_cons_of_mem _ h)
  have hown : s.vm.findClass RX0 = some m.cls := findClass_of_methodNamed B.named
  have hlocks := B.notSynchronized
  have hS : va_S A s.heap s.heap [] := va_S.rf
  have hP : va_P D vwCl (CW cs ad fa fq rv v a w fv fp) s.heap := hP
  have hl := lv_entry ([.ref (ad 9), .int 1, .int p2, .int p3]) (n := 4) (Nat.le_of_ble_eq_true rfl)
  rw [lg_entry_eq]
  generalize (lg_sl ([.ref (ad 9), .int 1, .int p2, .int p3]) ++ List.replicate (4 - (lg_sl ([.ref (ad 9), .int 1, .int p2, .int p3])).length) Slot.unset).toArray = ls at hl ⊢
  have hl : lv_has ls 4 [(0, .ref (ad 9)), (1, .int 1), (2, .int p2), (3, .int p3)] := hl
  refine lv_aload_n hx hb dX0_self_0 rfl (lv_at hl 0 rfl) ?_
  refine lv_aload_n hx hb dX0_self_1 rfl (lv_at hl 0 rfl) ?_
  refine gf_acts_kind hx hb hg hown hK hP rfl (hg _ q1_83) dX0_self_2 ?_
  refine lv_aload_n hx hb dX0_self_5 rfl (lv_at hl 0 rfl) ?_
  refine gf_acts_number hx hb hg hown hK hP (x := (v 23)) rfl (hg _ q1_90) dX0_self_6 ?_
  refine ld_Akind hx hb hK hP (i_in (by omega) (by omega)) dX0_self_9 ?_
  refine lv_topi (fun x_1 ex_1 => ?_)
  have ex_1 : x_1 = (a 37) (v 23).toNatClampNeg := ex_1
  have hx_1 : x_1.toInt = ((a 37) (v 23).toNatClampNeg).toInt := by rw [ex_1]
  have bx_1 := ia37_0 (v 23).toNatClampNeg
  rw [← ex_1] at bx_1
  have fx_1 : x_1 = 6 := by rw [ex_1]; exact hkn
  subst fx_1
  refine lv_iload_n hx hb dX0_self_10 rfl (lv_at hl 1 rfl) ?_
  refine lv_iload_n hx hb dX0_self_11 rfl (lv_at hl 2 rfl) ?_
  refine lv_iload_n hx hb dX0_self_12 rfl (lv_at hl 3 rfl) ?_
  refine cV_i (As := [.int 6, .int 1, .int p2, .int p3]) (rest := []) ⟨hx, hb, hml, hown, hg⟩ (k_F_6_6_1 l D cs A ad fa fq rv v a w fv fp  p2 p3 hkn (show 0 ≤ (v 22).toInt by first | omega | decide) (show (v 22).toInt ≤ 21 by first | omega | decide) (show 0 ≤ p3.toInt by first | omega | decide) (show p3.toInt ≤ 35 by first | omega | decide) (show 0 ≤ (v 22).toInt by first | omega | decide) (show (v 22).toInt ≤ 1000 by first | omega | decide) (show 0 ≤ (v 23).toInt by first | omega | decide) (show (v 23).toInt ≤ 49 by first | omega | decide) ia37_0) ca_X0_from q4_139 ⟨rfl, rfl⟩ ⟨Nat.le_of_ble_eq_true rfl, Nat.le_of_ble_eq_true rfl⟩ (rc_acts hK hP) hK hP hD hS hZ rfl hl.1 rfl (Nat.le_of_ble_eq_true rfl) ⟨Nat.zero_le _, Nat.zero_le _⟩ dX0_self_13 (fun r_2 z_5 H locs wr_2 hP hD hS => ?_)
  obtain ⟨o_v22_3, o_a38_4⟩ := z_5
  have hP : va_P D vwCl (CW cs ad fa fq rv (va_up v 22 o_v22_3) (va_up a 38 o_a38_4) w fv fp) H := hP
  have hD : va_D A (CW cs ad fa fq rv (va_up v 22 o_v22_3) (va_up a 38 o_a38_4) w fv fp) := hD
  obtain ⟨wr_2_0, wr_2_1, wr_2_2, wr_2_3, wr_2_4⟩ : (o_v22_3.toInt = (v 22).toInt + 3) ∧ (o_a38_4 = TRW (a 38) (v 22).toInt.toNat [10, 70, 1]) ∧ (r_2 = (((p2 + (v 23)) * 2) * 2)) ∧ (0 ≤ o_v22_3.toInt) ∧ (o_v22_3.toInt ≤ 1000) := wr_2
  have kt_6 : o_a38_4 = TRW (a 38) (v 22).toInt.toNat [10, 70, 1] := by rw [wr_2_1]
  exact W.iret (v := r_2) hx hb hr (fun tt ht hW => ⟨⟨r_2, ⟨o_v22_3, o_a38_4⟩, rfl, ⟨(by first | rfl | omega | trivial | assumption | (dsimp only; first | omega | assumption)), (by (try dsimp only); first | assumption | rfl), (by simp only [wr_2_2]), (show 0 ≤ o_v22_3.toInt by first | omega | assumption), (show o_v22_3.toInt ≤ 1000 by first | omega | assumption)⟩, by rw [ht]; exact hP, hD⟩, hS.F ht⟩) hS.2.2 dX0_self_16
set_option maxHeartbeats 4000000 in
set_option maxRecDepth 100000 in
theorem k_F_x_6_2 (l : Launch) (D : va_G) (cs : Nat → ClassId) (A : Nat → Prop) (ad fa fq rv : Nat → Nat) (v : Nat → Int32) (a : Nat → Nat → Int32) (w : Nat → Nat → Int64) (fv fp : Nat → Nat → Int32)  (p3 : Int32) (p4 : Int32) (hr0 : 0 ≤ (v 22).toInt) (hr1 : (v 22).toInt ≤ 23) (hd0 : 0 ≤ p4.toInt) (hd1 : p4.toInt ≤ 37) (iv22_0 : 0 ≤ (v 22).toInt) (iv22_1 : (v 22).toInt ≤ 1000) (iv23_0 : 0 ≤ (v 23).toInt) (iv23_1 : (v 23).toInt ≤ 49) : Met l yX0_from (Cond.code yX0_from cX0_from 8 (some .int) :: gw) ({ frames := 1, cells := 0, slots := 0, locals := 23 }) (va_Pc [.ref (ad 9), .int 6, .int 2, .int p3, .int p4] (XPre D (TY cs) (CW cs ad fa fq rv v a w fv fp) A)) (va_Qi (fun (r : Int32) (z : Int32 × (Nat → Int32)) => (z.1.toInt = (v 22).toInt + 1) ∧ (z.2 = TRW (a 38) (v 22).toInt.toNat [11]) ∧ (r = (p3 ^^^ (v 23))) ∧ (0 ≤ z.1.toInt) ∧ (z.1.toInt ≤ 1000)) (XPo D (fun (z : Int32 × (Nat → Int32)) => CW cs ad fa fq rv (va_up v 22 z.1) (va_up a 38 z.2) w fv fp) A) A) 0 0 A := by
  refine Met.ofW (cc := cX0_from) (maxL := 8) (ret := (some .int)) (by decide) rfl ?_
  intro p e s m args below meth c s₁ B hml hv
  obtain ⟨rfl, hP, hK, hD, hZ⟩ := hv
  have hx := B.exec
  have hb := B.bytes
  have hr := B.returns
  have hts := atoms_spec (ws := (Cond.code yX0_from cX0_from 8 (some .int) :: gw)) B.pre
  have hg : ∀ w ∈ gw, w.before ([.ref (ad 9), .int 6, .int 2, .int p3, .int p4] : List Value).toArray s = true := fun w h => hts w (List.mem_cons_of_mem _ h)
  have hown : s.vm.findClass RX0 = some m.cls := findClass_of_methodNamed B.named
  have hlocks := B.notSynchronized
  have hS : va_S A s.heap s.heap [] := va_S.rf
  have hP : va_P D vwCl (CW cs ad fa fq rv v a w fv fp) s.heap := hP
  have hl := lv_entry ([.ref (ad 9), .int 6, .int 2, .int p3, .int p4]) (n := 8) (Nat.le_of_ble_eq_true rfl)
  rw [lg_entry_eq]
  generalize (lg_sl ([.ref (ad 9), .int 6, .int 2, .int p3, .int p4]) ++ List.replicate (8 - (lg_sl ([.ref (ad 9), .int 6, .int 2, .int p3, .int p4])).length) Slot.unset).toArray = ls at hl ⊢
  have hl : lv_has ls 8 [(0, .ref (ad 9)), (1, .int 6), (2, .int 2), (3, .int p3), (4, .int p4)] := hl
  refine lv_iload_n hx hb dX0_from_0 rfl (lv_at hl 1 rfl) ?_
  refine lv_istore (lv' := [(5, .int 6), (0, .ref (ad 9)), (1, .int 6), (2, .int 2), (3, .int p3), (4, .int p4)]) hx hb dX0_from_1 hl (by decide) rfl (fun ls hl => ?_)
  refine lv_iconst (v := 0) hx hb dX0_from_3 (by decide) ?_
  refine lv_istore (lv' := [(6, .int 0), (5, .int 6), (0, .ref (ad 9)), (1, .int 6), (2, .int 2), (3, .int p3), (4, .int p4)]) hx hb dX0_from_4 hl (by decide) rfl (fun ls hl => ?_)
  refine lv_iload hx hb dX0_from_6 (lv_at hl 0 rfl) ?_
  obtain ⟨t0, t1, t2, ⟨a0, b0⟩, ⟨a1, b1⟩, ⟨a2, b2⟩⟩ := id hZ
  refine va_gets hx hb a2 hS hown (hg _ q4_143) (fun _ h9 => h9) dX0_from_8 ?_
  refine va_tlen hx hb b2 hS (v := 8) rfl dX0_from_11 ?_
  refine lv_icmp_ge (tgt := 73) hx hb dX0_from_12 (by decide) (fun c_1 => absurd c_1 (by decide)) (fun c_1 => ?_)
  refine lv_iload hx hb dX0_from_15 (lv_at hl 1 rfl) ?_
  refine cS_p (As := [.int 6]) (rest := []) ⟨hx, hb, hml, hown, hg⟩ (k_IK_7 l    ) ca_X0_isKind q4_145 ⟨rfl, rfl⟩ ⟨Nat.le_of_ble_eq_true rfl, Nat.le_of_ble_eq_true rfl⟩ rfl hl.1 rfl (Nat.le_of_ble_eq_true rfl) ⟨Nat.zero_le _, Nat.zero_le _⟩ dX0_from_17 (fun r_2 wr_2 => ?_)
  have wr_2 : r_2.toInt = 1 := wr_2
  refine lv_if_eq (tgt := 73) hx hb dX0_from_20 (by decide) (fun c_3 => ?_) (fun c_3 => ?_)
  ·
    have kc_3 : r_2.toInt = (0 : Int) := i_eq c_3
    exfalso; omega
  ·
    have kc_3 : r_2.toInt ≠ (0 : Int) := i_ne c_3
    refine lv_iload hx hb dX0_from_23 (lv_at hl 1 rfl) ?_
    refine lv_iload_n hx hb dX0_from_25 rfl (lv_at hl 4 rfl) ?_
    refine cS_p (As := [.int 6, .int 2]) (rest := []) ⟨hx, hb, hml, hown, hg⟩ (k_B_6_2 l    ) ca_X0_bodyOf q4_146 ⟨rfl, rfl⟩ ⟨Nat.le_of_ble_eq_true rfl, Nat.le_of_ble_eq_true rfl⟩ rfl hl.1 rfl (Nat.le_of_ble_eq_true rfl) ⟨Nat.zero_le _, Nat.zero_le _⟩ dX0_from_26 (fun r_4 wr_4 => ?_)
    have wr_4 : r_4.toInt = 0 := wr_4
    have el_5 : r_4 = 0 := i_inj (wr_4.trans (by rfl))
    subst el_5
    refine lv_istore (lv' := [(7, .int 0), (6, .int 0), (5, .int 6), (0, .ref (ad 9)), (1, .int 6), (2, .int 2), (3, .int p3), (4, .int p4)]) hx hb dX0_from_29 hl (by decide) rfl (fun ls hl => ?_)
    refine lv_iload hx hb dX0_from_31 (lv_at hl 0 rfl) ?_
    refine lv_if_eq (tgt := 59) hx hb dX0_from_33 (by decide) (fun c_6 => ?_) (fun c_6 => absurd c_6 (by decide))
    obtain ⟨t0, t1, t2, ⟨a0, b0⟩, ⟨a1, b1⟩, ⟨a2, b2⟩⟩ := id hZ
    refine va_gets hx hb a2 hS hown (hg _ q4_143) (fun _ h9 => h9) dX0_from_59 ?_
    refine lv_iload hx hb dX0_from_62 (lv_at hl 2 rfl) ?_
    refine va_ti hx hb b2 hS (i_in (by decide) (by decide)) (v := .int 0) rfl dX0_from_64 ?_
    refine lv_istore (lv' := [(5, .int 0), (7, .int 0), (6, .int 0), (0, .ref (ad 9)), (1, .int 6), (2, .int 2), (3, .int p3), (4, .int p4)]) hx hb dX0_from_65 hl (by decide) rfl (fun ls hl => ?_)
    obtain ⟨x_7, ex_7⟩ : ∃ y : Int32, y = 0 + 1 := ⟨_, rfl⟩
    have fx_7 : x_7.toInt = (0 : Int) + 1 := by rw [ex_7]; exact i_add (by first | omega | (show (_ : Int) ≤ (0 : Int) + 1; omega)) (by first | omega | (show (0 : Int) + 1 ≤ (_ : Int); omega))
    refine lv_iinc (v := x_7) (lv' := [(6, .int x_7), (5, .int 0), (7, .int 0), (0, .ref (ad 9)), (1, .int 6), (2, .int 2), (3, .int p3), (4, .int p4)]) hx hb dX0_from_67 hl (k := 2) rfl (by rw [ex_7]; rfl) (by decide) rfl (fun ls hl => ?_)
    refine lv_goto (tgt := 6) hx hb dX0_from_70 (by decide) ?_
    refine lv_iload hx hb dX0_from_6 (lv_at hl 0 rfl) ?_
    obtain ⟨t0, t1, t2, ⟨a0, b0⟩, ⟨a1, b1⟩, ⟨a2, b2⟩⟩ := id hZ
    refine va_gets hx hb a2 hS hown (hg _ q4_143) (fun _ h9 => h9) dX0_from_8 ?_
    refine va_tlen hx hb b2 hS (v := 8) rfl dX0_from_11 ?_
    refine lv_icmp_ge (tgt := 73) hx hb dX0_from_12 (by decide) (fun c_8 => ?_) (fun c_8 => ?_)
    ·
      have kc_8 : (8 : Int) ≤ x_7.toInt := i_le c_8
      exfalso; omega
    ·
      have kc_8 : x_7.toInt < (8 : Int) := i_nle c_8
      refine lv_iload hx hb dX0_from_15 (lv_at hl 1 rfl) ?_
      refine cS_p (As := [.int 0]) (rest := []) ⟨hx, hb, hml, hown, hg⟩ (k_IK_1 l    ) ca_X0_isKind q4_145 ⟨rfl, rfl⟩ ⟨Nat.le_of_ble_eq_true rfl, Nat.le_of_ble_eq_true rfl⟩ rfl hl.1 rfl (Nat.le_of_ble_eq_true rfl) ⟨Nat.zero_le _, Nat.zero_le _⟩ dX0_from_17 (fun r_9 wr_9 => ?_)
      have wr_9 : r_9.toInt = 1 := wr_9
      refine lv_if_eq (tgt := 73) hx hb dX0_from_20 (by decide) (fun c_10 => ?_) (fun c_10 => ?_)
      ·
        have kc_10 : r_9.toInt = (0 : Int) := i_eq c_10
        exfalso; omega
      ·
        have kc_10 : r_9.toInt ≠ (0 : Int) := i_ne c_10
        refine lv_iload hx hb dX0_from_23 (lv_at hl 1 rfl) ?_
        refine lv_iload_n hx hb dX0_from_25 rfl (lv_at hl 5 rfl) ?_
        refine cS_p (As := [.int 0, .int 2]) (rest := []) ⟨hx, hb, hml, hown, hg⟩ (k_B_0_2 l    ) ca_X0_bodyOf q4_146 ⟨rfl, rfl⟩ ⟨Nat.le_of_ble_eq_true rfl, Nat.le_of_ble_eq_true rfl⟩ rfl hl.1 rfl (Nat.le_of_ble_eq_true rfl) ⟨Nat.zero_le _, Nat.zero_le _⟩ dX0_from_26 (fun r_11 wr_11 => ?_)
        have wr_11 : r_11.toInt = 11 := wr_11
        have el_12 : r_11 = 11 := i_inj (wr_11.trans (by rfl))
        subst el_12
        refine lv_istore (lv' := [(7, .int 11), (6, .int x_7), (5, .int 0), (0, .ref (ad 9)), (1, .int 6), (2, .int 2), (3, .int p3), (4, .int p4)]) hx hb dX0_from_29 hl (by decide) rfl (fun ls hl => ?_)
        refine lv_iload hx hb dX0_from_31 (lv_at hl 0 rfl) ?_
        refine lv_if_eq (tgt := 59) hx hb dX0_from_33 (by decide) (fun c_13 => absurd c_13 (by decide)) (fun c_13 => ?_)
        refine lv_iload hx hb dX0_from_36 (lv_at hl 7 rfl) ?_
        refine lv_bipush (v := 40) hx hb dX0_from_38 (by decide) ?_
        refine lv_icmp_ge (tgt := 57) hx hb dX0_from_40 (by decide) (fun c_14 => ?_) (fun c_14 => ?_)
        ·
          have kc_14 : (40 : Int) ≤ p4.toInt := i_le c_14
          exfalso; omega
        ·
          have kc_14 : p4.toInt < (40 : Int) := i_nle c_14
          refine lv_aload_n hx hb dX0_from_43 rfl (lv_at hl 3 rfl) ?_
          refine lv_iload hx hb dX0_from_44 (lv_at hl 0 rfl) ?_
          refine lv_iload_n hx hb dX0_from_46 rfl (lv_at hl 6 rfl) ?_
          refine lv_iload hx hb dX0_from_47 (lv_at hl 7 rfl) ?_
          refine lv_iconst (v := 1) hx hb dX0_from_49 (by decide) ?_
          refine lv_iadd hx hb dX0_from_50 ?_
          refine lv_topi (fun x_15 ex_15 => ?_)
          have fx_15 : x_15.toInt = p4.toInt + (1 : Int) := by rw [ex_15]; exact i_add (by first | omega | (show (_ : Int) ≤ p4.toInt + (1 : Int); omega)) (by first | omega | (show p4.toInt + (1 : Int) ≤ (_ : Int); omega))
          refine cV_i (As := [.int 11, .int p3, .int x_15]) (rest := []) ⟨hx, hb, hml, hown, hg⟩ (k_R_x_11 l D cs A ad fa fq rv v a w fv fp  p3 x_15 (show 0 ≤ (v 22).toInt by first | omega | decide) (show (v 22).toInt ≤ 23 by first | omega | decide) (show 0 ≤ x_15.toInt by first | omega | decide) (show x_15.toInt ≤ 38 by first | omega | decide) (show 0 ≤ (v 22).toInt by first | omega | decide) (show (v 22).toInt ≤ 1000 by first | omega | decide) (show 0 ≤ (v 23).toInt by first | omega | decide) (show (v 23).toInt ≤ 49 by first | omega | decide)) ca_X0_run q4_149 ⟨rfl, rfl⟩ ⟨Nat.le_of_ble_eq_true rfl, Nat.le_of_ble_eq_true rfl⟩ (rc_acts hK hP) hK hP hD hS hZ rfl hl.1 rfl (Nat.le_of_ble_eq_true rfl) ⟨Nat.zero_le _, Nat.zero_le _⟩ dX0_from_51 (fun r_16 z_19 H locs wr_16 hP hD hS => ?_)
          obtain ⟨o_v22_17, o_a38_18⟩ := z_19
          have hP : va_P D vwCl (CW cs ad fa fq rv (va_up v 22 o_v22_17) (va_up a 38 o_a38_18) w fv fp) H := hP
          have hD : va_D A (CW cs ad fa fq rv (va_up v 22 o_v22_17) (va_up a 38 o_a38_18) w fv fp) := hD
          obtain ⟨wr_16_0, wr_16_1, wr_16_2, wr_16_3, wr_16_4⟩ : (o_v22_17.toInt = (v 22).toInt + 1) ∧ (o_a38_18 = TRW (a 38) (v 22).toInt.toNat [11]) ∧ (r_16 = (p3 ^^^ (v 23))) ∧ (0 ≤ o_v22_17.toInt) ∧ (o_v22_17.toInt ≤ 1000) := wr_16
          have kt_20 : o_a38_18 = TRW (a 38) (v 22).toInt.toNat [11] := by rw [wr_16_1]
          refine lv_goto (tgt := 58) hx hb dX0_from_54 (by decide) ?_
          exact W.iret (v := r_16) hx hb hr (fun tt ht hW => ⟨⟨r_16, ⟨o_v22_17, o_a38_18⟩, rfl, ⟨(by first | rfl | omega | trivial | assumption | (dsimp only; first | omega | assumption)), (by (try dsimp only); first | assumption | rfl), (by simp only [wr_16_2, ex_15]), (show 0 ≤ o_v22_17.toInt by first | omega | assumption), (show o_v22_17.toInt ≤ 1000 by first | omega | assumption)⟩, by rw [ht]; exact hP, hD⟩, hS.F ht⟩) hS.2.2 dX0_from_58
set_option maxHeartbeats 4000000 in
set_option maxRecDepth 100000 in
theorem k_S_6_2 (l : Launch) (D : va_G) (cs : Nat → ClassId) (A : Nat → Prop) (ad fa fq rv : Nat → Nat) (v : Nat → Int32) (a : Nat → Nat → Int32) (w : Nat → Nat → Int64) (fv fp : Nat → Nat → Int32)  (p2 : Int32) (p3 : Int32) (hkn : (a 37) (v 23).toNatClampNeg = 6) (hr0 : 0 ≤ (v 22).toInt) (hr1 : (v 22).toInt ≤ 23) (hd0 : 0 ≤ p3.toInt) (hd1 : p3.toInt ≤ 37) (iv23_0 : 0 ≤ (v 23).toInt) (iv23_1 : (v 23).toInt ≤ 49) (ia37_0 : AB 0 7 (a 37)) (iv22_0 : 0 ≤ (v 22).toInt) (iv22_1 : (v 22).toInt ≤ 1000) : Met l yX0_self (Cond.code yX0_self cX0_self 4 (some .int) :: gw) ({ frames := 2, cells := 0, slots := 0, locals := 50 }) (va_Pc [.ref (ad 9), .int 2, .int p2, .int p3] (XPre D (TY cs) (CW cs ad fa fq rv v a w fv fp) A)) (va_Qi (fun (r : Int32) (z : Int32 × (Nat → Int32)) => (z.1.toInt = (v 22).toInt + 1) ∧ (z.2 = TRW (a 38) (v 22).toInt.toNat [11]) ∧ (r = (p2 ^^^ (v 23))) ∧ (0 ≤ z.1.toInt) ∧ (z.1.toInt ≤ 1000)) (XPo D (fun (z : Int32 × (Nat → Int32)) => CW cs ad fa fq rv (va_up v 22 z.1) (va_up a 38 z.2) w fv fp) A) A) 0 0 A := by
  refine Met.ofW (cc := cX0_self) (maxL := 4) (ret := (some .int)) (by decide) rfl ?_
  intro p e s m args below meth c s₁ B hml hv
  obtain ⟨rfl, hP, hK, hD, hZ⟩ := hv
  have hx := B.exec
  have hb := B.bytes
  have hr := B.returns
  have hts := atoms_spec (ws := (Cond.code yX0_self cX0_self 4 (some .int) :: gw)) B.pre
  have hg : ∀ w ∈ gw, w.before ([.ref (ad 9), .int 2, .int p2, .int p3] : List Value).toArray s = true := fun w h => hts w (List.mem_cons_of_mem _ h)
  have hown : s.vm.findClass RX0 = some m.cls := findClass_of_methodNamed B.named
  have hlocks := B.notSynchronized
  have hS : va_S A s.heap s.heap [] := va_S.rf
  have hP : va_P D vwCl (CW cs ad fa fq rv v a w fv fp) s.heap := hP
  have hl := lv_entry ([.ref (ad 9), .int 2, .int p2, .int p3]) (n := 4) (Nat.le_of_ble_eq_true rfl)
  rw [lg_entry_eq]
  generalize (lg_sl ([.ref (ad 9), .int 2, .int p2, .int p3]) ++ List.replicate (4 - (lg_sl ([.ref (ad 9), .int 2, .int p2, .int p3])).length) Slot.unset).toArray = ls at hl ⊢
  have hl : lv_has ls 4 [(0, .ref (ad 9)), (1, .int 2), (2, .int p2), (3, .int p3)] := hl
  refine lv_aload_n hx hb dX0_self_0 rfl (lv_at hl 0 rfl) ?_
  refine lv_aload_n hx hb dX0_self_1 rfl (lv_at hl 0 rfl) ?_
  refine gf_acts_kind hx hb hg hown hK hP rfl (hg _ q1_83) dX0_self_2 ?_
  refine lv_aload_n hx hb dX0_self_5 rfl (lv_at hl 0 rfl) ?_
  refine gf_acts_number hx hb hg hown hK hP (x := (v 23)) rfl (hg _ q1_90) dX0_self_6 ?_
  refine ld_Akind hx hb hK hP (i_in (by omega) (by omega)) dX0_self_9 ?_
  refine lv_topi (fun x_1 ex_1 => ?_)
  have ex_1 : x_1 = (a 37) (v 23).toNatClampNeg := ex_1
  have hx_1 : x_1.toInt = ((a 37) (v 23).toNatClampNeg).toInt := by rw [ex_1]
  have bx_1 := ia37_0 (v 23).toNatClampNeg
  rw [← ex_1] at bx_1
  have fx_1 : x_1 = 6 := by rw [ex_1]; exact hkn
  subst fx_1
  refine lv_iload_n hx hb dX0_self_10 rfl (lv_at hl 1 rfl) ?_
  refine lv_iload_n hx hb dX0_self_11 rfl (lv_at hl 2 rfl) ?_
  refine lv_iload_n hx hb dX0_self_12 rfl (lv_at hl 3 rfl) ?_
  refine cV_i (As := [.int 6, .int 2, .int p2, .int p3]) (rest := []) ⟨hx, hb, hml, hown, hg⟩ (k_F_x_6_2 l D cs A ad fa fq rv v a w fv fp  p2 p3 (show 0 ≤ (v 22).toInt by first | omega | decide) (show (v 22).toInt ≤ 23 by first | omega | decide) (show 0 ≤ p3.toInt by first | omega | decide) (show p3.toInt ≤ 37 by first | omega | decide) (show 0 ≤ (v 22).toInt by first | omega | decide) (show (v 22).toInt ≤ 1000 by first | omega | decide) (show 0 ≤ (v 23).toInt by first | omega | decide) (show (v 23).toInt ≤ 49 by first | omega | decide)) ca_X0_from q4_139 ⟨rfl, rfl⟩ ⟨Nat.le_of_ble_eq_true rfl, Nat.le_of_ble_eq_true rfl⟩ (rc_acts hK hP) hK hP hD hS hZ rfl hl.1 rfl (Nat.le_of_ble_eq_true rfl) ⟨Nat.zero_le _, Nat.zero_le _⟩ dX0_self_13 (fun r_2 z_5 H locs wr_2 hP hD hS => ?_)
  obtain ⟨o_v22_3, o_a38_4⟩ := z_5
  have hP : va_P D vwCl (CW cs ad fa fq rv (va_up v 22 o_v22_3) (va_up a 38 o_a38_4) w fv fp) H := hP
  have hD : va_D A (CW cs ad fa fq rv (va_up v 22 o_v22_3) (va_up a 38 o_a38_4) w fv fp) := hD
  obtain ⟨wr_2_0, wr_2_1, wr_2_2, wr_2_3, wr_2_4⟩ : (o_v22_3.toInt = (v 22).toInt + 1) ∧ (o_a38_4 = TRW (a 38) (v 22).toInt.toNat [11]) ∧ (r_2 = (p2 ^^^ (v 23))) ∧ (0 ≤ o_v22_3.toInt) ∧ (o_v22_3.toInt ≤ 1000) := wr_2
  have kt_6 : o_a38_4 = TRW (a 38) (v 22).toInt.toNat [11] := by rw [wr_2_1]
  exact W.iret (v := r_2) hx hb hr (fun tt ht hW => ⟨⟨r_2, ⟨o_v22_3, o_a38_4⟩, rfl, ⟨(by first | rfl | omega | trivial | assumption | (dsimp only; first | omega | assumption)), (by (try dsimp only); first | assumption | rfl), (by simp only [wr_2_2]), (show 0 ≤ o_v22_3.toInt by first | omega | assumption), (show o_v22_3.toInt ≤ 1000 by first | omega | assumption)⟩, by rw [ht]; exact hP, hD⟩, hS.F ht⟩) hS.2.2 dX0_self_16
set_option maxHeartbeats 4000000 in
set_option maxRecDepth 100000 in
theorem k_R_6_2 (l : Launch) (D : va_G) (cs : Nat → ClassId) (A : Nat → Prop) (ad fa fq rv : Nat → Nat) (v : Nat → Int32) (a : Nat → Nat → Int32) (w : Nat → Nat → Int64) (fv fp : Nat → Nat → Int32)  (p2 : Int32) (p3 : Int32) (hkn : (a 37) (v 23).toNatClampNeg = 6) (hr0 : 0 ≤ (v 22).toInt) (hr1 : (v 22).toInt ≤ 19) (hd0 : 0 ≤ p3.toInt) (hd1 : p3.toInt ≤ 35) (iv22_0 : 0 ≤ (v 22).toInt) (iv22_1 : (v 22).toInt ≤ 1000) (iv23_0 : 0 ≤ (v 23).toInt) (iv23_1 : (v 23).toInt ≤ 49) (ia37_0 : AB 0 7 (a 37)) : Met l yX0_run (Cond.code yX0_run cX0_run 4 (some .int) :: gw) ({ frames := 8, cells := 0, slots := 0, locals := 196 }) (va_Pc [.ref (ad 9), .int 2, .int p2, .int p3] (XPre D (TY cs) (CW cs ad fa fq rv v a w fv fp) A)) (va_Qi (fun (r : Int32) (z : Int32 × (Nat → Int32)) => (z.1.toInt = (v 22).toInt + 5) ∧ (z.2 = TRW (a 38) (v 22).toInt.toNat [2, 10, 70, 1, 11]) ∧ (r = ((((p2 + (v 23)) * 2) * 2) - ((1 : Int32) ^^^ (v 23)))) ∧ (0 ≤ z.1.toInt) ∧ (z.1.toInt ≤ 1000)) (XPo D (fun (z : Int32 × (Nat → Int32)) => CW cs ad fa fq rv (va_up v 22 z.1) (va_up a 38 z.2) w fv fp) A) A) 0 0 A := by
  refine Met.ofW (cc := cX0_run) (maxL := 4) (ret := (some .int)) (by decide) rfl ?_
  intro p e s m args below meth c s₁ B hml hv
  obtain ⟨rfl, hP, hK, hD, hZ⟩ := hv
  have hx := B.exec
  have hb := B.bytes
  have hr := B.returns
  have hts := atoms_spec (ws := (Cond.code yX0_run cX0_run 4 (some .int) :: gw)) B.pre
  have hg : ∀ w ∈ gw, w.before ([.ref (ad 9), .int 2, .int p2, .int p3] : List Value).toArray s = true := fun w h => hts w (List.mem_cons_of_mem _ h)
  have hown : s.vm.findClass RX0 = some m.cls := findClass_of_methodNamed B.named
  have hlocks := B.notSynchronized
  have hS : va_S A s.heap s.heap [] := va_S.rf
  have hP : va_P D vwCl (CW cs ad fa fq rv v a w fv fp) s.heap := hP
  have hl := lv_entry ([.ref (ad 9), .int 2, .int p2, .int p3]) (n := 4) (Nat.le_of_ble_eq_true rfl)
  rw [lg_entry_eq]
  generalize (lg_sl ([.ref (ad 9), .int 2, .int p2, .int p3]) ++ List.replicate (4 - (lg_sl ([.ref (ad 9), .int 2, .int p2, .int p3])).length) Slot.unset).toArray = ls at hl ⊢
  have hl : lv_has ls 4 [(0, .ref (ad 9)), (1, .int 2), (2, .int p2), (3, .int p3)] := hl
  refine lv_aload_n hx hb dX0_run_0 rfl (lv_at hl 0 rfl) ?_
  refine gf_acts_ran hx hb hg hown hK hP (x := (v 22)) rfl (hg _ q1_88) dX0_run_1 ?_
  refine lv_bipush (v := 24) hx hb dX0_run_4 (by decide) ?_
  refine lv_icmp_ge (tgt := 19) hx hb dX0_run_6 (by decide) (fun c_1 => ?_) (fun c_1 => ?_)
  ·
    have kc_1 : (24 : Int) ≤ (v 22).toInt := i_le c_1
    exfalso; omega
  ·
    have kc_1 : (v 22).toInt < (24 : Int) := i_nle c_1
    refine lv_aload_n hx hb dX0_run_9 rfl (lv_at hl 0 rfl) ?_
    refine gf_acts_traced hx hb hg hown hK hP rfl (hg _ q1_86) dX0_run_10 ?_
    refine lv_aload_n hx hb dX0_run_13 rfl (lv_at hl 0 rfl) ?_
    refine gf_acts_ran hx hb hg hown hK hP (x := (v 22)) rfl (hg _ q1_88) dX0_run_14 ?_
    refine lv_iload_n hx hb dX0_run_17 rfl (lv_at hl 1 rfl) ?_
    refine st_Atraced hx hb hK hP hD hS (i_in (by omega) (by omega)) dX0_run_18 (fun H locs hP hD hS => ?_)
    refine lv_aload_n hx hb dX0_run_19 rfl (lv_at hl 0 rfl) ?_
    refine lv_dup hx hb dX0_run_20 rfl ?_
    refine gf_acts_ran hx hb hg hown hK hP (x := (v 22)) rfl (hg _ q1_88) dX0_run_21 ?_
    refine lv_iconst (v := 1) hx hb dX0_run_24 (by decide) ?_
    refine lv_iadd hx hb dX0_run_25 ?_
    refine lv_topi (fun x_2 ex_2 => ?_)
    have fx_2 : x_2.toInt = (v 22).toInt + (1 : Int) := by rw [ex_2]; exact i_add (by first | omega | (show (_ : Int) ≤ (v 22).toInt + (1 : Int); omega)) (by first | omega | (show (v 22).toInt + (1 : Int) ≤ (_ : Int); omega))
    refine pf_acts_ran hx hb hg hown hK hP hD hS (hg _ q1_88) dX0_run_26 (fun H locs hP hD hS => ?_)
    refine lv_iload_n hx hb dX0_run_29 rfl (lv_at hl 1 rfl) ?_
    refine lv_lookup (tgt := 159) hx hb dX0_run_30 (by decide) (off := 129) (by decide) (by decide) ?_
    refine lv_aload_n hx hb dX0_run_159 rfl (lv_at hl 0 rfl) ?_
    refine lv_iconst (v := 1) hx hb dX0_run_160 (by decide) ?_
    refine lv_iload_n hx hb dX0_run_161 rfl (lv_at hl 2 rfl) ?_
    refine lv_iload_n hx hb dX0_run_162 rfl (lv_at hl 3 rfl) ?_
    refine cV_i (As := [.int 1, .int p2, .int p3]) (rest := []) ⟨hx, hb, hml, hown, hg⟩ (k_S_6_1 l D cs A ad fa fq rv (va_up v 22 x_2) (va_up a 38 (upd (a 38) (v 22).toNatClampNeg 2)) w fv fp  p2 p3 hkn (show 0 ≤ x_2.toInt by first | omega | decide) (show x_2.toInt ≤ 21 by first | omega | decide) (show 0 ≤ p3.toInt by first | omega | decide) (show p3.toInt ≤ 35 by first | omega | decide) (show 0 ≤ (v 23).toInt by first | omega | decide) (show (v 23).toInt ≤ 49 by first | omega | decide) ia37_0 (show 0 ≤ x_2.toInt by first | omega | decide) (show x_2.toInt ≤ 1000 by first | omega | decide)) ca_X0_self q4_135 ⟨rfl, rfl⟩ ⟨Nat.le_of_ble_eq_true rfl, Nat.le_of_ble_eq_true rfl⟩ (rc_acts hK hP) hK hP hD hS hZ rfl hl.1 rfl (Nat.le_of_ble_eq_true rfl) ⟨Nat.zero_le _, Nat.zero_le _⟩ dX0_run_163 (fun r_4 z_7 H locs wr_4 hP hD hS => ?_)
    obtain ⟨o_v22_5, o_a38_6⟩ := z_7
    have hP : va_P D vwCl (CW cs ad fa fq rv (va_up v 22 o_v22_5) (va_up a 38 o_a38_6) w fv fp) H := hP
    have hD : va_D A (CW cs ad fa fq rv (va_up v 22 o_v22_5) (va_up a 38 o_a38_6) w fv fp) := hD
    obtain ⟨wr_4_0, wr_4_1, wr_4_2, wr_4_3, wr_4_4⟩ : (o_v22_5.toInt = x_2.toInt + 3) ∧ (o_a38_6 = TRW (upd (a 38) (v 22).toNatClampNeg 2) x_2.toInt.toNat [10, 70, 1]) ∧ (r_4 = (((p2 + (v 23)) * 2) * 2)) ∧ (0 ≤ o_v22_5.toInt) ∧ (o_v22_5.toInt ≤ 1000) := wr_4
    have kt_8 : o_a38_6 = TRW (a 38) (v 22).toInt.toNat [2, 10, 70, 1] := by rw [wr_4_1, show (x_2).toInt.toNat = (v 22).toInt.toNat + 1 from by omega]; rfl
    refine lv_aload_n hx hb dX0_run_166 rfl (lv_at hl 0 rfl) ?_
    refine lv_iconst (v := 2) hx hb dX0_run_167 (by decide) ?_
    refine lv_iconst (v := 1) hx hb dX0_run_168 (by decide) ?_
    refine lv_iload_n hx hb dX0_run_169 rfl (lv_at hl 3 rfl) ?_
    refine cV_i (As := [.int 2, .int 1, .int p3]) (rest := [.int r_4]) ⟨hx, hb, hml, hown, hg⟩ (k_S_6_2 l D cs A ad fa fq rv (va_up v 22 o_v22_5) (va_up a 38 o_a38_6) w fv fp  1 p3 hkn (show 0 ≤ o_v22_5.toInt by first | omega | decide) (show o_v22_5.toInt ≤ 23 by first | omega | decide) (show 0 ≤ p3.toInt by first | omega | decide) (show p3.toInt ≤ 37 by first | omega | decide) (show 0 ≤ (v 23).toInt by first | omega | decide) (show (v 23).toInt ≤ 49 by first | omega | decide) ia37_0 (show 0 ≤ o_v22_5.toInt by first | omega | decide) (show o_v22_5.toInt ≤ 1000 by first | omega | decide)) ca_X0_self q4_135 ⟨rfl, rfl⟩ ⟨Nat.le_of_ble_eq_true rfl, Nat.le_of_ble_eq_true rfl⟩ (rc_acts hK hP) hK hP hD hS hZ rfl hl.1 rfl (Nat.le_of_ble_eq_true rfl) ⟨Nat.zero_le _, Nat.zero_le _⟩ dX0_run_170 (fun r_9 z_12 H locs wr_9 hP hD hS => ?_)
    obtain ⟨o_v22_10, o_a38_11⟩ := z_12
    have hP : va_P D vwCl (CW cs ad fa fq rv (va_up v 22 o_v22_10) (va_up a 38 o_a38_11) w fv fp) H := hP
    have hD : va_D A (CW cs ad fa fq rv (va_up v 22 o_v22_10) (va_up a 38 o_a38_11) w fv fp) := hD
    obtain ⟨wr_9_0, wr_9_1, wr_9_2, wr_9_3, wr_9_4⟩ : (o_v22_10.toInt = o_v22_5.toInt + 1) ∧ (o_a38_11 = TRW o_a38_6 o_v22_5.toInt.toNat [11]) ∧ (r_9 = ((1 : Int32) ^^^ (v 23))) ∧ (0 ≤ o_v22_10.toInt) ∧ (o_v22_10.toInt ≤ 1000) := wr_9
    have kt_13 : o_a38_11 = TRW (a 38) (v 22).toInt.toNat [2, 10, 70, 1, 11] := by rw [wr_9_1, kt_8, show (o_v22_5).toInt.toNat = (v 22).toInt.toNat + 4 from by omega]; rfl
    refine lv_isub hx hb dX0_run_173 ?_
    refine lv_topi (fun x_14 ex_14 => ?_)
    exact W.iret (v := x_14) hx hb hr (fun tt ht hW => ⟨⟨x_14, ⟨o_v22_10, o_a38_11⟩, rfl, ⟨(by first | rfl | omega | trivial | assumption | (dsimp only; first | omega | assumption)), (by (try dsimp only); first | assumption | rfl), (by simp only [ex_14, wr_9_2, wr_4_2, ex_2]), (show 0 ≤ o_v22_10.toInt by first | omega | assumption), (show o_v22_10.toInt ≤ 1000 by first | omega | assumption)⟩, by rw [ht]; exact hP, hD⟩, hS.F ht⟩) hS.2.2 dX0_run_174
set_option maxHeartbeats 4000000 in
set_option maxRecDepth 100000 in
theorem k_F_6_6_3 (l : Launch) (D : va_G) (cs : Nat → ClassId) (A : Nat → Prop) (ad fa fq rv : Nat → Nat) (v : Nat → Int32) (a : Nat → Nat → Int32) (w : Nat → Nat → Int64) (fv fp : Nat → Nat → Int32)  (p3 : Int32) (p4 : Int32) (hkn : (a 37) (v 23).toNatClampNeg = 6) (hr0 : 0 ≤ (v 22).toInt) (hr1 : (v 22).toInt ≤ 19) (hd0 : 0 ≤ p4.toInt) (hd1 : p4.toInt ≤ 34) (iv22_0 : 0 ≤ (v 22).toInt) (iv22_1 : (v 22).toInt ≤ 1000) (iv23_0 : 0 ≤ (v 23).toInt) (iv23_1 : (v 23).toInt ≤ 49) (ia37_0 : AB 0 7 (a 37)) : Met l yX0_from (Cond.code yX0_from cX0_from 8 (some .int) :: gw) ({ frames := 9, cells := 0, slots := 0, locals := 219 }) (va_Pc [.ref (ad 9), .int 6, .int 3, .int p3, .int p4] (XPre D (TY cs) (CW cs ad fa fq rv v a w fv fp) A)) (va_Qi (fun (r : Int32) (z : Int32 × (Nat → Int32)) => (z.1.toInt = (v 22).toInt + 5) ∧ (z.2 = TRW (a 38) (v 22).toInt.toNat [2, 10, 70, 1, 11]) ∧ (r = ((((p3 + (v 23)) * 2) * 2) - ((1 : Int32) ^^^ (v 23)))) ∧ (0 ≤ z.1.toInt) ∧ (z.1.toInt ≤ 1000)) (XPo D (fun (z : Int32 × (Nat → Int32)) => CW cs ad fa fq rv (va_up v 22 z.1) (va_up a 38 z.2) w fv fp) A) A) 0 0 A := by
  refine Met.ofW (cc := cX0_from) (maxL := 8) (ret := (some .int)) (by decide) rfl ?_
  intro p e s m args below meth c s₁ B hml hv
  obtain ⟨rfl, hP, hK, hD, hZ⟩ := hv
  have hx := B.exec
  have hb := B.bytes
  have hr := B.returns
  have hts := atoms_spec (ws := (Cond.code yX0_from cX0_from 8 (some .int) :: gw)) B.pre
  have hg : ∀ w ∈ gw, w.before ([.ref (ad 9), .int 6, .int 3, .int p3, .int p4] : List Value).toArray s = true := fun w h => hts w (List.mem_cons_of_mem _ h)
  have hown : s.vm.findClass RX0 = some m.cls := findClass_of_methodNamed B.named
  have hlocks := B.notSynchronized
  have hS : va_S A s.heap s.heap [] := va_S.rf
  have hP : va_P D vwCl (CW cs ad fa fq rv v a w fv fp) s.heap := hP
  have hl := lv_entry ([.ref (ad 9), .int 6, .int 3, .int p3, .int p4]) (n := 8) (Nat.le_of_ble_eq_true rfl)
  rw [lg_entry_eq]
  generalize (lg_sl ([.ref (ad 9), .int 6, .int 3, .int p3, .int p4]) ++ List.replicate (8 - (lg_sl ([.ref (ad 9), .int 6, .int 3, .int p3, .int p4])).length) Slot.unset).toArray = ls at hl ⊢
  have hl : lv_has ls 8 [(0, .ref (ad 9)), (1, .int 6), (2, .int 3), (3, .int p3), (4, .int p4)] := hl
  refine lv_iload_n hx hb dX0_from_0 rfl (lv_at hl 1 rfl) ?_
  refine lv_istore (lv' := [(5, .int 6), (0, .ref (ad 9)), (1, .int 6), (2, .int 3), (3, .int p3), (4, .int p4)]) hx hb dX0_from_1 hl (by decide) rfl (fun ls hl => ?_)
  refine lv_iconst (v := 0) hx hb dX0_from_3 (by decide) ?_
  refine lv_istore (lv' := [(6, .int 0), (5, .int 6), (0, .ref (ad 9)), (1, .int 6), (2, .int 3), (3, .int p3), (4, .int p4)]) hx hb dX0_from_4 hl (by decide) rfl (fun ls hl => ?_)
  refine lv_iload hx hb dX0_from_6 (lv_at hl 0 rfl) ?_
  obtain ⟨t0, t1, t2, ⟨a0, b0⟩, ⟨a1, b1⟩, ⟨a2, b2⟩⟩ := id hZ
  refine va_gets hx hb a2 hS hown (hg _ q4_143) (fun _ h9 => h9) dX0_from_8 ?_
  refine va_tlen hx hb b2 hS (v := 8) rfl dX0_from_11 ?_
  refine lv_icmp_ge (tgt := 73) hx hb dX0_from_12 (by decide) (fun c_1 => absurd c_1 (by decide)) (fun c_1 => ?_)
  refine lv_iload hx hb dX0_from_15 (lv_at hl 1 rfl) ?_
  refine cS_p (As := [.int 6]) (rest := []) ⟨hx, hb, hml, hown, hg⟩ (k_IK_7 l    ) ca_X0_isKind q4_145 ⟨rfl, rfl⟩ ⟨Nat.le_of_ble_eq_true rfl, Nat.le_of_ble_eq_true rfl⟩ rfl hl.1 rfl (Nat.le_of_ble_eq_true rfl) ⟨Nat.zero_le _, Nat.zero_le _⟩ dX0_from_17 (fun r_2 wr_2 => ?_)
  have wr_2 : r_2.toInt = 1 := wr_2
  refine lv_if_eq (tgt := 73) hx hb dX0_from_20 (by decide) (fun c_3 => ?_) (fun c_3 => ?_)
  ·
    have kc_3 : r_2.toInt = (0 : Int) := i_eq c_3
    exfalso; omega
  ·
    have kc_3 : r_2.toInt ≠ (0 : Int) := i_ne c_3
    refine lv_iload hx hb dX0_from_23 (lv_at hl 1 rfl) ?_
    refine lv_iload_n hx hb dX0_from_25 rfl (lv_at hl 4 rfl) ?_
    refine cS_p (As := [.int 6, .int 3]) (rest := []) ⟨hx, hb, hml, hown, hg⟩ (k_B_6_3 l    ) ca_X0_bodyOf q4_146 ⟨rfl, rfl⟩ ⟨Nat.le_of_ble_eq_true rfl, Nat.le_of_ble_eq_true rfl⟩ rfl hl.1 rfl (Nat.le_of_ble_eq_true rfl) ⟨Nat.zero_le _, Nat.zero_le _⟩ dX0_from_26 (fun r_4 wr_4 => ?_)
    have wr_4 : r_4.toInt = 0 := wr_4
    have el_5 : r_4 = 0 := i_inj (wr_4.trans (by rfl))
    subst el_5
    refine lv_istore (lv' := [(7, .int 0), (6, .int 0), (5, .int 6), (0, .ref (ad 9)), (1, .int 6), (2, .int 3), (3, .int p3), (4, .int p4)]) hx hb dX0_from_29 hl (by decide) rfl (fun ls hl => ?_)
    refine lv_iload hx hb dX0_from_31 (lv_at hl 0 rfl) ?_
    refine lv_if_eq (tgt := 59) hx hb dX0_from_33 (by decide) (fun c_6 => ?_) (fun c_6 => absurd c_6 (by decide))
    obtain ⟨t0, t1, t2, ⟨a0, b0⟩, ⟨a1, b1⟩, ⟨a2, b2⟩⟩ := id hZ
    refine va_gets hx hb a2 hS hown (hg _ q4_143) (fun _ h9 => h9) dX0_from_59 ?_
    refine lv_iload hx hb dX0_from_62 (lv_at hl 2 rfl) ?_
    refine va_ti hx hb b2 hS (i_in (by decide) (by decide)) (v := .int 0) rfl dX0_from_64 ?_
    refine lv_istore (lv' := [(5, .int 0), (7, .int 0), (6, .int 0), (0, .ref (ad 9)), (1, .int 6), (2, .int 3), (3, .int p3), (4, .int p4)]) hx hb dX0_from_65 hl (by decide) rfl (fun ls hl => ?_)
    obtain ⟨x_7, ex_7⟩ : ∃ y : Int32, y = 0 + 1 := ⟨_, rfl⟩
    have fx_7 : x_7.toInt = (0 : Int) + 1 := by rw [ex_7]; exact i_add (by first | omega | (show (_ : Int) ≤ (0 : Int) + 1; omega)) (by first | omega | (show (0 : Int) + 1 ≤ (_ : Int); omega))
    refine lv_iinc (v := x_7) (lv' := [(6, .int x_7), (5, .int 0), (7, .int 0), (0, .ref (ad 9)), (1, .int 6), (2, .int 3), (3, .int p3), (4, .int p4)]) hx hb dX0_from_67 hl (k := 2) rfl (by rw [ex_7]; rfl) (by decide) rfl (fun ls hl => ?_)
    refine lv_goto (tgt := 6) hx hb dX0_from_70 (by decide) ?_
    refine lv_iload hx hb dX0_from_6 (lv_at hl 0 rfl) ?_
    obtain ⟨t0, t1, t2, ⟨a0, b0⟩, ⟨a1, b1⟩, ⟨a2, b2⟩⟩ := id hZ
    refine va_gets hx hb a2 hS hown (hg _ q4_143) (fun _ h9 => h9) dX0_from_8 ?_
    refine va_tlen hx hb b2 hS (v := 8) rfl dX0_from_11 ?_
    refine lv_icmp_ge (tgt := 73) hx hb dX0_from_12 (by decide) (fun c_8 => ?_) (fun c_8 => ?_)
    ·
      have kc_8 : (8 : Int) ≤ x_7.toInt := i_le c_8
      exfalso; omega
    ·
      have kc_8 : x_7.toInt < (8 : Int) := i_nle c_8
      refine lv_iload hx hb dX0_from_15 (lv_at hl 1 rfl) ?_
      refine cS_p (As := [.int 0]) (rest := []) ⟨hx, hb, hml, hown, hg⟩ (k_IK_1 l    ) ca_X0_isKind q4_145 ⟨rfl, rfl⟩ ⟨Nat.le_of_ble_eq_true rfl, Nat.le_of_ble_eq_true rfl⟩ rfl hl.1 rfl (Nat.le_of_ble_eq_true rfl) ⟨Nat.zero_le _, Nat.zero_le _⟩ dX0_from_17 (fun r_9 wr_9 => ?_)
      have wr_9 : r_9.toInt = 1 := wr_9
      refine lv_if_eq (tgt := 73) hx hb dX0_from_20 (by decide) (fun c_10 => ?_) (fun c_10 => ?_)
      ·
        have kc_10 : r_9.toInt = (0 : Int) := i_eq c_10
        exfalso; omega
      ·
        have kc_10 : r_9.toInt ≠ (0 : Int) := i_ne c_10
        refine lv_iload hx hb dX0_from_23 (lv_at hl 1 rfl) ?_
        refine lv_iload_n hx hb dX0_from_25 rfl (lv_at hl 5 rfl) ?_
        refine cS_p (As := [.int 0, .int 3]) (rest := []) ⟨hx, hb, hml, hown, hg⟩ (k_B_0_3 l    ) ca_X0_bodyOf q4_146 ⟨rfl, rfl⟩ ⟨Nat.le_of_ble_eq_true rfl, Nat.le_of_ble_eq_true rfl⟩ rfl hl.1 rfl (Nat.le_of_ble_eq_true rfl) ⟨Nat.zero_le _, Nat.zero_le _⟩ dX0_from_26 (fun r_11 wr_11 => ?_)
        have wr_11 : r_11.toInt = 2 := wr_11
        have el_12 : r_11 = 2 := i_inj (wr_11.trans (by rfl))
        subst el_12
        refine lv_istore (lv' := [(7, .int 2), (6, .int x_7), (5, .int 0), (0, .ref (ad 9)), (1, .int 6), (2, .int 3), (3, .int p3), (4, .int p4)]) hx hb dX0_from_29 hl (by decide) rfl (fun ls hl => ?_)
        refine lv_iload hx hb dX0_from_31 (lv_at hl 0 rfl) ?_
        refine lv_if_eq (tgt := 59) hx hb dX0_from_33 (by decide) (fun c_13 => absurd c_13 (by decide)) (fun c_13 => ?_)
        refine lv_iload hx hb dX0_from_36 (lv_at hl 7 rfl) ?_
        refine lv_bipush (v := 40) hx hb dX0_from_38 (by decide) ?_
        refine lv_icmp_ge (tgt := 57) hx hb dX0_from_40 (by decide) (fun c_14 => ?_) (fun c_14 => ?_)
        ·
          have kc_14 : (40 : Int) ≤ p4.toInt := i_le c_14
          exfalso; omega
        ·
          have kc_14 : p4.toInt < (40 : Int) := i_nle c_14
          refine lv_aload_n hx hb dX0_from_43 rfl (lv_at hl 3 rfl) ?_
          refine lv_iload hx hb dX0_from_44 (lv_at hl 0 rfl) ?_
          refine lv_iload_n hx hb dX0_from_46 rfl (lv_at hl 6 rfl) ?_
          refine lv_iload hx hb dX0_from_47 (lv_at hl 7 rfl) ?_
          refine lv_iconst (v := 1) hx hb dX0_from_49 (by decide) ?_
          refine lv_iadd hx hb dX0_from_50 ?_
          refine lv_topi (fun x_15 ex_15 => ?_)
          have fx_15 : x_15.toInt = p4.toInt + (1 : Int) := by rw [ex_15]; exact i_add (by first | omega | (show (_ : Int) ≤ p4.toInt + (1 : Int); omega)) (by first | omega | (show p4.toInt + (1 : Int) ≤ (_ : Int); omega))
          refine cV_i (As := [.int 2, .int p3, .int x_15]) (rest := []) ⟨hx, hb, hml, hown, hg⟩ (k_R_6_2 l D cs A ad fa fq rv v a w fv fp  p3 x_15 hkn (show 0 ≤ (v 22).toInt by first | omega | decide) (show (v 22).toInt ≤ 19 by first | omega | decide) (show 0 ≤ x_15.toInt by first | omega | decide) (show x_15.toInt ≤ 35 by first | omega | decide) (show 0 ≤ (v 22).toInt by first | omega | decide) (show (v 22).toInt ≤ 1000 by first | omega | decide) (show 0 ≤ (v 23).toInt by first | omega | decide) (show (v 23).toInt ≤ 49 by first | omega | decide) ia37_0) ca_X0_run q4_149 ⟨rfl, rfl⟩ ⟨Nat.le_of_ble_eq_true rfl, Nat.le_of_ble_eq_true rfl⟩ (rc_acts hK hP) hK hP hD hS hZ rfl hl.1 rfl (Nat.le_of_ble_eq_true rfl) ⟨Nat.zero_le _, Nat.zero_le _⟩ dX0_from_51 (fun r_16 z_19 H locs wr_16 hP hD hS => ?_)
          obtain ⟨o_v22_17, o_a38_18⟩ := z_19
          have hP : va_P D vwCl (CW cs ad fa fq rv (va_up v 22 o_v22_17) (va_up a 38 o_a38_18) w fv fp) H := hP
          have hD : va_D A (CW cs ad fa fq rv (va_up v 22 o_v22_17) (va_up a 38 o_a38_18) w fv fp) := hD
          obtain ⟨wr_16_0, wr_16_1, wr_16_2, wr_16_3, wr_16_4⟩ : (o_v22_17.toInt = (v 22).toInt + 5) ∧ (o_a38_18 = TRW (a 38) (v 22).toInt.toNat [2, 10, 70, 1, 11]) ∧ (r_16 = ((((p3 + (v 23)) * 2) * 2) - ((1 : Int32) ^^^ (v 23)))) ∧ (0 ≤ o_v22_17.toInt) ∧ (o_v22_17.toInt ≤ 1000) := wr_16
          have kt_20 : o_a38_18 = TRW (a 38) (v 22).toInt.toNat [2, 10, 70, 1, 11] := by rw [wr_16_1]
          refine lv_goto (tgt := 58) hx hb dX0_from_54 (by decide) ?_
          exact W.iret (v := r_16) hx hb hr (fun tt ht hW => ⟨⟨r_16, ⟨o_v22_17, o_a38_18⟩, rfl, ⟨(by first | rfl | omega | trivial | assumption | (dsimp only; first | omega | assumption)), (by (try dsimp only); first | assumption | rfl), (by simp only [wr_16_2, ex_15]), (show 0 ≤ o_v22_17.toInt by first | omega | assumption), (show o_v22_17.toInt ≤ 1000 by first | omega | assumption)⟩, by rw [ht]; exact hP, hD⟩, hS.F ht⟩) hS.2.2 dX0_from_58
set_option maxHeartbeats 4000000 in
set_option maxRecDepth 100000 in
theorem k_S_6_3 (l : Launch) (D : va_G) (cs : Nat → ClassId) (A : Nat → Prop) (ad fa fq rv : Nat → Nat) (v : Nat → Int32) (a : Nat → Nat → Int32) (w : Nat → Nat → Int64) (fv fp : Nat → Nat → Int32)  (p2 : Int32) (p3 : Int32) (hkn : (a 37) (v 23).toNatClampNeg = 6) (hr0 : 0 ≤ (v 22).toInt) (hr1 : (v 22).toInt ≤ 19) (hd0 : 0 ≤ p3.toInt) (hd1 : p3.toInt ≤ 34) (iv23_0 : 0 ≤ (v 23).toInt) (iv23_1 : (v 23).toInt ≤ 49) (ia37_0 : AB 0 7 (a 37)) (iv22_0 : 0 ≤ (v 22).toInt) (iv22_1 : (v 22).toInt ≤ 1000) : Met l yX0_self (Cond.code yX0_self cX0_self 4 (some .int) :: gw) ({ frames := 10, cells := 0, slots := 0, locals := 246 }) (va_Pc [.ref (ad 9), .int 3, .int p2, .int p3] (XPre D (TY cs) (CW cs ad fa fq rv v a w fv fp) A)) (va_Qi (fun (r : Int32) (z : Int32 × (Nat → Int32)) => (z.1.toInt = (v 22).toInt + 5) ∧ (z.2 = TRW (a 38) (v 22).toInt.toNat [2, 10, 70, 1, 11]) ∧ (r = ((((p2 + (v 23)) * 2) * 2) - ((1 : Int32) ^^^ (v 23)))) ∧ (0 ≤ z.1.toInt) ∧ (z.1.toInt ≤ 1000)) (XPo D (fun (z : Int32 × (Nat → Int32)) => CW cs ad fa fq rv (va_up v 22 z.1) (va_up a 38 z.2) w fv fp) A) A) 0 0 A := by
  refine Met.ofW (cc := cX0_self) (maxL := 4) (ret := (some .int)) (by decide) rfl ?_
  intro p e s m args below meth c s₁ B hml hv
  obtain ⟨rfl, hP, hK, hD, hZ⟩ := hv
  have hx := B.exec
  have hb := B.bytes
  have hr := B.returns
  have hts := atoms_spec (ws := (Cond.code yX0_self cX0_self 4 (some .int) :: gw)) B.pre
  have hg : ∀ w ∈ gw, w.before ([.ref (ad 9), .int 3, .int p2, .int p3] : List Value).toArray s = true := fun w h => hts w (List.mem_cons_of_mem _ h)
  have hown : s.vm.findClass RX0 = some m.cls := findClass_of_methodNamed B.named
  have hlocks := B.notSynchronized
  have hS : va_S A s.heap s.heap [] := va_S.rf
  have hP : va_P D vwCl (CW cs ad fa fq rv v a w fv fp) s.heap := hP
  have hl := lv_entry ([.ref (ad 9), .int 3, .int p2, .int p3]) (n := 4) (Nat.le_of_ble_eq_true rfl)
  rw [lg_entry_eq]
  generalize (lg_sl ([.ref (ad 9), .int 3, .int p2, .int p3]) ++ List.replicate (4 - (lg_sl ([.ref (ad 9), .int 3, .int p2, .int p3])).length) Slot.unset).toArray = ls at hl ⊢
  have hl : lv_has ls 4 [(0, .ref (ad 9)), (1, .int 3), (2, .int p2), (3, .int p3)] := hl
  refine lv_aload_n hx hb dX0_self_0 rfl (lv_at hl 0 rfl) ?_
  refine lv_aload_n hx hb dX0_self_1 rfl (lv_at hl 0 rfl) ?_
  refine gf_acts_kind hx hb hg hown hK hP rfl (hg _ q1_83) dX0_self_2 ?_
  refine lv_aload_n hx hb dX0_self_5 rfl (lv_at hl 0 rfl) ?_
  refine gf_acts_number hx hb hg hown hK hP (x := (v 23)) rfl (hg _ q1_90) dX0_self_6 ?_
  refine ld_Akind hx hb hK hP (i_in (by omega) (by omega)) dX0_self_9 ?_
  refine lv_topi (fun x_1 ex_1 => ?_)
  have ex_1 : x_1 = (a 37) (v 23).toNatClampNeg := ex_1
  have hx_1 : x_1.toInt = ((a 37) (v 23).toNatClampNeg).toInt := by rw [ex_1]
  have bx_1 := ia37_0 (v 23).toNatClampNeg
  rw [← ex_1] at bx_1
  have fx_1 : x_1 = 6 := by rw [ex_1]; exact hkn
  subst fx_1
  refine lv_iload_n hx hb dX0_self_10 rfl (lv_at hl 1 rfl) ?_
  refine lv_iload_n hx hb dX0_self_11 rfl (lv_at hl 2 rfl) ?_
  refine lv_iload_n hx hb dX0_self_12 rfl (lv_at hl 3 rfl) ?_
  refine cV_i (As := [.int 6, .int 3, .int p2, .int p3]) (rest := []) ⟨hx, hb, hml, hown, hg⟩ (k_F_6_6_3 l D cs A ad fa fq rv v a w fv fp  p2 p3 hkn (show 0 ≤ (v 22).toInt by first | omega | decide) (show (v 22).toInt ≤ 19 by first | omega | decide) (show 0 ≤ p3.toInt by first | omega | decide) (show p3.toInt ≤ 34 by first | omega | decide) (show 0 ≤ (v 22).toInt by first | omega | decide) (show (v 22).toInt ≤ 1000 by first | omega | decide) (show 0 ≤ (v 23).toInt by first | omega | decide) (show (v 23).toInt ≤ 49 by first | omega | decide) ia37_0) ca_X0_from q4_139 ⟨rfl, rfl⟩ ⟨Nat.le_of_ble_eq_true rfl, Nat.le_of_ble_eq_true rfl⟩ (rc_acts hK hP) hK hP hD hS hZ rfl hl.1 rfl (Nat.le_of_ble_eq_true rfl) ⟨Nat.zero_le _, Nat.zero_le _⟩ dX0_self_13 (fun r_2 z_5 H locs wr_2 hP hD hS => ?_)
  obtain ⟨o_v22_3, o_a38_4⟩ := z_5
  have hP : va_P D vwCl (CW cs ad fa fq rv (va_up v 22 o_v22_3) (va_up a 38 o_a38_4) w fv fp) H := hP
  have hD : va_D A (CW cs ad fa fq rv (va_up v 22 o_v22_3) (va_up a 38 o_a38_4) w fv fp) := hD
  obtain ⟨wr_2_0, wr_2_1, wr_2_2, wr_2_3, wr_2_4⟩ : (o_v22_3.toInt = (v 22).toInt + 5) ∧ (o_a38_4 = TRW (a 38) (v 22).toInt.toNat [2, 10, 70, 1, 11]) ∧ (r_2 = ((((p2 + (v 23)) * 2) * 2) - ((1 : Int32) ^^^ (v 23)))) ∧ (0 ≤ o_v22_3.toInt) ∧ (o_v22_3.toInt ≤ 1000) := wr_2
  have kt_6 : o_a38_4 = TRW (a 38) (v 22).toInt.toNat [2, 10, 70, 1, 11] := by rw [wr_2_1]
  exact W.iret (v := r_2) hx hb hr (fun tt ht hW => ⟨⟨r_2, ⟨o_v22_3, o_a38_4⟩, rfl, ⟨(by first | rfl | omega | trivial | assumption | (dsimp only; first | omega | assumption)), (by (try dsimp only); first | assumption | rfl), (by simp only [wr_2_2]), (show 0 ≤ o_v22_3.toInt by first | omega | assumption), (show o_v22_3.toInt ≤ 1000 by first | omega | assumption)⟩, by rw [ht]; exact hP, hD⟩, hS.F ht⟩) hS.2.2 dX0_self_16
set_option maxHeartbeats 4000000 in
set_option maxRecDepth 100000 in
theorem k_R_x_81 (l : Launch) (D : va_G) (cs : Nat → ClassId) (A : Nat → Prop) (ad fa fq rv : Nat → Nat) (v : Nat → Int32) (a : Nat → Nat → Int32) (w : Nat → Nat → Int64) (fv fp : Nat → Nat → Int32)  (p2 : Int32) (p3 : Int32) (hr0 : 0 ≤ (v 22).toInt) (hr1 : (v 22).toInt ≤ 21) (hd0 : 0 ≤ p3.toInt) (hd1 : p3.toInt ≤ 36) (iv22_0 : 0 ≤ (v 22).toInt) (iv22_1 : (v 22).toInt ≤ 1000) (iv23_0 : 0 ≤ (v 23).toInt) (iv23_1 : (v 23).toInt ≤ 49) : Met l yX0_run (Cond.code yX0_run cX0_run 4 (some .int) :: gw) ({ frames := 4, cells := 0, slots := 0, locals := 100 }) (va_Pc [.ref (ad 9), .int 81, .int p2, .int p3] (XPre D (TY cs) (CW cs ad fa fq rv v a w fv fp) A)) (va_Qi (fun (r : Int32) (z : Int32 × (Nat → Int32)) => (z.1.toInt = (v 22).toInt + 3) ∧ (z.2 = TRW (a 38) (v 22).toInt.toNat [81, 70, 1]) ∧ (r = (((p2 + (v 23)) * 2) - 1)) ∧ (0 ≤ z.1.toInt) ∧ (z.1.toInt ≤ 1000)) (XPo D (fun (z : Int32 × (Nat → Int32)) => CW cs ad fa fq rv (va_up v 22 z.1) (va_up a 38 z.2) w fv fp) A) A) 0 0 A := by
  refine Met.ofW (cc := cX0_run) (maxL := 4) (ret := (some .int)) (by decide) rfl ?_
  intro p e s m args below meth c s₁ B hml hv
  obtain ⟨rfl, hP, hK, hD, hZ⟩ := hv
  have hx := B.exec
  have hb := B.bytes
  have hr := B.returns
  have hts := atoms_spec (ws := (Cond.code yX0_run cX0_run 4 (some .int) :: gw)) B.pre
  have hg : ∀ w ∈ gw, w.before ([.ref (ad 9), .int 81, .int p2, .int p3] : List Value).toArray s = true := fun w h => hts w (List.mem_cons_of_mem _ h)
  have hown : s.vm.findClass RX0 = some m.cls := findClass_of_methodNamed B.named
  have hlocks := B.notSynchronized
  have hS : va_S A s.heap s.heap [] := va_S.rf
  have hP : va_P D vwCl (CW cs ad fa fq rv v a w fv fp) s.heap := hP
  have hl := lv_entry ([.ref (ad 9), .int 81, .int p2, .int p3]) (n := 4) (Nat.le_of_ble_eq_true rfl)
  rw [lg_entry_eq]
  generalize (lg_sl ([.ref (ad 9), .int 81, .int p2, .int p3]) ++ List.replicate (4 - (lg_sl ([.ref (ad 9), .int 81, .int p2, .int p3])).length) Slot.unset).toArray = ls at hl ⊢
  have hl : lv_has ls 4 [(0, .ref (ad 9)), (1, .int 81), (2, .int p2), (3, .int p3)] := hl
  refine lv_aload_n hx hb dX0_run_0 rfl (lv_at hl 0 rfl) ?_
  refine gf_acts_ran hx hb hg hown hK hP (x := (v 22)) rfl (hg _ q1_88) dX0_run_1 ?_
  refine lv_bipush (v := 24) hx hb dX0_run_4 (by decide) ?_
  refine lv_icmp_ge (tgt := 19) hx hb dX0_run_6 (by decide) (fun c_1 => ?_) (fun c_1 => ?_)
  ·
    have kc_1 : (24 : Int) ≤ (v 22).toInt := i_le c_1
    exfalso; omega
  ·
    have kc_1 : (v 22).toInt < (24 : Int) := i_nle c_1
    refine lv_aload_n hx hb dX0_run_9 rfl (lv_at hl 0 rfl) ?_
    refine gf_acts_traced hx hb hg hown hK hP rfl (hg _ q1_86) dX0_run_10 ?_
    refine lv_aload_n hx hb dX0_run_13 rfl (lv_at hl 0 rfl) ?_
    refine gf_acts_ran hx hb hg hown hK hP (x := (v 22)) rfl (hg _ q1_88) dX0_run_14 ?_
    refine lv_iload_n hx hb dX0_run_17 rfl (lv_at hl 1 rfl) ?_
    refine st_Atraced hx hb hK hP hD hS (i_in (by omega) (by omega)) dX0_run_18 (fun H locs hP hD hS => ?_)
    refine lv_aload_n hx hb dX0_run_19 rfl (lv_at hl 0 rfl) ?_
    refine lv_dup hx hb dX0_run_20 rfl ?_
    refine gf_acts_ran hx hb hg hown hK hP (x := (v 22)) rfl (hg _ q1_88) dX0_run_21 ?_
    refine lv_iconst (v := 1) hx hb dX0_run_24 (by decide) ?_
    refine lv_iadd hx hb dX0_run_25 ?_
    refine lv_topi (fun x_2 ex_2 => ?_)
    have fx_2 : x_2.toInt = (v 22).toInt + (1 : Int) := by rw [ex_2]; exact i_add (by first | omega | (show (_ : Int) ≤ (v 22).toInt + (1 : Int); omega)) (by first | omega | (show (v 22).toInt + (1 : Int) ≤ (_ : Int); omega))
    refine pf_acts_ran hx hb hg hown hK hP hD hS (hg _ q1_88) dX0_run_26 (fun H locs hP hD hS => ?_)
    refine lv_iload_n hx hb dX0_run_29 rfl (lv_at hl 1 rfl) ?_
    refine lv_lookup (tgt := 340) hx hb dX0_run_30 (by decide) (off := 310) (by decide) (by decide) ?_
    refine lv_aload_n hx hb dX0_run_340 rfl (lv_at hl 0 rfl) ?_
    obtain ⟨t0, t1, t2, ⟨a0, b0⟩, ⟨a1, b1⟩, ⟨a2, b2⟩⟩ := id hZ
    refine va_gets hx hb a2 hS hown (hg _ q4_143) (fun _ h9 => h9) dX0_run_341 ?_
    refine lv_bipush (v := 7) hx hb dX0_run_344 (by decide) ?_
    refine va_ti hx hb b2 hS (i_in (by decide) (by decide)) (v := .int 6) rfl dX0_run_346 ?_
    refine lv_iconst (v := 0) hx hb dX0_run_347 (by decide) ?_
    refine lv_iload_n hx hb dX0_run_348 rfl (lv_at hl 2 rfl) ?_
    refine lv_iload_n hx hb dX0_run_349 rfl (lv_at hl 3 rfl) ?_
    refine cV_i (As := [.int 6, .int 0, .int p2, .int p3]) (rest := []) ⟨hx, hb, hml, hown, hg⟩ (k_F_x_6_0 l D cs A ad fa fq rv (va_up v 22 x_2) (va_up a 38 (upd (a 38) (v 22).toNatClampNeg 81)) w fv fp  p2 p3 (show 0 ≤ x_2.toInt by first | omega | decide) (show x_2.toInt ≤ 22 by first | omega | decide) (show 0 ≤ p3.toInt by first | omega | decide) (show p3.toInt ≤ 36 by first | omega | decide) (show 0 ≤ x_2.toInt by first | omega | decide) (show x_2.toInt ≤ 1000 by first | omega | decide) (show 0 ≤ (v 23).toInt by first | omega | decide) (show (v 23).toInt ≤ 49 by first | omega | decide)) ca_X0_from q4_139 ⟨rfl, rfl⟩ ⟨Nat.le_of_ble_eq_true rfl, Nat.le_of_ble_eq_true rfl⟩ (rc_acts hK hP) hK hP hD hS hZ rfl hl.1 rfl (Nat.le_of_ble_eq_true rfl) ⟨Nat.zero_le _, Nat.zero_le _⟩ dX0_run_350 (fun r_4 z_7 H locs wr_4 hP hD hS => ?_)
    obtain ⟨o_v22_5, o_a38_6⟩ := z_7
    have hP : va_P D vwCl (CW cs ad fa fq rv (va_up v 22 o_v22_5) (va_up a 38 o_a38_6) w fv fp) H := hP
    have hD : va_D A (CW cs ad fa fq rv (va_up v 22 o_v22_5) (va_up a 38 o_a38_6) w fv fp) := hD
    obtain ⟨wr_4_0, wr_4_1, wr_4_2, wr_4_3, wr_4_4⟩ : (o_v22_5.toInt = x_2.toInt + 2) ∧ (o_a38_6 = TRW (upd (a 38) (v 22).toNatClampNeg 81) x_2.toInt.toNat [70, 1]) ∧ (r_4 = ((p2 + (v 23)) * 2)) ∧ (0 ≤ o_v22_5.toInt) ∧ (o_v22_5.toInt ≤ 1000) := wr_4
    have kt_8 : o_a38_6 = TRW (a 38) (v 22).toInt.toNat [81, 70, 1] := by rw [wr_4_1, show (x_2).toInt.toNat = (v 22).toInt.toNat + 1 from by omega]; rfl
    refine lv_iconst (v := 1) hx hb dX0_run_353 (by decide) ?_
    refine lv_isub hx hb dX0_run_354 ?_
    refine lv_topi (fun x_9 ex_9 => ?_)
    exact W.iret (v := x_9) hx hb hr (fun tt ht hW => ⟨⟨x_9, ⟨o_v22_5, o_a38_6⟩, rfl, ⟨(by first | rfl | omega | trivial | assumption | (dsimp only; first | omega | assumption)), (by (try dsimp only); first | assumption | rfl), (by simp only [ex_9, wr_4_2, ex_2]), (show 0 ≤ o_v22_5.toInt by first | omega | assumption), (show o_v22_5.toInt ≤ 1000 by first | omega | assumption)⟩, by rw [ht]; exact hP, hD⟩, hS.F ht⟩) hS.2.2 dX0_run_355
set_option maxHeartbeats 4000000 in
set_option maxRecDepth 100000 in
theorem k_F_x_7_0 (l : Launch) (D : va_G) (cs : Nat → ClassId) (A : Nat → Prop) (ad fa fq rv : Nat → Nat) (v : Nat → Int32) (a : Nat → Nat → Int32) (w : Nat → Nat → Int64) (fv fp : Nat → Nat → Int32)  (p3 : Int32) (p4 : Int32) (hr0 : 0 ≤ (v 22).toInt) (hr1 : (v 22).toInt ≤ 21) (hd0 : 0 ≤ p4.toInt) (hd1 : p4.toInt ≤ 35) (iv22_0 : 0 ≤ (v 22).toInt) (iv22_1 : (v 22).toInt ≤ 1000) (iv23_0 : 0 ≤ (v 23).toInt) (iv23_1 : (v 23).toInt ≤ 49) : Met l yX0_from (Cond.code yX0_from cX0_from 8 (some .int) :: gw) ({ frames := 5, cells := 0, slots := 0, locals := 123 }) (va_Pc [.ref (ad 9), .int 7, .int 0, .int p3, .int p4] (XPre D (TY cs) (CW cs ad fa fq rv v a w fv fp) A)) (va_Qi (fun (r : Int32) (z : Int32 × (Nat → Int32)) => (z.1.toInt = (v 22).toInt + 3) ∧ (z.2 = TRW (a 38) (v 22).toInt.toNat [81, 70, 1]) ∧ (r = (((p3 + (v 23)) * 2) - 1)) ∧ (0 ≤ z.1.toInt) ∧ (z.1.toInt ≤ 1000)) (XPo D (fun (z : Int32 × (Nat → Int32)) => CW cs ad fa fq rv (va_up v 22 z.1) (va_up a 38 z.2) w fv fp) A) A) 0 0 A := by
  refine Met.ofW (cc := cX0_from) (maxL := 8) (ret := (some .int)) (by decide) rfl ?_
  intro p e s m args below meth c s₁ B hml hv
  obtain ⟨rfl, hP, hK, hD, hZ⟩ := hv
  have hx := B.exec
  have hb := B.bytes
  have hr := B.returns
  have hts := atoms_spec (ws := (Cond.code yX0_from cX0_from 8 (some .int) :: gw)) B.pre
  have hg : ∀ w ∈ gw, w.before ([.ref (ad 9), .int 7, .int 0, .int p3, .int p4] : List Value).toArray s = true := fun w h => hts w (List.mem_cons_of_mem _ h)
  have hown : s.vm.findClass RX0 = some m.cls := findClass_of_methodNamed B.named
  have hlocks := B.notSynchronized
  have hS : va_S A s.heap s.heap [] := va_S.rf
  have hP : va_P D vwCl (CW cs ad fa fq rv v a w fv fp) s.heap := hP
  have hl := lv_entry ([.ref (ad 9), .int 7, .int 0, .int p3, .int p4]) (n := 8) (Nat.le_of_ble_eq_true rfl)
  rw [lg_entry_eq]
  generalize (lg_sl ([.ref (ad 9), .int 7, .int 0, .int p3, .int p4]) ++ List.replicate (8 - (lg_sl ([.ref (ad 9), .int 7, .int 0, .int p3, .int p4])).length) Slot.unset).toArray = ls at hl ⊢
  have hl : lv_has ls 8 [(0, .ref (ad 9)), (1, .int 7), (2, .int 0), (3, .int p3), (4, .int p4)] := hl
  refine lv_iload_n hx hb dX0_from_0 rfl (lv_at hl 1 rfl) ?_
  refine lv_istore (lv' := [(5, .int 7), (0, .ref (ad 9)), (1, .int 7), (2, .int 0), (3, .int p3), (4, .int p4)]) hx hb dX0_from_1 hl (by decide) rfl (fun ls hl => ?_)
  refine lv_iconst (v := 0) hx hb dX0_from_3 (by decide) ?_
  refine lv_istore (lv' := [(6, .int 0), (5, .int 7), (0, .ref (ad 9)), (1, .int 7), (2, .int 0), (3, .int p3), (4, .int p4)]) hx hb dX0_from_4 hl (by decide) rfl (fun ls hl => ?_)
  refine lv_iload hx hb dX0_from_6 (lv_at hl 0 rfl) ?_
  obtain ⟨t0, t1, t2, ⟨a0, b0⟩, ⟨a1, b1⟩, ⟨a2, b2⟩⟩ := id hZ
  refine va_gets hx hb a2 hS hown (hg _ q4_143) (fun _ h9 => h9) dX0_from_8 ?_
  refine va_tlen hx hb b2 hS (v := 8) rfl dX0_from_11 ?_
  refine lv_icmp_ge (tgt := 73) hx hb dX0_from_12 (by decide) (fun c_1 => absurd c_1 (by decide)) (fun c_1 => ?_)
  refine lv_iload hx hb dX0_from_15 (lv_at hl 1 rfl) ?_
  refine cS_p (As := [.int 7]) (rest := []) ⟨hx, hb, hml, hown, hg⟩ (k_IK_8 l    ) ca_X0_isKind q4_145 ⟨rfl, rfl⟩ ⟨Nat.le_of_ble_eq_true rfl, Nat.le_of_ble_eq_true rfl⟩ rfl hl.1 rfl (Nat.le_of_ble_eq_true rfl) ⟨Nat.zero_le _, Nat.zero_le _⟩ dX0_from_17 (fun r_2 wr_2 => ?_)
  have wr_2 : r_2.toInt = 1 := wr_2
  refine lv_if_eq (tgt := 73) hx hb dX0_from_20 (by decide) (fun c_3 => ?_) (fun c_3 => ?_)
  ·
    have kc_3 : r_2.toInt = (0 : Int) := i_eq c_3
    exfalso; omega
  ·
    have kc_3 : r_2.toInt ≠ (0 : Int) := i_ne c_3
    refine lv_iload hx hb dX0_from_23 (lv_at hl 1 rfl) ?_
    refine lv_iload_n hx hb dX0_from_25 rfl (lv_at hl 4 rfl) ?_
    refine cS_p (As := [.int 7, .int 0]) (rest := []) ⟨hx, hb, hml, hown, hg⟩ (k_B_7_0 l    ) ca_X0_bodyOf q4_146 ⟨rfl, rfl⟩ ⟨Nat.le_of_ble_eq_true rfl, Nat.le_of_ble_eq_true rfl⟩ rfl hl.1 rfl (Nat.le_of_ble_eq_true rfl) ⟨Nat.zero_le _, Nat.zero_le _⟩ dX0_from_26 (fun r_4 wr_4 => ?_)
    have wr_4 : r_4.toInt = 81 := wr_4
    have el_5 : r_4 = 81 := i_inj (wr_4.trans (by rfl))
    subst el_5
    refine lv_istore (lv' := [(7, .int 81), (6, .int 0), (5, .int 7), (0, .ref (ad 9)), (1, .int 7), (2, .int 0), (3, .int p3), (4, .int p4)]) hx hb dX0_from_29 hl (by decide) rfl (fun ls hl => ?_)
    refine lv_iload hx hb dX0_from_31 (lv_at hl 0 rfl) ?_
    refine lv_if_eq (tgt := 59) hx hb dX0_from_33 (by decide) (fun c_6 => absurd c_6 (by decide)) (fun c_6 => ?_)
    refine lv_iload hx hb dX0_from_36 (lv_at hl 7 rfl) ?_
    refine lv_bipush (v := 40) hx hb dX0_from_38 (by decide) ?_
    refine lv_icmp_ge (tgt := 57) hx hb dX0_from_40 (by decide) (fun c_7 => ?_) (fun c_7 => ?_)
    ·
      have kc_7 : (40 : Int) ≤ p4.toInt := i_le c_7
      exfalso; omega
    ·
      have kc_7 : p4.toInt < (40 : Int) := i_nle c_7
      refine lv_aload_n hx hb dX0_from_43 rfl (lv_at hl 3 rfl) ?_
      refine lv_iload hx hb dX0_from_44 (lv_at hl 0 rfl) ?_
      refine lv_iload_n hx hb dX0_from_46 rfl (lv_at hl 6 rfl) ?_
      refine lv_iload hx hb dX0_from_47 (lv_at hl 7 rfl) ?_
      refine lv_iconst (v := 1) hx hb dX0_from_49 (by decide) ?_
      refine lv_iadd hx hb dX0_from_50 ?_
      refine lv_topi (fun x_8 ex_8 => ?_)
      have fx_8 : x_8.toInt = p4.toInt + (1 : Int) := by rw [ex_8]; exact i_add (by first | omega | (show (_ : Int) ≤ p4.toInt + (1 : Int); omega)) (by first | omega | (show p4.toInt + (1 : Int) ≤ (_ : Int); omega))
      refine cV_i (As := [.int 81, .int p3, .int x_8]) (rest := []) ⟨hx, hb, hml, hown, hg⟩ (k_R_x_81 l D cs A ad fa fq rv v a w fv fp  p3 x_8 (show 0 ≤ (v 22).toInt by first | omega | decide) (show (v 22).toInt ≤ 21 by first | omega | decide) (show 0 ≤ x_8.toInt by first | omega | decide) (show x_8.toInt ≤ 36 by first | omega | decide) (show 0 ≤ (v 22).toInt by first | omega | decide) (show (v 22).toInt ≤ 1000 by first | omega | decide) (show 0 ≤ (v 23).toInt by first | omega | decide) (show (v 23).toInt ≤ 49 by first | omega | decide)) ca_X0_run q4_149 ⟨rfl, rfl⟩ ⟨Nat.le_of_ble_eq_true rfl, Nat.le_of_ble_eq_true rfl⟩ (rc_acts hK hP) hK hP hD hS hZ rfl hl.1 rfl (Nat.le_of_ble_eq_true rfl) ⟨Nat.zero_le _, Nat.zero_le _⟩ dX0_from_51 (fun r_9 z_12 H locs wr_9 hP hD hS => ?_)
      obtain ⟨o_v22_10, o_a38_11⟩ := z_12
      have hP : va_P D vwCl (CW cs ad fa fq rv (va_up v 22 o_v22_10) (va_up a 38 o_a38_11) w fv fp) H := hP
      have hD : va_D A (CW cs ad fa fq rv (va_up v 22 o_v22_10) (va_up a 38 o_a38_11) w fv fp) := hD
      obtain ⟨wr_9_0, wr_9_1, wr_9_2, wr_9_3, wr_9_4⟩ : (o_v22_10.toInt = (v 22).toInt + 3) ∧ (o_a38_11 = TRW (a 38) (v 22).toInt.toNat [81, 70, 1]) ∧ (r_9 = (((p3 + (v 23)) * 2) - 1)) ∧ (0 ≤ o_v22_10.toInt) ∧ (o_v22_10.toInt ≤ 1000) := wr_9
      have kt_13 : o_a38_11 = TRW (a 38) (v 22).toInt.toNat [81, 70, 1] := by rw [wr_9_1]
      refine lv_goto (tgt := 58) hx hb dX0_from_54 (by decide) ?_
      exact W.iret (v := r_9) hx hb hr (fun tt ht hW => ⟨⟨r_9, ⟨o_v22_10, o_a38_11⟩, rfl, ⟨(by first | rfl | omega | trivial | assumption | (dsimp only; first | omega | assumption)), (by (try dsimp only); first | assumption | rfl), (by simp only [wr_9_2, ex_8]), (show 0 ≤ o_v22_10.toInt by first | omega | assumption), (show o_v22_10.toInt ≤ 1000 by first | omega | assumption)⟩, by rw [ht]; exact hP, hD⟩, hS.F ht⟩) hS.2.2 dX0_from_58
set_option maxHeartbeats 4000000 in
set_option maxRecDepth 100000 in
theorem k_S_7_0 (l : Launch) (D : va_G) (cs : Nat → ClassId) (A : Nat → Prop) (ad fa fq rv : Nat → Nat) (v : Nat → Int32) (a : Nat → Nat → Int32) (w : Nat → Nat → Int64) (fv fp : Nat → Nat → Int32)  (p2 : Int32) (p3 : Int32) (hkn : (a 37) (v 23).toNatClampNeg = 7) (hr0 : 0 ≤ (v 22).toInt) (hr1 : (v 22).toInt ≤ 21) (hd0 : 0 ≤ p3.toInt) (hd1 : p3.toInt ≤ 35) (iv23_0 : 0 ≤ (v 23).toInt) (iv23_1 : (v 23).toInt ≤ 49) (ia37_0 : AB 0 7 (a 37)) (iv22_0 : 0 ≤ (v 22).toInt) (iv22_1 : (v 22).toInt ≤ 1000) : Met l yX0_self (Cond.code yX0_self cX0_self 4 (some .int) :: gw) ({ frames := 6, cells := 0, slots := 0, locals := 150 }) (va_Pc [.ref (ad 9), .int 0, .int p2, .int p3] (XPre D (TY cs) (CW cs ad fa fq rv v a w fv fp) A)) (va_Qi (fun (r : Int32) (z : Int32 × (Nat → Int32)) => (z.1.toInt = (v 22).toInt + 3) ∧ (z.2 = TRW (a 38) (v 22).toInt.toNat [81, 70, 1]) ∧ (r = (((p2 + (v 23)) * 2) - 1)) ∧ (0 ≤ z.1.toInt) ∧ (z.1.toInt ≤ 1000)) (XPo D (fun (z : Int32 × (Nat → Int32)) => CW cs ad fa fq rv (va_up v 22 z.1) (va_up a 38 z.2) w fv fp) A) A) 0 0 A := by
  refine Met.ofW (cc := cX0_self) (maxL := 4) (ret := (some .int)) (by decide) rfl ?_
  intro p e s m args below meth c s₁ B hml hv
  obtain ⟨rfl, hP, hK, hD, hZ⟩ := hv
  have hx := B.exec
  have hb := B.bytes
  have hr := B.returns
  have hts := atoms_spec (ws := (Cond.code yX0_self cX0_self 4 (some .int) :: gw)) B.pre
  have hg : ∀ w ∈ gw, w.before ([.ref (ad 9), .int 0, .int p2, .int p3] : List Value).toArray s = true := fun w h => hts w (List.mem_cons_of_mem _ h)
  have hown : s.vm.findClass RX0 = some m.cls := findClass_of_methodNamed B.named
  have hlocks := B.notSynchronized
  have hS : va_S A s.heap s.heap [] := va_S.rf
  have hP : va_P D vwCl (CW cs ad fa fq rv v a w fv fp) s.heap := hP
  have hl := lv_entry ([.ref (ad 9), .int 0, .int p2, .int p3]) (n := 4) (Nat.le_of_ble_eq_true rfl)
  rw [lg_entry_eq]
  generalize (lg_sl ([.ref (ad 9), .int 0, .int p2, .int p3]) ++ List.replicate (4 - (lg_sl ([.ref (ad 9), .int 0, .int p2, .int p3])).length) Slot.unset).toArray = ls at hl ⊢
  have hl : lv_has ls 4 [(0, .ref (ad 9)), (1, .int 0), (2, .int p2), (3, .int p3)] := hl
  refine lv_aload_n hx hb dX0_self_0 rfl (lv_at hl 0 rfl) ?_
  refine lv_aload_n hx hb dX0_self_1 rfl (lv_at hl 0 rfl) ?_
  refine gf_acts_kind hx hb hg hown hK hP rfl (hg _ q1_83) dX0_self_2 ?_
  refine lv_aload_n hx hb dX0_self_5 rfl (lv_at hl 0 rfl) ?_
  refine gf_acts_number hx hb hg hown hK hP (x := (v 23)) rfl (hg _ q1_90) dX0_self_6 ?_
  refine ld_Akind hx hb hK hP (i_in (by omega) (by omega)) dX0_self_9 ?_
  refine lv_topi (fun x_1 ex_1 => ?_)
  have ex_1 : x_1 = (a 37) (v 23).toNatClampNeg := ex_1
  have hx_1 : x_1.toInt = ((a 37) (v 23).toNatClampNeg).toInt := by rw [ex_1]
  have bx_1 := ia37_0 (v 23).toNatClampNeg
  rw [← ex_1] at bx_1
  have fx_1 : x_1 = 7 := by rw [ex_1]; exact hkn
  subst fx_1
  refine lv_iload_n hx hb dX0_self_10 rfl (lv_at hl 1 rfl) ?_
  refine lv_iload_n hx hb dX0_self_11 rfl (lv_at hl 2 rfl) ?_
  refine lv_iload_n hx hb dX0_self_12 rfl (lv_at hl 3 rfl) ?_
  refine cV_i (As := [.int 7, .int 0, .int p2, .int p3]) (rest := []) ⟨hx, hb, hml, hown, hg⟩ (k_F_x_7_0 l D cs A ad fa fq rv v a w fv fp  p2 p3 (show 0 ≤ (v 22).toInt by first | omega | decide) (show (v 22).toInt ≤ 21 by first | omega | decide) (show 0 ≤ p3.toInt by first | omega | decide) (show p3.toInt ≤ 35 by first | omega | decide) (show 0 ≤ (v 22).toInt by first | omega | decide) (show (v 22).toInt ≤ 1000 by first | omega | decide) (show 0 ≤ (v 23).toInt by first | omega | decide) (show (v 23).toInt ≤ 49 by first | omega | decide)) ca_X0_from q4_139 ⟨rfl, rfl⟩ ⟨Nat.le_of_ble_eq_true rfl, Nat.le_of_ble_eq_true rfl⟩ (rc_acts hK hP) hK hP hD hS hZ rfl hl.1 rfl (Nat.le_of_ble_eq_true rfl) ⟨Nat.zero_le _, Nat.zero_le _⟩ dX0_self_13 (fun r_2 z_5 H locs wr_2 hP hD hS => ?_)
  obtain ⟨o_v22_3, o_a38_4⟩ := z_5
  have hP : va_P D vwCl (CW cs ad fa fq rv (va_up v 22 o_v22_3) (va_up a 38 o_a38_4) w fv fp) H := hP
  have hD : va_D A (CW cs ad fa fq rv (va_up v 22 o_v22_3) (va_up a 38 o_a38_4) w fv fp) := hD
  obtain ⟨wr_2_0, wr_2_1, wr_2_2, wr_2_3, wr_2_4⟩ : (o_v22_3.toInt = (v 22).toInt + 3) ∧ (o_a38_4 = TRW (a 38) (v 22).toInt.toNat [81, 70, 1]) ∧ (r_2 = (((p2 + (v 23)) * 2) - 1)) ∧ (0 ≤ o_v22_3.toInt) ∧ (o_v22_3.toInt ≤ 1000) := wr_2
  have kt_6 : o_a38_4 = TRW (a 38) (v 22).toInt.toNat [81, 70, 1] := by rw [wr_2_1]
  exact W.iret (v := r_2) hx hb hr (fun tt ht hW => ⟨⟨r_2, ⟨o_v22_3, o_a38_4⟩, rfl, ⟨(by first | rfl | omega | trivial | assumption | (dsimp only; first | omega | assumption)), (by (try dsimp only); first | assumption | rfl), (by simp only [wr_2_2]), (show 0 ≤ o_v22_3.toInt by first | omega | assumption), (show o_v22_3.toInt ≤ 1000 by first | omega | assumption)⟩, by rw [ht]; exact hP, hD⟩, hS.F ht⟩) hS.2.2 dX0_self_16
set_option maxHeartbeats 4000000 in
set_option maxRecDepth 100000 in
theorem k_R_7_10 (l : Launch) (D : va_G) (cs : Nat → ClassId) (A : Nat → Prop) (ad fa fq rv : Nat → Nat) (v : Nat → Int32) (a : Nat → Nat → Int32) (w : Nat → Nat → Int64) (fv fp : Nat → Nat → Int32)  (p2 : Int32) (p3 : Int32) (hkn : (a 37) (v 23).toNatClampNeg = 7) (hr0 : 0 ≤ (v 22).toInt) (hr1 : (v 22).toInt ≤ 20) (hd0 : 0 ≤ p3.toInt) (hd1 : p3.toInt ≤ 35) (iv22_0 : 0 ≤ (v 22).toInt) (iv22_1 : (v 22).toInt ≤ 1000) (iv23_0 : 0 ≤ (v 23).toInt) (iv23_1 : (v 23).toInt ≤ 49) (ia37_0 : AB 0 7 (a 37)) : Met l yX0_run (Cond.code yX0_run cX0_run 4 (some .int) :: gw) ({ frames := 7, cells := 0, slots := 0, locals := 173 }) (va_Pc [.ref (ad 9), .int 10, .int p2, .int p3] (XPre D (TY cs) (CW cs ad fa fq rv v a w fv fp) A)) (va_Qi (fun (r : Int32) (z : Int32 × (Nat → Int32)) => (z.1.toInt = (v 22).toInt + 4) ∧ (z.2 = TRW (a 38) (v 22).toInt.toNat [10, 81, 70, 1]) ∧ (r = ((((p2 + (v 23)) * 2) - 1) * 2)) ∧ (0 ≤ z.1.toInt) ∧ (z.1.toInt ≤ 1000)) (XPo D (fun (z : Int32 × (Nat → Int32)) => CW cs ad fa fq rv (va_up v 22 z.1) (va_up a 38 z.2) w fv fp) A) A) 0 0 A := by
  refine Met.ofW (cc := cX0_run) (maxL := 4) (ret := (some .int)) (by decide) rfl ?_
  intro p e s m args below meth c s₁ B hml hv
  obtain ⟨rfl, hP, hK, hD, hZ⟩ := hv
  have hx := B.exec
  have hb := B.bytes
  have hr := B.returns
  have hts := atoms_spec (ws := (Cond.code yX0_run cX0_run 4 (some .int) :: gw)) B.pre
  have hg : ∀ w ∈ gw, w.before ([.ref (ad 9), .int 10, .int p2, .int p3] : List Value).toArray s = true := fun w h => hts w (List.mem_cons_of_mem _ h)
  have hown : s.vm.findClass RX0 = some m.cls := findClass_of_methodNamed B.named
  have hlocks := B.notSynchronized
  have hS : va_S A s.heap s.heap [] := va_S.rf
  have hP : va_P D vwCl (CW cs ad fa fq rv v a w fv fp) s.heap := hP
  have hl := lv_entry ([.ref (ad 9), .int 10, .int p2, .int p3]) (n := 4) (Nat.le_of_ble_eq_true rfl)
  rw [lg_entry_eq]
  generalize (lg_sl ([.ref (ad 9), .int 10, .int p2, .int p3]) ++ List.replicate (4 - (lg_sl ([.ref (ad 9), .int 10, .int p2, .int p3])).length) Slot.unset).toArray = ls at hl ⊢
  have hl : lv_has ls 4 [(0, .ref (ad 9)), (1, .int 10), (2, .int p2), (3, .int p3)] := hl
  refine lv_aload_n hx hb dX0_run_0 rfl (lv_at hl 0 rfl) ?_
  refine gf_acts_ran hx hb hg hown hK hP (x := (v 22)) rfl (hg _ q1_88) dX0_run_1 ?_
  refine lv_bipush (v := 24) hx hb dX0_run_4 (by decide) ?_
  refine lv_icmp_ge (tgt := 19) hx hb dX0_run_6 (by decide) (fun c_1 => ?_) (fun c_1 => ?_)
  ·
    have kc_1 : (24 : Int) ≤ (v 22).toInt := i_le c_1
    exfalso; omega
  ·
    have kc_1 : (v 22).toInt < (24 : Int) := i_nle c_1
    refine lv_aload_n hx hb dX0_run_9 rfl (lv_at hl 0 rfl) ?_
    refine gf_acts_traced hx hb hg hown hK hP rfl (hg _ q1_86) dX0_run_10 ?_
    refine lv_aload_n hx hb dX0_run_13 rfl (lv_at hl 0 rfl) ?_
    refine gf_acts_ran hx hb hg hown hK hP (x := (v 22)) rfl (hg _ q1_88) dX0_run_14 ?_
    refine lv_iload_n hx hb dX0_run_17 rfl (lv_at hl 1 rfl) ?_
    refine st_Atraced hx hb hK hP hD hS (i_in (by omega) (by omega)) dX0_run_18 (fun H locs hP hD hS => ?_)
    refine lv_aload_n hx hb dX0_run_19 rfl (lv_at hl 0 rfl) ?_
    refine lv_dup hx hb dX0_run_20 rfl ?_
    refine gf_acts_ran hx hb hg hown hK hP (x := (v 22)) rfl (hg _ q1_88) dX0_run_21 ?_
    refine lv_iconst (v := 1) hx hb dX0_run_24 (by decide) ?_
    refine lv_iadd hx hb dX0_run_25 ?_
    refine lv_topi (fun x_2 ex_2 => ?_)
    have fx_2 : x_2.toInt = (v 22).toInt + (1 : Int) := by rw [ex_2]; exact i_add (by first | omega | (show (_ : Int) ≤ (v 22).toInt + (1 : Int); omega)) (by first | omega | (show (v 22).toInt + (1 : Int) ≤ (_ : Int); omega))
    refine pf_acts_ran hx hb hg hown hK hP hD hS (hg _ q1_88) dX0_run_26 (fun H locs hP hD hS => ?_)
    refine lv_iload_n hx hb dX0_run_29 rfl (lv_at hl 1 rfl) ?_
    refine lv_lookup (tgt := 175) hx hb dX0_run_30 (by decide) (off := 145) (by decide) (by decide) ?_
    refine lv_aload_n hx hb dX0_run_175 rfl (lv_at hl 0 rfl) ?_
    refine lv_iconst (v := 0) hx hb dX0_run_176 (by decide) ?_
    refine lv_iload_n hx hb dX0_run_177 rfl (lv_at hl 2 rfl) ?_
    refine lv_iload_n hx hb dX0_run_178 rfl (lv_at hl 3 rfl) ?_
    refine cV_i (As := [.int 0, .int p2, .int p3]) (rest := []) ⟨hx, hb, hml, hown, hg⟩ (k_S_7_0 l D cs A ad fa fq rv (va_up v 22 x_2) (va_up a 38 (upd (a 38) (v 22).toNatClampNeg 10)) w fv fp  p2 p3 hkn (show 0 ≤ x_2.toInt by first | omega | decide) (show x_2.toInt ≤ 21 by first | omega | decide) (show 0 ≤ p3.toInt by first | omega | decide) (show p3.toInt ≤ 35 by first | omega | decide) (show 0 ≤ (v 23).toInt by first | omega | decide) (show (v 23).toInt ≤ 49 by first | omega | decide) ia37_0 (show 0 ≤ x_2.toInt by first | omega | decide) (show x_2.toInt ≤ 1000 by first | omega | decide)) ca_X0_self q4_135 ⟨rfl, rfl⟩ ⟨Nat.le_of_ble_eq_true rfl, Nat.le_of_ble_eq_true rfl⟩ (rc_acts hK hP) hK hP hD hS hZ rfl hl.1 rfl (Nat.le_of_ble_eq_true rfl) ⟨Nat.zero_le _, Nat.zero_le _⟩ dX0_run_179 (fun r_4 z_7 H locs wr_4 hP hD hS => ?_)
    obtain ⟨o_v22_5, o_a38_6⟩ := z_7
    have hP : va_P D vwCl (CW cs ad fa fq rv (va_up v 22 o_v22_5) (va_up a 38 o_a38_6) w fv fp) H := hP
    have hD : va_D A (CW cs ad fa fq rv (va_up v 22 o_v22_5) (va_up a 38 o_a38_6) w fv fp) := hD
    obtain ⟨wr_4_0, wr_4_1, wr_4_2, wr_4_3, wr_4_4⟩ : (o_v22_5.toInt = x_2.toInt + 3) ∧ (o_a38_6 = TRW (upd (a 38) (v 22).toNatClampNeg 10) x_2.toInt.toNat [81, 70, 1]) ∧ (r_4 = (((p2 + (v 23)) * 2) - 1)) ∧ (0 ≤ o_v22_5.toInt) ∧ (o_v22_5.toInt ≤ 1000) := wr_4
    have kt_8 : o_a38_6 = TRW (a 38) (v 22).toInt.toNat [10, 81, 70, 1] := by rw [wr_4_1, show (x_2).toInt.toNat = (v 22).toInt.toNat + 1 from by omega]; rfl
    refine lv_iconst (v := 2) hx hb dX0_run_182 (by decide) ?_
    refine lv_imul hx hb dX0_run_183 ?_
    refine lv_topi (fun x_9 ex_9 => ?_)
    exact W.iret (v := x_9) hx hb hr (fun tt ht hW => ⟨⟨x_9, ⟨o_v22_5, o_a38_6⟩, rfl, ⟨(by first | rfl | omega | trivial | assumption | (dsimp only; first | omega | assumption)), (by (try dsimp only); first | assumption | rfl), (by simp only [ex_9, wr_4_2, ex_2]), (show 0 ≤ o_v22_5.toInt by first | omega | assumption), (show o_v22_5.toInt ≤ 1000 by first | omega | assumption)⟩, by rw [ht]; exact hP, hD⟩, hS.F ht⟩) hS.2.2 dX0_run_184
set_option maxHeartbeats 4000000 in
set_option maxRecDepth 100000 in
theorem k_F_7_6_1 (l : Launch) (D : va_G) (cs : Nat → ClassId) (A : Nat → Prop) (ad fa fq rv : Nat → Nat) (v : Nat → Int32) (a : Nat → Nat → Int32) (w : Nat → Nat → Int64) (fv fp : Nat → Nat → Int32)  (p3 : Int32) (p4 : Int32) (hkn : (a 37) (v 23).toNatClampNeg = 7) (hr0 : 0 ≤ (v 22).toInt) (hr1 : (v 22).toInt ≤ 20) (hd0 : 0 ≤ p4.toInt) (hd1 : p4.toInt ≤ 34) (iv22_0 : 0 ≤ (v 22).toInt) (iv22_1 : (v 22).toInt ≤ 1000) (iv23_0 : 0 ≤ (v 23).toInt) (iv23_1 : (v 23).toInt ≤ 49) (ia37_0 : AB 0 7 (a 37)) : Met l yX0_from (Cond.code yX0_from cX0_from 8 (some .int) :: gw) ({ frames := 8, cells := 0, slots := 0, locals := 196 }) (va_Pc [.ref (ad 9), .int 6, .int 1, .int p3, .int p4] (XPre D (TY cs) (CW cs ad fa fq rv v a w fv fp) A)) (va_Qi (fun (r : Int32) (z : Int32 × (Nat → Int32)) => (z.1.toInt = (v 22).toInt + 4) ∧ (z.2 = TRW (a 38) (v 22).toInt.toNat [10, 81, 70, 1]) ∧ (r = ((((p3 + (v 23)) * 2) - 1) * 2)) ∧ (0 ≤ z.1.toInt) ∧ (z.1.toInt ≤ 1000)) (XPo D (fun (z : Int32 × (Nat → Int32)) => CW cs ad fa fq rv (va_up v 22 z.1) (va_up a 38 z.2) w fv fp) A) A) 0 0 A := by
  refine Met.ofW (cc := cX0_from) (maxL := 8) (ret := (some .int)) (by decide) rfl ?_
  intro p e s m args below meth c s₁ B hml hv
  obtain ⟨rfl, hP, hK, hD, hZ⟩ := hv
  have hx := B.exec
  have hb := B.bytes
  have hr := B.returns
  have hts := atoms_spec (ws := (Cond.code yX0_from cX0_from 8 (some .int) :: gw)) B.pre
  have hg : ∀ w ∈ gw, w.before ([.ref (ad 9), .int 6, .int 1, .int p3, .int p4] : List Value).toArray s = true := fun w h => hts w (List.mem_cons_of_mem _ h)
  have hown : s.vm.findClass RX0 = some m.cls := findClass_of_methodNamed B.named
  have hlocks := B.notSynchronized
  have hS : va_S A s.heap s.heap [] := va_S.rf
  have hP : va_P D vwCl (CW cs ad fa fq rv v a w fv fp) s.heap := hP
  have hl := lv_entry ([.ref (ad 9), .int 6, .int 1, .int p3, .int p4]) (n := 8) (Nat.le_of_ble_eq_true rfl)
  rw [lg_entry_eq]
  generalize (lg_sl ([.ref (ad 9), .int 6, .int 1, .int p3, .int p4]) ++ List.replicate (8 - (lg_sl ([.ref (ad 9), .int 6, .int 1, .int p3, .int p4])).length) Slot.unset).toArray = ls at hl ⊢
  have hl : lv_has ls 8 [(0, .ref (ad 9)), (1, .int 6), (2, .int 1), (3, .int p3), (4, .int p4)] := hl
  refine lv_iload_n hx hb dX0_from_0 rfl (lv_at hl 1 rfl) ?_
  refine lv_istore (lv' := [(5, .int 6), (0, .ref (ad 9)), (1, .int 6), (2, .int 1), (3, .int p3), (4, .int p4)]) hx hb dX0_from_1 hl (by decide) rfl (fun ls hl => ?_)
  refine lv_iconst (v := 0) hx hb dX0_from_3 (by decide) ?_
  refine lv_istore (lv' := [(6, .int 0), (5, .int 6), (0, .ref (ad 9)), (1, .int 6), (2, .int 1), (3, .int p3), (4, .int p4)]) hx hb dX0_from_4 hl (by decide) rfl (fun ls hl => ?_)
  refine lv_iload hx hb dX0_from_6 (lv_at hl 0 rfl) ?_
  obtain ⟨t0, t1, t2, ⟨a0, b0⟩, ⟨a1, b1⟩, ⟨a2, b2⟩⟩ := id hZ
  refine va_gets hx hb a2 hS hown (hg _ q4_143) (fun _ h9 => h9) dX0_from_8 ?_
  refine va_tlen hx hb b2 hS (v := 8) rfl dX0_from_11 ?_
  refine lv_icmp_ge (tgt := 73) hx hb dX0_from_12 (by decide) (fun c_1 => absurd c_1 (by decide)) (fun c_1 => ?_)
  refine lv_iload hx hb dX0_from_15 (lv_at hl 1 rfl) ?_
  refine cS_p (As := [.int 6]) (rest := []) ⟨hx, hb, hml, hown, hg⟩ (k_IK_7 l    ) ca_X0_isKind q4_145 ⟨rfl, rfl⟩ ⟨Nat.le_of_ble_eq_true rfl, Nat.le_of_ble_eq_true rfl⟩ rfl hl.1 rfl (Nat.le_of_ble_eq_true rfl) ⟨Nat.zero_le _, Nat.zero_le _⟩ dX0_from_17 (fun r_2 wr_2 => ?_)
  have wr_2 : r_2.toInt = 1 := wr_2
  refine lv_if_eq (tgt := 73) hx hb dX0_from_20 (by decide) (fun c_3 => ?_) (fun c_3 => ?_)
  ·
    have kc_3 : r_2.toInt = (0 : Int) := i_eq c_3
    exfalso; omega
  ·
    have kc_3 : r_2.toInt ≠ (0 : Int) := i_ne c_3
    refine lv_iload hx hb dX0_from_23 (lv_at hl 1 rfl) ?_
    refine lv_iload_n hx hb dX0_from_25 rfl (lv_at hl 4 rfl) ?_
    refine cS_p (As := [.int 6, .int 1]) (rest := []) ⟨hx, hb, hml, hown, hg⟩ (k_B_6_1 l    ) ca_X0_bodyOf q4_146 ⟨rfl, rfl⟩ ⟨Nat.le_of_ble_eq_true rfl, Nat.le_of_ble_eq_true rfl⟩ rfl hl.1 rfl (Nat.le_of_ble_eq_true rfl) ⟨Nat.zero_le _, Nat.zero_le _⟩ dX0_from_26 (fun r_4 wr_4 => ?_)
    have wr_4 : r_4.toInt = 0 := wr_4
    have el_5 : r_4 = 0 := i_inj (wr_4.trans (by rfl))
    subst el_5
    refine lv_istore (lv' := [(7, .int 0), (6, .int 0), (5, .int 6), (0, .ref (ad 9)), (1, .int 6), (2, .int 1), (3, .int p3), (4, .int p4)]) hx hb dX0_from_29 hl (by decide) rfl (fun ls hl => ?_)
    refine lv_iload hx hb dX0_from_31 (lv_at hl 0 rfl) ?_
    refine lv_if_eq (tgt := 59) hx hb dX0_from_33 (by decide) (fun c_6 => ?_) (fun c_6 => absurd c_6 (by decide))
    obtain ⟨t0, t1, t2, ⟨a0, b0⟩, ⟨a1, b1⟩, ⟨a2, b2⟩⟩ := id hZ
    refine va_gets hx hb a2 hS hown (hg _ q4_143) (fun _ h9 => h9) dX0_from_59 ?_
    refine lv_iload hx hb dX0_from_62 (lv_at hl 2 rfl) ?_
    refine va_ti hx hb b2 hS (i_in (by decide) (by decide)) (v := .int 0) rfl dX0_from_64 ?_
    refine lv_istore (lv' := [(5, .int 0), (7, .int 0), (6, .int 0), (0, .ref (ad 9)), (1, .int 6), (2, .int 1), (3, .int p3), (4, .int p4)]) hx hb dX0_from_65 hl (by decide) rfl (fun ls hl => ?_)
    obtain ⟨x_7, ex_7⟩ : ∃ y : Int32, y = 0 + 1 := ⟨_, rfl⟩
    have fx_7 : x_7.toInt = (0 : Int) + 1 := by rw [ex_7]; exact i_add (by first | omega | (show (_ : Int) ≤ (0 : Int) + 1; omega)) (by first | omega | (show (0 : Int) + 1 ≤ (_ : Int); omega))
    refine lv_iinc (v := x_7) (lv' := [(6, .int x_7), (5, .int 0), (7, .int 0), (0, .ref (ad 9)), (1, .int 6), (2, .int 1), (3, .int p3), (4, .int p4)]) hx hb dX0_from_67 hl (k := 2) rfl (by rw [ex_7]; rfl) (by decide) rfl (fun ls hl => ?_)
    refine lv_goto (tgt := 6) hx hb dX0_from_70 (by decide) ?_
    refine lv_iload hx hb dX0_from_6 (lv_at hl 0 rfl) ?_
    obtain ⟨t0, t1, t2, ⟨a0, b0⟩, ⟨a1, b1⟩, ⟨a2, b2⟩⟩ := id hZ
    refine va_gets hx hb a2 hS hown (hg _ q4_143) (fun _ h9 => h9) dX0_from_8 ?_
    refine va_tlen hx hb b2 hS (v := 8) rfl dX0_from_11 ?_
    refine lv_icmp_ge (tgt := 73) hx hb dX0_from_12 (by decide) (fun c_8 => ?_) (fun c_8 => ?_)
    ·
      have kc_8 : (8 : Int) ≤ x_7.toInt := i_le c_8
      exfalso; omega
    ·
      have kc_8 : x_7.toInt < (8 : Int) := i_nle c_8
      refine lv_iload hx hb dX0_from_15 (lv_at hl 1 rfl) ?_
      refine cS_p (As := [.int 0]) (rest := []) ⟨hx, hb, hml, hown, hg⟩ (k_IK_1 l    ) ca_X0_isKind q4_145 ⟨rfl, rfl⟩ ⟨Nat.le_of_ble_eq_true rfl, Nat.le_of_ble_eq_true rfl⟩ rfl hl.1 rfl (Nat.le_of_ble_eq_true rfl) ⟨Nat.zero_le _, Nat.zero_le _⟩ dX0_from_17 (fun r_9 wr_9 => ?_)
      have wr_9 : r_9.toInt = 1 := wr_9
      refine lv_if_eq (tgt := 73) hx hb dX0_from_20 (by decide) (fun c_10 => ?_) (fun c_10 => ?_)
      ·
        have kc_10 : r_9.toInt = (0 : Int) := i_eq c_10
        exfalso; omega
      ·
        have kc_10 : r_9.toInt ≠ (0 : Int) := i_ne c_10
        refine lv_iload hx hb dX0_from_23 (lv_at hl 1 rfl) ?_
        refine lv_iload_n hx hb dX0_from_25 rfl (lv_at hl 5 rfl) ?_
        refine cS_p (As := [.int 0, .int 1]) (rest := []) ⟨hx, hb, hml, hown, hg⟩ (k_B_0_1 l    ) ca_X0_bodyOf q4_146 ⟨rfl, rfl⟩ ⟨Nat.le_of_ble_eq_true rfl, Nat.le_of_ble_eq_true rfl⟩ rfl hl.1 rfl (Nat.le_of_ble_eq_true rfl) ⟨Nat.zero_le _, Nat.zero_le _⟩ dX0_from_26 (fun r_11 wr_11 => ?_)
        have wr_11 : r_11.toInt = 10 := wr_11
        have el_12 : r_11 = 10 := i_inj (wr_11.trans (by rfl))
        subst el_12
        refine lv_istore (lv' := [(7, .int 10), (6, .int x_7), (5, .int 0), (0, .ref (ad 9)), (1, .int 6), (2, .int 1), (3, .int p3), (4, .int p4)]) hx hb dX0_from_29 hl (by decide) rfl (fun ls hl => ?_)
        refine lv_iload hx hb dX0_from_31 (lv_at hl 0 rfl) ?_
        refine lv_if_eq (tgt := 59) hx hb dX0_from_33 (by decide) (fun c_13 => absurd c_13 (by decide)) (fun c_13 => ?_)
        refine lv_iload hx hb dX0_from_36 (lv_at hl 7 rfl) ?_
        refine lv_bipush (v := 40) hx hb dX0_from_38 (by decide) ?_
        refine lv_icmp_ge (tgt := 57) hx hb dX0_from_40 (by decide) (fun c_14 => ?_) (fun c_14 => ?_)
        ·
          have kc_14 : (40 : Int) ≤ p4.toInt := i_le c_14
          exfalso; omega
        ·
          have kc_14 : p4.toInt < (40 : Int) := i_nle c_14
          refine lv_aload_n hx hb dX0_from_43 rfl (lv_at hl 3 rfl) ?_
          refine lv_iload hx hb dX0_from_44 (lv_at hl 0 rfl) ?_
          refine lv_iload_n hx hb dX0_from_46 rfl (lv_at hl 6 rfl) ?_
          refine lv_iload hx hb dX0_from_47 (lv_at hl 7 rfl) ?_
          refine lv_iconst (v := 1) hx hb dX0_from_49 (by decide) ?_
          refine lv_iadd hx hb dX0_from_50 ?_
          refine lv_topi (fun x_15 ex_15 => ?_)
          have fx_15 : x_15.toInt = p4.toInt + (1 : Int) := by rw [ex_15]; exact i_add (by first | omega | (show (_ : Int) ≤ p4.toInt + (1 : Int); omega)) (by first | omega | (show p4.toInt + (1 : Int) ≤ (_ : Int); omega))
          refine cV_i (As := [.int 10, .int p3, .int x_15]) (rest := []) ⟨hx, hb, hml, hown, hg⟩ (k_R_7_10 l D cs A ad fa fq rv v a w fv fp  p3 x_15 hkn (show 0 ≤ (v 22).toInt by first | omega | decide) (show (v 22).toInt ≤ 20 by first | omega | decide) (show 0 ≤ x_15.toInt by first | omega | decide) (show x_15.toInt ≤ 35 by first | omega | decide) (show 0 ≤ (v 22).toInt by first | omega | decide) (show (v 22).toInt ≤ 1000 by first | omega | decide) (show 0 ≤ (v 23).toInt by first | omega | decide) (show (v 23).toInt ≤ 49 by first | omega | decide) ia37_0) ca_X0_run q4_149 ⟨rfl, rfl⟩ ⟨Nat.le_of_ble_eq_true rfl, Nat.le_of_ble_eq_true rfl⟩ (rc_acts hK hP) hK hP hD hS hZ rfl hl.1 rfl (Nat.le_of_ble_eq_true rfl) ⟨Nat.zero_le _, Nat.zero_le _⟩ dX0_from_51 (fun r_16 z_19 H locs wr_16 hP hD hS => ?_)
          obtain ⟨o_v22_17, o_a38_18⟩ := z_19
          have hP : va_P D vwCl (CW cs ad fa fq rv (va_up v 22 o_v22_17) (va_up a 38 o_a38_18) w fv fp) H := hP
          have hD : va_D A (CW cs ad fa fq rv (va_up v 22 o_v22_17) (va_up a 38 o_a38_18) w fv fp) := hD
          obtain ⟨wr_16_0, wr_16_1, wr_16_2, wr_16_3, wr_16_4⟩ : (o_v22_17.toInt = (v 22).toInt + 4) ∧ (o_a38_18 = TRW (a 38) (v 22).toInt.toNat [10, 81, 70, 1]) ∧ (r_16 = ((((p3 + (v 23)) * 2) - 1) * 2)) ∧ (0 ≤ o_v22_17.toInt) ∧ (o_v22_17.toInt ≤ 1000) := wr_16
          have kt_20 : o_a38_18 = TRW (a 38) (v 22).toInt.toNat [10, 81, 70, 1] := by rw [wr_16_1]
          refine lv_goto (tgt := 58) hx hb dX0_from_54 (by decide) ?_
          exact W.iret (v := r_16) hx hb hr (fun tt ht hW => ⟨⟨r_16, ⟨o_v22_17, o_a38_18⟩, rfl, ⟨(by first | rfl | omega | trivial | assumption | (dsimp only; first | omega | assumption)), (by (try dsimp only); first | assumption | rfl), (by simp only [wr_16_2, ex_15]), (show 0 ≤ o_v22_17.toInt by first | omega | assumption), (show o_v22_17.toInt ≤ 1000 by first | omega | assumption)⟩, by rw [ht]; exact hP, hD⟩, hS.F ht⟩) hS.2.2 dX0_from_58
set_option maxHeartbeats 4000000 in
set_option maxRecDepth 100000 in
theorem k_F_x_7_2 (l : Launch) (D : va_G) (cs : Nat → ClassId) (A : Nat → Prop) (ad fa fq rv : Nat → Nat) (v : Nat → Int32) (a : Nat → Nat → Int32) (w : Nat → Nat → Int64) (fv fp : Nat → Nat → Int32)  (p3 : Int32) (p4 : Int32) (hr0 : 0 ≤ (v 22).toInt) (hr1 : (v 22).toInt ≤ 23) (hd0 : 0 ≤ p4.toInt) (hd1 : p4.toInt ≤ 37) (iv22_0 : 0 ≤ (v 22).toInt) (iv22_1 : (v 22).toInt ≤ 1000) (iv23_0 : 0 ≤ (v 23).toInt) (iv23_1 : (v 23).toInt ≤ 49) : Met l yX0_from (Cond.code yX0_from cX0_from 8 (some .int) :: gw) ({ frames := 1, cells := 0, slots := 0, locals := 23 }) (va_Pc [.ref (ad 9), .int 7, .int 2, .int p3, .int p4] (XPre D (TY cs) (CW cs ad fa fq rv v a w fv fp) A)) (va_Qi (fun (r : Int32) (z : Int32 × (Nat → Int32)) => (z.1.toInt = (v 22).toInt + 1) ∧ (z.2 = TRW (a 38) (v 22).toInt.toNat [11]) ∧ (r = (p3 ^^^ (v 23))) ∧ (0 ≤ z.1.toInt) ∧ (z.1.toInt ≤ 1000)) (XPo D (fun (z : Int32 × (Nat → Int32)) => CW cs ad fa fq rv (va_up v 22 z.1) (va_up a 38 z.2) w fv fp) A) A) 0 0 A := by
  refine Met.ofW (cc := cX0_from) (maxL := 8) (ret := (some .int)) (by decide) rfl ?_
  intro p e s m args below meth c s₁ B hml hv
  obtain ⟨rfl, hP, hK, hD, hZ⟩ := hv
  have hx := B.exec
  have hb := B.bytes
  have hr := B.returns
  have hts := atoms_spec (ws := (Cond.code yX0_from cX0_from 8 (some .int) :: gw)) B.pre
  have hg : ∀ w ∈ gw, w.before ([.ref (ad 9), .int 7, .int 2, .int p3, .int p4] : List Value).toArray s = true := fun w h => hts w (List.mem_cons_of_mem _ h)
  have hown : s.vm.findClass RX0 = some m.cls := findClass_of_methodNamed B.named
  have hlocks := B.notSynchronized
  have hS : va_S A s.heap s.heap [] := va_S.rf
  have hP : va_P D vwCl (CW cs ad fa fq rv v a w fv fp) s.heap := hP
  have hl := lv_entry ([.ref (ad 9), .int 7, .int 2, .int p3, .int p4]) (n := 8) (Nat.le_of_ble_eq_true rfl)
  rw [lg_entry_eq]
  generalize (lg_sl ([.ref (ad 9), .int 7, .int 2, .int p3, .int p4]) ++ List.replicate (8 - (lg_sl ([.ref (ad 9), .int 7, .int 2, .int p3, .int p4])).length) Slot.unset).toArray = ls at hl ⊢
  have hl : lv_has ls 8 [(0, .ref (ad 9)), (1, .int 7), (2, .int 2), (3, .int p3), (4, .int p4)] := hl
  refine lv_iload_n hx hb dX0_from_0 rfl (lv_at hl 1 rfl) ?_
  refine lv_istore (lv' := [(5, .int 7), (0, .ref (ad 9)), (1, .int 7), (2, .int 2), (3, .int p3), (4, .int p4)]) hx hb dX0_from_1 hl (by decide) rfl (fun ls hl => ?_)
  refine lv_iconst (v := 0) hx hb dX0_from_3 (by decide) ?_
  refine lv_istore (lv' := [(6, .int 0), (5, .int 7), (0, .ref (ad 9)), (1, .int 7), (2, .int 2), (3, .int p3), (4, .int p4)]) hx hb dX0_from_4 hl (by decide) rfl (fun ls hl => ?_)
  refine lv_iload hx hb dX0_from_6 (lv_at hl 0 rfl) ?_
  obtain ⟨t0, t1, t2, ⟨a0, b0⟩, ⟨a1, b1⟩, ⟨a2, b2⟩⟩ := id hZ
  refine va_gets hx hb a2 hS hown (hg _ q4_143) (fun _ h9 => h9) dX0_from_8 ?_
  refine va_tlen hx hb b2 hS (v := 8) rfl dX0_from_11 ?_
  refine lv_icmp_ge (tgt := 73) hx hb dX0_from_12 (by decide) (fun c_1 => absurd c_1 (by decide)) (fun c_1 => ?_)
  refine lv_iload hx hb dX0_from_15 (lv_at hl 1 rfl) ?_
  refine cS_p (As := [.int 7]) (rest := []) ⟨hx, hb, hml, hown, hg⟩ (k_IK_8 l    ) ca_X0_isKind q4_145 ⟨rfl, rfl⟩ ⟨Nat.le_of_ble_eq_true rfl, Nat.le_of_ble_eq_true rfl⟩ rfl hl.1 rfl (Nat.le_of_ble_eq_true rfl) ⟨Nat.zero_le _, Nat.zero_le _⟩ dX0_from_17 (fun r_2 wr_2 => ?_)
  have wr_2 : r_2.toInt = 1 := wr_2
  refine lv_if_eq (tgt := 73) hx hb dX0_from_20 (by decide) (fun c_3 => ?_) (fun c_3 => ?_)
  ·
    have kc_3 : r_2.toInt = (0 : Int) := i_eq c_3
    exfalso; omega
  ·
    have kc_3 : r_2.toInt ≠ (0 : Int) := i_ne c_3
    refine lv_iload hx hb dX0_from_23 (lv_at hl 1 rfl) ?_
    refine lv_iload_n hx hb dX0_from_25 rfl (lv_at hl 4 rfl) ?_
    refine cS_p (As := [.int 7, .int 2]) (rest := []) ⟨hx, hb, hml, hown, hg⟩ (k_B_7_2 l    ) ca_X0_bodyOf q4_146 ⟨rfl, rfl⟩ ⟨Nat.le_of_ble_eq_true rfl, Nat.le_of_ble_eq_true rfl⟩ rfl hl.1 rfl (Nat.le_of_ble_eq_true rfl) ⟨Nat.zero_le _, Nat.zero_le _⟩ dX0_from_26 (fun r_4 wr_4 => ?_)
    have wr_4 : r_4.toInt = 0 := wr_4
    have el_5 : r_4 = 0 := i_inj (wr_4.trans (by rfl))
    subst el_5
    refine lv_istore (lv' := [(7, .int 0), (6, .int 0), (5, .int 7), (0, .ref (ad 9)), (1, .int 7), (2, .int 2), (3, .int p3), (4, .int p4)]) hx hb dX0_from_29 hl (by decide) rfl (fun ls hl => ?_)
    refine lv_iload hx hb dX0_from_31 (lv_at hl 0 rfl) ?_
    refine lv_if_eq (tgt := 59) hx hb dX0_from_33 (by decide) (fun c_6 => ?_) (fun c_6 => absurd c_6 (by decide))
    obtain ⟨t0, t1, t2, ⟨a0, b0⟩, ⟨a1, b1⟩, ⟨a2, b2⟩⟩ := id hZ
    refine va_gets hx hb a2 hS hown (hg _ q4_143) (fun _ h9 => h9) dX0_from_59 ?_
    refine lv_iload hx hb dX0_from_62 (lv_at hl 2 rfl) ?_
    refine va_ti hx hb b2 hS (i_in (by decide) (by decide)) (v := .int 6) rfl dX0_from_64 ?_
    refine lv_istore (lv' := [(5, .int 6), (7, .int 0), (6, .int 0), (0, .ref (ad 9)), (1, .int 7), (2, .int 2), (3, .int p3), (4, .int p4)]) hx hb dX0_from_65 hl (by decide) rfl (fun ls hl => ?_)
    obtain ⟨x_7, ex_7⟩ : ∃ y : Int32, y = 0 + 1 := ⟨_, rfl⟩
    have fx_7 : x_7.toInt = (0 : Int) + 1 := by rw [ex_7]; exact i_add (by first | omega | (show (_ : Int) ≤ (0 : Int) + 1; omega)) (by first | omega | (show (0 : Int) + 1 ≤ (_ : Int); omega))
    refine lv_iinc (v := x_7) (lv' := [(6, .int x_7), (5, .int 6), (7, .int 0), (0, .ref (ad 9)), (1, .int 7), (2, .int 2), (3, .int p3), (4, .int p4)]) hx hb dX0_from_67 hl (k := 2) rfl (by rw [ex_7]; rfl) (by decide) rfl (fun ls hl => ?_)
    refine lv_goto (tgt := 6) hx hb dX0_from_70 (by decide) ?_
    refine lv_iload hx hb dX0_from_6 (lv_at hl 0 rfl) ?_
    obtain ⟨t0, t1, t2, ⟨a0, b0⟩, ⟨a1, b1⟩, ⟨a2, b2⟩⟩ := id hZ
    refine va_gets hx hb a2 hS hown (hg _ q4_143) (fun _ h9 => h9) dX0_from_8 ?_
    refine va_tlen hx hb b2 hS (v := 8) rfl dX0_from_11 ?_
    refine lv_icmp_ge (tgt := 73) hx hb dX0_from_12 (by decide) (fun c_8 => ?_) (fun c_8 => ?_)
    ·
      have kc_8 : (8 : Int) ≤ x_7.toInt := i_le c_8
      exfalso; omega
    ·
      have kc_8 : x_7.toInt < (8 : Int) := i_nle c_8
      refine lv_iload hx hb dX0_from_15 (lv_at hl 1 rfl) ?_
      refine cS_p (As := [.int 6]) (rest := []) ⟨hx, hb, hml, hown, hg⟩ (k_IK_7 l    ) ca_X0_isKind q4_145 ⟨rfl, rfl⟩ ⟨Nat.le_of_ble_eq_true rfl, Nat.le_of_ble_eq_true rfl⟩ rfl hl.1 rfl (Nat.le_of_ble_eq_true rfl) ⟨Nat.zero_le _, Nat.zero_le _⟩ dX0_from_17 (fun r_9 wr_9 => ?_)
      have wr_9 : r_9.toInt = 1 := wr_9
      refine lv_if_eq (tgt := 73) hx hb dX0_from_20 (by decide) (fun c_10 => ?_) (fun c_10 => ?_)
      ·
        have kc_10 : r_9.toInt = (0 : Int) := i_eq c_10
        exfalso; omega
      ·
        have kc_10 : r_9.toInt ≠ (0 : Int) := i_ne c_10
        refine lv_iload hx hb dX0_from_23 (lv_at hl 1 rfl) ?_
        refine lv_iload_n hx hb dX0_from_25 rfl (lv_at hl 5 rfl) ?_
        refine cS_p (As := [.int 6, .int 2]) (rest := []) ⟨hx, hb, hml, hown, hg⟩ (k_B_6_2 l    ) ca_X0_bodyOf q4_146 ⟨rfl, rfl⟩ ⟨Nat.le_of_ble_eq_true rfl, Nat.le_of_ble_eq_true rfl⟩ rfl hl.1 rfl (Nat.le_of_ble_eq_true rfl) ⟨Nat.zero_le _, Nat.zero_le _⟩ dX0_from_26 (fun r_11 wr_11 => ?_)
        have wr_11 : r_11.toInt = 0 := wr_11
        have el_12 : r_11 = 0 := i_inj (wr_11.trans (by rfl))
        subst el_12
        refine lv_istore (lv' := [(7, .int 0), (6, .int x_7), (5, .int 6), (0, .ref (ad 9)), (1, .int 7), (2, .int 2), (3, .int p3), (4, .int p4)]) hx hb dX0_from_29 hl (by decide) rfl (fun ls hl => ?_)
        refine lv_iload hx hb dX0_from_31 (lv_at hl 0 rfl) ?_
        refine lv_if_eq (tgt := 59) hx hb dX0_from_33 (by decide) (fun c_13 => ?_) (fun c_13 => absurd c_13 (by decide))
        obtain ⟨t0, t1, t2, ⟨a0, b0⟩, ⟨a1, b1⟩, ⟨a2, b2⟩⟩ := id hZ
        refine va_gets hx hb a2 hS hown (hg _ q4_143) (fun _ h9 => h9) dX0_from_59 ?_
        refine lv_iload hx hb dX0_from_62 (lv_at hl 2 rfl) ?_
        refine va_ti hx hb b2 hS (i_in (by decide) (by decide)) (v := .int 0) rfl dX0_from_64 ?_
        refine lv_istore (lv' := [(5, .int 0), (7, .int 0), (6, .int x_7), (0, .ref (ad 9)), (1, .int 7), (2, .int 2), (3, .int p3), (4, .int p4)]) hx hb dX0_from_65 hl (by decide) rfl (fun ls hl => ?_)
        obtain ⟨x_14, ex_14⟩ : ∃ y : Int32, y = x_7 + 1 := ⟨_, rfl⟩
        have fx_14 : x_14.toInt = x_7.toInt + 1 := by rw [ex_14]; exact i_add (by first | omega | (show (_ : Int) ≤ x_7.toInt + 1; omega)) (by first | omega | (show x_7.toInt + 1 ≤ (_ : Int); omega))
        refine lv_iinc (v := x_14) (lv' := [(6, .int x_14), (5, .int 0), (7, .int 0), (0, .ref (ad 9)), (1, .int 7), (2, .int 2), (3, .int p3), (4, .int p4)]) hx hb dX0_from_67 hl (k := 2) rfl (by rw [ex_14]; rfl) (by decide) rfl (fun ls hl => ?_)
        refine lv_goto (tgt := 6) hx hb dX0_from_70 (by decide) ?_
        refine lv_iload hx hb dX0_from_6 (lv_at hl 0 rfl) ?_
        obtain ⟨t0, t1, t2, ⟨a0, b0⟩, ⟨a1, b1⟩, ⟨a2, b2⟩⟩ := id hZ
        refine va_gets hx hb a2 hS hown (hg _ q4_143) (fun _ h9 => h9) dX0_from_8 ?_
        refine va_tlen hx hb b2 hS (v := 8) rfl dX0_from_11 ?_
        refine lv_icmp_ge (tgt := 73) hx hb dX0_from_12 (by decide) (fun c_15 => ?_) (fun c_15 => ?_)
        ·
          have kc_15 : (8 : Int) ≤ x_14.toInt := i_le c_15
          exfalso; omega
        ·
          have kc_15 : x_14.toInt < (8 : Int) := i_nle c_15
          refine lv_iload hx hb dX0_from_15 (lv_at hl 1 rfl) ?_
          refine cS_p (As := [.int 0]) (rest := []) ⟨hx, hb, hml, hown, hg⟩ (k_IK_1 l    ) ca_X0_isKind q4_145 ⟨rfl, rfl⟩ ⟨Nat.le_of_ble_eq_true rfl, Nat.le_of_ble_eq_true rfl⟩ rfl hl.1 rfl (Nat.le_of_ble_eq_true rfl) ⟨Nat.zero_le _, Nat.zero_le _⟩ dX0_from_17 (fun r_16 wr_16 => ?_)
          have wr_16 : r_16.toInt = 1 := wr_16
          refine lv_if_eq (tgt := 73) hx hb dX0_from_20 (by decide) (fun c_17 => ?_) (fun c_17 => ?_)
          ·
            have kc_17 : r_16.toInt = (0 : Int) := i_eq c_17
            exfalso; omega
          ·
            have kc_17 : r_16.toInt ≠ (0 : Int) := i_ne c_17
            refine lv_iload hx hb dX0_from_23 (lv_at hl 1 rfl) ?_
            refine lv_iload_n hx hb dX0_from_25 rfl (lv_at hl 5 rfl) ?_
            refine cS_p (As := [.int 0, .int 2]) (rest := []) ⟨hx, hb, hml, hown, hg⟩ (k_B_0_2 l    ) ca_X0_bodyOf q4_146 ⟨rfl, rfl⟩ ⟨Nat.le_of_ble_eq_true rfl, Nat.le_of_ble_eq_true rfl⟩ rfl hl.1 rfl (Nat.le_of_ble_eq_true rfl) ⟨Nat.zero_le _, Nat.zero_le _⟩ dX0_from_26 (fun r_18 wr_18 => ?_)
            have wr_18 : r_18.toInt = 11 := wr_18
            have el_19 : r_18 = 11 := i_inj (wr_18.trans (by rfl))
            subst el_19
            refine lv_istore (lv' := [(7, .int 11), (6, .int x_14), (5, .int 0), (0, .ref (ad 9)), (1, .int 7), (2, .int 2), (3, .int p3), (4, .int p4)]) hx hb dX0_from_29 hl (by decide) rfl (fun ls hl => ?_)
            refine lv_iload hx hb dX0_from_31 (lv_at hl 0 rfl) ?_
            refine lv_if_eq (tgt := 59) hx hb dX0_from_33 (by decide) (fun c_20 => absurd c_20 (by decide)) (fun c_20 => ?_)
            refine lv_iload hx hb dX0_from_36 (lv_at hl 7 rfl) ?_
            refine lv_bipush (v := 40) hx hb dX0_from_38 (by decide) ?_
            refine lv_icmp_ge (tgt := 57) hx hb dX0_from_40 (by decide) (fun c_21 => ?_) (fun c_21 => ?_)
            ·
              have kc_21 : (40 : Int) ≤ p4.toInt := i_le c_21
              exfalso; omega
            ·
              have kc_21 : p4.toInt < (40 : Int) := i_nle c_21
              refine lv_aload_n hx hb dX0_from_43 rfl (lv_at hl 3 rfl) ?_
              refine lv_iload hx hb dX0_from_44 (lv_at hl 0 rfl) ?_
              refine lv_iload_n hx hb dX0_from_46 rfl (lv_at hl 6 rfl) ?_
              refine lv_iload hx hb dX0_from_47 (lv_at hl 7 rfl) ?_
              refine lv_iconst (v := 1) hx hb dX0_from_49 (by decide) ?_
              refine lv_iadd hx hb dX0_from_50 ?_
              refine lv_topi (fun x_22 ex_22 => ?_)
              have fx_22 : x_22.toInt = p4.toInt + (1 : Int) := by rw [ex_22]; exact i_add (by first | omega | (show (_ : Int) ≤ p4.toInt + (1 : Int); omega)) (by first | omega | (show p4.toInt + (1 : Int) ≤ (_ : Int); omega))
              refine cV_i (As := [.int 11, .int p3, .int x_22]) (rest := []) ⟨hx, hb, hml, hown, hg⟩ (k_R_x_11 l D cs A ad fa fq rv v a w fv fp  p3 x_22 (show 0 ≤ (v 22).toInt by first | omega | decide) (show (v 22).toInt ≤ 23 by first | omega | decide) (show 0 ≤ x_22.toInt by first | omega | decide) (show x_22.toInt ≤ 38 by first | omega | decide) (show 0 ≤ (v 22).toInt by first | omega | decide) (show (v 22).toInt ≤ 1000 by first | omega | decide) (show 0 ≤ (v 23).toInt by first | omega | decide) (show (v 23).toInt ≤ 49 by first | omega | decide)) ca_X0_run q4_149 ⟨rfl, rfl⟩ ⟨Nat.le_of_ble_eq_true rfl, Nat.le_of_ble_eq_true rfl⟩ (rc_acts hK hP) hK hP hD hS hZ rfl hl.1 rfl (Nat.le_of_ble_eq_true rfl) ⟨Nat.zero_le _, Nat.zero_le _⟩ dX0_from_51 (fun r_23 z_26 H locs wr_23 hP hD hS => ?_)
              obtain ⟨o_v22_24, o_a38_25⟩ := z_26
              have hP : va_P D vwCl (CW cs ad fa fq rv (va_up v 22 o_v22_24) (va_up a 38 o_a38_25) w fv fp) H := hP
              have hD : va_D A (CW cs ad fa fq rv (va_up v 22 o_v22_24) (va_up a 38 o_a38_25) w fv fp) := hD
              obtain ⟨wr_23_0, wr_23_1, wr_23_2, wr_23_3, wr_23_4⟩ : (o_v22_24.toInt = (v 22).toInt + 1) ∧ (o_a38_25 = TRW (a 38) (v 22).toInt.toNat [11]) ∧ (r_23 = (p3 ^^^ (v 23))) ∧ (0 ≤ o_v22_24.toInt) ∧ (o_v22_24.toInt ≤ 1000) := wr_23
              have kt_27 : o_a38_25 = TRW (a 38) (v 22).toInt.toNat [11] := by rw [wr_23_1]
              refine lv_goto (tgt := 58) hx hb dX0_from_54 (by decide) ?_
              exact W.iret (v := r_23) hx hb hr (fun tt ht hW => ⟨⟨r_23, ⟨o_v22_24, o_a38_25⟩, rfl, ⟨(by first | rfl | omega | trivial | assumption | (dsimp only; first | omega | assumption)), (by (try dsimp only); first | assumption | rfl), (by simp only [wr_23_2, ex_22]), (show 0 ≤ o_v22_24.toInt by first | omega | assumption), (show o_v22_24.toInt ≤ 1000 by first | omega | assumption)⟩, by rw [ht]; exact hP, hD⟩, hS.F ht⟩) hS.2.2 dX0_from_58
set_option maxHeartbeats 4000000 in
set_option maxRecDepth 100000 in
theorem k_S_7_2 (l : Launch) (D : va_G) (cs : Nat → ClassId) (A : Nat → Prop) (ad fa fq rv : Nat → Nat) (v : Nat → Int32) (a : Nat → Nat → Int32) (w : Nat → Nat → Int64) (fv fp : Nat → Nat → Int32)  (p2 : Int32) (p3 : Int32) (hkn : (a 37) (v 23).toNatClampNeg = 7) (hr0 : 0 ≤ (v 22).toInt) (hr1 : (v 22).toInt ≤ 23) (hd0 : 0 ≤ p3.toInt) (hd1 : p3.toInt ≤ 37) (iv23_0 : 0 ≤ (v 23).toInt) (iv23_1 : (v 23).toInt ≤ 49) (ia37_0 : AB 0 7 (a 37)) (iv22_0 : 0 ≤ (v 22).toInt) (iv22_1 : (v 22).toInt ≤ 1000) : Met l yX0_self (Cond.code yX0_self cX0_self 4 (some .int) :: gw) ({ frames := 2, cells := 0, slots := 0, locals := 50 }) (va_Pc [.ref (ad 9), .int 2, .int p2, .int p3] (XPre D (TY cs) (CW cs ad fa fq rv v a w fv fp) A)) (va_Qi (fun (r : Int32) (z : Int32 × (Nat → Int32)) => (z.1.toInt = (v 22).toInt + 1) ∧ (z.2 = TRW (a 38) (v 22).toInt.toNat [11]) ∧ (r = (p2 ^^^ (v 23))) ∧ (0 ≤ z.1.toInt) ∧ (z.1.toInt ≤ 1000)) (XPo D (fun (z : Int32 × (Nat → Int32)) => CW cs ad fa fq rv (va_up v 22 z.1) (va_up a 38 z.2) w fv fp) A) A) 0 0 A := by
  refine Met.ofW (cc := cX0_self) (maxL := 4) (ret := (some .int)) (by decide) rfl ?_
  intro p e s m args below meth c s₁ B hml hv
  obtain ⟨rfl, hP, hK, hD, hZ⟩ := hv
  have hx := B.exec
  have hb := B.bytes
  have hr := B.returns
  have hts := atoms_spec (ws := (Cond.code yX0_self cX0_self 4 (some .int) :: gw)) B.pre
  have hg : ∀ w ∈ gw, w.before ([.ref (ad 9), .int 2, .int p2, .int p3] : List Value).toArray s = true := fun w h => hts w (List.mem_cons_of_mem _ h)
  have hown : s.vm.findClass RX0 = some m.cls := findClass_of_methodNamed B.named
  have hlocks := B.notSynchronized
  have hS : va_S A s.heap s.heap [] := va_S.rf
  have hP : va_P D vwCl (CW cs ad fa fq rv v a w fv fp) s.heap := hP
  have hl := lv_entry ([.ref (ad 9), .int 2, .int p2, .int p3]) (n := 4) (Nat.le_of_ble_eq_true rfl)
  rw [lg_entry_eq]
  generalize (lg_sl ([.ref (ad 9), .int 2, .int p2, .int p3]) ++ List.replicate (4 - (lg_sl ([.ref (ad 9), .int 2, .int p2, .int p3])).length) Slot.unset).toArray = ls at hl ⊢
  have hl : lv_has ls 4 [(0, .ref (ad 9)), (1, .int 2), (2, .int p2), (3, .int p3)] := hl
  refine lv_aload_n hx hb dX0_self_0 rfl (lv_at hl 0 rfl) ?_
  refine lv_aload_n hx hb dX0_self_1 rfl (lv_at hl 0 rfl) ?_
  refine gf_acts_kind hx hb hg hown hK hP rfl (hg _ q1_83) dX0_self_2 ?_
  refine lv_aload_n hx hb dX0_self_5 rfl (lv_at hl 0 rfl) ?_
  refine gf_acts_number hx hb hg hown hK hP (x := (v 23)) rfl (hg _ q1_90) dX0_self_6 ?_
  refine ld_Akind hx hb hK hP (i_in (by omega) (by omega)) dX0_self_9 ?_
  refine lv_topi (fun x_1 ex_1 => ?_)
  have ex_1 : x_1 = (a 37) (v 23).toNatClampNeg := ex_1
  have hx_1 : x_1.toInt = ((a 37) (v 23).toNatClampNeg).toInt := by rw [ex_1]
  have bx_1 := ia37_0 (v 23).toNatClampNeg
  rw [← ex_1] at bx_1
  have fx_1 : x_1 = 7 := by rw [ex_1]; exact hkn
  subst fx_1
  refine lv_iload_n hx hb dX0_self_10 rfl (lv_at hl 1 rfl) ?_
  refine lv_iload_n hx hb dX0_self_11 rfl (lv_at hl 2 rfl) ?_
  refine lv_iload_n hx hb dX0_self_12 rfl (lv_at hl 3 rfl) ?_
  refine cV_i (As := [.int 7, .int 2, .int p2, .int p3]) (rest := []) ⟨hx, hb, hml, hown, hg⟩ (k_F_x_7_2 l D cs A ad fa fq rv v a w fv fp  p2 p3 (show 0 ≤ (v 22).toInt by first | omega | decide) (show (v 22).toInt ≤ 23 by first | omega | decide) (show 0 ≤ p3.toInt by first | omega | decide) (show p3.toInt ≤ 37 by first | omega | decide) (show 0 ≤ (v 22).toInt by first | omega | decide) (show (v 22).toInt ≤ 1000 by first | omega | decide) (show 0 ≤ (v 23).toInt by first | omega | decide) (show (v 23).toInt ≤ 49 by first | omega | decide)) ca_X0_from q4_139 ⟨rfl, rfl⟩ ⟨Nat.le_of_ble_eq_true rfl, Nat.le_of_ble_eq_true rfl⟩ (rc_acts hK hP) hK hP hD hS hZ rfl hl.1 rfl (Nat.le_of_ble_eq_true rfl) ⟨Nat.zero_le _, Nat.zero_le _⟩ dX0_self_13 (fun r_2 z_5 H locs wr_2 hP hD hS => ?_)
  obtain ⟨o_v22_3, o_a38_4⟩ := z_5
  have hP : va_P D vwCl (CW cs ad fa fq rv (va_up v 22 o_v22_3) (va_up a 38 o_a38_4) w fv fp) H := hP
  have hD : va_D A (CW cs ad fa fq rv (va_up v 22 o_v22_3) (va_up a 38 o_a38_4) w fv fp) := hD
  obtain ⟨wr_2_0, wr_2_1, wr_2_2, wr_2_3, wr_2_4⟩ : (o_v22_3.toInt = (v 22).toInt + 1) ∧ (o_a38_4 = TRW (a 38) (v 22).toInt.toNat [11]) ∧ (r_2 = (p2 ^^^ (v 23))) ∧ (0 ≤ o_v22_3.toInt) ∧ (o_v22_3.toInt ≤ 1000) := wr_2
  have kt_6 : o_a38_4 = TRW (a 38) (v 22).toInt.toNat [11] := by rw [wr_2_1]
  exact W.iret (v := r_2) hx hb hr (fun tt ht hW => ⟨⟨r_2, ⟨o_v22_3, o_a38_4⟩, rfl, ⟨(by first | rfl | omega | trivial | assumption | (dsimp only; first | omega | assumption)), (by (try dsimp only); first | assumption | rfl), (by simp only [wr_2_2]), (show 0 ≤ o_v22_3.toInt by first | omega | assumption), (show o_v22_3.toInt ≤ 1000 by first | omega | assumption)⟩, by rw [ht]; exact hP, hD⟩, hS.F ht⟩) hS.2.2 dX0_self_16
set_option maxHeartbeats 4000000 in
set_option maxRecDepth 100000 in
theorem k_R_7_80 (l : Launch) (D : va_G) (cs : Nat → ClassId) (A : Nat → Prop) (ad fa fq rv : Nat → Nat) (v : Nat → Int32) (a : Nat → Nat → Int32) (w : Nat → Nat → Int64) (fv fp : Nat → Nat → Int32)  (p2 : Int32) (p3 : Int32) (hkn : (a 37) (v 23).toNatClampNeg = 7) (hr0 : 0 ≤ (v 22).toInt) (hr1 : (v 22).toInt ≤ 18) (hd0 : 0 ≤ p3.toInt) (hd1 : p3.toInt ≤ 34) (iv22_0 : 0 ≤ (v 22).toInt) (iv22_1 : (v 22).toInt ≤ 1000) (iv23_0 : 0 ≤ (v 23).toInt) (iv23_1 : (v 23).toInt ≤ 49) (ia37_0 : AB 0 7 (a 37)) : Met l yX0_run (Cond.code yX0_run cX0_run 4 (some .int) :: gw) ({ frames := 9, cells := 0, slots := 0, locals := 223 }) (va_Pc [.ref (ad 9), .int 80, .int p2, .int p3] (XPre D (TY cs) (CW cs ad fa fq rv v a w fv fp) A)) (va_Qi (fun (r : Int32) (z : Int32 × (Nat → Int32)) => (z.1.toInt = (v 22).toInt + 6) ∧ (z.2 = TRW (a 38) (v 22).toInt.toNat [80, 10, 81, 70, 1, 11]) ∧ (r = (((((p2 + (v 23)) * 2) - 1) * 2) + ((2 : Int32) ^^^ (v 23)))) ∧ (0 ≤ z.1.toInt) ∧ (z.1.toInt ≤ 1000)) (XPo D (fun (z : Int32 × (Nat → Int32)) => CW cs ad fa fq rv (va_up v 22 z.1) (va_up a 38 z.2) w fv fp) A) A) 0 0 A := by
  refine Met.ofW (cc := cX0_run) (maxL := 4) (ret := (some .int)) (by decide) rfl ?_
  intro p e s m args below meth c s₁ B hml hv
  obtain ⟨rfl, hP, hK, hD, hZ⟩ := hv
  have hx := B.exec
  have hb := B.bytes
  have hr := B.returns
  have hts := atoms_spec (ws := (Cond.code yX0_run cX0_run 4 (some .int) :: gw)) B.pre
  have hg : ∀ w ∈ gw, w.before ([.ref (ad 9), .int 80, .int p2, .int p3] : List Value).toArray s = true := fun w h => hts w (List.mem_cons_of_mem _ h)
  have hown : s.vm.findClass RX0 = some m.cls := findClass_of_methodNamed B.named
  have hlocks := B.notSynchronized
  have hS : va_S A s.heap s.heap [] := va_S.rf
  have hP : va_P D vwCl (CW cs ad fa fq rv v a w fv fp) s.heap := hP
  have hl := lv_entry ([.ref (ad 9), .int 80, .int p2, .int p3]) (n := 4) (Nat.le_of_ble_eq_true rfl)
  rw [lg_entry_eq]
  generalize (lg_sl ([.ref (ad 9), .int 80, .int p2, .int p3]) ++ List.replicate (4 - (lg_sl ([.ref (ad 9), .int 80, .int p2, .int p3])).length) Slot.unset).toArray = ls at hl ⊢
  have hl : lv_has ls 4 [(0, .ref (ad 9)), (1, .int 80), (2, .int p2), (3, .int p3)] := hl
  refine lv_aload_n hx hb dX0_run_0 rfl (lv_at hl 0 rfl) ?_
  refine gf_acts_ran hx hb hg hown hK hP (x := (v 22)) rfl (hg _ q1_88) dX0_run_1 ?_
  refine lv_bipush (v := 24) hx hb dX0_run_4 (by decide) ?_
  refine lv_icmp_ge (tgt := 19) hx hb dX0_run_6 (by decide) (fun c_1 => ?_) (fun c_1 => ?_)
  ·
    have kc_1 : (24 : Int) ≤ (v 22).toInt := i_le c_1
    exfalso; omega
  ·
    have kc_1 : (v 22).toInt < (24 : Int) := i_nle c_1
    refine lv_aload_n hx hb dX0_run_9 rfl (lv_at hl 0 rfl) ?_
    refine gf_acts_traced hx hb hg hown hK hP rfl (hg _ q1_86) dX0_run_10 ?_
    refine lv_aload_n hx hb dX0_run_13 rfl (lv_at hl 0 rfl) ?_
    refine gf_acts_ran hx hb hg hown hK hP (x := (v 22)) rfl (hg _ q1_88) dX0_run_14 ?_
    refine lv_iload_n hx hb dX0_run_17 rfl (lv_at hl 1 rfl) ?_
    refine st_Atraced hx hb hK hP hD hS (i_in (by omega) (by omega)) dX0_run_18 (fun H locs hP hD hS => ?_)
    refine lv_aload_n hx hb dX0_run_19 rfl (lv_at hl 0 rfl) ?_
    refine lv_dup hx hb dX0_run_20 rfl ?_
    refine gf_acts_ran hx hb hg hown hK hP (x := (v 22)) rfl (hg _ q1_88) dX0_run_21 ?_
    refine lv_iconst (v := 1) hx hb dX0_run_24 (by decide) ?_
    refine lv_iadd hx hb dX0_run_25 ?_
    refine lv_topi (fun x_2 ex_2 => ?_)
    have fx_2 : x_2.toInt = (v 22).toInt + (1 : Int) := by rw [ex_2]; exact i_add (by first | omega | (show (_ : Int) ≤ (v 22).toInt + (1 : Int); omega)) (by first | omega | (show (v 22).toInt + (1 : Int) ≤ (_ : Int); omega))
    refine pf_acts_ran hx hb hg hown hK hP hD hS (hg _ q1_88) dX0_run_26 (fun H locs hP hD hS => ?_)
    refine lv_iload_n hx hb dX0_run_29 rfl (lv_at hl 1 rfl) ?_
    refine lv_lookup (tgt := 318) hx hb dX0_run_30 (by decide) (off := 288) (by decide) (by decide) ?_
    refine lv_aload_n hx hb dX0_run_318 rfl (lv_at hl 0 rfl) ?_
    obtain ⟨t0, t1, t2, ⟨a0, b0⟩, ⟨a1, b1⟩, ⟨a2, b2⟩⟩ := id hZ
    refine va_gets hx hb a2 hS hown (hg _ q4_143) (fun _ h9 => h9) dX0_run_319 ?_
    refine lv_bipush (v := 7) hx hb dX0_run_322 (by decide) ?_
    refine va_ti hx hb b2 hS (i_in (by decide) (by decide)) (v := .int 6) rfl dX0_run_324 ?_
    refine lv_iconst (v := 1) hx hb dX0_run_325 (by decide) ?_
    refine lv_iload_n hx hb dX0_run_326 rfl (lv_at hl 2 rfl) ?_
    refine lv_iload_n hx hb dX0_run_327 rfl (lv_at hl 3 rfl) ?_
    refine cV_i (As := [.int 6, .int 1, .int p2, .int p3]) (rest := []) ⟨hx, hb, hml, hown, hg⟩ (k_F_7_6_1 l D cs A ad fa fq rv (va_up v 22 x_2) (va_up a 38 (upd (a 38) (v 22).toNatClampNeg 80)) w fv fp  p2 p3 hkn (show 0 ≤ x_2.toInt by first | omega | decide) (show x_2.toInt ≤ 20 by first | omega | decide) (show 0 ≤ p3.toInt by first | omega | decide) (show p3.toInt ≤ 34 by first | omega | decide) (show 0 ≤ x_2.toInt by first | omega | decide) (show x_2.toInt ≤ 1000 by first | omega | decide) (show 0 ≤ (v 23).toInt by first | omega | decide) (show (v 23).toInt ≤ 49 by first | omega | decide) ia37_0) ca_X0_from q4_139 ⟨rfl, rfl⟩ ⟨Nat.le_of_ble_eq_true rfl, Nat.le_of_ble_eq_true rfl⟩ (rc_acts hK hP) hK hP hD hS hZ rfl hl.1 rfl (Nat.le_of_ble_eq_true rfl) ⟨Nat.zero_le _, Nat.zero_le _⟩ dX0_run_328 (fun r_4 z_7 H locs wr_4 hP hD hS => ?_)
    obtain ⟨o_v22_5, o_a38_6⟩ := z_7
    have hP : va_P D vwCl (CW cs ad fa fq rv (va_up v 22 o_v22_5) (va_up a 38 o_a38_6) w fv fp) H := hP
    have hD : va_D A (CW cs ad fa fq rv (va_up v 22 o_v22_5) (va_up a 38 o_a38_6) w fv fp) := hD
    obtain ⟨wr_4_0, wr_4_1, wr_4_2, wr_4_3, wr_4_4⟩ : (o_v22_5.toInt = x_2.toInt + 4) ∧ (o_a38_6 = TRW (upd (a 38) (v 22).toNatClampNeg 80) x_2.toInt.toNat [10, 81, 70, 1]) ∧ (r_4 = ((((p2 + (v 23)) * 2) - 1) * 2)) ∧ (0 ≤ o_v22_5.toInt) ∧ (o_v22_5.toInt ≤ 1000) := wr_4
    have kt_8 : o_a38_6 = TRW (a 38) (v 22).toInt.toNat [80, 10, 81, 70, 1] := by rw [wr_4_1, show (x_2).toInt.toNat = (v 22).toInt.toNat + 1 from by omega]; rfl
    refine lv_aload_n hx hb dX0_run_331 rfl (lv_at hl 0 rfl) ?_
    refine lv_iconst (v := 2) hx hb dX0_run_332 (by decide) ?_
    refine lv_iconst (v := 2) hx hb dX0_run_333 (by decide) ?_
    refine lv_iload_n hx hb dX0_run_334 rfl (lv_at hl 3 rfl) ?_
    refine cV_i (As := [.int 2, .int 2, .int p3]) (rest := [.int r_4]) ⟨hx, hb, hml, hown, hg⟩ (k_S_7_2 l D cs A ad fa fq rv (va_up v 22 o_v22_5) (va_up a 38 o_a38_6) w fv fp  2 p3 hkn (show 0 ≤ o_v22_5.toInt by first | omega | decide) (show o_v22_5.toInt ≤ 23 by first | omega | decide) (show 0 ≤ p3.toInt by first | omega | decide) (show p3.toInt ≤ 37 by first | omega | decide) (show 0 ≤ (v 23).toInt by first | omega | decide) (show (v 23).toInt ≤ 49 by first | omega | decide) ia37_0 (show 0 ≤ o_v22_5.toInt by first | omega | decide) (show o_v22_5.toInt ≤ 1000 by first | omega | decide)) ca_X0_self q4_135 ⟨rfl, rfl⟩ ⟨Nat.le_of_ble_eq_true rfl, Nat.le_of_ble_eq_true rfl⟩ (rc_acts hK hP) hK hP hD hS hZ rfl hl.1 rfl (Nat.le_of_ble_eq_true rfl) ⟨Nat.zero_le _, Nat.zero_le _⟩ dX0_run_335 (fun r_9 z_12 H locs wr_9 hP hD hS => ?_)
    obtain ⟨o_v22_10, o_a38_11⟩ := z_12
    have hP : va_P D vwCl (CW cs ad fa fq rv (va_up v 22 o_v22_10) (va_up a 38 o_a38_11) w fv fp) H := hP
    have hD : va_D A (CW cs ad fa fq rv (va_up v 22 o_v22_10) (va_up a 38 o_a38_11) w fv fp) := hD
    obtain ⟨wr_9_0, wr_9_1, wr_9_2, wr_9_3, wr_9_4⟩ : (o_v22_10.toInt = o_v22_5.toInt + 1) ∧ (o_a38_11 = TRW o_a38_6 o_v22_5.toInt.toNat [11]) ∧ (r_9 = ((2 : Int32) ^^^ (v 23))) ∧ (0 ≤ o_v22_10.toInt) ∧ (o_v22_10.toInt ≤ 1000) := wr_9
    have kt_13 : o_a38_11 = TRW (a 38) (v 22).toInt.toNat [80, 10, 81, 70, 1, 11] := by rw [wr_9_1, kt_8, show (o_v22_5).toInt.toNat = (v 22).toInt.toNat + 5 from by omega]; rfl
    refine lv_iadd hx hb dX0_run_338 ?_
    refine lv_topi (fun x_14 ex_14 => ?_)
    exact W.iret (v := x_14) hx hb hr (fun tt ht hW => ⟨⟨x_14, ⟨o_v22_10, o_a38_11⟩, rfl, ⟨(by first | rfl | omega | trivial | assumption | (dsimp only; first | omega | assumption)), (by (try dsimp only); first | assumption | rfl), (by simp only [ex_14, wr_9_2, wr_4_2, ex_2]), (show 0 ≤ o_v22_10.toInt by first | omega | assumption), (show o_v22_10.toInt ≤ 1000 by first | omega | assumption)⟩, by rw [ht]; exact hP, hD⟩, hS.F ht⟩) hS.2.2 dX0_run_339
set_option maxHeartbeats 4000000 in
set_option maxRecDepth 100000 in
theorem k_F_7_7_1 (l : Launch) (D : va_G) (cs : Nat → ClassId) (A : Nat → Prop) (ad fa fq rv : Nat → Nat) (v : Nat → Int32) (a : Nat → Nat → Int32) (w : Nat → Nat → Int64) (fv fp : Nat → Nat → Int32)  (p3 : Int32) (p4 : Int32) (hkn : (a 37) (v 23).toNatClampNeg = 7) (hr0 : 0 ≤ (v 22).toInt) (hr1 : (v 22).toInt ≤ 18) (hd0 : 0 ≤ p4.toInt) (hd1 : p4.toInt ≤ 33) (iv22_0 : 0 ≤ (v 22).toInt) (iv22_1 : (v 22).toInt ≤ 1000) (iv23_0 : 0 ≤ (v 23).toInt) (iv23_1 : (v 23).toInt ≤ 49) (ia37_0 : AB 0 7 (a 37)) : Met l yX0_from (Cond.code yX0_from cX0_from 8 (some .int) :: gw) ({ frames := 10, cells := 0, slots := 0, locals := 246 }) (va_Pc [.ref (ad 9), .int 7, .int 1, .int p3, .int p4] (XPre D (TY cs) (CW cs ad fa fq rv v a w fv fp) A)) (va_Qi (fun (r : Int32) (z : Int32 × (Nat → Int32)) => (z.1.toInt = (v 22).toInt + 6) ∧ (z.2 = TRW (a 38) (v 22).toInt.toNat [80, 10, 81, 70, 1, 11]) ∧ (r = (((((p3 + (v 23)) * 2) - 1) * 2) + ((2 : Int32) ^^^ (v 23)))) ∧ (0 ≤ z.1.toInt) ∧ (z.1.toInt ≤ 1000)) (XPo D (fun (z : Int32 × (Nat → Int32)) => CW cs ad fa fq rv (va_up v 22 z.1) (va_up a 38 z.2) w fv fp) A) A) 0 0 A := by
  refine Met.ofW (cc := cX0_from) (maxL := 8) (ret := (some .int)) (by decide) rfl ?_
  intro p e s m args below meth c s₁ B hml hv
  obtain ⟨rfl, hP, hK, hD, hZ⟩ := hv
  have hx := B.exec
  have hb := B.bytes
  have hr := B.returns
  have hts := atoms_spec (ws := (Cond.code yX0_from cX0_from 8 (some .int) :: gw)) B.pre
  have hg : ∀ w ∈ gw, w.before ([.ref (ad 9), .int 7, .int 1, .int p3, .int p4] : List Value).toArray s = true := fun w h => hts w (List.mem_cons_of_mem _ h)
  have hown : s.vm.findClass RX0 = some m.cls := findClass_of_methodNamed B.named
  have hlocks := B.notSynchronized
  have hS : va_S A s.heap s.heap [] := va_S.rf
  have hP : va_P D vwCl (CW cs ad fa fq rv v a w fv fp) s.heap := hP
  have hl := lv_entry ([.ref (ad 9), .int 7, .int 1, .int p3, .int p4]) (n := 8) (Nat.le_of_ble_eq_true rfl)
  rw [lg_entry_eq]
  generalize (lg_sl ([.ref (ad 9), .int 7, .int 1, .int p3, .int p4]) ++ List.replicate (8 - (lg_sl ([.ref (ad 9), .int 7, .int 1, .int p3, .int p4])).length) Slot.unset).toArray = ls at hl ⊢
  have hl : lv_has ls 8 [(0, .ref (ad 9)), (1, .int 7), (2, .int 1), (3, .int p3), (4, .int p4)] := hl
  refine lv_iload_n hx hb dX0_from_0 rfl (lv_at hl 1 rfl) ?_
  refine lv_istore (lv' := [(5, .int 7), (0, .ref (ad 9)), (1, .int 7), (2, .int 1), (3, .int p3), (4, .int p4)]) hx hb dX0_from_1 hl (by decide) rfl (fun ls hl => ?_)
  refine lv_iconst (v := 0) hx hb dX0_from_3 (by decide) ?_
  refine lv_istore (lv' := [(6, .int 0), (5, .int 7), (0, .ref (ad 9)), (1, .int 7), (2, .int 1), (3, .int p3), (4, .int p4)]) hx hb dX0_from_4 hl (by decide) rfl (fun ls hl => ?_)
  refine lv_iload hx hb dX0_from_6 (lv_at hl 0 rfl) ?_
  obtain ⟨t0, t1, t2, ⟨a0, b0⟩, ⟨a1, b1⟩, ⟨a2, b2⟩⟩ := id hZ
  refine va_gets hx hb a2 hS hown (hg _ q4_143) (fun _ h9 => h9) dX0_from_8 ?_
  refine va_tlen hx hb b2 hS (v := 8) rfl dX0_from_11 ?_
  refine lv_icmp_ge (tgt := 73) hx hb dX0_from_12 (by decide) (fun c_1 => absurd c_1 (by decide)) (fun c_1 => ?_)
  refine lv_iload hx hb dX0_from_15 (lv_at hl 1 rfl) ?_
  refine cS_p (As := [.int 7]) (rest := []) ⟨hx, hb, hml, hown, hg⟩ (k_IK_8 l    ) ca_X0_isKind q4_145 ⟨rfl, rfl⟩ ⟨Nat.le_of_ble_eq_true rfl, Nat.le_of_ble_eq_true rfl⟩ rfl hl.1 rfl (Nat.le_of_ble_eq_true rfl) ⟨Nat.zero_le _, Nat.zero_le _⟩ dX0_from_17 (fun r_2 wr_2 => ?_)
  have wr_2 : r_2.toInt = 1 := wr_2
  refine lv_if_eq (tgt := 73) hx hb dX0_from_20 (by decide) (fun c_3 => ?_) (fun c_3 => ?_)
  ·
    have kc_3 : r_2.toInt = (0 : Int) := i_eq c_3
    exfalso; omega
  ·
    have kc_3 : r_2.toInt ≠ (0 : Int) := i_ne c_3
    refine lv_iload hx hb dX0_from_23 (lv_at hl 1 rfl) ?_
    refine lv_iload_n hx hb dX0_from_25 rfl (lv_at hl 4 rfl) ?_
    refine cS_p (As := [.int 7, .int 1]) (rest := []) ⟨hx, hb, hml, hown, hg⟩ (k_B_7_1 l    ) ca_X0_bodyOf q4_146 ⟨rfl, rfl⟩ ⟨Nat.le_of_ble_eq_true rfl, Nat.le_of_ble_eq_true rfl⟩ rfl hl.1 rfl (Nat.le_of_ble_eq_true rfl) ⟨Nat.zero_le _, Nat.zero_le _⟩ dX0_from_26 (fun r_4 wr_4 => ?_)
    have wr_4 : r_4.toInt = 80 := wr_4
    have el_5 : r_4 = 80 := i_inj (wr_4.trans (by rfl))
    subst el_5
    refine lv_istore (lv' := [(7, .int 80), (6, .int 0), (5, .int 7), (0, .ref (ad 9)), (1, .int 7), (2, .int 1), (3, .int p3), (4, .int p4)]) hx hb dX0_from_29 hl (by decide) rfl (fun ls hl => ?_)
    refine lv_iload hx hb dX0_from_31 (lv_at hl 0 rfl) ?_
    refine lv_if_eq (tgt := 59) hx hb dX0_from_33 (by decide) (fun c_6 => absurd c_6 (by decide)) (fun c_6 => ?_)
    refine lv_iload hx hb dX0_from_36 (lv_at hl 7 rfl) ?_
    refine lv_bipush (v := 40) hx hb dX0_from_38 (by decide) ?_
    refine lv_icmp_ge (tgt := 57) hx hb dX0_from_40 (by decide) (fun c_7 => ?_) (fun c_7 => ?_)
    ·
      have kc_7 : (40 : Int) ≤ p4.toInt := i_le c_7
      exfalso; omega
    ·
      have kc_7 : p4.toInt < (40 : Int) := i_nle c_7
      refine lv_aload_n hx hb dX0_from_43 rfl (lv_at hl 3 rfl) ?_
      refine lv_iload hx hb dX0_from_44 (lv_at hl 0 rfl) ?_
      refine lv_iload_n hx hb dX0_from_46 rfl (lv_at hl 6 rfl) ?_
      refine lv_iload hx hb dX0_from_47 (lv_at hl 7 rfl) ?_
      refine lv_iconst (v := 1) hx hb dX0_from_49 (by decide) ?_
      refine lv_iadd hx hb dX0_from_50 ?_
      refine lv_topi (fun x_8 ex_8 => ?_)
      have fx_8 : x_8.toInt = p4.toInt + (1 : Int) := by rw [ex_8]; exact i_add (by first | omega | (show (_ : Int) ≤ p4.toInt + (1 : Int); omega)) (by first | omega | (show p4.toInt + (1 : Int) ≤ (_ : Int); omega))
      refine cV_i (As := [.int 80, .int p3, .int x_8]) (rest := []) ⟨hx, hb, hml, hown, hg⟩ (k_R_7_80 l D cs A ad fa fq rv v a w fv fp  p3 x_8 hkn (show 0 ≤ (v 22).toInt by first | omega | decide) (show (v 22).toInt ≤ 18 by first | omega | decide) (show 0 ≤ x_8.toInt by first | omega | decide) (show x_8.toInt ≤ 34 by first | omega | decide) (show 0 ≤ (v 22).toInt by first | omega | decide) (show (v 22).toInt ≤ 1000 by first | omega | decide) (show 0 ≤ (v 23).toInt by first | omega | decide) (show (v 23).toInt ≤ 49 by first | omega | decide) ia37_0) ca_X0_run q4_149 ⟨rfl, rfl⟩ ⟨Nat.le_of_ble_eq_true rfl, Nat.le_of_ble_eq_true rfl⟩ (rc_acts hK hP) hK hP hD hS hZ rfl hl.1 rfl (Nat.le_of_ble_eq_true rfl) ⟨Nat.zero_le _, Nat.zero_le _⟩ dX0_from_51 (fun r_9 z_12 H locs wr_9 hP hD hS => ?_)
      obtain ⟨o_v22_10, o_a38_11⟩ := z_12
      have hP : va_P D vwCl (CW cs ad fa fq rv (va_up v 22 o_v22_10) (va_up a 38 o_a38_11) w fv fp) H := hP
      have hD : va_D A (CW cs ad fa fq rv (va_up v 22 o_v22_10) (va_up a 38 o_a38_11) w fv fp) := hD
      obtain ⟨wr_9_0, wr_9_1, wr_9_2, wr_9_3, wr_9_4⟩ : (o_v22_10.toInt = (v 22).toInt + 6) ∧ (o_a38_11 = TRW (a 38) (v 22).toInt.toNat [80, 10, 81, 70, 1, 11]) ∧ (r_9 = (((((p3 + (v 23)) * 2) - 1) * 2) + ((2 : Int32) ^^^ (v 23)))) ∧ (0 ≤ o_v22_10.toInt) ∧ (o_v22_10.toInt ≤ 1000) := wr_9
      have kt_13 : o_a38_11 = TRW (a 38) (v 22).toInt.toNat [80, 10, 81, 70, 1, 11] := by rw [wr_9_1]
      refine lv_goto (tgt := 58) hx hb dX0_from_54 (by decide) ?_
      exact W.iret (v := r_9) hx hb hr (fun tt ht hW => ⟨⟨r_9, ⟨o_v22_10, o_a38_11⟩, rfl, ⟨(by first | rfl | omega | trivial | assumption | (dsimp only; first | omega | assumption)), (by (try dsimp only); first | assumption | rfl), (by simp only [wr_9_2, ex_8]), (show 0 ≤ o_v22_10.toInt by first | omega | assumption), (show o_v22_10.toInt ≤ 1000 by first | omega | assumption)⟩, by rw [ht]; exact hP, hD⟩, hS.F ht⟩) hS.2.2 dX0_from_58
set_option maxHeartbeats 4000000 in
set_option maxRecDepth 100000 in
theorem k_S_7_1 (l : Launch) (D : va_G) (cs : Nat → ClassId) (A : Nat → Prop) (ad fa fq rv : Nat → Nat) (v : Nat → Int32) (a : Nat → Nat → Int32) (w : Nat → Nat → Int64) (fv fp : Nat → Nat → Int32)  (p2 : Int32) (p3 : Int32) (hkn : (a 37) (v 23).toNatClampNeg = 7) (hr0 : 0 ≤ (v 22).toInt) (hr1 : (v 22).toInt ≤ 18) (hd0 : 0 ≤ p3.toInt) (hd1 : p3.toInt ≤ 33) (iv23_0 : 0 ≤ (v 23).toInt) (iv23_1 : (v 23).toInt ≤ 49) (ia37_0 : AB 0 7 (a 37)) (iv22_0 : 0 ≤ (v 22).toInt) (iv22_1 : (v 22).toInt ≤ 1000) : Met l yX0_self (Cond.code yX0_self cX0_self 4 (some .int) :: gw) ({ frames := 11, cells := 0, slots := 0, locals := 273 }) (va_Pc [.ref (ad 9), .int 1, .int p2, .int p3] (XPre D (TY cs) (CW cs ad fa fq rv v a w fv fp) A)) (va_Qi (fun (r : Int32) (z : Int32 × (Nat → Int32)) => (z.1.toInt = (v 22).toInt + 6) ∧ (z.2 = TRW (a 38) (v 22).toInt.toNat [80, 10, 81, 70, 1, 11]) ∧ (r = (((((p2 + (v 23)) * 2) - 1) * 2) + ((2 : Int32) ^^^ (v 23)))) ∧ (0 ≤ z.1.toInt) ∧ (z.1.toInt ≤ 1000)) (XPo D (fun (z : Int32 × (Nat → Int32)) => CW cs ad fa fq rv (va_up v 22 z.1) (va_up a 38 z.2) w fv fp) A) A) 0 0 A := by
  refine Met.ofW (cc := cX0_self) (maxL := 4) (ret := (some .int)) (by decide) rfl ?_
  intro p e s m args below meth c s₁ B hml hv
  obtain ⟨rfl, hP, hK, hD, hZ⟩ := hv
  have hx := B.exec
  have hb := B.bytes
  have hr := B.returns
  have hts := atoms_spec (ws := (Cond.code yX0_self cX0_self 4 (some .int) :: gw)) B.pre
  have hg : ∀ w ∈ gw, w.before ([.ref (ad 9), .int 1, .int p2, .int p3] : List Value).toArray s = true := fun w h => hts w (List.mem_cons_of_mem _ h)
  have hown : s.vm.findClass RX0 = some m.cls := findClass_of_methodNamed B.named
  have hlocks := B.notSynchronized
  have hS : va_S A s.heap s.heap [] := va_S.rf
  have hP : va_P D vwCl (CW cs ad fa fq rv v a w fv fp) s.heap := hP
  have hl := lv_entry ([.ref (ad 9), .int 1, .int p2, .int p3]) (n := 4) (Nat.le_of_ble_eq_true rfl)
  rw [lg_entry_eq]
  generalize (lg_sl ([.ref (ad 9), .int 1, .int p2, .int p3]) ++ List.replicate (4 - (lg_sl ([.ref (ad 9), .int 1, .int p2, .int p3])).length) Slot.unset).toArray = ls at hl ⊢
  have hl : lv_has ls 4 [(0, .ref (ad 9)), (1, .int 1), (2, .int p2), (3, .int p3)] := hl
  refine lv_aload_n hx hb dX0_self_0 rfl (lv_at hl 0 rfl) ?_
  refine lv_aload_n hx hb dX0_self_1 rfl (lv_at hl 0 rfl) ?_
  refine gf_acts_kind hx hb hg hown hK hP rfl (hg _ q1_83) dX0_self_2 ?_
  refine lv_aload_n hx hb dX0_self_5 rfl (lv_at hl 0 rfl) ?_
  refine gf_acts_number hx hb hg hown hK hP (x := (v 23)) rfl (hg _ q1_90) dX0_self_6 ?_
  refine ld_Akind hx hb hK hP (i_in (by omega) (by omega)) dX0_self_9 ?_
  refine lv_topi (fun x_1 ex_1 => ?_)
  have ex_1 : x_1 = (a 37) (v 23).toNatClampNeg := ex_1
  have hx_1 : x_1.toInt = ((a 37) (v 23).toNatClampNeg).toInt := by rw [ex_1]
  have bx_1 := ia37_0 (v 23).toNatClampNeg
  rw [← ex_1] at bx_1
  have fx_1 : x_1 = 7 := by rw [ex_1]; exact hkn
  subst fx_1
  refine lv_iload_n hx hb dX0_self_10 rfl (lv_at hl 1 rfl) ?_
  refine lv_iload_n hx hb dX0_self_11 rfl (lv_at hl 2 rfl) ?_
  refine lv_iload_n hx hb dX0_self_12 rfl (lv_at hl 3 rfl) ?_
  refine cV_i (As := [.int 7, .int 1, .int p2, .int p3]) (rest := []) ⟨hx, hb, hml, hown, hg⟩ (k_F_7_7_1 l D cs A ad fa fq rv v a w fv fp  p2 p3 hkn (show 0 ≤ (v 22).toInt by first | omega | decide) (show (v 22).toInt ≤ 18 by first | omega | decide) (show 0 ≤ p3.toInt by first | omega | decide) (show p3.toInt ≤ 33 by first | omega | decide) (show 0 ≤ (v 22).toInt by first | omega | decide) (show (v 22).toInt ≤ 1000 by first | omega | decide) (show 0 ≤ (v 23).toInt by first | omega | decide) (show (v 23).toInt ≤ 49 by first | omega | decide) ia37_0) ca_X0_from q4_139 ⟨rfl, rfl⟩ ⟨Nat.le_of_ble_eq_true rfl, Nat.le_of_ble_eq_true rfl⟩ (rc_acts hK hP) hK hP hD hS hZ rfl hl.1 rfl (Nat.le_of_ble_eq_true rfl) ⟨Nat.zero_le _, Nat.zero_le _⟩ dX0_self_13 (fun r_2 z_5 H locs wr_2 hP hD hS => ?_)
  obtain ⟨o_v22_3, o_a38_4⟩ := z_5
  have hP : va_P D vwCl (CW cs ad fa fq rv (va_up v 22 o_v22_3) (va_up a 38 o_a38_4) w fv fp) H := hP
  have hD : va_D A (CW cs ad fa fq rv (va_up v 22 o_v22_3) (va_up a 38 o_a38_4) w fv fp) := hD
  obtain ⟨wr_2_0, wr_2_1, wr_2_2, wr_2_3, wr_2_4⟩ : (o_v22_3.toInt = (v 22).toInt + 6) ∧ (o_a38_4 = TRW (a 38) (v 22).toInt.toNat [80, 10, 81, 70, 1, 11]) ∧ (r_2 = (((((p2 + (v 23)) * 2) - 1) * 2) + ((2 : Int32) ^^^ (v 23)))) ∧ (0 ≤ o_v22_3.toInt) ∧ (o_v22_3.toInt ≤ 1000) := wr_2
  have kt_6 : o_a38_4 = TRW (a 38) (v 22).toInt.toNat [80, 10, 81, 70, 1, 11] := by rw [wr_2_1]
  exact W.iret (v := r_2) hx hb hr (fun tt ht hW => ⟨⟨r_2, ⟨o_v22_3, o_a38_4⟩, rfl, ⟨(by first | rfl | omega | trivial | assumption | (dsimp only; first | omega | assumption)), (by (try dsimp only); first | assumption | rfl), (by simp only [wr_2_2]), (show 0 ≤ o_v22_3.toInt by first | omega | assumption), (show o_v22_3.toInt ≤ 1000 by first | omega | assumption)⟩, by rw [ht]; exact hP, hD⟩, hS.F ht⟩) hS.2.2 dX0_self_16
set_option maxHeartbeats 4000000 in
set_option maxRecDepth 100000 in
theorem k_R_7_2 (l : Launch) (D : va_G) (cs : Nat → ClassId) (A : Nat → Prop) (ad fa fq rv : Nat → Nat) (v : Nat → Int32) (a : Nat → Nat → Int32) (w : Nat → Nat → Int64) (fv fp : Nat → Nat → Int32)  (p2 : Int32) (p3 : Int32) (hkn : (a 37) (v 23).toNatClampNeg = 7) (hr0 : 0 ≤ (v 22).toInt) (hr1 : (v 22).toInt ≤ 16) (hd0 : 0 ≤ p3.toInt) (hd1 : p3.toInt ≤ 33) (iv22_0 : 0 ≤ (v 22).toInt) (iv22_1 : (v 22).toInt ≤ 1000) (iv23_0 : 0 ≤ (v 23).toInt) (iv23_1 : (v 23).toInt ≤ 49) (ia37_0 : AB 0 7 (a 37)) : Met l yX0_run (Cond.code yX0_run cX0_run 4 (some .int) :: gw) ({ frames := 12, cells := 0, slots := 0, locals := 296 }) (va_Pc [.ref (ad 9), .int 2, .int p2, .int p3] (XPre D (TY cs) (CW cs ad fa fq rv v a w fv fp) A)) (va_Qi (fun (r : Int32) (z : Int32 × (Nat → Int32)) => (z.1.toInt = (v 22).toInt + 8) ∧ (z.2 = TRW (a 38) (v 22).toInt.toNat [2, 80, 10, 81, 70, 1, 11, 11]) ∧ (r = ((((((p2 + (v 23)) * 2) - 1) * 2) + ((2 : Int32) ^^^ (v 23))) - ((1 : Int32) ^^^ (v 23)))) ∧ (0 ≤ z.1.toInt) ∧ (z.1.toInt ≤ 1000)) (XPo D (fun (z : Int32 × (Nat → Int32)) => CW cs ad fa fq rv (va_up v 22 z.1) (va_up a 38 z.2) w fv fp) A) A) 0 0 A := by
  refine Met.ofW (cc := cX0_run) (maxL := 4) (ret := (some .int)) (by decide) rfl ?_
  intro p e s m args below meth c s₁ B hml hv
  obtain ⟨rfl, hP, hK, hD, hZ⟩ := hv
  have hx := B.exec
  have hb := B.bytes
  have hr := B.returns
  have hts := atoms_spec (ws := (Cond.code yX0_run cX0_run 4 (some .int) :: gw)) B.pre
  have hg : ∀ w ∈ gw, w.before ([.ref (ad 9), .int 2, .int p2, .int p3] : List Value).toArray s = true := fun w h => hts w (List.mem_cons_of_mem _ h)
  have hown : s.vm.findClass RX0 = some m.cls := findClass_of_methodNamed B.named
  have hlocks := B.notSynchronized
  have hS : va_S A s.heap s.heap [] := va_S.rf
  have hP : va_P D vwCl (CW cs ad fa fq rv v a w fv fp) s.heap := hP
  have hl := lv_entry ([.ref (ad 9), .int 2, .int p2, .int p3]) (n := 4) (Nat.le_of_ble_eq_true rfl)
  rw [lg_entry_eq]
  generalize (lg_sl ([.ref (ad 9), .int 2, .int p2, .int p3]) ++ List.replicate (4 - (lg_sl ([.ref (ad 9), .int 2, .int p2, .int p3])).length) Slot.unset).toArray = ls at hl ⊢
  have hl : lv_has ls 4 [(0, .ref (ad 9)), (1, .int 2), (2, .int p2), (3, .int p3)] := hl
  refine lv_aload_n hx hb dX0_run_0 rfl (lv_at hl 0 rfl) ?_
  refine gf_acts_ran hx hb hg hown hK hP (x := (v 22)) rfl (hg _ q1_88) dX0_run_1 ?_
  refine lv_bipush (v := 24) hx hb dX0_run_4 (by decide) ?_
  refine lv_icmp_ge (tgt := 19) hx hb dX0_run_6 (by decide) (fun c_1 => ?_) (fun c_1 => ?_)
  ·
    have kc_1 : (24 : Int) ≤ (v 22).toInt := i_le c_1
    exfalso; omega
  ·
    have kc_1 : (v 22).toInt < (24 : Int) := i_nle c_1
    refine lv_aload_n hx hb dX0_run_9 rfl (lv_at hl 0 rfl) ?_
    refine gf_acts_traced hx hb hg hown hK hP rfl (hg _ q1_86) dX0_run_10 ?_
    refine lv_aload_n hx hb dX0_run_13 rfl (lv_at hl 0 rfl) ?_
    refine gf_acts_ran hx hb hg hown hK hP (x := (v 22)) rfl (hg _ q1_88) dX0_run_14 ?_
    refine lv_iload_n hx hb dX0_run_17 rfl (lv_at hl 1 rfl) ?_
    refine st_Atraced hx hb hK hP hD hS (i_in (by omega) (by omega)) dX0_run_18 (fun H locs hP hD hS => ?_)
    refine lv_aload_n hx hb dX0_run_19 rfl (lv_at hl 0 rfl) ?_
    refine lv_dup hx hb dX0_run_20 rfl ?_
    refine gf_acts_ran hx hb hg hown hK hP (x := (v 22)) rfl (hg _ q1_88) dX0_run_21 ?_
    refine lv_iconst (v := 1) hx hb dX0_run_24 (by decide) ?_
    refine lv_iadd hx hb dX0_run_25 ?_
    refine lv_topi (fun x_2 ex_2 => ?_)
    have fx_2 : x_2.toInt = (v 22).toInt + (1 : Int) := by rw [ex_2]; exact i_add (by first | omega | (show (_ : Int) ≤ (v 22).toInt + (1 : Int); omega)) (by first | omega | (show (v 22).toInt + (1 : Int) ≤ (_ : Int); omega))
    refine pf_acts_ran hx hb hg hown hK hP hD hS (hg _ q1_88) dX0_run_26 (fun H locs hP hD hS => ?_)
    refine lv_iload_n hx hb dX0_run_29 rfl (lv_at hl 1 rfl) ?_
    refine lv_lookup (tgt := 159) hx hb dX0_run_30 (by decide) (off := 129) (by decide) (by decide) ?_
    refine lv_aload_n hx hb dX0_run_159 rfl (lv_at hl 0 rfl) ?_
    refine lv_iconst (v := 1) hx hb dX0_run_160 (by decide) ?_
    refine lv_iload_n hx hb dX0_run_161 rfl (lv_at hl 2 rfl) ?_
    refine lv_iload_n hx hb dX0_run_162 rfl (lv_at hl 3 rfl) ?_
    refine cV_i (As := [.int 1, .int p2, .int p3]) (rest := []) ⟨hx, hb, hml, hown, hg⟩ (k_S_7_1 l D cs A ad fa fq rv (va_up v 22 x_2) (va_up a 38 (upd (a 38) (v 22).toNatClampNeg 2)) w fv fp  p2 p3 hkn (show 0 ≤ x_2.toInt by first | omega | decide) (show x_2.toInt ≤ 18 by first | omega | decide) (show 0 ≤ p3.toInt by first | omega | decide) (show p3.toInt ≤ 33 by first | omega | decide) (show 0 ≤ (v 23).toInt by first | omega | decide) (show (v 23).toInt ≤ 49 by first | omega | decide) ia37_0 (show 0 ≤ x_2.toInt by first | omega | decide) (show x_2.toInt ≤ 1000 by first | omega | decide)) ca_X0_self q4_135 ⟨rfl, rfl⟩ ⟨Nat.le_of_ble_eq_true rfl, Nat.le_of_ble_eq_true rfl⟩ (rc_acts hK hP) hK hP hD hS hZ rfl hl.1 rfl (Nat.le_of_ble_eq_true rfl) ⟨Nat.zero_le _, Nat.zero_le _⟩ dX0_run_163 (fun r_4 z_7 H locs wr_4 hP hD hS => ?_)
    obtain ⟨o_v22_5, o_a38_6⟩ := z_7
    have hP : va_P D vwCl (CW cs ad fa fq rv (va_up v 22 o_v22_5) (va_up a 38 o_a38_6) w fv fp) H := hP
    have hD : va_D A (CW cs ad fa fq rv (va_up v 22 o_v22_5) (va_up a 38 o_a38_6) w fv fp) := hD
    obtain ⟨wr_4_0, wr_4_1, wr_4_2, wr_4_3, wr_4_4⟩ : (o_v22_5.toInt = x_2.toInt + 6) ∧ (o_a38_6 = TRW (upd (a 38) (v 22).toNatClampNeg 2) x_2.toInt.toNat [80, 10, 81, 70, 1, 11]) ∧ (r_4 = (((((p2 + (v 23)) * 2) - 1) * 2) + ((2 : Int32) ^^^ (v 23)))) ∧ (0 ≤ o_v22_5.toInt) ∧ (o_v22_5.toInt ≤ 1000) := wr_4
    have kt_8 : o_a38_6 = TRW (a 38) (v 22).toInt.toNat [2, 80, 10, 81, 70, 1, 11] := by rw [wr_4_1, show (x_2).toInt.toNat = (v 22).toInt.toNat + 1 from by omega]; rfl
    refine lv_aload_n hx hb dX0_run_166 rfl (lv_at hl 0 rfl) ?_
    refine lv_iconst (v := 2) hx hb dX0_run_167 (by decide) ?_
    refine lv_iconst (v := 1) hx hb dX0_run_168 (by decide) ?_
    refine lv_iload_n hx hb dX0_run_169 rfl (lv_at hl 3 rfl) ?_
    refine cV_i (As := [.int 2, .int 1, .int p3]) (rest := [.int r_4]) ⟨hx, hb, hml, hown, hg⟩ (k_S_7_2 l D cs A ad fa fq rv (va_up v 22 o_v22_5) (va_up a 38 o_a38_6) w fv fp  1 p3 hkn (show 0 ≤ o_v22_5.toInt by first | omega | decide) (show o_v22_5.toInt ≤ 23 by first | omega | decide) (show 0 ≤ p3.toInt by first | omega | decide) (show p3.toInt ≤ 37 by first | omega | decide) (show 0 ≤ (v 23).toInt by first | omega | decide) (show (v 23).toInt ≤ 49 by first | omega | decide) ia37_0 (show 0 ≤ o_v22_5.toInt by first | omega | decide) (show o_v22_5.toInt ≤ 1000 by first | omega | decide)) ca_X0_self q4_135 ⟨rfl, rfl⟩ ⟨Nat.le_of_ble_eq_true rfl, Nat.le_of_ble_eq_true rfl⟩ (rc_acts hK hP) hK hP hD hS hZ rfl hl.1 rfl (Nat.le_of_ble_eq_true rfl) ⟨Nat.zero_le _, Nat.zero_le _⟩ dX0_run_170 (fun r_9 z_12 H locs wr_9 hP hD hS => ?_)
    obtain ⟨o_v22_10, o_a38_11⟩ := z_12
    have hP : va_P D vwCl (CW cs ad fa fq rv (va_up v 22 o_v22_10) (va_up a 38 o_a38_11) w fv fp) H := hP
    have hD : va_D A (CW cs ad fa fq rv (va_up v 22 o_v22_10) (va_up a 38 o_a38_11) w fv fp) := hD
    obtain ⟨wr_9_0, wr_9_1, wr_9_2, wr_9_3, wr_9_4⟩ : (o_v22_10.toInt = o_v22_5.toInt + 1) ∧ (o_a38_11 = TRW o_a38_6 o_v22_5.toInt.toNat [11]) ∧ (r_9 = ((1 : Int32) ^^^ (v 23))) ∧ (0 ≤ o_v22_10.toInt) ∧ (o_v22_10.toInt ≤ 1000) := wr_9
    have kt_13 : o_a38_11 = TRW (a 38) (v 22).toInt.toNat [2, 80, 10, 81, 70, 1, 11, 11] := by rw [wr_9_1, kt_8, show (o_v22_5).toInt.toNat = (v 22).toInt.toNat + 7 from by omega]; rfl
    refine lv_isub hx hb dX0_run_173 ?_
    refine lv_topi (fun x_14 ex_14 => ?_)
    exact W.iret (v := x_14) hx hb hr (fun tt ht hW => ⟨⟨x_14, ⟨o_v22_10, o_a38_11⟩, rfl, ⟨(by first | rfl | omega | trivial | assumption | (dsimp only; first | omega | assumption)), (by (try dsimp only); first | assumption | rfl), (by simp only [ex_14, wr_9_2, wr_4_2, ex_2]), (show 0 ≤ o_v22_10.toInt by first | omega | assumption), (show o_v22_10.toInt ≤ 1000 by first | omega | assumption)⟩, by rw [ht]; exact hP, hD⟩, hS.F ht⟩) hS.2.2 dX0_run_174
set_option maxHeartbeats 4000000 in
set_option maxRecDepth 100000 in
theorem k_F_7_7_3 (l : Launch) (D : va_G) (cs : Nat → ClassId) (A : Nat → Prop) (ad fa fq rv : Nat → Nat) (v : Nat → Int32) (a : Nat → Nat → Int32) (w : Nat → Nat → Int64) (fv fp : Nat → Nat → Int32)  (p3 : Int32) (p4 : Int32) (hkn : (a 37) (v 23).toNatClampNeg = 7) (hr0 : 0 ≤ (v 22).toInt) (hr1 : (v 22).toInt ≤ 16) (hd0 : 0 ≤ p4.toInt) (hd1 : p4.toInt ≤ 32) (iv22_0 : 0 ≤ (v 22).toInt) (iv22_1 : (v 22).toInt ≤ 1000) (iv23_0 : 0 ≤ (v 23).toInt) (iv23_1 : (v 23).toInt ≤ 49) (ia37_0 : AB 0 7 (a 37)) : Met l yX0_from (Cond.code yX0_from cX0_from 8 (some .int) :: gw) ({ frames := 13, cells := 0, slots := 0, locals := 319 }) (va_Pc [.ref (ad 9), .int 7, .int 3, .int p3, .int p4] (XPre D (TY cs) (CW cs ad fa fq rv v a w fv fp) A)) (va_Qi (fun (r : Int32) (z : Int32 × (Nat → Int32)) => (z.1.toInt = (v 22).toInt + 8) ∧ (z.2 = TRW (a 38) (v 22).toInt.toNat [2, 80, 10, 81, 70, 1, 11, 11]) ∧ (r = ((((((p3 + (v 23)) * 2) - 1) * 2) + ((2 : Int32) ^^^ (v 23))) - ((1 : Int32) ^^^ (v 23)))) ∧ (0 ≤ z.1.toInt) ∧ (z.1.toInt ≤ 1000)) (XPo D (fun (z : Int32 × (Nat → Int32)) => CW cs ad fa fq rv (va_up v 22 z.1) (va_up a 38 z.2) w fv fp) A) A) 0 0 A := by
  refine Met.ofW (cc := cX0_from) (maxL := 8) (ret := (some .int)) (by decide) rfl ?_
  intro p e s m args below meth c s₁ B hml hv
  obtain ⟨rfl, hP, hK, hD, hZ⟩ := hv
  have hx := B.exec
  have hb := B.bytes
  have hr := B.returns
  have hts := atoms_spec (ws := (Cond.code yX0_from cX0_from 8 (some .int) :: gw)) B.pre
  have hg : ∀ w ∈ gw, w.before ([.ref (ad 9), .int 7, .int 3, .int p3, .int p4] : List Value).toArray s = true := fun w h => hts w (List.mem_cons_of_mem _ h)
  have hown : s.vm.findClass RX0 = some m.cls := findClass_of_methodNamed B.named
  have hlocks := B.notSynchronized
  have hS : va_S A s.heap s.heap [] := va_S.rf
  have hP : va_P D vwCl (CW cs ad fa fq rv v a w fv fp) s.heap := hP
  have hl := lv_entry ([.ref (ad 9), .int 7, .int 3, .int p3, .int p4]) (n := 8) (Nat.le_of_ble_eq_true rfl)
  rw [lg_entry_eq]
  generalize (lg_sl ([.ref (ad 9), .int 7, .int 3, .int p3, .int p4]) ++ List.replicate (8 - (lg_sl ([.ref (ad 9), .int 7, .int 3, .int p3, .int p4])).length) Slot.unset).toArray = ls at hl ⊢
  have hl : lv_has ls 8 [(0, .ref (ad 9)), (1, .int 7), (2, .int 3), (3, .int p3), (4, .int p4)] := hl
  refine lv_iload_n hx hb dX0_from_0 rfl (lv_at hl 1 rfl) ?_
  refine lv_istore (lv' := [(5, .int 7), (0, .ref (ad 9)), (1, .int 7), (2, .int 3), (3, .int p3), (4, .int p4)]) hx hb dX0_from_1 hl (by decide) rfl (fun ls hl => ?_)
  refine lv_iconst (v := 0) hx hb dX0_from_3 (by decide) ?_
  refine lv_istore (lv' := [(6, .int 0), (5, .int 7), (0, .ref (ad 9)), (1, .int 7), (2, .int 3), (3, .int p3), (4, .int p4)]) hx hb dX0_from_4 hl (by decide) rfl (fun ls hl => ?_)
  refine lv_iload hx hb dX0_from_6 (lv_at hl 0 rfl) ?_
  obtain ⟨t0, t1, t2, ⟨a0, b0⟩, ⟨a1, b1⟩, ⟨a2, b2⟩⟩ := id hZ
  refine va_gets hx hb a2 hS hown (hg _ q4_143) (fun _ h9 => h9) dX0_from_8 ?_
  refine va_tlen hx hb b2 hS (v := 8) rfl dX0_from_11 ?_
  refine lv_icmp_ge (tgt := 73) hx hb dX0_from_12 (by decide) (fun c_1 => absurd c_1 (by decide)) (fun c_1 => ?_)
  refine lv_iload hx hb dX0_from_15 (lv_at hl 1 rfl) ?_
  refine cS_p (As := [.int 7]) (rest := []) ⟨hx, hb, hml, hown, hg⟩ (k_IK_8 l    ) ca_X0_isKind q4_145 ⟨rfl, rfl⟩ ⟨Nat.le_of_ble_eq_true rfl, Nat.le_of_ble_eq_true rfl⟩ rfl hl.1 rfl (Nat.le_of_ble_eq_true rfl) ⟨Nat.zero_le _, Nat.zero_le _⟩ dX0_from_17 (fun r_2 wr_2 => ?_)
  have wr_2 : r_2.toInt = 1 := wr_2
  refine lv_if_eq (tgt := 73) hx hb dX0_from_20 (by decide) (fun c_3 => ?_) (fun c_3 => ?_)
  ·
    have kc_3 : r_2.toInt = (0 : Int) := i_eq c_3
    exfalso; omega
  ·
    have kc_3 : r_2.toInt ≠ (0 : Int) := i_ne c_3
    refine lv_iload hx hb dX0_from_23 (lv_at hl 1 rfl) ?_
    refine lv_iload_n hx hb dX0_from_25 rfl (lv_at hl 4 rfl) ?_
    refine cS_p (As := [.int 7, .int 3]) (rest := []) ⟨hx, hb, hml, hown, hg⟩ (k_B_7_3 l    ) ca_X0_bodyOf q4_146 ⟨rfl, rfl⟩ ⟨Nat.le_of_ble_eq_true rfl, Nat.le_of_ble_eq_true rfl⟩ rfl hl.1 rfl (Nat.le_of_ble_eq_true rfl) ⟨Nat.zero_le _, Nat.zero_le _⟩ dX0_from_26 (fun r_4 wr_4 => ?_)
    have wr_4 : r_4.toInt = 0 := wr_4
    have el_5 : r_4 = 0 := i_inj (wr_4.trans (by rfl))
    subst el_5
    refine lv_istore (lv' := [(7, .int 0), (6, .int 0), (5, .int 7), (0, .ref (ad 9)), (1, .int 7), (2, .int 3), (3, .int p3), (4, .int p4)]) hx hb dX0_from_29 hl (by decide) rfl (fun ls hl => ?_)
    refine lv_iload hx hb dX0_from_31 (lv_at hl 0 rfl) ?_
    refine lv_if_eq (tgt := 59) hx hb dX0_from_33 (by decide) (fun c_6 => ?_) (fun c_6 => absurd c_6 (by decide))
    obtain ⟨t0, t1, t2, ⟨a0, b0⟩, ⟨a1, b1⟩, ⟨a2, b2⟩⟩ := id hZ
    refine va_gets hx hb a2 hS hown (hg _ q4_143) (fun _ h9 => h9) dX0_from_59 ?_
    refine lv_iload hx hb dX0_from_62 (lv_at hl 2 rfl) ?_
    refine va_ti hx hb b2 hS (i_in (by decide) (by decide)) (v := .int 6) rfl dX0_from_64 ?_
    refine lv_istore (lv' := [(5, .int 6), (7, .int 0), (6, .int 0), (0, .ref (ad 9)), (1, .int 7), (2, .int 3), (3, .int p3), (4, .int p4)]) hx hb dX0_from_65 hl (by decide) rfl (fun ls hl => ?_)
    obtain ⟨x_7, ex_7⟩ : ∃ y : Int32, y = 0 + 1 := ⟨_, rfl⟩
    have fx_7 : x_7.toInt = (0 : Int) + 1 := by rw [ex_7]; exact i_add (by first | omega | (show (_ : Int) ≤ (0 : Int) + 1; omega)) (by first | omega | (show (0 : Int) + 1 ≤ (_ : Int); omega))
    refine lv_iinc (v := x_7) (lv' := [(6, .int x_7), (5, .int 6), (7, .int 0), (0, .ref (ad 9)), (1, .int 7), (2, .int 3), (3, .int p3), (4, .int p4)]) hx hb dX0_from_67 hl (k := 2) rfl (by rw [ex_7]; rfl) (by decide) rfl (fun ls hl => ?_)
    refine lv_goto (tgt := 6) hx hb dX0_from_70 (by decide) ?_
    refine lv_iload hx hb dX0_from_6 (lv_at hl 0 rfl) ?_
    obtain ⟨t0, t1, t2, ⟨a0, b0⟩, ⟨a1, b1⟩, ⟨a2, b2⟩⟩ := id hZ
    refine va_gets hx hb a2 hS hown (hg _ q4_143) (fun _ h9 => h9) dX0_from_8 ?_
    refine va_tlen hx hb b2 hS (v := 8) rfl dX0_from_11 ?_
    refine lv_icmp_ge (tgt := 73) hx hb dX0_from_12 (by decide) (fun c_8 => ?_) (fun c_8 => ?_)
    ·
      have kc_8 : (8 : Int) ≤ x_7.toInt := i_le c_8
      exfalso; omega
    ·
      have kc_8 : x_7.toInt < (8 : Int) := i_nle c_8
      refine lv_iload hx hb dX0_from_15 (lv_at hl 1 rfl) ?_
      refine cS_p (As := [.int 6]) (rest := []) ⟨hx, hb, hml, hown, hg⟩ (k_IK_7 l    ) ca_X0_isKind q4_145 ⟨rfl, rfl⟩ ⟨Nat.le_of_ble_eq_true rfl, Nat.le_of_ble_eq_true rfl⟩ rfl hl.1 rfl (Nat.le_of_ble_eq_true rfl) ⟨Nat.zero_le _, Nat.zero_le _⟩ dX0_from_17 (fun r_9 wr_9 => ?_)
      have wr_9 : r_9.toInt = 1 := wr_9
      refine lv_if_eq (tgt := 73) hx hb dX0_from_20 (by decide) (fun c_10 => ?_) (fun c_10 => ?_)
      ·
        have kc_10 : r_9.toInt = (0 : Int) := i_eq c_10
        exfalso; omega
      ·
        have kc_10 : r_9.toInt ≠ (0 : Int) := i_ne c_10
        refine lv_iload hx hb dX0_from_23 (lv_at hl 1 rfl) ?_
        refine lv_iload_n hx hb dX0_from_25 rfl (lv_at hl 5 rfl) ?_
        refine cS_p (As := [.int 6, .int 3]) (rest := []) ⟨hx, hb, hml, hown, hg⟩ (k_B_6_3 l    ) ca_X0_bodyOf q4_146 ⟨rfl, rfl⟩ ⟨Nat.le_of_ble_eq_true rfl, Nat.le_of_ble_eq_true rfl⟩ rfl hl.1 rfl (Nat.le_of_ble_eq_true rfl) ⟨Nat.zero_le _, Nat.zero_le _⟩ dX0_from_26 (fun r_11 wr_11 => ?_)
        have wr_11 : r_11.toInt = 0 := wr_11
        have el_12 : r_11 = 0 := i_inj (wr_11.trans (by rfl))
        subst el_12
        refine lv_istore (lv' := [(7, .int 0), (6, .int x_7), (5, .int 6), (0, .ref (ad 9)), (1, .int 7), (2, .int 3), (3, .int p3), (4, .int p4)]) hx hb dX0_from_29 hl (by decide) rfl (fun ls hl => ?_)
        refine lv_iload hx hb dX0_from_31 (lv_at hl 0 rfl) ?_
        refine lv_if_eq (tgt := 59) hx hb dX0_from_33 (by decide) (fun c_13 => ?_) (fun c_13 => absurd c_13 (by decide))
        obtain ⟨t0, t1, t2, ⟨a0, b0⟩, ⟨a1, b1⟩, ⟨a2, b2⟩⟩ := id hZ
        refine va_gets hx hb a2 hS hown (hg _ q4_143) (fun _ h9 => h9) dX0_from_59 ?_
        refine lv_iload hx hb dX0_from_62 (lv_at hl 2 rfl) ?_
        refine va_ti hx hb b2 hS (i_in (by decide) (by decide)) (v := .int 0) rfl dX0_from_64 ?_
        refine lv_istore (lv' := [(5, .int 0), (7, .int 0), (6, .int x_7), (0, .ref (ad 9)), (1, .int 7), (2, .int 3), (3, .int p3), (4, .int p4)]) hx hb dX0_from_65 hl (by decide) rfl (fun ls hl => ?_)
        obtain ⟨x_14, ex_14⟩ : ∃ y : Int32, y = x_7 + 1 := ⟨_, rfl⟩
        have fx_14 : x_14.toInt = x_7.toInt + 1 := by rw [ex_14]; exact i_add (by first | omega | (show (_ : Int) ≤ x_7.toInt + 1; omega)) (by first | omega | (show x_7.toInt + 1 ≤ (_ : Int); omega))
        refine lv_iinc (v := x_14) (lv' := [(6, .int x_14), (5, .int 0), (7, .int 0), (0, .ref (ad 9)), (1, .int 7), (2, .int 3), (3, .int p3), (4, .int p4)]) hx hb dX0_from_67 hl (k := 2) rfl (by rw [ex_14]; rfl) (by decide) rfl (fun ls hl => ?_)
        refine lv_goto (tgt := 6) hx hb dX0_from_70 (by decide) ?_
        refine lv_iload hx hb dX0_from_6 (lv_at hl 0 rfl) ?_
        obtain ⟨t0, t1, t2, ⟨a0, b0⟩, ⟨a1, b1⟩, ⟨a2, b2⟩⟩ := id hZ
        refine va_gets hx hb a2 hS hown (hg _ q4_143) (fun _ h9 => h9) dX0_from_8 ?_
        refine va_tlen hx hb b2 hS (v := 8) rfl dX0_from_11 ?_
        refine lv_icmp_ge (tgt := 73) hx hb dX0_from_12 (by decide) (fun c_15 => ?_) (fun c_15 => ?_)
        ·
          have kc_15 : (8 : Int) ≤ x_14.toInt := i_le c_15
          exfalso; omega
        ·
          have kc_15 : x_14.toInt < (8 : Int) := i_nle c_15
          refine lv_iload hx hb dX0_from_15 (lv_at hl 1 rfl) ?_
          refine cS_p (As := [.int 0]) (rest := []) ⟨hx, hb, hml, hown, hg⟩ (k_IK_1 l    ) ca_X0_isKind q4_145 ⟨rfl, rfl⟩ ⟨Nat.le_of_ble_eq_true rfl, Nat.le_of_ble_eq_true rfl⟩ rfl hl.1 rfl (Nat.le_of_ble_eq_true rfl) ⟨Nat.zero_le _, Nat.zero_le _⟩ dX0_from_17 (fun r_16 wr_16 => ?_)
          have wr_16 : r_16.toInt = 1 := wr_16
          refine lv_if_eq (tgt := 73) hx hb dX0_from_20 (by decide) (fun c_17 => ?_) (fun c_17 => ?_)
          ·
            have kc_17 : r_16.toInt = (0 : Int) := i_eq c_17
            exfalso; omega
          ·
            have kc_17 : r_16.toInt ≠ (0 : Int) := i_ne c_17
            refine lv_iload hx hb dX0_from_23 (lv_at hl 1 rfl) ?_
            refine lv_iload_n hx hb dX0_from_25 rfl (lv_at hl 5 rfl) ?_
            refine cS_p (As := [.int 0, .int 3]) (rest := []) ⟨hx, hb, hml, hown, hg⟩ (k_B_0_3 l    ) ca_X0_bodyOf q4_146 ⟨rfl, rfl⟩ ⟨Nat.le_of_ble_eq_true rfl, Nat.le_of_ble_eq_true rfl⟩ rfl hl.1 rfl (Nat.le_of_ble_eq_true rfl) ⟨Nat.zero_le _, Nat.zero_le _⟩ dX0_from_26 (fun r_18 wr_18 => ?_)
            have wr_18 : r_18.toInt = 2 := wr_18
            have el_19 : r_18 = 2 := i_inj (wr_18.trans (by rfl))
            subst el_19
            refine lv_istore (lv' := [(7, .int 2), (6, .int x_14), (5, .int 0), (0, .ref (ad 9)), (1, .int 7), (2, .int 3), (3, .int p3), (4, .int p4)]) hx hb dX0_from_29 hl (by decide) rfl (fun ls hl => ?_)
            refine lv_iload hx hb dX0_from_31 (lv_at hl 0 rfl) ?_
            refine lv_if_eq (tgt := 59) hx hb dX0_from_33 (by decide) (fun c_20 => absurd c_20 (by decide)) (fun c_20 => ?_)
            refine lv_iload hx hb dX0_from_36 (lv_at hl 7 rfl) ?_
            refine lv_bipush (v := 40) hx hb dX0_from_38 (by decide) ?_
            refine lv_icmp_ge (tgt := 57) hx hb dX0_from_40 (by decide) (fun c_21 => ?_) (fun c_21 => ?_)
            ·
              have kc_21 : (40 : Int) ≤ p4.toInt := i_le c_21
              exfalso; omega
            ·
              have kc_21 : p4.toInt < (40 : Int) := i_nle c_21
              refine lv_aload_n hx hb dX0_from_43 rfl (lv_at hl 3 rfl) ?_
              refine lv_iload hx hb dX0_from_44 (lv_at hl 0 rfl) ?_
              refine lv_iload_n hx hb dX0_from_46 rfl (lv_at hl 6 rfl) ?_
              refine lv_iload hx hb dX0_from_47 (lv_at hl 7 rfl) ?_
              refine lv_iconst (v := 1) hx hb dX0_from_49 (by decide) ?_
              refine lv_iadd hx hb dX0_from_50 ?_
              refine lv_topi (fun x_22 ex_22 => ?_)
              have fx_22 : x_22.toInt = p4.toInt + (1 : Int) := by rw [ex_22]; exact i_add (by first | omega | (show (_ : Int) ≤ p4.toInt + (1 : Int); omega)) (by first | omega | (show p4.toInt + (1 : Int) ≤ (_ : Int); omega))
              refine cV_i (As := [.int 2, .int p3, .int x_22]) (rest := []) ⟨hx, hb, hml, hown, hg⟩ (k_R_7_2 l D cs A ad fa fq rv v a w fv fp  p3 x_22 hkn (show 0 ≤ (v 22).toInt by first | omega | decide) (show (v 22).toInt ≤ 16 by first | omega | decide) (show 0 ≤ x_22.toInt by first | omega | decide) (show x_22.toInt ≤ 33 by first | omega | decide) (show 0 ≤ (v 22).toInt by first | omega | decide) (show (v 22).toInt ≤ 1000 by first | omega | decide) (show 0 ≤ (v 23).toInt by first | omega | decide) (show (v 23).toInt ≤ 49 by first | omega | decide) ia37_0) ca_X0_run q4_149 ⟨rfl, rfl⟩ ⟨Nat.le_of_ble_eq_true rfl, Nat.le_of_ble_eq_true rfl⟩ (rc_acts hK hP) hK hP hD hS hZ rfl hl.1 rfl (Nat.le_of_ble_eq_true rfl) ⟨Nat.zero_le _, Nat.zero_le _⟩ dX0_from_51 (fun r_23 z_26 H locs wr_23 hP hD hS => ?_)
              obtain ⟨o_v22_24, o_a38_25⟩ := z_26
              have hP : va_P D vwCl (CW cs ad fa fq rv (va_up v 22 o_v22_24) (va_up a 38 o_a38_25) w fv fp) H := hP
              have hD : va_D A (CW cs ad fa fq rv (va_up v 22 o_v22_24) (va_up a 38 o_a38_25) w fv fp) := hD
              obtain ⟨wr_23_0, wr_23_1, wr_23_2, wr_23_3, wr_23_4⟩ : (o_v22_24.toInt = (v 22).toInt + 8) ∧ (o_a38_25 = TRW (a 38) (v 22).toInt.toNat [2, 80, 10, 81, 70, 1, 11, 11]) ∧ (r_23 = ((((((p3 + (v 23)) * 2) - 1) * 2) + ((2 : Int32) ^^^ (v 23))) - ((1 : Int32) ^^^ (v 23)))) ∧ (0 ≤ o_v22_24.toInt) ∧ (o_v22_24.toInt ≤ 1000) := wr_23
              have kt_27 : o_a38_25 = TRW (a 38) (v 22).toInt.toNat [2, 80, 10, 81, 70, 1, 11, 11] := by rw [wr_23_1]
              refine lv_goto (tgt := 58) hx hb dX0_from_54 (by decide) ?_
              exact W.iret (v := r_23) hx hb hr (fun tt ht hW => ⟨⟨r_23, ⟨o_v22_24, o_a38_25⟩, rfl, ⟨(by first | rfl | omega | trivial | assumption | (dsimp only; first | omega | assumption)), (by (try dsimp only); first | assumption | rfl), (by simp only [wr_23_2, ex_22]), (show 0 ≤ o_v22_24.toInt by first | omega | assumption), (show o_v22_24.toInt ≤ 1000 by first | omega | assumption)⟩, by rw [ht]; exact hP, hD⟩, hS.F ht⟩) hS.2.2 dX0_from_58
set_option maxHeartbeats 4000000 in
set_option maxRecDepth 100000 in
theorem k_S_7_3 (l : Launch) (D : va_G) (cs : Nat → ClassId) (A : Nat → Prop) (ad fa fq rv : Nat → Nat) (v : Nat → Int32) (a : Nat → Nat → Int32) (w : Nat → Nat → Int64) (fv fp : Nat → Nat → Int32)  (p2 : Int32) (p3 : Int32) (hkn : (a 37) (v 23).toNatClampNeg = 7) (hr0 : 0 ≤ (v 22).toInt) (hr1 : (v 22).toInt ≤ 16) (hd0 : 0 ≤ p3.toInt) (hd1 : p3.toInt ≤ 32) (iv23_0 : 0 ≤ (v 23).toInt) (iv23_1 : (v 23).toInt ≤ 49) (ia37_0 : AB 0 7 (a 37)) (iv22_0 : 0 ≤ (v 22).toInt) (iv22_1 : (v 22).toInt ≤ 1000) : Met l yX0_self (Cond.code yX0_self cX0_self 4 (some .int) :: gw) ({ frames := 14, cells := 0, slots := 0, locals := 346 }) (va_Pc [.ref (ad 9), .int 3, .int p2, .int p3] (XPre D (TY cs) (CW cs ad fa fq rv v a w fv fp) A)) (va_Qi (fun (r : Int32) (z : Int32 × (Nat → Int32)) => (z.1.toInt = (v 22).toInt + 8) ∧ (z.2 = TRW (a 38) (v 22).toInt.toNat [2, 80, 10, 81, 70, 1, 11, 11]) ∧ (r = ((((((p2 + (v 23)) * 2) - 1) * 2) + ((2 : Int32) ^^^ (v 23))) - ((1 : Int32) ^^^ (v 23)))) ∧ (0 ≤ z.1.toInt) ∧ (z.1.toInt ≤ 1000)) (XPo D (fun (z : Int32 × (Nat → Int32)) => CW cs ad fa fq rv (va_up v 22 z.1) (va_up a 38 z.2) w fv fp) A) A) 0 0 A := by
  refine Met.ofW (cc := cX0_self) (maxL := 4) (ret := (some .int)) (by decide) rfl ?_
  intro p e s m args below meth c s₁ B hml hv
  obtain ⟨rfl, hP, hK, hD, hZ⟩ := hv
  have hx := B.exec
  have hb := B.bytes
  have hr := B.returns
  have hts := atoms_spec (ws := (Cond.code yX0_self cX0_self 4 (some .int) :: gw)) B.pre
  have hg : ∀ w ∈ gw, w.before ([.ref (ad 9), .int 3, .int p2, .int p3] : List Value).toArray s = true := fun w h => hts w (List.mem_cons_of_mem _ h)
  have hown : s.vm.findClass RX0 = some m.cls := findClass_of_methodNamed B.named
  have hlocks := B.notSynchronized
  have hS : va_S A s.heap s.heap [] := va_S.rf
  have hP : va_P D vwCl (CW cs ad fa fq rv v a w fv fp) s.heap := hP
  have hl := lv_entry ([.ref (ad 9), .int 3, .int p2, .int p3]) (n := 4) (Nat.le_of_ble_eq_true rfl)
  rw [lg_entry_eq]
  generalize (lg_sl ([.ref (ad 9), .int 3, .int p2, .int p3]) ++ List.replicate (4 - (lg_sl ([.ref (ad 9), .int 3, .int p2, .int p3])).length) Slot.unset).toArray = ls at hl ⊢
  have hl : lv_has ls 4 [(0, .ref (ad 9)), (1, .int 3), (2, .int p2), (3, .int p3)] := hl
  refine lv_aload_n hx hb dX0_self_0 rfl (lv_at hl 0 rfl) ?_
  refine lv_aload_n hx hb dX0_self_1 rfl (lv_at hl 0 rfl) ?_
  refine gf_acts_kind hx hb hg hown hK hP rfl (hg _ q1_83) dX0_self_2 ?_
  refine lv_aload_n hx hb dX0_self_5 rfl (lv_at hl 0 rfl) ?_
  refine gf_acts_number hx hb hg hown hK hP (x := (v 23)) rfl (hg _ q1_90) dX0_self_6 ?_
  refine ld_Akind hx hb hK hP (i_in (by omega) (by omega)) dX0_self_9 ?_
  refine lv_topi (fun x_1 ex_1 => ?_)
  have ex_1 : x_1 = (a 37) (v 23).toNatClampNeg := ex_1
  have hx_1 : x_1.toInt = ((a 37) (v 23).toNatClampNeg).toInt := by rw [ex_1]
  have bx_1 := ia37_0 (v 23).toNatClampNeg
  rw [← ex_1] at bx_1
  have fx_1 : x_1 = 7 := by rw [ex_1]; exact hkn
  subst fx_1
  refine lv_iload_n hx hb dX0_self_10 rfl (lv_at hl 1 rfl) ?_
  refine lv_iload_n hx hb dX0_self_11 rfl (lv_at hl 2 rfl) ?_
  refine lv_iload_n hx hb dX0_self_12 rfl (lv_at hl 3 rfl) ?_
  refine cV_i (As := [.int 7, .int 3, .int p2, .int p3]) (rest := []) ⟨hx, hb, hml, hown, hg⟩ (k_F_7_7_3 l D cs A ad fa fq rv v a w fv fp  p2 p3 hkn (show 0 ≤ (v 22).toInt by first | omega | decide) (show (v 22).toInt ≤ 16 by first | omega | decide) (show 0 ≤ p3.toInt by first | omega | decide) (show p3.toInt ≤ 32 by first | omega | decide) (show 0 ≤ (v 22).toInt by first | omega | decide) (show (v 22).toInt ≤ 1000 by first | omega | decide) (show 0 ≤ (v 23).toInt by first | omega | decide) (show (v 23).toInt ≤ 49 by first | omega | decide) ia37_0) ca_X0_from q4_139 ⟨rfl, rfl⟩ ⟨Nat.le_of_ble_eq_true rfl, Nat.le_of_ble_eq_true rfl⟩ (rc_acts hK hP) hK hP hD hS hZ rfl hl.1 rfl (Nat.le_of_ble_eq_true rfl) ⟨Nat.zero_le _, Nat.zero_le _⟩ dX0_self_13 (fun r_2 z_5 H locs wr_2 hP hD hS => ?_)
  obtain ⟨o_v22_3, o_a38_4⟩ := z_5
  have hP : va_P D vwCl (CW cs ad fa fq rv (va_up v 22 o_v22_3) (va_up a 38 o_a38_4) w fv fp) H := hP
  have hD : va_D A (CW cs ad fa fq rv (va_up v 22 o_v22_3) (va_up a 38 o_a38_4) w fv fp) := hD
  obtain ⟨wr_2_0, wr_2_1, wr_2_2, wr_2_3, wr_2_4⟩ : (o_v22_3.toInt = (v 22).toInt + 8) ∧ (o_a38_4 = TRW (a 38) (v 22).toInt.toNat [2, 80, 10, 81, 70, 1, 11, 11]) ∧ (r_2 = ((((((p2 + (v 23)) * 2) - 1) * 2) + ((2 : Int32) ^^^ (v 23))) - ((1 : Int32) ^^^ (v 23)))) ∧ (0 ≤ o_v22_3.toInt) ∧ (o_v22_3.toInt ≤ 1000) := wr_2
  have kt_6 : o_a38_4 = TRW (a 38) (v 22).toInt.toNat [2, 80, 10, 81, 70, 1, 11, 11] := by rw [wr_2_1]
  exact W.iret (v := r_2) hx hb hr (fun tt ht hW => ⟨⟨r_2, ⟨o_v22_3, o_a38_4⟩, rfl, ⟨(by first | rfl | omega | trivial | assumption | (dsimp only; first | omega | assumption)), (by (try dsimp only); first | assumption | rfl), (by simp only [wr_2_2]), (show 0 ≤ o_v22_3.toInt by first | omega | assumption), (show o_v22_3.toInt ≤ 1000 by first | omega | assumption)⟩, by rw [ht]; exact hP, hD⟩, hS.F ht⟩) hS.2.2 dX0_self_16
set_option maxHeartbeats 4000000 in
set_option maxRecDepth 100000 in
theorem k_X0_perform (l : Launch) (D : va_G) (cs : Nat → ClassId) (A : Nat → Prop) (ad fa fq rv : Nat → Nat) (v : Nat → Int32) (a : Nat → Nat → Int32) (w : Nat → Nat → Int64) (fv fp : Nat → Nat → Int32)  (p1 : Int32) (p2 : Int32) (p3 : Int32) (iv21_0 : 0 ≤ (v 21).toInt) (iv21_1 : (v 21).toInt ≤ 50) (iv23_0 : 0 ≤ (v 23).toInt) (iv23_1 : (v 23).toInt ≤ 49) (ia37_0 : AB 0 7 (a 37)) : Met l yX0_perform (Cond.code yX0_perform cX0_perform 4 (some .int) :: gw) ({ frames := 15, cells := 0, slots := 0, locals := 369 }) (va_Pc [.ref (ad 9), .int p1, .int p2, .int p3] (XPre D (TY cs) (CW cs ad fa fq rv v a w fv fp) A)) (va_Qi (fun (r : Int32) (z : Int32 × Int32 × (Nat → Int32)) => ((¬ ((0 ≤ p1.toInt ∧ p1.toInt < (v 21).toInt) ∧ 0 ≤ p2.toInt ∧ p2.toInt ≤ 3) ∧ r.toInt = 0 ∧ z.1.toInt = 0 ∧ z.2.2 = (a 38)) ∨ (((0 ≤ p1.toInt ∧ p1.toInt < (v 21).toInt) ∧ 0 ≤ p2.toInt ∧ p2.toInt ≤ 3) ∧ r = AV ((a 37) p1.toNatClampNeg).toInt.toNat p2.toInt.toNat p3 p1 ∧ z.1.toInt = ((AL ((a 37) p1.toNatClampNeg).toInt.toNat p2.toInt.toNat).length : Int) ∧ z.2.2 = TRW (a 38) 0 (AL ((a 37) p1.toNatClampNeg).toInt.toNat p2.toInt.toNat))) ∧ (0 ≤ z.1.toInt) ∧ (z.1.toInt ≤ 1000) ∧ (0 ≤ z.2.1.toInt) ∧ (z.2.1.toInt ≤ 49)) (XPo D (fun (z : Int32 × Int32 × (Nat → Int32)) => CW cs ad fa fq rv (va_up (va_up v 22 z.1) 23 z.2.1) (va_up a 38 z.2.2) w fv fp) A) A) 0 0 A := by
  refine Met.ofW (cc := cX0_perform) (maxL := 4) (ret := (some .int)) (by decide) rfl ?_
  intro p e s m args below meth c s₁ B hml hv
  obtain ⟨rfl, hP, hK, hD, hZ⟩ := hv
  have hx := B.exec
  have hb := B.bytes
  have hr := B.returns
  have hts := atoms_spec (ws := (Cond.code yX0_perform cX0_perform 4 (some .int) :: gw)) B.pre
  have hg : ∀ w ∈ gw, w.before ([.ref (ad 9), .int p1, .int p2, .int p3] : List Value).toArray s = true := fun w h => hts w (List.mem_cons_of_mem _ h)
  have hown : s.vm.findClass RX0 = some m.cls := findClass_of_methodNamed B.named
  have hlocks := B.notSynchronized
  have hS : va_S A s.heap s.heap [] := va_S.rf
  have hP : va_P D vwCl (CW cs ad fa fq rv v a w fv fp) s.heap := hP
  have hl := lv_entry ([.ref (ad 9), .int p1, .int p2, .int p3]) (n := 4) (Nat.le_of_ble_eq_true rfl)
  rw [lg_entry_eq]
  generalize (lg_sl ([.ref (ad 9), .int p1, .int p2, .int p3]) ++ List.replicate (4 - (lg_sl ([.ref (ad 9), .int p1, .int p2, .int p3])).length) Slot.unset).toArray = ls at hl ⊢
  have hl : lv_has ls 4 [(0, .ref (ad 9)), (1, .int p1), (2, .int p2), (3, .int p3)] := hl
  refine lv_aload_n hx hb dX0_perform_0 rfl (lv_at hl 0 rfl) ?_
  refine lv_iconst (v := 0) hx hb dX0_perform_1 (by decide) ?_
  refine pf_acts_ran hx hb hg hown hK hP hD hS (hg _ q1_88) dX0_perform_2 (fun H locs hP hD hS => ?_)
  refine lv_aload_n hx hb dX0_perform_5 rfl (lv_at hl 0 rfl) ?_
  refine lv_iload_n hx hb dX0_perform_6 rfl (lv_at hl 1 rfl) ?_
  refine cV_ro (As := [.int p1]) (rest := []) ⟨hx, hb, hml, hown, hg⟩ (k_X0_has l D cs A ad fa fq rv (va_up v 22 0) a w fv fp  p1 (show 0 ≤ (v 21).toInt by first | omega | decide) (show (v 21).toInt ≤ 50 by first | omega | decide)) ca_X0_has q4_131 ⟨rfl, rfl⟩ ⟨Nat.le_of_ble_eq_true rfl, Nat.le_of_ble_eq_true rfl⟩ (rc_acts hK hP) hK hP hD hS hZ rfl hl.1 rfl (Nat.le_of_ble_eq_true rfl) ⟨Nat.zero_le _, Nat.zero_le _⟩ dX0_perform_7 (fun r_1 wr_1 => ?_)
  have wr_1_0 : (r_1.toInt = 1 ∧ 0 ≤ p1.toInt ∧ p1.toInt < (v 21).toInt) ∨ (r_1.toInt = 0 ∧ ¬ (0 ≤ p1.toInt ∧ p1.toInt < (v 21).toInt)) := wr_1
  refine lv_if_eq (tgt := 22) hx hb dX0_perform_10 (by decide) (fun c_2 => ?_) (fun c_2 => ?_)
  ·
    have kc_2 : r_1.toInt = (0 : Int) := i_eq c_2
    refine lv_iconst (v := 0) hx hb dX0_perform_22 (by decide) ?_
    have q0_0 : (0 : Int32).toInt = 0 := rfl
    have q0_0 : (0 : Int32).toInt = 0 := rfl
    have hP : va_P D vwCl (CW cs ad fa fq rv (va_up (va_up v 22 0) 23 (v 23)) (va_up a 38 (a 38)) w fv fp) _ := hP
    have hD : va_D A (CW cs ad fa fq rv (va_up (va_up v 22 0) 23 (v 23)) (va_up a 38 (a 38)) w fv fp) := hD
    exact W.iret (v := 0) hx hb hr (fun tt ht hW => ⟨⟨0, ⟨0, (v 23), (a 38)⟩, rfl, ⟨(Or.inl ⟨by omega, by omega, by (try dsimp only); omega, rfl⟩), (show 0 ≤ (0 : Int) by first | omega | assumption), (show (0 : Int) ≤ 1000 by first | omega | assumption), (show 0 ≤ (v 23).toInt by first | omega | assumption), (show (v 23).toInt ≤ 49 by first | omega | assumption)⟩, by rw [ht]; exact hP, hD⟩, hS.F ht⟩) hS.2.2 dX0_perform_23
  ·
    have kc_2 : r_1.toInt ≠ (0 : Int) := i_ne c_2
    refine lv_iload_n hx hb dX0_perform_13 rfl (lv_at hl 2 rfl) ?_
    refine lv_if_lt (tgt := 22) hx hb dX0_perform_14 (by decide) (fun c_3 => ?_) (fun c_3 => ?_)
    ·
      have kc_3 : p2.toInt < (0 : Int) := i_lt c_3
      refine lv_iconst (v := 0) hx hb dX0_perform_22 (by decide) ?_
      have q0_0 : (0 : Int32).toInt = 0 := rfl
      have q0_0 : (0 : Int32).toInt = 0 := rfl
      have hP : va_P D vwCl (CW cs ad fa fq rv (va_up (va_up v 22 0) 23 (v 23)) (va_up a 38 (a 38)) w fv fp) _ := hP
      have hD : va_D A (CW cs ad fa fq rv (va_up (va_up v 22 0) 23 (v 23)) (va_up a 38 (a 38)) w fv fp) := hD
      exact W.iret (v := 0) hx hb hr (fun tt ht hW => ⟨⟨0, ⟨0, (v 23), (a 38)⟩, rfl, ⟨(Or.inl ⟨by omega, by omega, by (try dsimp only); omega, rfl⟩), (show 0 ≤ (0 : Int) by first | omega | assumption), (show (0 : Int) ≤ 1000 by first | omega | assumption), (show 0 ≤ (v 23).toInt by first | omega | assumption), (show (v 23).toInt ≤ 49 by first | omega | assumption)⟩, by rw [ht]; exact hP, hD⟩, hS.F ht⟩) hS.2.2 dX0_perform_23
    ·
      have kc_3 : (0 : Int) ≤ p2.toInt := i_nlt c_3
      refine lv_iload_n hx hb dX0_perform_17 rfl (lv_at hl 2 rfl) ?_
      refine lv_iconst (v := 3) hx hb dX0_perform_18 (by decide) ?_
      refine lv_icmp_le (tgt := 24) hx hb dX0_perform_19 (by decide) (fun c_4 => ?_) (fun c_4 => ?_)
      ·
        have kc_4 : p2.toInt ≤ (3 : Int) := i_le c_4
        refine lv_aload_n hx hb dX0_perform_24 rfl (lv_at hl 0 rfl) ?_
        refine lv_iload_n hx hb dX0_perform_25 rfl (lv_at hl 1 rfl) ?_
        refine pf_acts_number hx hb hg hown hK hP hD hS (hg _ q1_90) dX0_perform_26 (fun H locs hP hD hS => ?_)
        refine lv_aload_n hx hb dX0_perform_29 rfl (lv_at hl 0 rfl) ?_
        refine lv_iload_n hx hb dX0_perform_30 rfl (lv_at hl 2 rfl) ?_
        refine lv_iload_n hx hb dX0_perform_31 rfl (lv_at hl 3 rfl) ?_
        refine lv_iconst (v := 0) hx hb dX0_perform_32 (by decide) ?_
        rcases (show p2 = 0 ∨ p2 = 1 ∨ p2 = 2 ∨ p2 = 3 from i_03 (by omega) (by omega)) with h2q | h2q | h2q | h2q
        ·
          subst h2q
          have haI : (0 : Int32).toInt = 0 := rfl
          have haN : (0 : Int32).toInt.toNat = 0 := rfl
          rcases (i_07 (ia37_0 p1.toNatClampNeg).1 (ia37_0 p1.toNatClampNeg).2) with hkn | hkn | hkn | hkn | hkn | hkn | hkn | hkn
          ·
            have hkN : ((a 37) p1.toNatClampNeg).toInt.toNat = 0 := by rw [hkn]; rfl
            have hal : (AL 0 0).length = 1 := rfl
            refine cV_i (As := [.int 0, .int p3, .int 0]) (rest := []) ⟨hx, hb, hml, hown, hg⟩ (k_S_0_0 l D cs A ad fa fq rv (va_up (va_up v 22 0) 23 p1) a w fv fp  p3 0 hkn (show 0 ≤ (0 : Int) by first | omega | decide) (show (0 : Int) ≤ 23 by first | omega | decide) (show 0 ≤ (0 : Int) by first | omega | decide) (show (0 : Int) ≤ 37 by first | omega | decide) (show 0 ≤ p1.toInt by first | omega | decide) (show p1.toInt ≤ 49 by first | omega | decide) ia37_0 (show 0 ≤ (0 : Int) by first | omega | decide) (show (0 : Int) ≤ 1000 by first | omega | decide)) ca_X0_self q4_135 ⟨rfl, rfl⟩ ⟨Nat.le_of_ble_eq_true rfl, Nat.le_of_ble_eq_true rfl⟩ (rc_acts hK hP) hK hP hD hS hZ rfl hl.1 rfl (Nat.le_of_ble_eq_true rfl) ⟨Nat.zero_le _, Nat.zero_le _⟩ dX0_perform_33 (fun r_5 z_8 H locs wr_5 hP hD hS => ?_)
            obtain ⟨o_v22_6, o_a38_7⟩ := z_8
            have hP : va_P D vwCl (CW cs ad fa fq rv (va_up (va_up v 23 p1) 22 o_v22_6) (va_up a 38 o_a38_7) w fv fp) H := hP
            have hD : va_D A (CW cs ad fa fq rv (va_up (va_up v 23 p1) 22 o_v22_6) (va_up a 38 o_a38_7) w fv fp) := hD
            obtain ⟨wr_5_0, wr_5_1, wr_5_2, wr_5_3, wr_5_4⟩ : (o_v22_6.toInt = (0 : Int) + 1) ∧ (o_a38_7 = TRW (a 38) (0 : Int).toNat [1]) ∧ (r_5 = (p3 + p1)) ∧ (0 ≤ o_v22_6.toInt) ∧ (o_v22_6.toInt ≤ 1000) := wr_5
            have hP : va_P D vwCl (CW cs ad fa fq rv (va_up (va_up v 22 o_v22_6) 23 p1) (va_up a 38 o_a38_7) w fv fp) _ := hP
            have hD : va_D A (CW cs ad fa fq rv (va_up (va_up v 22 o_v22_6) 23 p1) (va_up a 38 o_a38_7) w fv fp) := hD
            exact W.iret (v := r_5) hx hb hr (fun tt ht hW => ⟨⟨r_5, ⟨o_v22_6, p1, o_a38_7⟩, rfl, ⟨(Or.inr ⟨by omega, by rw [hkN, haN]; exact wr_5_2, by rw [hkN, haN, hal]; (try dsimp only); omega, by rw [hkN, haN]; exact wr_5_1⟩), (show 0 ≤ o_v22_6.toInt by first | omega | assumption), (show o_v22_6.toInt ≤ 1000 by first | omega | assumption), (show 0 ≤ p1.toInt by first | omega | assumption), (show p1.toInt ≤ 49 by first | omega | assumption)⟩, by rw [ht]; exact hP, hD⟩, hS.F ht⟩) hS.2.2 dX0_perform_36
          ·
            have hkN : ((a 37) p1.toNatClampNeg).toInt.toNat = 1 := by rw [hkn]; rfl
            have hal : (AL 1 0).length = 2 := rfl
            refine cV_i (As := [.int 0, .int p3, .int 0]) (rest := []) ⟨hx, hb, hml, hown, hg⟩ (k_S_1_0 l D cs A ad fa fq rv (va_up (va_up v 22 0) 23 p1) a w fv fp  p3 0 hkn (show 0 ≤ (0 : Int) by first | omega | decide) (show (0 : Int) ≤ 22 by first | omega | decide) (show 0 ≤ (0 : Int) by first | omega | decide) (show (0 : Int) ≤ 36 by first | omega | decide) (show 0 ≤ p1.toInt by first | omega | decide) (show p1.toInt ≤ 49 by first | omega | decide) ia37_0 (show 0 ≤ (0 : Int) by first | omega | decide) (show (0 : Int) ≤ 1000 by first | omega | decide)) ca_X0_self q4_135 ⟨rfl, rfl⟩ ⟨Nat.le_of_ble_eq_true rfl, Nat.le_of_ble_eq_true rfl⟩ (rc_acts hK hP) hK hP hD hS hZ rfl hl.1 rfl (Nat.le_of_ble_eq_true rfl) ⟨Nat.zero_le _, Nat.zero_le _⟩ dX0_perform_33 (fun r_9 z_12 H locs wr_9 hP hD hS => ?_)
            obtain ⟨o_v22_10, o_a38_11⟩ := z_12
            have hP : va_P D vwCl (CW cs ad fa fq rv (va_up (va_up v 23 p1) 22 o_v22_10) (va_up a 38 o_a38_11) w fv fp) H := hP
            have hD : va_D A (CW cs ad fa fq rv (va_up (va_up v 23 p1) 22 o_v22_10) (va_up a 38 o_a38_11) w fv fp) := hD
            obtain ⟨wr_9_0, wr_9_1, wr_9_2, wr_9_3, wr_9_4⟩ : (o_v22_10.toInt = (0 : Int) + 2) ∧ (o_a38_11 = TRW (a 38) (0 : Int).toNat [20, 1]) ∧ (r_9 = ((p3 + p1) + 3)) ∧ (0 ≤ o_v22_10.toInt) ∧ (o_v22_10.toInt ≤ 1000) := wr_9
            have hP : va_P D vwCl (CW cs ad fa fq rv (va_up (va_up v 22 o_v22_10) 23 p1) (va_up a 38 o_a38_11) w fv fp) _ := hP
            have hD : va_D A (CW cs ad fa fq rv (va_up (va_up v 22 o_v22_10) 23 p1) (va_up a 38 o_a38_11) w fv fp) := hD
            exact W.iret (v := r_9) hx hb hr (fun tt ht hW => ⟨⟨r_9, ⟨o_v22_10, p1, o_a38_11⟩, rfl, ⟨(Or.inr ⟨by omega, by rw [hkN, haN]; exact wr_9_2, by rw [hkN, haN, hal]; (try dsimp only); omega, by rw [hkN, haN]; exact wr_9_1⟩), (show 0 ≤ o_v22_10.toInt by first | omega | assumption), (show o_v22_10.toInt ≤ 1000 by first | omega | assumption), (show 0 ≤ p1.toInt by first | omega | assumption), (show p1.toInt ≤ 49 by first | omega | assumption)⟩, by rw [ht]; exact hP, hD⟩, hS.F ht⟩) hS.2.2 dX0_perform_36
          ·
            have hkN : ((a 37) p1.toNatClampNeg).toInt.toNat = 2 := by rw [hkn]; rfl
            have hal : (AL 2 0).length = 1 := rfl
            refine cV_i (As := [.int 0, .int p3, .int 0]) (rest := []) ⟨hx, hb, hml, hown, hg⟩ (k_S_2_0 l D cs A ad fa fq rv (va_up (va_up v 22 0) 23 p1) a w fv fp  p3 0 hkn (show 0 ≤ (0 : Int) by first | omega | decide) (show (0 : Int) ≤ 23 by first | omega | decide) (show 0 ≤ (0 : Int) by first | omega | decide) (show (0 : Int) ≤ 37 by first | omega | decide) (show 0 ≤ p1.toInt by first | omega | decide) (show p1.toInt ≤ 49 by first | omega | decide) ia37_0 (show 0 ≤ (0 : Int) by first | omega | decide) (show (0 : Int) ≤ 1000 by first | omega | decide)) ca_X0_self q4_135 ⟨rfl, rfl⟩ ⟨Nat.le_of_ble_eq_true rfl, Nat.le_of_ble_eq_true rfl⟩ (rc_acts hK hP) hK hP hD hS hZ rfl hl.1 rfl (Nat.le_of_ble_eq_true rfl) ⟨Nat.zero_le _, Nat.zero_le _⟩ dX0_perform_33 (fun r_13 z_16 H locs wr_13 hP hD hS => ?_)
            obtain ⟨o_v22_14, o_a38_15⟩ := z_16
            have hP : va_P D vwCl (CW cs ad fa fq rv (va_up (va_up v 23 p1) 22 o_v22_14) (va_up a 38 o_a38_15) w fv fp) H := hP
            have hD : va_D A (CW cs ad fa fq rv (va_up (va_up v 23 p1) 22 o_v22_14) (va_up a 38 o_a38_15) w fv fp) := hD
            obtain ⟨wr_13_0, wr_13_1, wr_13_2, wr_13_3, wr_13_4⟩ : (o_v22_14.toInt = (0 : Int) + 1) ∧ (o_a38_15 = TRW (a 38) (0 : Int).toNat [1]) ∧ (r_13 = (p3 + p1)) ∧ (0 ≤ o_v22_14.toInt) ∧ (o_v22_14.toInt ≤ 1000) := wr_13
            have hP : va_P D vwCl (CW cs ad fa fq rv (va_up (va_up v 22 o_v22_14) 23 p1) (va_up a 38 o_a38_15) w fv fp) _ := hP
            have hD : va_D A (CW cs ad fa fq rv (va_up (va_up v 22 o_v22_14) 23 p1) (va_up a 38 o_a38_15) w fv fp) := hD
            exact W.iret (v := r_13) hx hb hr (fun tt ht hW => ⟨⟨r_13, ⟨o_v22_14, p1, o_a38_15⟩, rfl, ⟨(Or.inr ⟨by omega, by rw [hkN, haN]; exact wr_13_2, by rw [hkN, haN, hal]; (try dsimp only); omega, by rw [hkN, haN]; exact wr_13_1⟩), (show 0 ≤ o_v22_14.toInt by first | omega | assumption), (show o_v22_14.toInt ≤ 1000 by first | omega | assumption), (show 0 ≤ p1.toInt by first | omega | assumption), (show p1.toInt ≤ 49 by first | omega | assumption)⟩, by rw [ht]; exact hP, hD⟩, hS.F ht⟩) hS.2.2 dX0_perform_36
          ·
            have hkN : ((a 37) p1.toNatClampNeg).toInt.toNat = 3 := by rw [hkn]; rfl
            have hal : (AL 3 0).length = 1 := rfl
            refine cV_i (As := [.int 0, .int p3, .int 0]) (rest := []) ⟨hx, hb, hml, hown, hg⟩ (k_S_3_0 l D cs A ad fa fq rv (va_up (va_up v 22 0) 23 p1) a w fv fp  p3 0 hkn (show 0 ≤ (0 : Int) by first | omega | decide) (show (0 : Int) ≤ 23 by first | omega | decide) (show 0 ≤ (0 : Int) by first | omega | decide) (show (0 : Int) ≤ 37 by first | omega | decide) (show 0 ≤ p1.toInt by first | omega | decide) (show p1.toInt ≤ 49 by first | omega | decide) ia37_0 (show 0 ≤ (0 : Int) by first | omega | decide) (show (0 : Int) ≤ 1000 by first | omega | decide)) ca_X0_self q4_135 ⟨rfl, rfl⟩ ⟨Nat.le_of_ble_eq_true rfl, Nat.le_of_ble_eq_true rfl⟩ (rc_acts hK hP) hK hP hD hS hZ rfl hl.1 rfl (Nat.le_of_ble_eq_true rfl) ⟨Nat.zero_le _, Nat.zero_le _⟩ dX0_perform_33 (fun r_17 z_20 H locs wr_17 hP hD hS => ?_)
            obtain ⟨o_v22_18, o_a38_19⟩ := z_20
            have hP : va_P D vwCl (CW cs ad fa fq rv (va_up (va_up v 23 p1) 22 o_v22_18) (va_up a 38 o_a38_19) w fv fp) H := hP
            have hD : va_D A (CW cs ad fa fq rv (va_up (va_up v 23 p1) 22 o_v22_18) (va_up a 38 o_a38_19) w fv fp) := hD
            obtain ⟨wr_17_0, wr_17_1, wr_17_2, wr_17_3, wr_17_4⟩ : (o_v22_18.toInt = (0 : Int) + 1) ∧ (o_a38_19 = TRW (a 38) (0 : Int).toNat [1]) ∧ (r_17 = (p3 + p1)) ∧ (0 ≤ o_v22_18.toInt) ∧ (o_v22_18.toInt ≤ 1000) := wr_17
            have hP : va_P D vwCl (CW cs ad fa fq rv (va_up (va_up v 22 o_v22_18) 23 p1) (va_up a 38 o_a38_19) w fv fp) _ := hP
            have hD : va_D A (CW cs ad fa fq rv (va_up (va_up v 22 o_v22_18) 23 p1) (va_up a 38 o_a38_19) w fv fp) := hD
            exact W.iret (v := r_17) hx hb hr (fun tt ht hW => ⟨⟨r_17, ⟨o_v22_18, p1, o_a38_19⟩, rfl, ⟨(Or.inr ⟨by omega, by rw [hkN, haN]; exact wr_17_2, by rw [hkN, haN, hal]; (try dsimp only); omega, by rw [hkN, haN]; exact wr_17_1⟩), (show 0 ≤ o_v22_18.toInt by first | omega | assumption), (show o_v22_18.toInt ≤ 1000 by first | omega | assumption), (show 0 ≤ p1.toInt by first | omega | assumption), (show p1.toInt ≤ 49 by first | omega | assumption)⟩, by rw [ht]; exact hP, hD⟩, hS.F ht⟩) hS.2.2 dX0_perform_36
          ·
            have hkN : ((a 37) p1.toNatClampNeg).toInt.toNat = 4 := by rw [hkn]; rfl
            have hal : (AL 4 0).length = 2 := rfl
            refine cV_i (As := [.int 0, .int p3, .int 0]) (rest := []) ⟨hx, hb, hml, hown, hg⟩ (k_S_4_0 l D cs A ad fa fq rv (va_up (va_up v 22 0) 23 p1) a w fv fp  p3 0 hkn (show 0 ≤ (0 : Int) by first | omega | decide) (show (0 : Int) ≤ 22 by first | omega | decide) (show 0 ≤ (0 : Int) by first | omega | decide) (show (0 : Int) ≤ 36 by first | omega | decide) (show 0 ≤ p1.toInt by first | omega | decide) (show p1.toInt ≤ 49 by first | omega | decide) ia37_0 (show 0 ≤ (0 : Int) by first | omega | decide) (show (0 : Int) ≤ 1000 by first | omega | decide)) ca_X0_self q4_135 ⟨rfl, rfl⟩ ⟨Nat.le_of_ble_eq_true rfl, Nat.le_of_ble_eq_true rfl⟩ (rc_acts hK hP) hK hP hD hS hZ rfl hl.1 rfl (Nat.le_of_ble_eq_true rfl) ⟨Nat.zero_le _, Nat.zero_le _⟩ dX0_perform_33 (fun r_21 z_24 H locs wr_21 hP hD hS => ?_)
            obtain ⟨o_v22_22, o_a38_23⟩ := z_24
            have hP : va_P D vwCl (CW cs ad fa fq rv (va_up (va_up v 23 p1) 22 o_v22_22) (va_up a 38 o_a38_23) w fv fp) H := hP
            have hD : va_D A (CW cs ad fa fq rv (va_up (va_up v 23 p1) 22 o_v22_22) (va_up a 38 o_a38_23) w fv fp) := hD
            obtain ⟨wr_21_0, wr_21_1, wr_21_2, wr_21_3, wr_21_4⟩ : (o_v22_22.toInt = (0 : Int) + 2) ∧ (o_a38_23 = TRW (a 38) (0 : Int).toNat [20, 1]) ∧ (r_21 = ((p3 + p1) + 3)) ∧ (0 ≤ o_v22_22.toInt) ∧ (o_v22_22.toInt ≤ 1000) := wr_21
            have hP : va_P D vwCl (CW cs ad fa fq rv (va_up (va_up v 22 o_v22_22) 23 p1) (va_up a 38 o_a38_23) w fv fp) _ := hP
            have hD : va_D A (CW cs ad fa fq rv (va_up (va_up v 22 o_v22_22) 23 p1) (va_up a 38 o_a38_23) w fv fp) := hD
            exact W.iret (v := r_21) hx hb hr (fun tt ht hW => ⟨⟨r_21, ⟨o_v22_22, p1, o_a38_23⟩, rfl, ⟨(Or.inr ⟨by omega, by rw [hkN, haN]; exact wr_21_2, by rw [hkN, haN, hal]; (try dsimp only); omega, by rw [hkN, haN]; exact wr_21_1⟩), (show 0 ≤ o_v22_22.toInt by first | omega | assumption), (show o_v22_22.toInt ≤ 1000 by first | omega | assumption), (show 0 ≤ p1.toInt by first | omega | assumption), (show p1.toInt ≤ 49 by first | omega | assumption)⟩, by rw [ht]; exact hP, hD⟩, hS.F ht⟩) hS.2.2 dX0_perform_36
          ·
            have hkN : ((a 37) p1.toNatClampNeg).toInt.toNat = 5 := by rw [hkn]; rfl
            have hal : (AL 5 0).length = 1 := rfl
            refine cV_i (As := [.int 0, .int p3, .int 0]) (rest := []) ⟨hx, hb, hml, hown, hg⟩ (k_S_5_0 l D cs A ad fa fq rv (va_up (va_up v 22 0) 23 p1) a w fv fp  p3 0 hkn (show 0 ≤ (0 : Int) by first | omega | decide) (show (0 : Int) ≤ 23 by first | omega | decide) (show 0 ≤ (0 : Int) by first | omega | decide) (show (0 : Int) ≤ 37 by first | omega | decide) (show 0 ≤ p1.toInt by first | omega | decide) (show p1.toInt ≤ 49 by first | omega | decide) ia37_0 (show 0 ≤ (0 : Int) by first | omega | decide) (show (0 : Int) ≤ 1000 by first | omega | decide)) ca_X0_self q4_135 ⟨rfl, rfl⟩ ⟨Nat.le_of_ble_eq_true rfl, Nat.le_of_ble_eq_true rfl⟩ (rc_acts hK hP) hK hP hD hS hZ rfl hl.1 rfl (Nat.le_of_ble_eq_true rfl) ⟨Nat.zero_le _, Nat.zero_le _⟩ dX0_perform_33 (fun r_25 z_28 H locs wr_25 hP hD hS => ?_)
            obtain ⟨o_v22_26, o_a38_27⟩ := z_28
            have hP : va_P D vwCl (CW cs ad fa fq rv (va_up (va_up v 23 p1) 22 o_v22_26) (va_up a 38 o_a38_27) w fv fp) H := hP
            have hD : va_D A (CW cs ad fa fq rv (va_up (va_up v 23 p1) 22 o_v22_26) (va_up a 38 o_a38_27) w fv fp) := hD
            obtain ⟨wr_25_0, wr_25_1, wr_25_2, wr_25_3, wr_25_4⟩ : (o_v22_26.toInt = (0 : Int) + 1) ∧ (o_a38_27 = TRW (a 38) (0 : Int).toNat [1]) ∧ (r_25 = (p3 + p1)) ∧ (0 ≤ o_v22_26.toInt) ∧ (o_v22_26.toInt ≤ 1000) := wr_25
            have hP : va_P D vwCl (CW cs ad fa fq rv (va_up (va_up v 22 o_v22_26) 23 p1) (va_up a 38 o_a38_27) w fv fp) _ := hP
            have hD : va_D A (CW cs ad fa fq rv (va_up (va_up v 22 o_v22_26) 23 p1) (va_up a 38 o_a38_27) w fv fp) := hD
            exact W.iret (v := r_25) hx hb hr (fun tt ht hW => ⟨⟨r_25, ⟨o_v22_26, p1, o_a38_27⟩, rfl, ⟨(Or.inr ⟨by omega, by rw [hkN, haN]; exact wr_25_2, by rw [hkN, haN, hal]; (try dsimp only); omega, by rw [hkN, haN]; exact wr_25_1⟩), (show 0 ≤ o_v22_26.toInt by first | omega | assumption), (show o_v22_26.toInt ≤ 1000 by first | omega | assumption), (show 0 ≤ p1.toInt by first | omega | assumption), (show p1.toInt ≤ 49 by first | omega | assumption)⟩, by rw [ht]; exact hP, hD⟩, hS.F ht⟩) hS.2.2 dX0_perform_36
          ·
            have hkN : ((a 37) p1.toNatClampNeg).toInt.toNat = 6 := by rw [hkn]; rfl
            have hal : (AL 6 0).length = 2 := rfl
            refine cV_i (As := [.int 0, .int p3, .int 0]) (rest := []) ⟨hx, hb, hml, hown, hg⟩ (k_S_6_0 l D cs A ad fa fq rv (va_up (va_up v 22 0) 23 p1) a w fv fp  p3 0 hkn (show 0 ≤ (0 : Int) by first | omega | decide) (show (0 : Int) ≤ 22 by first | omega | decide) (show 0 ≤ (0 : Int) by first | omega | decide) (show (0 : Int) ≤ 36 by first | omega | decide) (show 0 ≤ p1.toInt by first | omega | decide) (show p1.toInt ≤ 49 by first | omega | decide) ia37_0 (show 0 ≤ (0 : Int) by first | omega | decide) (show (0 : Int) ≤ 1000 by first | omega | decide)) ca_X0_self q4_135 ⟨rfl, rfl⟩ ⟨Nat.le_of_ble_eq_true rfl, Nat.le_of_ble_eq_true rfl⟩ (rc_acts hK hP) hK hP hD hS hZ rfl hl.1 rfl (Nat.le_of_ble_eq_true rfl) ⟨Nat.zero_le _, Nat.zero_le _⟩ dX0_perform_33 (fun r_29 z_32 H locs wr_29 hP hD hS => ?_)
            obtain ⟨o_v22_30, o_a38_31⟩ := z_32
            have hP : va_P D vwCl (CW cs ad fa fq rv (va_up (va_up v 23 p1) 22 o_v22_30) (va_up a 38 o_a38_31) w fv fp) H := hP
            have hD : va_D A (CW cs ad fa fq rv (va_up (va_up v 23 p1) 22 o_v22_30) (va_up a 38 o_a38_31) w fv fp) := hD
            obtain ⟨wr_29_0, wr_29_1, wr_29_2, wr_29_3, wr_29_4⟩ : (o_v22_30.toInt = (0 : Int) + 2) ∧ (o_a38_31 = TRW (a 38) (0 : Int).toNat [70, 1]) ∧ (r_29 = ((p3 + p1) * 2)) ∧ (0 ≤ o_v22_30.toInt) ∧ (o_v22_30.toInt ≤ 1000) := wr_29
            have hP : va_P D vwCl (CW cs ad fa fq rv (va_up (va_up v 22 o_v22_30) 23 p1) (va_up a 38 o_a38_31) w fv fp) _ := hP
            have hD : va_D A (CW cs ad fa fq rv (va_up (va_up v 22 o_v22_30) 23 p1) (va_up a 38 o_a38_31) w fv fp) := hD
            exact W.iret (v := r_29) hx hb hr (fun tt ht hW => ⟨⟨r_29, ⟨o_v22_30, p1, o_a38_31⟩, rfl, ⟨(Or.inr ⟨by omega, by rw [hkN, haN]; exact wr_29_2, by rw [hkN, haN, hal]; (try dsimp only); omega, by rw [hkN, haN]; exact wr_29_1⟩), (show 0 ≤ o_v22_30.toInt by first | omega | assumption), (show o_v22_30.toInt ≤ 1000 by first | omega | assumption), (show 0 ≤ p1.toInt by first | omega | assumption), (show p1.toInt ≤ 49 by first | omega | assumption)⟩, by rw [ht]; exact hP, hD⟩, hS.F ht⟩) hS.2.2 dX0_perform_36
          ·
            have hkN : ((a 37) p1.toNatClampNeg).toInt.toNat = 7 := by rw [hkn]; rfl
            have hal : (AL 7 0).length = 3 := rfl
            refine cV_i (As := [.int 0, .int p3, .int 0]) (rest := []) ⟨hx, hb, hml, hown, hg⟩ (k_S_7_0 l D cs A ad fa fq rv (va_up (va_up v 22 0) 23 p1) a w fv fp  p3 0 hkn (show 0 ≤ (0 : Int) by first | omega | decide) (show (0 : Int) ≤ 21 by first | omega | decide) (show 0 ≤ (0 : Int) by first | omega | decide) (show (0 : Int) ≤ 35 by first | omega | decide) (show 0 ≤ p1.toInt by first | omega | decide) (show p1.toInt ≤ 49 by first | omega | decide) ia37_0 (show 0 ≤ (0 : Int) by first | omega | decide) (show (0 : Int) ≤ 1000 by first | omega | decide)) ca_X0_self q4_135 ⟨rfl, rfl⟩ ⟨Nat.le_of_ble_eq_true rfl, Nat.le_of_ble_eq_true rfl⟩ (rc_acts hK hP) hK hP hD hS hZ rfl hl.1 rfl (Nat.le_of_ble_eq_true rfl) ⟨Nat.zero_le _, Nat.zero_le _⟩ dX0_perform_33 (fun r_33 z_36 H locs wr_33 hP hD hS => ?_)
            obtain ⟨o_v22_34, o_a38_35⟩ := z_36
            have hP : va_P D vwCl (CW cs ad fa fq rv (va_up (va_up v 23 p1) 22 o_v22_34) (va_up a 38 o_a38_35) w fv fp) H := hP
            have hD : va_D A (CW cs ad fa fq rv (va_up (va_up v 23 p1) 22 o_v22_34) (va_up a 38 o_a38_35) w fv fp) := hD
            obtain ⟨wr_33_0, wr_33_1, wr_33_2, wr_33_3, wr_33_4⟩ : (o_v22_34.toInt = (0 : Int) + 3) ∧ (o_a38_35 = TRW (a 38) (0 : Int).toNat [81, 70, 1]) ∧ (r_33 = (((p3 + p1) * 2) - 1)) ∧ (0 ≤ o_v22_34.toInt) ∧ (o_v22_34.toInt ≤ 1000) := wr_33
            have hP : va_P D vwCl (CW cs ad fa fq rv (va_up (va_up v 22 o_v22_34) 23 p1) (va_up a 38 o_a38_35) w fv fp) _ := hP
            have hD : va_D A (CW cs ad fa fq rv (va_up (va_up v 22 o_v22_34) 23 p1) (va_up a 38 o_a38_35) w fv fp) := hD
            exact W.iret (v := r_33) hx hb hr (fun tt ht hW => ⟨⟨r_33, ⟨o_v22_34, p1, o_a38_35⟩, rfl, ⟨(Or.inr ⟨by omega, by rw [hkN, haN]; exact wr_33_2, by rw [hkN, haN, hal]; (try dsimp only); omega, by rw [hkN, haN]; exact wr_33_1⟩), (show 0 ≤ o_v22_34.toInt by first | omega | assumption), (show o_v22_34.toInt ≤ 1000 by first | omega | assumption), (show 0 ≤ p1.toInt by first | omega | assumption), (show p1.toInt ≤ 49 by first | omega | assumption)⟩, by rw [ht]; exact hP, hD⟩, hS.F ht⟩) hS.2.2 dX0_perform_36
        ·
          subst h2q
          have haI : (1 : Int32).toInt = 1 := rfl
          have haN : (1 : Int32).toInt.toNat = 1 := rfl
          rcases (i_07 (ia37_0 p1.toNatClampNeg).1 (ia37_0 p1.toNatClampNeg).2) with hkn | hkn | hkn | hkn | hkn | hkn | hkn | hkn
          ·
            have hkN : ((a 37) p1.toNatClampNeg).toInt.toNat = 0 := by rw [hkn]; rfl
            have hal : (AL 0 1).length = 2 := rfl
            refine cV_i (As := [.int 1, .int p3, .int 0]) (rest := []) ⟨hx, hb, hml, hown, hg⟩ (k_S_0_1 l D cs A ad fa fq rv (va_up (va_up v 22 0) 23 p1) a w fv fp  p3 0 hkn (show 0 ≤ (0 : Int) by first | omega | decide) (show (0 : Int) ≤ 22 by first | omega | decide) (show 0 ≤ (0 : Int) by first | omega | decide) (show (0 : Int) ≤ 36 by first | omega | decide) (show 0 ≤ p1.toInt by first | omega | decide) (show p1.toInt ≤ 49 by first | omega | decide) ia37_0 (show 0 ≤ (0 : Int) by first | omega | decide) (show (0 : Int) ≤ 1000 by first | omega | decide)) ca_X0_self q4_135 ⟨rfl, rfl⟩ ⟨Nat.le_of_ble_eq_true rfl, Nat.le_of_ble_eq_true rfl⟩ (rc_acts hK hP) hK hP hD hS hZ rfl hl.1 rfl (Nat.le_of_ble_eq_true rfl) ⟨Nat.zero_le _, Nat.zero_le _⟩ dX0_perform_33 (fun r_37 z_40 H locs wr_37 hP hD hS => ?_)
            obtain ⟨o_v22_38, o_a38_39⟩ := z_40
            have hP : va_P D vwCl (CW cs ad fa fq rv (va_up (va_up v 23 p1) 22 o_v22_38) (va_up a 38 o_a38_39) w fv fp) H := hP
            have hD : va_D A (CW cs ad fa fq rv (va_up (va_up v 23 p1) 22 o_v22_38) (va_up a 38 o_a38_39) w fv fp) := hD
            obtain ⟨wr_37_0, wr_37_1, wr_37_2, wr_37_3, wr_37_4⟩ : (o_v22_38.toInt = (0 : Int) + 2) ∧ (o_a38_39 = TRW (a 38) (0 : Int).toNat [10, 1]) ∧ (r_37 = ((p3 + p1) * 2)) ∧ (0 ≤ o_v22_38.toInt) ∧ (o_v22_38.toInt ≤ 1000) := wr_37
            have hP : va_P D vwCl (CW cs ad fa fq rv (va_up (va_up v 22 o_v22_38) 23 p1) (va_up a 38 o_a38_39) w fv fp) _ := hP
            have hD : va_D A (CW cs ad fa fq rv (va_up (va_up v 22 o_v22_38) 23 p1) (va_up a 38 o_a38_39) w fv fp) := hD
            exact W.iret (v := r_37) hx hb hr (fun tt ht hW => ⟨⟨r_37, ⟨o_v22_38, p1, o_a38_39⟩, rfl, ⟨(Or.inr ⟨by omega, by rw [hkN, haN]; exact wr_37_2, by rw [hkN, haN, hal]; (try dsimp only); omega, by rw [hkN, haN]; exact wr_37_1⟩), (show 0 ≤ o_v22_38.toInt by first | omega | assumption), (show o_v22_38.toInt ≤ 1000 by first | omega | assumption), (show 0 ≤ p1.toInt by first | omega | assumption), (show p1.toInt ≤ 49 by first | omega | assumption)⟩, by rw [ht]; exact hP, hD⟩, hS.F ht⟩) hS.2.2 dX0_perform_36
          ·
            have hkN : ((a 37) p1.toNatClampNeg).toInt.toNat = 1 := by rw [hkn]; rfl
            have hal : (AL 1 1).length = 3 := rfl
            refine cV_i (As := [.int 1, .int p3, .int 0]) (rest := []) ⟨hx, hb, hml, hown, hg⟩ (k_S_1_1 l D cs A ad fa fq rv (va_up (va_up v 22 0) 23 p1) a w fv fp  p3 0 hkn (show 0 ≤ (0 : Int) by first | omega | decide) (show (0 : Int) ≤ 21 by first | omega | decide) (show 0 ≤ (0 : Int) by first | omega | decide) (show (0 : Int) ≤ 35 by first | omega | decide) (show 0 ≤ p1.toInt by first | omega | decide) (show p1.toInt ≤ 49 by first | omega | decide) ia37_0 (show 0 ≤ (0 : Int) by first | omega | decide) (show (0 : Int) ≤ 1000 by first | omega | decide)) ca_X0_self q4_135 ⟨rfl, rfl⟩ ⟨Nat.le_of_ble_eq_true rfl, Nat.le_of_ble_eq_true rfl⟩ (rc_acts hK hP) hK hP hD hS hZ rfl hl.1 rfl (Nat.le_of_ble_eq_true rfl) ⟨Nat.zero_le _, Nat.zero_le _⟩ dX0_perform_33 (fun r_41 z_44 H locs wr_41 hP hD hS => ?_)
            obtain ⟨o_v22_42, o_a38_43⟩ := z_44
            have hP : va_P D vwCl (CW cs ad fa fq rv (va_up (va_up v 23 p1) 22 o_v22_42) (va_up a 38 o_a38_43) w fv fp) H := hP
            have hD : va_D A (CW cs ad fa fq rv (va_up (va_up v 23 p1) 22 o_v22_42) (va_up a 38 o_a38_43) w fv fp) := hD
            obtain ⟨wr_41_0, wr_41_1, wr_41_2, wr_41_3, wr_41_4⟩ : (o_v22_42.toInt = (0 : Int) + 3) ∧ (o_a38_43 = TRW (a 38) (0 : Int).toNat [10, 20, 1]) ∧ (r_41 = (((p3 + p1) + 3) * 2)) ∧ (0 ≤ o_v22_42.toInt) ∧ (o_v22_42.toInt ≤ 1000) := wr_41
            have hP : va_P D vwCl (CW cs ad fa fq rv (va_up (va_up v 22 o_v22_42) 23 p1) (va_up a 38 o_a38_43) w fv fp) _ := hP
            have hD : va_D A (CW cs ad fa fq rv (va_up (va_up v 22 o_v22_42) 23 p1) (va_up a 38 o_a38_43) w fv fp) := hD
            exact W.iret (v := r_41) hx hb hr (fun tt ht hW => ⟨⟨r_41, ⟨o_v22_42, p1, o_a38_43⟩, rfl, ⟨(Or.inr ⟨by omega, by rw [hkN, haN]; exact wr_41_2, by rw [hkN, haN, hal]; (try dsimp only); omega, by rw [hkN, haN]; exact wr_41_1⟩), (show 0 ≤ o_v22_42.toInt by first | omega | assumption), (show o_v22_42.toInt ≤ 1000 by first | omega | assumption), (show 0 ≤ p1.toInt by first | omega | assumption), (show p1.toInt ≤ 49 by first | omega | assumption)⟩, by rw [ht]; exact hP, hD⟩, hS.F ht⟩) hS.2.2 dX0_perform_36
          ·
            have hkN : ((a 37) p1.toNatClampNeg).toInt.toNat = 2 := by rw [hkn]; rfl
            have hal : (AL 2 1).length = 3 := rfl
            refine cV_i (As := [.int 1, .int p3, .int 0]) (rest := []) ⟨hx, hb, hml, hown, hg⟩ (k_S_2_1 l D cs A ad fa fq rv (va_up (va_up v 22 0) 23 p1) a w fv fp  p3 0 hkn (show 0 ≤ (0 : Int) by first | omega | decide) (show (0 : Int) ≤ 21 by first | omega | decide) (show 0 ≤ (0 : Int) by first | omega | decide) (show (0 : Int) ≤ 35 by first | omega | decide) (show 0 ≤ p1.toInt by first | omega | decide) (show p1.toInt ≤ 49 by first | omega | decide) ia37_0 (show 0 ≤ (0 : Int) by first | omega | decide) (show (0 : Int) ≤ 1000 by first | omega | decide)) ca_X0_self q4_135 ⟨rfl, rfl⟩ ⟨Nat.le_of_ble_eq_true rfl, Nat.le_of_ble_eq_true rfl⟩ (rc_acts hK hP) hK hP hD hS hZ rfl hl.1 rfl (Nat.le_of_ble_eq_true rfl) ⟨Nat.zero_le _, Nat.zero_le _⟩ dX0_perform_33 (fun r_45 z_48 H locs wr_45 hP hD hS => ?_)
            obtain ⟨o_v22_46, o_a38_47⟩ := z_48
            have hP : va_P D vwCl (CW cs ad fa fq rv (va_up (va_up v 23 p1) 22 o_v22_46) (va_up a 38 o_a38_47) w fv fp) H := hP
            have hD : va_D A (CW cs ad fa fq rv (va_up (va_up v 23 p1) 22 o_v22_46) (va_up a 38 o_a38_47) w fv fp) := hD
            obtain ⟨wr_45_0, wr_45_1, wr_45_2, wr_45_3, wr_45_4⟩ : (o_v22_46.toInt = (0 : Int) + 3) ∧ (o_a38_47 = TRW (a 38) (0 : Int).toNat [30, 10, 1]) ∧ (r_45 = (-((p3 + p1) * 2))) ∧ (0 ≤ o_v22_46.toInt) ∧ (o_v22_46.toInt ≤ 1000) := wr_45
            have hP : va_P D vwCl (CW cs ad fa fq rv (va_up (va_up v 22 o_v22_46) 23 p1) (va_up a 38 o_a38_47) w fv fp) _ := hP
            have hD : va_D A (CW cs ad fa fq rv (va_up (va_up v 22 o_v22_46) 23 p1) (va_up a 38 o_a38_47) w fv fp) := hD
            exact W.iret (v := r_45) hx hb hr (fun tt ht hW => ⟨⟨r_45, ⟨o_v22_46, p1, o_a38_47⟩, rfl, ⟨(Or.inr ⟨by omega, by rw [hkN, haN]; exact wr_45_2, by rw [hkN, haN, hal]; (try dsimp only); omega, by rw [hkN, haN]; exact wr_45_1⟩), (show 0 ≤ o_v22_46.toInt by first | omega | assumption), (show o_v22_46.toInt ≤ 1000 by first | omega | assumption), (show 0 ≤ p1.toInt by first | omega | assumption), (show p1.toInt ≤ 49 by first | omega | assumption)⟩, by rw [ht]; exact hP, hD⟩, hS.F ht⟩) hS.2.2 dX0_perform_36
          ·
            have hkN : ((a 37) p1.toNatClampNeg).toInt.toNat = 3 := by rw [hkn]; rfl
            have hal : (AL 3 1).length = 4 := rfl
            refine cV_i (As := [.int 1, .int p3, .int 0]) (rest := []) ⟨hx, hb, hml, hown, hg⟩ (k_S_3_1 l D cs A ad fa fq rv (va_up (va_up v 22 0) 23 p1) a w fv fp  p3 0 hkn (show 0 ≤ (0 : Int) by first | omega | decide) (show (0 : Int) ≤ 20 by first | omega | decide) (show 0 ≤ (0 : Int) by first | omega | decide) (show (0 : Int) ≤ 34 by first | omega | decide) (show 0 ≤ p1.toInt by first | omega | decide) (show p1.toInt ≤ 49 by first | omega | decide) ia37_0 (show 0 ≤ (0 : Int) by first | omega | decide) (show (0 : Int) ≤ 1000 by first | omega | decide)) ca_X0_self q4_135 ⟨rfl, rfl⟩ ⟨Nat.le_of_ble_eq_true rfl, Nat.le_of_ble_eq_true rfl⟩ (rc_acts hK hP) hK hP hD hS hZ rfl hl.1 rfl (Nat.le_of_ble_eq_true rfl) ⟨Nat.zero_le _, Nat.zero_le _⟩ dX0_perform_33 (fun r_49 z_52 H locs wr_49 hP hD hS => ?_)
            obtain ⟨o_v22_50, o_a38_51⟩ := z_52
            have hP : va_P D vwCl (CW cs ad fa fq rv (va_up (va_up v 23 p1) 22 o_v22_50) (va_up a 38 o_a38_51) w fv fp) H := hP
            have hD : va_D A (CW cs ad fa fq rv (va_up (va_up v 23 p1) 22 o_v22_50) (va_up a 38 o_a38_51) w fv fp) := hD
            obtain ⟨wr_49_0, wr_49_1, wr_49_2, wr_49_3, wr_49_4⟩ : (o_v22_50.toInt = (0 : Int) + 4) ∧ (o_a38_51 = TRW (a 38) (0 : Int).toNat [41, 30, 10, 1]) ∧ (r_49 = (-(((p3 + 1) + p1) * 2))) ∧ (0 ≤ o_v22_50.toInt) ∧ (o_v22_50.toInt ≤ 1000) := wr_49
            have hP : va_P D vwCl (CW cs ad fa fq rv (va_up (va_up v 22 o_v22_50) 23 p1) (va_up a 38 o_a38_51) w fv fp) _ := hP
            have hD : va_D A (CW cs ad fa fq rv (va_up (va_up v 22 o_v22_50) 23 p1) (va_up a 38 o_a38_51) w fv fp) := hD
            exact W.iret (v := r_49) hx hb hr (fun tt ht hW => ⟨⟨r_49, ⟨o_v22_50, p1, o_a38_51⟩, rfl, ⟨(Or.inr ⟨by omega, by rw [hkN, haN]; exact wr_49_2, by rw [hkN, haN, hal]; (try dsimp only); omega, by rw [hkN, haN]; exact wr_49_1⟩), (show 0 ≤ o_v22_50.toInt by first | omega | assumption), (show o_v22_50.toInt ≤ 1000 by first | omega | assumption), (show 0 ≤ p1.toInt by first | omega | assumption), (show p1.toInt ≤ 49 by first | omega | assumption)⟩, by rw [ht]; exact hP, hD⟩, hS.F ht⟩) hS.2.2 dX0_perform_36
          ·
            have hkN : ((a 37) p1.toNatClampNeg).toInt.toNat = 4 := by rw [hkn]; rfl
            have hal : (AL 4 1).length = 3 := rfl
            refine cV_i (As := [.int 1, .int p3, .int 0]) (rest := []) ⟨hx, hb, hml, hown, hg⟩ (k_S_4_1 l D cs A ad fa fq rv (va_up (va_up v 22 0) 23 p1) a w fv fp  p3 0 hkn (show 0 ≤ (0 : Int) by first | omega | decide) (show (0 : Int) ≤ 21 by first | omega | decide) (show 0 ≤ (0 : Int) by first | omega | decide) (show (0 : Int) ≤ 35 by first | omega | decide) (show 0 ≤ p1.toInt by first | omega | decide) (show p1.toInt ≤ 49 by first | omega | decide) ia37_0 (show 0 ≤ (0 : Int) by first | omega | decide) (show (0 : Int) ≤ 1000 by first | omega | decide)) ca_X0_self q4_135 ⟨rfl, rfl⟩ ⟨Nat.le_of_ble_eq_true rfl, Nat.le_of_ble_eq_true rfl⟩ (rc_acts hK hP) hK hP hD hS hZ rfl hl.1 rfl (Nat.le_of_ble_eq_true rfl) ⟨Nat.zero_le _, Nat.zero_le _⟩ dX0_perform_33 (fun r_53 z_56 H locs wr_53 hP hD hS => ?_)
            obtain ⟨o_v22_54, o_a38_55⟩ := z_56
            have hP : va_P D vwCl (CW cs ad fa fq rv (va_up (va_up v 23 p1) 22 o_v22_54) (va_up a 38 o_a38_55) w fv fp) H := hP
            have hD : va_D A (CW cs ad fa fq rv (va_up (va_up v 23 p1) 22 o_v22_54) (va_up a 38 o_a38_55) w fv fp) := hD
            obtain ⟨wr_53_0, wr_53_1, wr_53_2, wr_53_3, wr_53_4⟩ : (o_v22_54.toInt = (0 : Int) + 3) ∧ (o_a38_55 = TRW (a 38) (0 : Int).toNat [10, 20, 1]) ∧ (r_53 = (((p3 + p1) + 3) * 2)) ∧ (0 ≤ o_v22_54.toInt) ∧ (o_v22_54.toInt ≤ 1000) := wr_53
            have hP : va_P D vwCl (CW cs ad fa fq rv (va_up (va_up v 22 o_v22_54) 23 p1) (va_up a 38 o_a38_55) w fv fp) _ := hP
            have hD : va_D A (CW cs ad fa fq rv (va_up (va_up v 22 o_v22_54) 23 p1) (va_up a 38 o_a38_55) w fv fp) := hD
            exact W.iret (v := r_53) hx hb hr (fun tt ht hW => ⟨⟨r_53, ⟨o_v22_54, p1, o_a38_55⟩, rfl, ⟨(Or.inr ⟨by omega, by rw [hkN, haN]; exact wr_53_2, by rw [hkN, haN, hal]; (try dsimp only); omega, by rw [hkN, haN]; exact wr_53_1⟩), (show 0 ≤ o_v22_54.toInt by first | omega | assumption), (show o_v22_54.toInt ≤ 1000 by first | omega | assumption), (show 0 ≤ p1.toInt by first | omega | assumption), (show p1.toInt ≤ 49 by first | omega | assumption)⟩, by rw [ht]; exact hP, hD⟩, hS.F ht⟩) hS.2.2 dX0_perform_36
          ·
            have hkN : ((a 37) p1.toNatClampNeg).toInt.toNat = 5 := by rw [hkn]; rfl
            have hal : (AL 5 1).length = 4 := rfl
            refine cV_i (As := [.int 1, .int p3, .int 0]) (rest := []) ⟨hx, hb, hml, hown, hg⟩ (k_S_5_1 l D cs A ad fa fq rv (va_up (va_up v 22 0) 23 p1) a w fv fp  p3 0 hkn (show 0 ≤ (0 : Int) by first | omega | decide) (show (0 : Int) ≤ 20 by first | omega | decide) (show 0 ≤ (0 : Int) by first | omega | decide) (show (0 : Int) ≤ 34 by first | omega | decide) (show 0 ≤ p1.toInt by first | omega | decide) (show p1.toInt ≤ 49 by first | omega | decide) ia37_0 (show 0 ≤ (0 : Int) by first | omega | decide) (show (0 : Int) ≤ 1000 by first | omega | decide)) ca_X0_self q4_135 ⟨rfl, rfl⟩ ⟨Nat.le_of_ble_eq_true rfl, Nat.le_of_ble_eq_true rfl⟩ (rc_acts hK hP) hK hP hD hS hZ rfl hl.1 rfl (Nat.le_of_ble_eq_true rfl) ⟨Nat.zero_le _, Nat.zero_le _⟩ dX0_perform_33 (fun r_57 z_60 H locs wr_57 hP hD hS => ?_)
            obtain ⟨o_v22_58, o_a38_59⟩ := z_60
            have hP : va_P D vwCl (CW cs ad fa fq rv (va_up (va_up v 23 p1) 22 o_v22_58) (va_up a 38 o_a38_59) w fv fp) H := hP
            have hD : va_D A (CW cs ad fa fq rv (va_up (va_up v 23 p1) 22 o_v22_58) (va_up a 38 o_a38_59) w fv fp) := hD
            obtain ⟨wr_57_0, wr_57_1, wr_57_2, wr_57_3, wr_57_4⟩ : (o_v22_58.toInt = (0 : Int) + 4) ∧ (o_a38_59 = TRW (a 38) (0 : Int).toNat [41, 30, 10, 1]) ∧ (r_57 = (-(((p3 + 1) + p1) * 2))) ∧ (0 ≤ o_v22_58.toInt) ∧ (o_v22_58.toInt ≤ 1000) := wr_57
            have hP : va_P D vwCl (CW cs ad fa fq rv (va_up (va_up v 22 o_v22_58) 23 p1) (va_up a 38 o_a38_59) w fv fp) _ := hP
            have hD : va_D A (CW cs ad fa fq rv (va_up (va_up v 22 o_v22_58) 23 p1) (va_up a 38 o_a38_59) w fv fp) := hD
            exact W.iret (v := r_57) hx hb hr (fun tt ht hW => ⟨⟨r_57, ⟨o_v22_58, p1, o_a38_59⟩, rfl, ⟨(Or.inr ⟨by omega, by rw [hkN, haN]; exact wr_57_2, by rw [hkN, haN, hal]; (try dsimp only); omega, by rw [hkN, haN]; exact wr_57_1⟩), (show 0 ≤ o_v22_58.toInt by first | omega | assumption), (show o_v22_58.toInt ≤ 1000 by first | omega | assumption), (show 0 ≤ p1.toInt by first | omega | assumption), (show p1.toInt ≤ 49 by first | omega | assumption)⟩, by rw [ht]; exact hP, hD⟩, hS.F ht⟩) hS.2.2 dX0_perform_36
          ·
            have hkN : ((a 37) p1.toNatClampNeg).toInt.toNat = 6 := by rw [hkn]; rfl
            have hal : (AL 6 1).length = 3 := rfl
            refine cV_i (As := [.int 1, .int p3, .int 0]) (rest := []) ⟨hx, hb, hml, hown, hg⟩ (k_S_6_1 l D cs A ad fa fq rv (va_up (va_up v 22 0) 23 p1) a w fv fp  p3 0 hkn (show 0 ≤ (0 : Int) by first | omega | decide) (show (0 : Int) ≤ 21 by first | omega | decide) (show 0 ≤ (0 : Int) by first | omega | decide) (show (0 : Int) ≤ 35 by first | omega | decide) (show 0 ≤ p1.toInt by first | omega | decide) (show p1.toInt ≤ 49 by first | omega | decide) ia37_0 (show 0 ≤ (0 : Int) by first | omega | decide) (show (0 : Int) ≤ 1000 by first | omega | decide)) ca_X0_self q4_135 ⟨rfl, rfl⟩ ⟨Nat.le_of_ble_eq_true rfl, Nat.le_of_ble_eq_true rfl⟩ (rc_acts hK hP) hK hP hD hS hZ rfl hl.1 rfl (Nat.le_of_ble_eq_true rfl) ⟨Nat.zero_le _, Nat.zero_le _⟩ dX0_perform_33 (fun r_61 z_64 H locs wr_61 hP hD hS => ?_)
            obtain ⟨o_v22_62, o_a38_63⟩ := z_64
            have hP : va_P D vwCl (CW cs ad fa fq rv (va_up (va_up v 23 p1) 22 o_v22_62) (va_up a 38 o_a38_63) w fv fp) H := hP
            have hD : va_D A (CW cs ad fa fq rv (va_up (va_up v 23 p1) 22 o_v22_62) (va_up a 38 o_a38_63) w fv fp) := hD
            obtain ⟨wr_61_0, wr_61_1, wr_61_2, wr_61_3, wr_61_4⟩ : (o_v22_62.toInt = (0 : Int) + 3) ∧ (o_a38_63 = TRW (a 38) (0 : Int).toNat [10, 70, 1]) ∧ (r_61 = (((p3 + p1) * 2) * 2)) ∧ (0 ≤ o_v22_62.toInt) ∧ (o_v22_62.toInt ≤ 1000) := wr_61
            have hP : va_P D vwCl (CW cs ad fa fq rv (va_up (va_up v 22 o_v22_62) 23 p1) (va_up a 38 o_a38_63) w fv fp) _ := hP
            have hD : va_D A (CW cs ad fa fq rv (va_up (va_up v 22 o_v22_62) 23 p1) (va_up a 38 o_a38_63) w fv fp) := hD
            exact W.iret (v := r_61) hx hb hr (fun tt ht hW => ⟨⟨r_61, ⟨o_v22_62, p1, o_a38_63⟩, rfl, ⟨(Or.inr ⟨by omega, by rw [hkN, haN]; exact wr_61_2, by rw [hkN, haN, hal]; (try dsimp only); omega, by rw [hkN, haN]; exact wr_61_1⟩), (show 0 ≤ o_v22_62.toInt by first | omega | assumption), (show o_v22_62.toInt ≤ 1000 by first | omega | assumption), (show 0 ≤ p1.toInt by first | omega | assumption), (show p1.toInt ≤ 49 by first | omega | assumption)⟩, by rw [ht]; exact hP, hD⟩, hS.F ht⟩) hS.2.2 dX0_perform_36
          ·
            have hkN : ((a 37) p1.toNatClampNeg).toInt.toNat = 7 := by rw [hkn]; rfl
            have hal : (AL 7 1).length = 6 := rfl
            refine cV_i (As := [.int 1, .int p3, .int 0]) (rest := []) ⟨hx, hb, hml, hown, hg⟩ (k_S_7_1 l D cs A ad fa fq rv (va_up (va_up v 22 0) 23 p1) a w fv fp  p3 0 hkn (show 0 ≤ (0 : Int) by first | omega | decide) (show (0 : Int) ≤ 18 by first | omega | decide) (show 0 ≤ (0 : Int) by first | omega | decide) (show (0 : Int) ≤ 33 by first | omega | decide) (show 0 ≤ p1.toInt by first | omega | decide) (show p1.toInt ≤ 49 by first | omega | decide) ia37_0 (show 0 ≤ (0 : Int) by first | omega | decide) (show (0 : Int) ≤ 1000 by first | omega | decide)) ca_X0_self q4_135 ⟨rfl, rfl⟩ ⟨Nat.le_of_ble_eq_true rfl, Nat.le_of_ble_eq_true rfl⟩ (rc_acts hK hP) hK hP hD hS hZ rfl hl.1 rfl (Nat.le_of_ble_eq_true rfl) ⟨Nat.zero_le _, Nat.zero_le _⟩ dX0_perform_33 (fun r_65 z_68 H locs wr_65 hP hD hS => ?_)
            obtain ⟨o_v22_66, o_a38_67⟩ := z_68
            have hP : va_P D vwCl (CW cs ad fa fq rv (va_up (va_up v 23 p1) 22 o_v22_66) (va_up a 38 o_a38_67) w fv fp) H := hP
            have hD : va_D A (CW cs ad fa fq rv (va_up (va_up v 23 p1) 22 o_v22_66) (va_up a 38 o_a38_67) w fv fp) := hD
            obtain ⟨wr_65_0, wr_65_1, wr_65_2, wr_65_3, wr_65_4⟩ : (o_v22_66.toInt = (0 : Int) + 6) ∧ (o_a38_67 = TRW (a 38) (0 : Int).toNat [80, 10, 81, 70, 1, 11]) ∧ (r_65 = (((((p3 + p1) * 2) - 1) * 2) + ((2 : Int32) ^^^ p1))) ∧ (0 ≤ o_v22_66.toInt) ∧ (o_v22_66.toInt ≤ 1000) := wr_65
            have hP : va_P D vwCl (CW cs ad fa fq rv (va_up (va_up v 22 o_v22_66) 23 p1) (va_up a 38 o_a38_67) w fv fp) _ := hP
            have hD : va_D A (CW cs ad fa fq rv (va_up (va_up v 22 o_v22_66) 23 p1) (va_up a 38 o_a38_67) w fv fp) := hD
            exact W.iret (v := r_65) hx hb hr (fun tt ht hW => ⟨⟨r_65, ⟨o_v22_66, p1, o_a38_67⟩, rfl, ⟨(Or.inr ⟨by omega, by rw [hkN, haN]; exact wr_65_2, by rw [hkN, haN, hal]; (try dsimp only); omega, by rw [hkN, haN]; exact wr_65_1⟩), (show 0 ≤ o_v22_66.toInt by first | omega | assumption), (show o_v22_66.toInt ≤ 1000 by first | omega | assumption), (show 0 ≤ p1.toInt by first | omega | assumption), (show p1.toInt ≤ 49 by first | omega | assumption)⟩, by rw [ht]; exact hP, hD⟩, hS.F ht⟩) hS.2.2 dX0_perform_36
        ·
          subst h2q
          have haI : (2 : Int32).toInt = 2 := rfl
          have haN : (2 : Int32).toInt.toNat = 2 := rfl
          rcases (i_07 (ia37_0 p1.toNatClampNeg).1 (ia37_0 p1.toNatClampNeg).2) with hkn | hkn | hkn | hkn | hkn | hkn | hkn | hkn
          ·
            have hkN : ((a 37) p1.toNatClampNeg).toInt.toNat = 0 := by rw [hkn]; rfl
            have hal : (AL 0 2).length = 1 := rfl
            refine cV_i (As := [.int 2, .int p3, .int 0]) (rest := []) ⟨hx, hb, hml, hown, hg⟩ (k_S_0_2 l D cs A ad fa fq rv (va_up (va_up v 22 0) 23 p1) a w fv fp  p3 0 hkn (show 0 ≤ (0 : Int) by first | omega | decide) (show (0 : Int) ≤ 23 by first | omega | decide) (show 0 ≤ (0 : Int) by first | omega | decide) (show (0 : Int) ≤ 37 by first | omega | decide) (show 0 ≤ p1.toInt by first | omega | decide) (show p1.toInt ≤ 49 by first | omega | decide) ia37_0 (show 0 ≤ (0 : Int) by first | omega | decide) (show (0 : Int) ≤ 1000 by first | omega | decide)) ca_X0_self q4_135 ⟨rfl, rfl⟩ ⟨Nat.le_of_ble_eq_true rfl, Nat.le_of_ble_eq_true rfl⟩ (rc_acts hK hP) hK hP hD hS hZ rfl hl.1 rfl (Nat.le_of_ble_eq_true rfl) ⟨Nat.zero_le _, Nat.zero_le _⟩ dX0_perform_33 (fun r_69 z_72 H locs wr_69 hP hD hS => ?_)
            obtain ⟨o_v22_70, o_a38_71⟩ := z_72
            have hP : va_P D vwCl (CW cs ad fa fq rv (va_up (va_up v 23 p1) 22 o_v22_70) (va_up a 38 o_a38_71) w fv fp) H := hP
            have hD : va_D A (CW cs ad fa fq rv (va_up (va_up v 23 p1) 22 o_v22_70) (va_up a 38 o_a38_71) w fv fp) := hD
            obtain ⟨wr_69_0, wr_69_1, wr_69_2, wr_69_3, wr_69_4⟩ : (o_v22_70.toInt = (0 : Int) + 1) ∧ (o_a38_71 = TRW (a 38) (0 : Int).toNat [11]) ∧ (r_69 = (p3 ^^^ p1)) ∧ (0 ≤ o_v22_70.toInt) ∧ (o_v22_70.toInt ≤ 1000) := wr_69
            have hP : va_P D vwCl (CW cs ad fa fq rv (va_up (va_up v 22 o_v22_70) 23 p1) (va_up a 38 o_a38_71) w fv fp) _ := hP
            have hD : va_D A (CW cs ad fa fq rv (va_up (va_up v 22 o_v22_70) 23 p1) (va_up a 38 o_a38_71) w fv fp) := hD
            exact W.iret (v := r_69) hx hb hr (fun tt ht hW => ⟨⟨r_69, ⟨o_v22_70, p1, o_a38_71⟩, rfl, ⟨(Or.inr ⟨by omega, by rw [hkN, haN]; exact wr_69_2, by rw [hkN, haN, hal]; (try dsimp only); omega, by rw [hkN, haN]; exact wr_69_1⟩), (show 0 ≤ o_v22_70.toInt by first | omega | assumption), (show o_v22_70.toInt ≤ 1000 by first | omega | assumption), (show 0 ≤ p1.toInt by first | omega | assumption), (show p1.toInt ≤ 49 by first | omega | assumption)⟩, by rw [ht]; exact hP, hD⟩, hS.F ht⟩) hS.2.2 dX0_perform_36
          ·
            have hkN : ((a 37) p1.toNatClampNeg).toInt.toNat = 1 := by rw [hkn]; rfl
            have hal : (AL 1 2).length = 1 := rfl
            refine cV_i (As := [.int 2, .int p3, .int 0]) (rest := []) ⟨hx, hb, hml, hown, hg⟩ (k_S_1_2 l D cs A ad fa fq rv (va_up (va_up v 22 0) 23 p1) a w fv fp  p3 0 hkn (show 0 ≤ (0 : Int) by first | omega | decide) (show (0 : Int) ≤ 23 by first | omega | decide) (show 0 ≤ (0 : Int) by first | omega | decide) (show (0 : Int) ≤ 37 by first | omega | decide) (show 0 ≤ p1.toInt by first | omega | decide) (show p1.toInt ≤ 49 by first | omega | decide) ia37_0 (show 0 ≤ (0 : Int) by first | omega | decide) (show (0 : Int) ≤ 1000 by first | omega | decide)) ca_X0_self q4_135 ⟨rfl, rfl⟩ ⟨Nat.le_of_ble_eq_true rfl, Nat.le_of_ble_eq_true rfl⟩ (rc_acts hK hP) hK hP hD hS hZ rfl hl.1 rfl (Nat.le_of_ble_eq_true rfl) ⟨Nat.zero_le _, Nat.zero_le _⟩ dX0_perform_33 (fun r_73 z_76 H locs wr_73 hP hD hS => ?_)
            obtain ⟨o_v22_74, o_a38_75⟩ := z_76
            have hP : va_P D vwCl (CW cs ad fa fq rv (va_up (va_up v 23 p1) 22 o_v22_74) (va_up a 38 o_a38_75) w fv fp) H := hP
            have hD : va_D A (CW cs ad fa fq rv (va_up (va_up v 23 p1) 22 o_v22_74) (va_up a 38 o_a38_75) w fv fp) := hD
            obtain ⟨wr_73_0, wr_73_1, wr_73_2, wr_73_3, wr_73_4⟩ : (o_v22_74.toInt = (0 : Int) + 1) ∧ (o_a38_75 = TRW (a 38) (0 : Int).toNat [11]) ∧ (r_73 = (p3 ^^^ p1)) ∧ (0 ≤ o_v22_74.toInt) ∧ (o_v22_74.toInt ≤ 1000) := wr_73
            have hP : va_P D vwCl (CW cs ad fa fq rv (va_up (va_up v 22 o_v22_74) 23 p1) (va_up a 38 o_a38_75) w fv fp) _ := hP
            have hD : va_D A (CW cs ad fa fq rv (va_up (va_up v 22 o_v22_74) 23 p1) (va_up a 38 o_a38_75) w fv fp) := hD
            exact W.iret (v := r_73) hx hb hr (fun tt ht hW => ⟨⟨r_73, ⟨o_v22_74, p1, o_a38_75⟩, rfl, ⟨(Or.inr ⟨by omega, by rw [hkN, haN]; exact wr_73_2, by rw [hkN, haN, hal]; (try dsimp only); omega, by rw [hkN, haN]; exact wr_73_1⟩), (show 0 ≤ o_v22_74.toInt by first | omega | assumption), (show o_v22_74.toInt ≤ 1000 by first | omega | assumption), (show 0 ≤ p1.toInt by first | omega | assumption), (show p1.toInt ≤ 49 by first | omega | assumption)⟩, by rw [ht]; exact hP, hD⟩, hS.F ht⟩) hS.2.2 dX0_perform_36
          ·
            have hkN : ((a 37) p1.toNatClampNeg).toInt.toNat = 2 := by rw [hkn]; rfl
            have hal : (AL 2 2).length = 1 := rfl
            refine cV_i (As := [.int 2, .int p3, .int 0]) (rest := []) ⟨hx, hb, hml, hown, hg⟩ (k_S_2_2 l D cs A ad fa fq rv (va_up (va_up v 22 0) 23 p1) a w fv fp  p3 0 hkn (show 0 ≤ (0 : Int) by first | omega | decide) (show (0 : Int) ≤ 23 by first | omega | decide) (show 0 ≤ (0 : Int) by first | omega | decide) (show (0 : Int) ≤ 37 by first | omega | decide) (show 0 ≤ p1.toInt by first | omega | decide) (show p1.toInt ≤ 49 by first | omega | decide) ia37_0 (show 0 ≤ (0 : Int) by first | omega | decide) (show (0 : Int) ≤ 1000 by first | omega | decide)) ca_X0_self q4_135 ⟨rfl, rfl⟩ ⟨Nat.le_of_ble_eq_true rfl, Nat.le_of_ble_eq_true rfl⟩ (rc_acts hK hP) hK hP hD hS hZ rfl hl.1 rfl (Nat.le_of_ble_eq_true rfl) ⟨Nat.zero_le _, Nat.zero_le _⟩ dX0_perform_33 (fun r_77 z_80 H locs wr_77 hP hD hS => ?_)
            obtain ⟨o_v22_78, o_a38_79⟩ := z_80
            have hP : va_P D vwCl (CW cs ad fa fq rv (va_up (va_up v 23 p1) 22 o_v22_78) (va_up a 38 o_a38_79) w fv fp) H := hP
            have hD : va_D A (CW cs ad fa fq rv (va_up (va_up v 23 p1) 22 o_v22_78) (va_up a 38 o_a38_79) w fv fp) := hD
            obtain ⟨wr_77_0, wr_77_1, wr_77_2, wr_77_3, wr_77_4⟩ : (o_v22_78.toInt = (0 : Int) + 1) ∧ (o_a38_79 = TRW (a 38) (0 : Int).toNat [11]) ∧ (r_77 = (p3 ^^^ p1)) ∧ (0 ≤ o_v22_78.toInt) ∧ (o_v22_78.toInt ≤ 1000) := wr_77
            have hP : va_P D vwCl (CW cs ad fa fq rv (va_up (va_up v 22 o_v22_78) 23 p1) (va_up a 38 o_a38_79) w fv fp) _ := hP
            have hD : va_D A (CW cs ad fa fq rv (va_up (va_up v 22 o_v22_78) 23 p1) (va_up a 38 o_a38_79) w fv fp) := hD
            exact W.iret (v := r_77) hx hb hr (fun tt ht hW => ⟨⟨r_77, ⟨o_v22_78, p1, o_a38_79⟩, rfl, ⟨(Or.inr ⟨by omega, by rw [hkN, haN]; exact wr_77_2, by rw [hkN, haN, hal]; (try dsimp only); omega, by rw [hkN, haN]; exact wr_77_1⟩), (show 0 ≤ o_v22_78.toInt by first | omega | assumption), (show o_v22_78.toInt ≤ 1000 by first | omega | assumption), (show 0 ≤ p1.toInt by first | omega | assumption), (show p1.toInt ≤ 49 by first | omega | assumption)⟩, by rw [ht]; exact hP, hD⟩, hS.F ht⟩) hS.2.2 dX0_perform_36
          ·
            have hkN : ((a 37) p1.toNatClampNeg).toInt.toNat = 3 := by rw [hkn]; rfl
            have hal : (AL 3 2).length = 2 := rfl
            refine cV_i (As := [.int 2, .int p3, .int 0]) (rest := []) ⟨hx, hb, hml, hown, hg⟩ (k_S_3_2 l D cs A ad fa fq rv (va_up (va_up v 22 0) 23 p1) a w fv fp  p3 0 hkn (show 0 ≤ (0 : Int) by first | omega | decide) (show (0 : Int) ≤ 22 by first | omega | decide) (show 0 ≤ (0 : Int) by first | omega | decide) (show (0 : Int) ≤ 36 by first | omega | decide) (show 0 ≤ p1.toInt by first | omega | decide) (show p1.toInt ≤ 49 by first | omega | decide) ia37_0 (show 0 ≤ (0 : Int) by first | omega | decide) (show (0 : Int) ≤ 1000 by first | omega | decide)) ca_X0_self q4_135 ⟨rfl, rfl⟩ ⟨Nat.le_of_ble_eq_true rfl, Nat.le_of_ble_eq_true rfl⟩ (rc_acts hK hP) hK hP hD hS hZ rfl hl.1 rfl (Nat.le_of_ble_eq_true rfl) ⟨Nat.zero_le _, Nat.zero_le _⟩ dX0_perform_33 (fun r_81 z_84 H locs wr_81 hP hD hS => ?_)
            obtain ⟨o_v22_82, o_a38_83⟩ := z_84
            have hP : va_P D vwCl (CW cs ad fa fq rv (va_up (va_up v 23 p1) 22 o_v22_82) (va_up a 38 o_a38_83) w fv fp) H := hP
            have hD : va_D A (CW cs ad fa fq rv (va_up (va_up v 23 p1) 22 o_v22_82) (va_up a 38 o_a38_83) w fv fp) := hD
            obtain ⟨wr_81_0, wr_81_1, wr_81_2, wr_81_3, wr_81_4⟩ : (o_v22_82.toInt = (0 : Int) + 2) ∧ (o_a38_83 = TRW (a 38) (0 : Int).toNat [40, 11]) ∧ (r_81 = ((p3 ^^^ p1) * 3)) ∧ (0 ≤ o_v22_82.toInt) ∧ (o_v22_82.toInt ≤ 1000) := wr_81
            have hP : va_P D vwCl (CW cs ad fa fq rv (va_up (va_up v 22 o_v22_82) 23 p1) (va_up a 38 o_a38_83) w fv fp) _ := hP
            have hD : va_D A (CW cs ad fa fq rv (va_up (va_up v 22 o_v22_82) 23 p1) (va_up a 38 o_a38_83) w fv fp) := hD
            exact W.iret (v := r_81) hx hb hr (fun tt ht hW => ⟨⟨r_81, ⟨o_v22_82, p1, o_a38_83⟩, rfl, ⟨(Or.inr ⟨by omega, by rw [hkN, haN]; exact wr_81_2, by rw [hkN, haN, hal]; (try dsimp only); omega, by rw [hkN, haN]; exact wr_81_1⟩), (show 0 ≤ o_v22_82.toInt by first | omega | assumption), (show o_v22_82.toInt ≤ 1000 by first | omega | assumption), (show 0 ≤ p1.toInt by first | omega | assumption), (show p1.toInt ≤ 49 by first | omega | assumption)⟩, by rw [ht]; exact hP, hD⟩, hS.F ht⟩) hS.2.2 dX0_perform_36
          ·
            have hkN : ((a 37) p1.toNatClampNeg).toInt.toNat = 4 := by rw [hkn]; rfl
            have hal : (AL 4 2).length = 1 := rfl
            refine cV_i (As := [.int 2, .int p3, .int 0]) (rest := []) ⟨hx, hb, hml, hown, hg⟩ (k_S_4_2 l D cs A ad fa fq rv (va_up (va_up v 22 0) 23 p1) a w fv fp  p3 0 hkn (show 0 ≤ (0 : Int) by first | omega | decide) (show (0 : Int) ≤ 23 by first | omega | decide) (show 0 ≤ (0 : Int) by first | omega | decide) (show (0 : Int) ≤ 37 by first | omega | decide) (show 0 ≤ p1.toInt by first | omega | decide) (show p1.toInt ≤ 49 by first | omega | decide) ia37_0 (show 0 ≤ (0 : Int) by first | omega | decide) (show (0 : Int) ≤ 1000 by first | omega | decide)) ca_X0_self q4_135 ⟨rfl, rfl⟩ ⟨Nat.le_of_ble_eq_true rfl, Nat.le_of_ble_eq_true rfl⟩ (rc_acts hK hP) hK hP hD hS hZ rfl hl.1 rfl (Nat.le_of_ble_eq_true rfl) ⟨Nat.zero_le _, Nat.zero_le _⟩ dX0_perform_33 (fun r_85 z_88 H locs wr_85 hP hD hS => ?_)
            obtain ⟨o_v22_86, o_a38_87⟩ := z_88
            have hP : va_P D vwCl (CW cs ad fa fq rv (va_up (va_up v 23 p1) 22 o_v22_86) (va_up a 38 o_a38_87) w fv fp) H := hP
            have hD : va_D A (CW cs ad fa fq rv (va_up (va_up v 23 p1) 22 o_v22_86) (va_up a 38 o_a38_87) w fv fp) := hD
            obtain ⟨wr_85_0, wr_85_1, wr_85_2, wr_85_3, wr_85_4⟩ : (o_v22_86.toInt = (0 : Int) + 1) ∧ (o_a38_87 = TRW (a 38) (0 : Int).toNat [11]) ∧ (r_85 = (p3 ^^^ p1)) ∧ (0 ≤ o_v22_86.toInt) ∧ (o_v22_86.toInt ≤ 1000) := wr_85
            have hP : va_P D vwCl (CW cs ad fa fq rv (va_up (va_up v 22 o_v22_86) 23 p1) (va_up a 38 o_a38_87) w fv fp) _ := hP
            have hD : va_D A (CW cs ad fa fq rv (va_up (va_up v 22 o_v22_86) 23 p1) (va_up a 38 o_a38_87) w fv fp) := hD
            exact W.iret (v := r_85) hx hb hr (fun tt ht hW => ⟨⟨r_85, ⟨o_v22_86, p1, o_a38_87⟩, rfl, ⟨(Or.inr ⟨by omega, by rw [hkN, haN]; exact wr_85_2, by rw [hkN, haN, hal]; (try dsimp only); omega, by rw [hkN, haN]; exact wr_85_1⟩), (show 0 ≤ o_v22_86.toInt by first | omega | assumption), (show o_v22_86.toInt ≤ 1000 by first | omega | assumption), (show 0 ≤ p1.toInt by first | omega | assumption), (show p1.toInt ≤ 49 by first | omega | assumption)⟩, by rw [ht]; exact hP, hD⟩, hS.F ht⟩) hS.2.2 dX0_perform_36
          ·
            have hkN : ((a 37) p1.toNatClampNeg).toInt.toNat = 5 := by rw [hkn]; rfl
            have hal : (AL 5 2).length = 4 := rfl
            refine cV_i (As := [.int 2, .int p3, .int 0]) (rest := []) ⟨hx, hb, hml, hown, hg⟩ (k_S_5_2 l D cs A ad fa fq rv (va_up (va_up v 22 0) 23 p1) a w fv fp  p3 0 hkn (show 0 ≤ (0 : Int) by first | omega | decide) (show (0 : Int) ≤ 20 by first | omega | decide) (show 0 ≤ (0 : Int) by first | omega | decide) (show (0 : Int) ≤ 35 by first | omega | decide) (show 0 ≤ p1.toInt by first | omega | decide) (show p1.toInt ≤ 49 by first | omega | decide) ia37_0 (show 0 ≤ (0 : Int) by first | omega | decide) (show (0 : Int) ≤ 1000 by first | omega | decide)) ca_X0_self q4_135 ⟨rfl, rfl⟩ ⟨Nat.le_of_ble_eq_true rfl, Nat.le_of_ble_eq_true rfl⟩ (rc_acts hK hP) hK hP hD hS hZ rfl hl.1 rfl (Nat.le_of_ble_eq_true rfl) ⟨Nat.zero_le _, Nat.zero_le _⟩ dX0_perform_33 (fun r_89 z_92 H locs wr_89 hP hD hS => ?_)
            obtain ⟨o_v22_90, o_a38_91⟩ := z_92
            have hP : va_P D vwCl (CW cs ad fa fq rv (va_up (va_up v 23 p1) 22 o_v22_90) (va_up a 38 o_a38_91) w fv fp) H := hP
            have hD : va_D A (CW cs ad fa fq rv (va_up (va_up v 23 p1) 22 o_v22_90) (va_up a 38 o_a38_91) w fv fp) := hD
            obtain ⟨wr_89_0, wr_89_1, wr_89_2, wr_89_3, wr_89_4⟩ : (o_v22_90.toInt = (0 : Int) + 4) ∧ (o_a38_91 = TRW (a 38) (0 : Int).toNat [60, 40, 11, 1]) ∧ (r_89 = (((p3 ^^^ p1) * 3) - ((2 : Int32) + p1))) ∧ (0 ≤ o_v22_90.toInt) ∧ (o_v22_90.toInt ≤ 1000) := wr_89
            have hP : va_P D vwCl (CW cs ad fa fq rv (va_up (va_up v 22 o_v22_90) 23 p1) (va_up a 38 o_a38_91) w fv fp) _ := hP
            have hD : va_D A (CW cs ad fa fq rv (va_up (va_up v 22 o_v22_90) 23 p1) (va_up a 38 o_a38_91) w fv fp) := hD
            exact W.iret (v := r_89) hx hb hr (fun tt ht hW => ⟨⟨r_89, ⟨o_v22_90, p1, o_a38_91⟩, rfl, ⟨(Or.inr ⟨by omega, by rw [hkN, haN]; exact wr_89_2, by rw [hkN, haN, hal]; (try dsimp only); omega, by rw [hkN, haN]; exact wr_89_1⟩), (show 0 ≤ o_v22_90.toInt by first | omega | assumption), (show o_v22_90.toInt ≤ 1000 by first | omega | assumption), (show 0 ≤ p1.toInt by first | omega | assumption), (show p1.toInt ≤ 49 by first | omega | assumption)⟩, by rw [ht]; exact hP, hD⟩, hS.F ht⟩) hS.2.2 dX0_perform_36
          ·
            have hkN : ((a 37) p1.toNatClampNeg).toInt.toNat = 6 := by rw [hkn]; rfl
            have hal : (AL 6 2).length = 1 := rfl
            refine cV_i (As := [.int 2, .int p3, .int 0]) (rest := []) ⟨hx, hb, hml, hown, hg⟩ (k_S_6_2 l D cs A ad fa fq rv (va_up (va_up v 22 0) 23 p1) a w fv fp  p3 0 hkn (show 0 ≤ (0 : Int) by first | omega | decide) (show (0 : Int) ≤ 23 by first | omega | decide) (show 0 ≤ (0 : Int) by first | omega | decide) (show (0 : Int) ≤ 37 by first | omega | decide) (show 0 ≤ p1.toInt by first | omega | decide) (show p1.toInt ≤ 49 by first | omega | decide) ia37_0 (show 0 ≤ (0 : Int) by first | omega | decide) (show (0 : Int) ≤ 1000 by first | omega | decide)) ca_X0_self q4_135 ⟨rfl, rfl⟩ ⟨Nat.le_of_ble_eq_true rfl, Nat.le_of_ble_eq_true rfl⟩ (rc_acts hK hP) hK hP hD hS hZ rfl hl.1 rfl (Nat.le_of_ble_eq_true rfl) ⟨Nat.zero_le _, Nat.zero_le _⟩ dX0_perform_33 (fun r_93 z_96 H locs wr_93 hP hD hS => ?_)
            obtain ⟨o_v22_94, o_a38_95⟩ := z_96
            have hP : va_P D vwCl (CW cs ad fa fq rv (va_up (va_up v 23 p1) 22 o_v22_94) (va_up a 38 o_a38_95) w fv fp) H := hP
            have hD : va_D A (CW cs ad fa fq rv (va_up (va_up v 23 p1) 22 o_v22_94) (va_up a 38 o_a38_95) w fv fp) := hD
            obtain ⟨wr_93_0, wr_93_1, wr_93_2, wr_93_3, wr_93_4⟩ : (o_v22_94.toInt = (0 : Int) + 1) ∧ (o_a38_95 = TRW (a 38) (0 : Int).toNat [11]) ∧ (r_93 = (p3 ^^^ p1)) ∧ (0 ≤ o_v22_94.toInt) ∧ (o_v22_94.toInt ≤ 1000) := wr_93
            have hP : va_P D vwCl (CW cs ad fa fq rv (va_up (va_up v 22 o_v22_94) 23 p1) (va_up a 38 o_a38_95) w fv fp) _ := hP
            have hD : va_D A (CW cs ad fa fq rv (va_up (va_up v 22 o_v22_94) 23 p1) (va_up a 38 o_a38_95) w fv fp) := hD
            exact W.iret (v := r_93) hx hb hr (fun tt ht hW => ⟨⟨r_93, ⟨o_v22_94, p1, o_a38_95⟩, rfl, ⟨(Or.inr ⟨by omega, by rw [hkN, haN]; exact wr_93_2, by rw [hkN, haN, hal]; (try dsimp only); omega, by rw [hkN, haN]; exact wr_93_1⟩), (show 0 ≤ o_v22_94.toInt by first | omega | assumption), (show o_v22_94.toInt ≤ 1000 by first | omega | assumption), (show 0 ≤ p1.toInt by first | omega | assumption), (show p1.toInt ≤ 49 by first | omega | assumption)⟩, by rw [ht]; exact hP, hD⟩, hS.F ht⟩) hS.2.2 dX0_perform_36
          ·
            have hkN : ((a 37) p1.toNatClampNeg).toInt.toNat = 7 := by rw [hkn]; rfl
            have hal : (AL 7 2).length = 1 := rfl
            refine cV_i (As := [.int 2, .int p3, .int 0]) (rest := []) ⟨hx, hb, hml, hown, hg⟩ (k_S_7_2 l D cs A ad fa fq rv (va_up (va_up v 22 0) 23 p1) a w fv fp  p3 0 hkn (show 0 ≤ (0 : Int) by first | omega | decide) (show (0 : Int) ≤ 23 by first | omega | decide) (show 0 ≤ (0 : Int) by first | omega | decide) (show (0 : Int) ≤ 37 by first | omega | decide) (show 0 ≤ p1.toInt by first | omega | decide) (show p1.toInt ≤ 49 by first | omega | decide) ia37_0 (show 0 ≤ (0 : Int) by first | omega | decide) (show (0 : Int) ≤ 1000 by first | omega | decide)) ca_X0_self q4_135 ⟨rfl, rfl⟩ ⟨Nat.le_of_ble_eq_true rfl, Nat.le_of_ble_eq_true rfl⟩ (rc_acts hK hP) hK hP hD hS hZ rfl hl.1 rfl (Nat.le_of_ble_eq_true rfl) ⟨Nat.zero_le _, Nat.zero_le _⟩ dX0_perform_33 (fun r_97 z_100 H locs wr_97 hP hD hS => ?_)
            obtain ⟨o_v22_98, o_a38_99⟩ := z_100
            have hP : va_P D vwCl (CW cs ad fa fq rv (va_up (va_up v 23 p1) 22 o_v22_98) (va_up a 38 o_a38_99) w fv fp) H := hP
            have hD : va_D A (CW cs ad fa fq rv (va_up (va_up v 23 p1) 22 o_v22_98) (va_up a 38 o_a38_99) w fv fp) := hD
            obtain ⟨wr_97_0, wr_97_1, wr_97_2, wr_97_3, wr_97_4⟩ : (o_v22_98.toInt = (0 : Int) + 1) ∧ (o_a38_99 = TRW (a 38) (0 : Int).toNat [11]) ∧ (r_97 = (p3 ^^^ p1)) ∧ (0 ≤ o_v22_98.toInt) ∧ (o_v22_98.toInt ≤ 1000) := wr_97
            have hP : va_P D vwCl (CW cs ad fa fq rv (va_up (va_up v 22 o_v22_98) 23 p1) (va_up a 38 o_a38_99) w fv fp) _ := hP
            have hD : va_D A (CW cs ad fa fq rv (va_up (va_up v 22 o_v22_98) 23 p1) (va_up a 38 o_a38_99) w fv fp) := hD
            exact W.iret (v := r_97) hx hb hr (fun tt ht hW => ⟨⟨r_97, ⟨o_v22_98, p1, o_a38_99⟩, rfl, ⟨(Or.inr ⟨by omega, by rw [hkN, haN]; exact wr_97_2, by rw [hkN, haN, hal]; (try dsimp only); omega, by rw [hkN, haN]; exact wr_97_1⟩), (show 0 ≤ o_v22_98.toInt by first | omega | assumption), (show o_v22_98.toInt ≤ 1000 by first | omega | assumption), (show 0 ≤ p1.toInt by first | omega | assumption), (show p1.toInt ≤ 49 by first | omega | assumption)⟩, by rw [ht]; exact hP, hD⟩, hS.F ht⟩) hS.2.2 dX0_perform_36
        ·
          subst h2q
          have haI : (3 : Int32).toInt = 3 := rfl
          have haN : (3 : Int32).toInt.toNat = 3 := rfl
          rcases (i_07 (ia37_0 p1.toNatClampNeg).1 (ia37_0 p1.toNatClampNeg).2) with hkn | hkn | hkn | hkn | hkn | hkn | hkn | hkn
          ·
            have hkN : ((a 37) p1.toNatClampNeg).toInt.toNat = 0 := by rw [hkn]; rfl
            have hal : (AL 0 3).length = 4 := rfl
            refine cV_i (As := [.int 3, .int p3, .int 0]) (rest := []) ⟨hx, hb, hml, hown, hg⟩ (k_S_0_3 l D cs A ad fa fq rv (va_up (va_up v 22 0) 23 p1) a w fv fp  p3 0 hkn (show 0 ≤ (0 : Int) by first | omega | decide) (show (0 : Int) ≤ 20 by first | omega | decide) (show 0 ≤ (0 : Int) by first | omega | decide) (show (0 : Int) ≤ 35 by first | omega | decide) (show 0 ≤ p1.toInt by first | omega | decide) (show p1.toInt ≤ 49 by first | omega | decide) ia37_0 (show 0 ≤ (0 : Int) by first | omega | decide) (show (0 : Int) ≤ 1000 by first | omega | decide)) ca_X0_self q4_135 ⟨rfl, rfl⟩ ⟨Nat.le_of_ble_eq_true rfl, Nat.le_of_ble_eq_true rfl⟩ (rc_acts hK hP) hK hP hD hS hZ rfl hl.1 rfl (Nat.le_of_ble_eq_true rfl) ⟨Nat.zero_le _, Nat.zero_le _⟩ dX0_perform_33 (fun r_101 z_104 H locs wr_101 hP hD hS => ?_)
            obtain ⟨o_v22_102, o_a38_103⟩ := z_104
            have hP : va_P D vwCl (CW cs ad fa fq rv (va_up (va_up v 23 p1) 22 o_v22_102) (va_up a 38 o_a38_103) w fv fp) H := hP
            have hD : va_D A (CW cs ad fa fq rv (va_up (va_up v 23 p1) 22 o_v22_102) (va_up a 38 o_a38_103) w fv fp) := hD
            obtain ⟨wr_101_0, wr_101_1, wr_101_2, wr_101_3, wr_101_4⟩ : (o_v22_102.toInt = (0 : Int) + 4) ∧ (o_a38_103 = TRW (a 38) (0 : Int).toNat [2, 10, 1, 11]) ∧ (r_101 = (((p3 + p1) * 2) - ((1 : Int32) ^^^ p1))) ∧ (0 ≤ o_v22_102.toInt) ∧ (o_v22_102.toInt ≤ 1000) := wr_101
            have hP : va_P D vwCl (CW cs ad fa fq rv (va_up (va_up v 22 o_v22_102) 23 p1) (va_up a 38 o_a38_103) w fv fp) _ := hP
            have hD : va_D A (CW cs ad fa fq rv (va_up (va_up v 22 o_v22_102) 23 p1) (va_up a 38 o_a38_103) w fv fp) := hD
            exact W.iret (v := r_101) hx hb hr (fun tt ht hW => ⟨⟨r_101, ⟨o_v22_102, p1, o_a38_103⟩, rfl, ⟨(Or.inr ⟨by omega, by rw [hkN, haN]; exact wr_101_2, by rw [hkN, haN, hal]; (try dsimp only); omega, by rw [hkN, haN]; exact wr_101_1⟩), (show 0 ≤ o_v22_102.toInt by first | omega | assumption), (show o_v22_102.toInt ≤ 1000 by first | omega | assumption), (show 0 ≤ p1.toInt by first | omega | assumption), (show p1.toInt ≤ 49 by first | omega | assumption)⟩, by rw [ht]; exact hP, hD⟩, hS.F ht⟩) hS.2.2 dX0_perform_36
          ·
            have hkN : ((a 37) p1.toNatClampNeg).toInt.toNat = 1 := by rw [hkn]; rfl
            have hal : (AL 1 3).length = 5 := rfl
            refine cV_i (As := [.int 3, .int p3, .int 0]) (rest := []) ⟨hx, hb, hml, hown, hg⟩ (k_S_1_3 l D cs A ad fa fq rv (va_up (va_up v 22 0) 23 p1) a w fv fp  p3 0 hkn (show 0 ≤ (0 : Int) by first | omega | decide) (show (0 : Int) ≤ 19 by first | omega | decide) (show 0 ≤ (0 : Int) by first | omega | decide) (show (0 : Int) ≤ 34 by first | omega | decide) (show 0 ≤ p1.toInt by first | omega | decide) (show p1.toInt ≤ 49 by first | omega | decide) ia37_0 (show 0 ≤ (0 : Int) by first | omega | decide) (show (0 : Int) ≤ 1000 by first | omega | decide)) ca_X0_self q4_135 ⟨rfl, rfl⟩ ⟨Nat.le_of_ble_eq_true rfl, Nat.le_of_ble_eq_true rfl⟩ (rc_acts hK hP) hK hP hD hS hZ rfl hl.1 rfl (Nat.le_of_ble_eq_true rfl) ⟨Nat.zero_le _, Nat.zero_le _⟩ dX0_perform_33 (fun r_105 z_108 H locs wr_105 hP hD hS => ?_)
            obtain ⟨o_v22_106, o_a38_107⟩ := z_108
            have hP : va_P D vwCl (CW cs ad fa fq rv (va_up (va_up v 23 p1) 22 o_v22_106) (va_up a 38 o_a38_107) w fv fp) H := hP
            have hD : va_D A (CW cs ad fa fq rv (va_up (va_up v 23 p1) 22 o_v22_106) (va_up a 38 o_a38_107) w fv fp) := hD
            obtain ⟨wr_105_0, wr_105_1, wr_105_2, wr_105_3, wr_105_4⟩ : (o_v22_106.toInt = (0 : Int) + 5) ∧ (o_a38_107 = TRW (a 38) (0 : Int).toNat [2, 10, 20, 1, 11]) ∧ (r_105 = ((((p3 + p1) + 3) * 2) - ((1 : Int32) ^^^ p1))) ∧ (0 ≤ o_v22_106.toInt) ∧ (o_v22_106.toInt ≤ 1000) := wr_105
            have hP : va_P D vwCl (CW cs ad fa fq rv (va_up (va_up v 22 o_v22_106) 23 p1) (va_up a 38 o_a38_107) w fv fp) _ := hP
            have hD : va_D A (CW cs ad fa fq rv (va_up (va_up v 22 o_v22_106) 23 p1) (va_up a 38 o_a38_107) w fv fp) := hD
            exact W.iret (v := r_105) hx hb hr (fun tt ht hW => ⟨⟨r_105, ⟨o_v22_106, p1, o_a38_107⟩, rfl, ⟨(Or.inr ⟨by omega, by rw [hkN, haN]; exact wr_105_2, by rw [hkN, haN, hal]; (try dsimp only); omega, by rw [hkN, haN]; exact wr_105_1⟩), (show 0 ≤ o_v22_106.toInt by first | omega | assumption), (show o_v22_106.toInt ≤ 1000 by first | omega | assumption), (show 0 ≤ p1.toInt by first | omega | assumption), (show p1.toInt ≤ 49 by first | omega | assumption)⟩, by rw [ht]; exact hP, hD⟩, hS.F ht⟩) hS.2.2 dX0_perform_36
          ·
            have hkN : ((a 37) p1.toNatClampNeg).toInt.toNat = 2 := by rw [hkn]; rfl
            have hal : (AL 2 3).length = 5 := rfl
            refine cV_i (As := [.int 3, .int p3, .int 0]) (rest := []) ⟨hx, hb, hml, hown, hg⟩ (k_S_2_3 l D cs A ad fa fq rv (va_up (va_up v 22 0) 23 p1) a w fv fp  p3 0 hkn (show 0 ≤ (0 : Int) by first | omega | decide) (show (0 : Int) ≤ 19 by first | omega | decide) (show 0 ≤ (0 : Int) by first | omega | decide) (show (0 : Int) ≤ 34 by first | omega | decide) (show 0 ≤ p1.toInt by first | omega | decide) (show p1.toInt ≤ 49 by first | omega | decide) ia37_0 (show 0 ≤ (0 : Int) by first | omega | decide) (show (0 : Int) ≤ 1000 by first | omega | decide)) ca_X0_self q4_135 ⟨rfl, rfl⟩ ⟨Nat.le_of_ble_eq_true rfl, Nat.le_of_ble_eq_true rfl⟩ (rc_acts hK hP) hK hP hD hS hZ rfl hl.1 rfl (Nat.le_of_ble_eq_true rfl) ⟨Nat.zero_le _, Nat.zero_le _⟩ dX0_perform_33 (fun r_109 z_112 H locs wr_109 hP hD hS => ?_)
            obtain ⟨o_v22_110, o_a38_111⟩ := z_112
            have hP : va_P D vwCl (CW cs ad fa fq rv (va_up (va_up v 23 p1) 22 o_v22_110) (va_up a 38 o_a38_111) w fv fp) H := hP
            have hD : va_D A (CW cs ad fa fq rv (va_up (va_up v 23 p1) 22 o_v22_110) (va_up a 38 o_a38_111) w fv fp) := hD
            obtain ⟨wr_109_0, wr_109_1, wr_109_2, wr_109_3, wr_109_4⟩ : (o_v22_110.toInt = (0 : Int) + 5) ∧ (o_a38_111 = TRW (a 38) (0 : Int).toNat [2, 30, 10, 1, 11]) ∧ (r_109 = ((-((p3 + p1) * 2)) - ((1 : Int32) ^^^ p1))) ∧ (0 ≤ o_v22_110.toInt) ∧ (o_v22_110.toInt ≤ 1000) := wr_109
            have hP : va_P D vwCl (CW cs ad fa fq rv (va_up (va_up v 22 o_v22_110) 23 p1) (va_up a 38 o_a38_111) w fv fp) _ := hP
            have hD : va_D A (CW cs ad fa fq rv (va_up (va_up v 22 o_v22_110) 23 p1) (va_up a 38 o_a38_111) w fv fp) := hD
            exact W.iret (v := r_109) hx hb hr (fun tt ht hW => ⟨⟨r_109, ⟨o_v22_110, p1, o_a38_111⟩, rfl, ⟨(Or.inr ⟨by omega, by rw [hkN, haN]; exact wr_109_2, by rw [hkN, haN, hal]; (try dsimp only); omega, by rw [hkN, haN]; exact wr_109_1⟩), (show 0 ≤ o_v22_110.toInt by first | omega | assumption), (show o_v22_110.toInt ≤ 1000 by first | omega | assumption), (show 0 ≤ p1.toInt by first | omega | assumption), (show p1.toInt ≤ 49 by first | omega | assumption)⟩, by rw [ht]; exact hP, hD⟩, hS.F ht⟩) hS.2.2 dX0_perform_36
          ·
            have hkN : ((a 37) p1.toNatClampNeg).toInt.toNat = 3 := by rw [hkn]; rfl
            have hal : (AL 3 3).length = 7 := rfl
            refine cV_i (As := [.int 3, .int p3, .int 0]) (rest := []) ⟨hx, hb, hml, hown, hg⟩ (k_S_3_3 l D cs A ad fa fq rv (va_up (va_up v 22 0) 23 p1) a w fv fp  p3 0 hkn (show 0 ≤ (0 : Int) by first | omega | decide) (show (0 : Int) ≤ 17 by first | omega | decide) (show 0 ≤ (0 : Int) by first | omega | decide) (show (0 : Int) ≤ 33 by first | omega | decide) (show 0 ≤ p1.toInt by first | omega | decide) (show p1.toInt ≤ 49 by first | omega | decide) ia37_0 (show 0 ≤ (0 : Int) by first | omega | decide) (show (0 : Int) ≤ 1000 by first | omega | decide)) ca_X0_self q4_135 ⟨rfl, rfl⟩ ⟨Nat.le_of_ble_eq_true rfl, Nat.le_of_ble_eq_true rfl⟩ (rc_acts hK hP) hK hP hD hS hZ rfl hl.1 rfl (Nat.le_of_ble_eq_true rfl) ⟨Nat.zero_le _, Nat.zero_le _⟩ dX0_perform_33 (fun r_113 z_116 H locs wr_113 hP hD hS => ?_)
            obtain ⟨o_v22_114, o_a38_115⟩ := z_116
            have hP : va_P D vwCl (CW cs ad fa fq rv (va_up (va_up v 23 p1) 22 o_v22_114) (va_up a 38 o_a38_115) w fv fp) H := hP
            have hD : va_D A (CW cs ad fa fq rv (va_up (va_up v 23 p1) 22 o_v22_114) (va_up a 38 o_a38_115) w fv fp) := hD
            obtain ⟨wr_113_0, wr_113_1, wr_113_2, wr_113_3, wr_113_4⟩ : (o_v22_114.toInt = (0 : Int) + 7) ∧ (o_a38_115 = TRW (a 38) (0 : Int).toNat [2, 41, 30, 10, 1, 40, 11]) ∧ (r_113 = ((-(((p3 + 1) + p1) * 2)) - (((1 : Int32) ^^^ p1) * 3))) ∧ (0 ≤ o_v22_114.toInt) ∧ (o_v22_114.toInt ≤ 1000) := wr_113
            have hP : va_P D vwCl (CW cs ad fa fq rv (va_up (va_up v 22 o_v22_114) 23 p1) (va_up a 38 o_a38_115) w fv fp) _ := hP
            have hD : va_D A (CW cs ad fa fq rv (va_up (va_up v 22 o_v22_114) 23 p1) (va_up a 38 o_a38_115) w fv fp) := hD
            exact W.iret (v := r_113) hx hb hr (fun tt ht hW => ⟨⟨r_113, ⟨o_v22_114, p1, o_a38_115⟩, rfl, ⟨(Or.inr ⟨by omega, by rw [hkN, haN]; exact wr_113_2, by rw [hkN, haN, hal]; (try dsimp only); omega, by rw [hkN, haN]; exact wr_113_1⟩), (show 0 ≤ o_v22_114.toInt by first | omega | assumption), (show o_v22_114.toInt ≤ 1000 by first | omega | assumption), (show 0 ≤ p1.toInt by first | omega | assumption), (show p1.toInt ≤ 49 by first | omega | assumption)⟩, by rw [ht]; exact hP, hD⟩, hS.F ht⟩) hS.2.2 dX0_perform_36
          ·
            have hkN : ((a 37) p1.toNatClampNeg).toInt.toNat = 4 := by rw [hkn]; rfl
            have hal : (AL 4 3).length = 6 := rfl
            refine cV_i (As := [.int 3, .int p3, .int 0]) (rest := []) ⟨hx, hb, hml, hown, hg⟩ (k_S_4_3 l D cs A ad fa fq rv (va_up (va_up v 22 0) 23 p1) a w fv fp  p3 0 hkn (show 0 ≤ (0 : Int) by first | omega | decide) (show (0 : Int) ≤ 18 by first | omega | decide) (show 0 ≤ (0 : Int) by first | omega | decide) (show (0 : Int) ≤ 33 by first | omega | decide) (show 0 ≤ p1.toInt by first | omega | decide) (show p1.toInt ≤ 49 by first | omega | decide) ia37_0 (show 0 ≤ (0 : Int) by first | omega | decide) (show (0 : Int) ≤ 1000 by first | omega | decide)) ca_X0_self q4_135 ⟨rfl, rfl⟩ ⟨Nat.le_of_ble_eq_true rfl, Nat.le_of_ble_eq_true rfl⟩ (rc_acts hK hP) hK hP hD hS hZ rfl hl.1 rfl (Nat.le_of_ble_eq_true rfl) ⟨Nat.zero_le _, Nat.zero_le _⟩ dX0_perform_33 (fun r_117 z_120 H locs wr_117 hP hD hS => ?_)
            obtain ⟨o_v22_118, o_a38_119⟩ := z_120
            have hP : va_P D vwCl (CW cs ad fa fq rv (va_up (va_up v 23 p1) 22 o_v22_118) (va_up a 38 o_a38_119) w fv fp) H := hP
            have hD : va_D A (CW cs ad fa fq rv (va_up (va_up v 23 p1) 22 o_v22_118) (va_up a 38 o_a38_119) w fv fp) := hD
            obtain ⟨wr_117_0, wr_117_1, wr_117_2, wr_117_3, wr_117_4⟩ : (o_v22_118.toInt = (0 : Int) + 6) ∧ (o_a38_119 = TRW (a 38) (0 : Int).toNat [50, 2, 10, 20, 1, 11]) ∧ (r_117 = (((((p3 + p1) + 3) * 2) - ((1 : Int32) ^^^ p1)) ^^^ 5)) ∧ (0 ≤ o_v22_118.toInt) ∧ (o_v22_118.toInt ≤ 1000) := wr_117
            have hP : va_P D vwCl (CW cs ad fa fq rv (va_up (va_up v 22 o_v22_118) 23 p1) (va_up a 38 o_a38_119) w fv fp) _ := hP
            have hD : va_D A (CW cs ad fa fq rv (va_up (va_up v 22 o_v22_118) 23 p1) (va_up a 38 o_a38_119) w fv fp) := hD
            exact W.iret (v := r_117) hx hb hr (fun tt ht hW => ⟨⟨r_117, ⟨o_v22_118, p1, o_a38_119⟩, rfl, ⟨(Or.inr ⟨by omega, by rw [hkN, haN]; exact wr_117_2, by rw [hkN, haN, hal]; (try dsimp only); omega, by rw [hkN, haN]; exact wr_117_1⟩), (show 0 ≤ o_v22_118.toInt by first | omega | assumption), (show o_v22_118.toInt ≤ 1000 by first | omega | assumption), (show 0 ≤ p1.toInt by first | omega | assumption), (show p1.toInt ≤ 49 by first | omega | assumption)⟩, by rw [ht]; exact hP, hD⟩, hS.F ht⟩) hS.2.2 dX0_perform_36
          ·
            have hkN : ((a 37) p1.toNatClampNeg).toInt.toNat = 5 := by rw [hkn]; rfl
            have hal : (AL 5 3).length = 10 := rfl
            refine cV_i (As := [.int 3, .int p3, .int 0]) (rest := []) ⟨hx, hb, hml, hown, hg⟩ (k_S_5_3 l D cs A ad fa fq rv (va_up (va_up v 22 0) 23 p1) a w fv fp  p3 0 hkn (show 0 ≤ (0 : Int) by first | omega | decide) (show (0 : Int) ≤ 14 by first | omega | decide) (show 0 ≤ (0 : Int) by first | omega | decide) (show (0 : Int) ≤ 32 by first | omega | decide) (show 0 ≤ p1.toInt by first | omega | decide) (show p1.toInt ≤ 49 by first | omega | decide) ia37_0 (show 0 ≤ (0 : Int) by first | omega | decide) (show (0 : Int) ≤ 1000 by first | omega | decide)) ca_X0_self q4_135 ⟨rfl, rfl⟩ ⟨Nat.le_of_ble_eq_true rfl, Nat.le_of_ble_eq_true rfl⟩ (rc_acts hK hP) hK hP hD hS hZ rfl hl.1 rfl (Nat.le_of_ble_eq_true rfl) ⟨Nat.zero_le _, Nat.zero_le _⟩ dX0_perform_33 (fun r_121 z_124 H locs wr_121 hP hD hS => ?_)
            obtain ⟨o_v22_122, o_a38_123⟩ := z_124
            have hP : va_P D vwCl (CW cs ad fa fq rv (va_up (va_up v 23 p1) 22 o_v22_122) (va_up a 38 o_a38_123) w fv fp) H := hP
            have hD : va_D A (CW cs ad fa fq rv (va_up (va_up v 23 p1) 22 o_v22_122) (va_up a 38 o_a38_123) w fv fp) := hD
            obtain ⟨wr_121_0, wr_121_1, wr_121_2, wr_121_3, wr_121_4⟩ : (o_v22_122.toInt = (0 : Int) + 10) ∧ (o_a38_123 = TRW (a 38) (0 : Int).toNat [61, 2, 41, 30, 10, 1, 60, 40, 11, 1]) ∧ (r_121 = (((-(((p3 + 1) + p1) * 2)) - ((((1 : Int32) ^^^ p1) * 3) - ((2 : Int32) + p1))) + 1)) ∧ (0 ≤ o_v22_122.toInt) ∧ (o_v22_122.toInt ≤ 1000) := wr_121
            have hP : va_P D vwCl (CW cs ad fa fq rv (va_up (va_up v 22 o_v22_122) 23 p1) (va_up a 38 o_a38_123) w fv fp) _ := hP
            have hD : va_D A (CW cs ad fa fq rv (va_up (va_up v 22 o_v22_122) 23 p1) (va_up a 38 o_a38_123) w fv fp) := hD
            exact W.iret (v := r_121) hx hb hr (fun tt ht hW => ⟨⟨r_121, ⟨o_v22_122, p1, o_a38_123⟩, rfl, ⟨(Or.inr ⟨by omega, by rw [hkN, haN]; exact wr_121_2, by rw [hkN, haN, hal]; (try dsimp only); omega, by rw [hkN, haN]; exact wr_121_1⟩), (show 0 ≤ o_v22_122.toInt by first | omega | assumption), (show o_v22_122.toInt ≤ 1000 by first | omega | assumption), (show 0 ≤ p1.toInt by first | omega | assumption), (show p1.toInt ≤ 49 by first | omega | assumption)⟩, by rw [ht]; exact hP, hD⟩, hS.F ht⟩) hS.2.2 dX0_perform_36
          ·
            have hkN : ((a 37) p1.toNatClampNeg).toInt.toNat = 6 := by rw [hkn]; rfl
            have hal : (AL 6 3).length = 5 := rfl
            refine cV_i (As := [.int 3, .int p3, .int 0]) (rest := []) ⟨hx, hb, hml, hown, hg⟩ (k_S_6_3 l D cs A ad fa fq rv (va_up (va_up v 22 0) 23 p1) a w fv fp  p3 0 hkn (show 0 ≤ (0 : Int) by first | omega | decide) (show (0 : Int) ≤ 19 by first | omega | decide) (show 0 ≤ (0 : Int) by first | omega | decide) (show (0 : Int) ≤ 34 by first | omega | decide) (show 0 ≤ p1.toInt by first | omega | decide) (show p1.toInt ≤ 49 by first | omega | decide) ia37_0 (show 0 ≤ (0 : Int) by first | omega | decide) (show (0 : Int) ≤ 1000 by first | omega | decide)) ca_X0_self q4_135 ⟨rfl, rfl⟩ ⟨Nat.le_of_ble_eq_true rfl, Nat.le_of_ble_eq_true rfl⟩ (rc_acts hK hP) hK hP hD hS hZ rfl hl.1 rfl (Nat.le_of_ble_eq_true rfl) ⟨Nat.zero_le _, Nat.zero_le _⟩ dX0_perform_33 (fun r_125 z_128 H locs wr_125 hP hD hS => ?_)
            obtain ⟨o_v22_126, o_a38_127⟩ := z_128
            have hP : va_P D vwCl (CW cs ad fa fq rv (va_up (va_up v 23 p1) 22 o_v22_126) (va_up a 38 o_a38_127) w fv fp) H := hP
            have hD : va_D A (CW cs ad fa fq rv (va_up (va_up v 23 p1) 22 o_v22_126) (va_up a 38 o_a38_127) w fv fp) := hD
            obtain ⟨wr_125_0, wr_125_1, wr_125_2, wr_125_3, wr_125_4⟩ : (o_v22_126.toInt = (0 : Int) + 5) ∧ (o_a38_127 = TRW (a 38) (0 : Int).toNat [2, 10, 70, 1, 11]) ∧ (r_125 = ((((p3 + p1) * 2) * 2) - ((1 : Int32) ^^^ p1))) ∧ (0 ≤ o_v22_126.toInt) ∧ (o_v22_126.toInt ≤ 1000) := wr_125
            have hP : va_P D vwCl (CW cs ad fa fq rv (va_up (va_up v 22 o_v22_126) 23 p1) (va_up a 38 o_a38_127) w fv fp) _ := hP
            have hD : va_D A (CW cs ad fa fq rv (va_up (va_up v 22 o_v22_126) 23 p1) (va_up a 38 o_a38_127) w fv fp) := hD
            exact W.iret (v := r_125) hx hb hr (fun tt ht hW => ⟨⟨r_125, ⟨o_v22_126, p1, o_a38_127⟩, rfl, ⟨(Or.inr ⟨by omega, by rw [hkN, haN]; exact wr_125_2, by rw [hkN, haN, hal]; (try dsimp only); omega, by rw [hkN, haN]; exact wr_125_1⟩), (show 0 ≤ o_v22_126.toInt by first | omega | assumption), (show o_v22_126.toInt ≤ 1000 by first | omega | assumption), (show 0 ≤ p1.toInt by first | omega | assumption), (show p1.toInt ≤ 49 by first | omega | assumption)⟩, by rw [ht]; exact hP, hD⟩, hS.F ht⟩) hS.2.2 dX0_perform_36
          ·
            have hkN : ((a 37) p1.toNatClampNeg).toInt.toNat = 7 := by rw [hkn]; rfl
            have hal : (AL 7 3).length = 8 := rfl
            refine cV_i (As := [.int 3, .int p3, .int 0]) (rest := []) ⟨hx, hb, hml, hown, hg⟩ (k_S_7_3 l D cs A ad fa fq rv (va_up (va_up v 22 0) 23 p1) a w fv fp  p3 0 hkn (show 0 ≤ (0 : Int) by first | omega | decide) (show (0 : Int) ≤ 16 by first | omega | decide) (show 0 ≤ (0 : Int) by first | omega | decide) (show (0 : Int) ≤ 32 by first | omega | decide) (show 0 ≤ p1.toInt by first | omega | decide) (show p1.toInt ≤ 49 by first | omega | decide) ia37_0 (show 0 ≤ (0 : Int) by first | omega | decide) (show (0 : Int) ≤ 1000 by first | omega | decide)) ca_X0_self q4_135 ⟨rfl, rfl⟩ ⟨Nat.le_of_ble_eq_true rfl, Nat.le_of_ble_eq_true rfl⟩ (rc_acts hK hP) hK hP hD hS hZ rfl hl.1 rfl (Nat.le_of_ble_eq_true rfl) ⟨Nat.zero_le _, Nat.zero_le _⟩ dX0_perform_33 (fun r_129 z_132 H locs wr_129 hP hD hS => ?_)
            obtain ⟨o_v22_130, o_a38_131⟩ := z_132
            have hP : va_P D vwCl (CW cs ad fa fq rv (va_up (va_up v 23 p1) 22 o_v22_130) (va_up a 38 o_a38_131) w fv fp) H := hP
            have hD : va_D A (CW cs ad fa fq rv (va_up (va_up v 23 p1) 22 o_v22_130) (va_up a 38 o_a38_131) w fv fp) := hD
            obtain ⟨wr_129_0, wr_129_1, wr_129_2, wr_129_3, wr_129_4⟩ : (o_v22_130.toInt = (0 : Int) + 8) ∧ (o_a38_131 = TRW (a 38) (0 : Int).toNat [2, 80, 10, 81, 70, 1, 11, 11]) ∧ (r_129 = ((((((p3 + p1) * 2) - 1) * 2) + ((2 : Int32) ^^^ p1)) - ((1 : Int32) ^^^ p1))) ∧ (0 ≤ o_v22_130.toInt) ∧ (o_v22_130.toInt ≤ 1000) := wr_129
            have hP : va_P D vwCl (CW cs ad fa fq rv (va_up (va_up v 22 o_v22_130) 23 p1) (va_up a 38 o_a38_131) w fv fp) _ := hP
            have hD : va_D A (CW cs ad fa fq rv (va_up (va_up v 22 o_v22_130) 23 p1) (va_up a 38 o_a38_131) w fv fp) := hD
            exact W.iret (v := r_129) hx hb hr (fun tt ht hW => ⟨⟨r_129, ⟨o_v22_130, p1, o_a38_131⟩, rfl, ⟨(Or.inr ⟨by omega, by rw [hkN, haN]; exact wr_129_2, by rw [hkN, haN, hal]; (try dsimp only); omega, by rw [hkN, haN]; exact wr_129_1⟩), (show 0 ≤ o_v22_130.toInt by first | omega | assumption), (show o_v22_130.toInt ≤ 1000 by first | omega | assumption), (show 0 ≤ p1.toInt by first | omega | assumption), (show p1.toInt ≤ 49 by first | omega | assumption)⟩, by rw [ht]; exact hP, hD⟩, hS.F ht⟩) hS.2.2 dX0_perform_36
      ·
        have kc_4 : (3 : Int) < p2.toInt := i_nle c_4
        refine lv_iconst (v := 0) hx hb dX0_perform_22 (by decide) ?_
        have q0_0 : (0 : Int32).toInt = 0 := rfl
        have q0_0 : (0 : Int32).toInt = 0 := rfl
        have hP : va_P D vwCl (CW cs ad fa fq rv (va_up (va_up v 22 0) 23 (v 23)) (va_up a 38 (a 38)) w fv fp) _ := hP
        have hD : va_D A (CW cs ad fa fq rv (va_up (va_up v 22 0) 23 (v 23)) (va_up a 38 (a 38)) w fv fp) := hD
        exact W.iret (v := 0) hx hb hr (fun tt ht hW => ⟨⟨0, ⟨0, (v 23), (a 38)⟩, rfl, ⟨(Or.inl ⟨by omega, by omega, by (try dsimp only); omega, rfl⟩), (show 0 ≤ (0 : Int) by first | omega | assumption), (show (0 : Int) ≤ 1000 by first | omega | assumption), (show 0 ≤ (v 23).toInt by first | omega | assumption), (show (v 23).toInt ≤ 49 by first | omega | assumption)⟩, by rw [ht]; exact hP, hD⟩, hS.F ht⟩) hS.2.2 dX0_perform_23
set_option maxHeartbeats 4000000 in
set_option maxRecDepth 100000 in
theorem k_X11_act (l : Launch) (D : va_G) (cs : Nat → ClassId) (A : Nat → Prop) (ad fa fq rv : Nat → Nat) (v : Nat → Int32) (a : Nat → Nat → Int32) (w : Nat → Nat → Int64) (fv fp : Nat → Nat → Int32)  (p1 : Int32) (p2 : Int32) (p3 : Int32) (iv21_0 : 0 ≤ (v 21).toInt) (iv21_1 : (v 21).toInt ≤ 50) (iv23_0 : 0 ≤ (v 23).toInt) (iv23_1 : (v 23).toInt ≤ 49) (ia37_0 : AB 0 7 (a 37)) (iv22_0 : 0 ≤ (v 22).toInt) (iv22_1 : (v 22).toInt ≤ 1000) : Met l yX11_act (Cond.code yX11_act cX11_act 4 (some .int) :: gw) ({ frames := 16, cells := 0, slots := 0, locals := 392 }) (va_Pc [.ref (ad 0), .int p1, .int p2, .int p3] (XPre D (TY cs) (CW cs ad fa fq rv v a w fv fp) A)) (va_Qi (fun (r : Int32) (z : Int32 × Int32 × (Nat → Int32)) => ((¬ ((0 ≤ p1.toInt ∧ p1.toInt < (v 21).toInt) ∧ 0 ≤ p2.toInt ∧ p2.toInt ≤ 3) ∧ r.toInt = 0 ∧ z.1.toInt = 0 ∧ z.2.2 = (a 38)) ∨ (((0 ≤ p1.toInt ∧ p1.toInt < (v 21).toInt) ∧ 0 ≤ p2.toInt ∧ p2.toInt ≤ 3) ∧ r = AV ((a 37) p1.toNatClampNeg).toInt.toNat p2.toInt.toNat p3 p1 ∧ z.1.toInt = ((AL ((a 37) p1.toNatClampNeg).toInt.toNat p2.toInt.toNat).length : Int) ∧ z.2.2 = TRW (a 38) 0 (AL ((a 37) p1.toNatClampNeg).toInt.toNat p2.toInt.toNat))) ∧ (0 ≤ z.1.toInt) ∧ (z.1.toInt ≤ 1000) ∧ (0 ≤ z.2.1.toInt) ∧ (z.2.1.toInt ≤ 49)) (XPo D (fun (z : Int32 × Int32 × (Nat → Int32)) => CW cs ad fa fq rv (va_up (va_up v 22 z.1) 23 z.2.1) (va_up a 38 z.2.2) w fv fp) A) A) 0 0 A := by
  refine Met.ofW (cc := cX11_act) (maxL := 4) (ret := (some .int)) (by decide) rfl ?_
  intro p e s m args below meth c s₁ B hml hv
  obtain ⟨rfl, hP, hK, hD, hZ⟩ := hv
  have hx := B.exec
  have hb := B.bytes
  have hr := B.returns
  have hts := atoms_spec (ws := (Cond.code yX11_act cX11_act 4 (some .int) :: gw)) B.pre
  have hg : ∀ w ∈ gw, w.before ([.ref (ad 0), .int p1, .int p2, .int p3] : List Value).toArray s = true := fun w h => hts w (List.mem_cons_of_mem _ h)
  have hown : s.vm.findClass RX11 = some m.cls := findClass_of_methodNamed B.named
  have hlocks := B.notSynchronized
  have hS : va_S A s.heap s.heap [] := va_S.rf
  have hP : va_P D vwCl (CW cs ad fa fq rv v a w fv fp) s.heap := hP
  have hl := lv_entry ([.ref (ad 0), .int p1, .int p2, .int p3]) (n := 4) (Nat.le_of_ble_eq_true rfl)
  rw [lg_entry_eq]
  generalize (lg_sl ([.ref (ad 0), .int p1, .int p2, .int p3]) ++ List.replicate (4 - (lg_sl ([.ref (ad 0), .int p1, .int p2, .int p3])).length) Slot.unset).toArray = ls at hl ⊢
  have hl : lv_has ls 4 [(0, .ref (ad 0)), (1, .int p1), (2, .int p2), (3, .int p3)] := hl
  refine lv_aload_n hx hb dX11_act_0 rfl (lv_at hl 0 rfl) ?_
  refine gf_main_acts hx hb hg hown hK hP rfl (hg _ q2_134) dX11_act_1 ?_
  refine lv_iload_n hx hb dX11_act_4 rfl (lv_at hl 1 rfl) ?_
  refine lv_iload_n hx hb dX11_act_5 rfl (lv_at hl 2 rfl) ?_
  refine lv_iload_n hx hb dX11_act_6 rfl (lv_at hl 3 rfl) ?_
  refine cV_i (As := [.int p1, .int p2, .int p3]) (rest := []) ⟨hx, hb, hml, hown, hg⟩ (k_X0_perform l D cs A ad fa fq rv v a w fv fp  p1 p2 p3 (show 0 ≤ (v 21).toInt by first | omega | decide) (show (v 21).toInt ≤ 50 by first | omega | decide) (show 0 ≤ (v 23).toInt by first | omega | decide) (show (v 23).toInt ≤ 49 by first | omega | decide) ia37_0) ca_X0_perform q4_127 ⟨rfl, rfl⟩ ⟨Nat.le_of_ble_eq_true rfl, Nat.le_of_ble_eq_true rfl⟩ (rc_acts hK hP) hK hP hD hS hZ rfl hl.1 rfl (Nat.le_of_ble_eq_true rfl) ⟨Nat.zero_le _, Nat.zero_le _⟩ dX11_act_7 (fun r_1 z_5 H locs wr_1 hP hD hS => ?_)
  obtain ⟨o_v22_2, o_v23_3, o_a38_4⟩ := z_5
  have hP : va_P D vwCl (CW cs ad fa fq rv (va_up (va_up v 22 o_v22_2) 23 o_v23_3) (va_up a 38 o_a38_4) w fv fp) H := hP
  have hD : va_D A (CW cs ad fa fq rv (va_up (va_up v 22 o_v22_2) 23 o_v23_3) (va_up a 38 o_a38_4) w fv fp) := hD
  obtain ⟨wr_1_0, wr_1_1, wr_1_2, wr_1_3, wr_1_4⟩ : ((¬ ((0 ≤ p1.toInt ∧ p1.toInt < (v 21).toInt) ∧ 0 ≤ p2.toInt ∧ p2.toInt ≤ 3) ∧ r_1.toInt = 0 ∧ o_v22_2.toInt = 0 ∧ o_a38_4 = (a 38)) ∨ (((0 ≤ p1.toInt ∧ p1.toInt < (v 21).toInt) ∧ 0 ≤ p2.toInt ∧ p2.toInt ≤ 3) ∧ r_1 = AV ((a 37) p1.toNatClampNeg).toInt.toNat p2.toInt.toNat p3 p1 ∧ o_v22_2.toInt = ((AL ((a 37) p1.toNatClampNeg).toInt.toNat p2.toInt.toNat).length : Int) ∧ o_a38_4 = TRW (a 38) 0 (AL ((a 37) p1.toNatClampNeg).toInt.toNat p2.toInt.toNat))) ∧ (0 ≤ o_v22_2.toInt) ∧ (o_v22_2.toInt ≤ 1000) ∧ (0 ≤ o_v23_3.toInt) ∧ (o_v23_3.toInt ≤ 49) := wr_1
  exact W.iret (v := r_1) hx hb hr (fun tt ht hW => ⟨⟨r_1, ⟨o_v22_2, o_v23_3, o_a38_4⟩, rfl, ⟨(by (try dsimp only); assumption), (show 0 ≤ o_v22_2.toInt by first | omega | assumption), (show o_v22_2.toInt ≤ 1000 by first | omega | assumption), (show 0 ≤ o_v23_3.toInt by first | omega | assumption), (show o_v23_3.toInt ≤ 49 by first | omega | assumption)⟩, by rw [ht]; exact hP, hD⟩, hS.F ht⟩) hS.2.2 dX11_act_10
