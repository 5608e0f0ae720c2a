set_option maxHeartbeats 4000000 in
set_option maxRecDepth 100000 in
theorem k_X12_in (l : Launch)   (p1 : Int32) (p2 : Int32) (p3 : Int32)  : Met l yX12_in (Cond.code yX12_in cX12_in 3 (some .boolean) :: gw) ({ frames := 0, cells := 0, slots := 0, locals := 0 }) (fun v _ => v = ([.int p1, .int p2, .int p3] : List Value).toArray) (vp_Si (fun (r : Int32) => (r.toInt = 1 ∧ p2.toInt ≤ p1.toInt ∧ p1.toInt ≤ p3.toInt) ∨ (r.toInt = 0 ∧ ¬ (p2.toInt ≤ p1.toInt ∧ p1.toInt ≤ p3.toInt)))) 0 0 (fun _ => False) := by
  refine Met.ofW (cc := cX12_in) (maxL := 3) (ret := (some .boolean)) (by decide) rfl ?_
  intro p e s m args below meth c s₁ B hml hv
  subst hv
  have hx := B.exec
  have hb := B.bytes
  have hr := B.returns
  have hts := atoms_spec (ws := (Cond.code yX12_in cX12_in 3 (some .boolean) :: gw)) B.pre
  have hg : ∀ w ∈ gw, w.before ([.int p1, .int p2, .int p3] : List Value).toArray s = true := fun w h => hts w (List.mem_cons_of_mem _ h)
  have hown : s.vm.findClass RX12 = some m.cls := findClass_of_methodNamed B.named
  have hlocks := B.notSynchronized
  have hl := lv_entry ([.int p1, .int p2, .int p3]) (n := 3) (Nat.le_of_ble_eq_true rfl)
  rw [lg_entry_eq]
  generalize (lg_sl ([.int p1, .int p2, .int p3]) ++ List.replicate (3 - (lg_sl ([.int p1, .int p2, .int p3])).length) Slot.unset).toArray = ls at hl ⊢
  have hl : lv_has ls 3 [(0, .int p1), (1, .int p2), (2, .int p3)] := hl
  refine lv_iload_n hx hb dX12_in_0 rfl (lv_at hl 0 rfl) ?_
  refine lv_iload_n hx hb dX12_in_1 rfl (lv_at hl 1 rfl) ?_
  refine lv_icmp_lt (tgt := 14) hx hb dX12_in_2 (by decide) (fun c_1 => ?_) (fun c_1 => ?_)
  ·
    have kc_1 : p1.toInt < p2.toInt := i_lt c_1
    refine lv_iconst (v := 0) hx hb dX12_in_14 (by decide) ?_
    have q0_0 : (0 : Int32).toInt = 0 := rfl
    exact W.zret (v := 0) hx hb hr rfl (fun tt ht hW => ⟨0, rfl, (by first | rfl | omega | trivial | assumption | (dsimp only; first | omega | assumption)), ht⟩) (fun _ h => by cases h) dX12_in_15
  ·
    have kc_1 : p2.toInt ≤ p1.toInt := i_nlt c_1
    refine lv_iload_n hx hb dX12_in_5 rfl (lv_at hl 0 rfl) ?_
    refine lv_iload_n hx hb dX12_in_6 rfl (lv_at hl 2 rfl) ?_
    refine lv_icmp_gt (tgt := 14) hx hb dX12_in_7 (by decide) (fun c_2 => ?_) (fun c_2 => ?_)
    ·
      have kc_2 : p3.toInt < p1.toInt := i_lt c_2
      refine lv_iconst (v := 0) hx hb dX12_in_14 (by decide) ?_
      have q0_0 : (0 : Int32).toInt = 0 := rfl
      exact W.zret (v := 0) hx hb hr rfl (fun tt ht hW => ⟨0, rfl, (by first | rfl | omega | trivial | assumption | (dsimp only; first | omega | assumption)), ht⟩) (fun _ h => by cases h) dX12_in_15
    ·
      have kc_2 : p1.toInt ≤ p3.toInt := i_nlt c_2
      refine lv_iconst (v := 1) hx hb dX12_in_10 (by decide) ?_
      refine lv_goto (tgt := 15) hx hb dX12_in_11 (by decide) ?_
      have q0_1 : (1 : Int32).toInt = 1 := rfl
      exact W.zret (v := 1) hx hb hr rfl (fun tt ht hW => ⟨1, rfl, (by first | rfl | omega | trivial | assumption | (dsimp only; first | omega | assumption)), ht⟩) (fun _ h => by cases h) dX12_in_15
set_option maxHeartbeats 4000000 in
set_option maxRecDepth 100000 in
theorem k_X12_isCell (l : Launch)   (p1 : Int32)  : Met l yX12_isCell (Cond.code yX12_isCell cX12_isCell 1 (some .boolean) :: gw) ({ frames := 1, cells := 0, slots := 0, locals := 22 }) (fun v _ => v = ([.int p1] : List Value).toArray) (vp_Si (fun (r : Int32) => (r.toInt = 1 ∧ 0 ≤ p1.toInt ∧ p1.toInt < 256) ∨ (r.toInt = 0 ∧ ¬ (0 ≤ p1.toInt ∧ p1.toInt < 256)))) 0 0 (fun _ => False) := by
  refine Met.ofW (cc := cX12_isCell) (maxL := 1) (ret := (some .boolean)) (by decide) rfl ?_
  intro p e s m args below meth c s₁ B hml hv
  subst hv
  have hx := B.exec
  have hb := B.bytes
  have hr := B.returns
  have hts := atoms_spec (ws := (Cond.code yX12_isCell cX12_isCell 1 (some .boolean) :: gw)) B.pre
  have hg : ∀ w ∈ gw, w.before ([.int p1] : List Value).toArray s = true := fun w h => hts w (List.mem_cons_of_mem _ h)
  have hown : s.vm.findClass RX12 = some m.cls := findClass_of_methodNamed B.named
  have hlocks := B.notSynchronized
  have hl := lv_entry ([.int p1]) (n := 1) (Nat.le_of_ble_eq_true rfl)
  rw [lg_entry_eq]
  generalize (lg_sl ([.int p1]) ++ List.replicate (1 - (lg_sl ([.int p1])).length) Slot.unset).toArray = ls at hl ⊢
  have hl : lv_has ls 1 [(0, .int p1)] := hl
  refine lv_iload_n hx hb dX12_isCell_0 rfl (lv_at hl 0 rfl) ?_
  refine lv_iconst (v := 0) hx hb dX12_isCell_1 (by decide) ?_
  refine lv_sipush (v := 255) hx hb dX12_isCell_2 (by decide) ?_
  refine cS_p (As := [.int p1, .int 0, .int 255]) (rest := []) ⟨hx, hb, hml, hown, hg⟩ (k_X12_in l   p1 0 255 ) ca_X12_in q5_212 ⟨rfl, rfl⟩ ⟨Nat.le_of_ble_eq_true rfl, Nat.le_of_ble_eq_true rfl⟩ rfl hl.1 rfl (Nat.le_of_ble_eq_true rfl) ⟨Nat.zero_le _, Nat.zero_le _⟩ dX12_isCell_5 (fun r_1 wr_1 => ?_)
  have wr_1 : (r_1.toInt = 1 ∧ (0 : Int) ≤ p1.toInt ∧ p1.toInt ≤ (255 : Int)) ∨ (r_1.toInt = 0 ∧ ¬ ((0 : Int) ≤ p1.toInt ∧ p1.toInt ≤ (255 : Int))) := wr_1
  exact W.zret (v := r_1) hx hb hr (i_nb (by omega) (by omega)) (fun tt ht hW => ⟨r_1, rfl, (by first | rfl | omega | trivial | assumption | (dsimp only; first | omega | assumption)), ht⟩) (fun _ h => by cases h) dX12_isCell_8
set_option maxHeartbeats 4000000 in
set_option maxRecDepth 100000 in
theorem k_X12_isShelf (l : Launch)   (p1 : Int32)  : Met l yX12_isShelf (Cond.code yX12_isShelf cX12_isShelf 1 (some .boolean) :: gw) ({ frames := 1, cells := 0, slots := 0, locals := 22 }) (fun v _ => v = ([.int p1] : List Value).toArray) (vp_Si (fun (r : Int32) => (r.toInt = 1 ∧ 0 ≤ p1.toInt ∧ p1.toInt < 6) ∨ (r.toInt = 0 ∧ ¬ (0 ≤ p1.toInt ∧ p1.toInt < 6)))) 0 0 (fun _ => False) := by
  refine Met.ofW (cc := cX12_isShelf) (maxL := 1) (ret := (some .boolean)) (by decide) rfl ?_
  intro p e s m args below meth c s₁ B hml hv
  subst hv
  have hx := B.exec
  have hb := B.bytes
  have hr := B.returns
  have hts := atoms_spec (ws := (Cond.code yX12_isShelf cX12_isShelf 1 (some .boolean) :: gw)) B.pre
  have hg : ∀ w ∈ gw, w.before ([.int p1] : List Value).toArray s = true := fun w h => hts w (List.mem_cons_of_mem _ h)
  have hown : s.vm.findClass RX12 = some m.cls := findClass_of_methodNamed B.named
  have hlocks := B.notSynchronized
  have hl := lv_entry ([.int p1]) (n := 1) (Nat.le_of_ble_eq_true rfl)
  rw [lg_entry_eq]
  generalize (lg_sl ([.int p1]) ++ List.replicate (1 - (lg_sl ([.int p1])).length) Slot.unset).toArray = ls at hl ⊢
  have hl : lv_has ls 1 [(0, .int p1)] := hl
  refine lv_iload_n hx hb dX12_isShelf_0 rfl (lv_at hl 0 rfl) ?_
  refine lv_iconst (v := 0) hx hb dX12_isShelf_1 (by decide) ?_
  refine lv_iconst (v := 5) hx hb dX12_isShelf_2 (by decide) ?_
  refine cS_p (As := [.int p1, .int 0, .int 5]) (rest := []) ⟨hx, hb, hml, hown, hg⟩ (k_X12_in l   p1 0 5 ) ca_X12_in q5_212 ⟨rfl, rfl⟩ ⟨Nat.le_of_ble_eq_true rfl, Nat.le_of_ble_eq_true rfl⟩ rfl hl.1 rfl (Nat.le_of_ble_eq_true rfl) ⟨Nat.zero_le _, Nat.zero_le _⟩ dX12_isShelf_3 (fun r_1 wr_1 => ?_)
  have wr_1 : (r_1.toInt = 1 ∧ (0 : Int) ≤ p1.toInt ∧ p1.toInt ≤ (5 : Int)) ∨ (r_1.toInt = 0 ∧ ¬ ((0 : Int) ≤ p1.toInt ∧ p1.toInt ≤ (5 : Int))) := wr_1
  exact W.zret (v := r_1) hx hb hr (i_nb (by omega) (by omega)) (fun tt ht hW => ⟨r_1, rfl, (by first | rfl | omega | trivial | assumption | (dsimp only; first | omega | assumption)), ht⟩) (fun _ h => by cases h) dX12_isShelf_6
set_option maxHeartbeats 4000000 in
set_option maxRecDepth 100000 in
theorem k_X12_areMany (l : Launch)   (p1 : Int32)  : Met l yX12_areMany (Cond.code yX12_areMany cX12_areMany 1 (some .boolean) :: gw) ({ frames := 1, cells := 0, slots := 0, locals := 22 }) (fun v _ => v = ([.int p1] : List Value).toArray) (vp_Si (fun (r : Int32) => (r.toInt = 1 ∧ 0 ≤ p1.toInt ∧ p1.toInt ≤ 24) ∨ (r.toInt = 0 ∧ ¬ (0 ≤ p1.toInt ∧ p1.toInt ≤ 24)))) 0 0 (fun _ => False) := by
  refine Met.ofW (cc := cX12_areMany) (maxL := 1) (ret := (some .boolean)) (by decide) rfl ?_
  intro p e s m args below meth c s₁ B hml hv
  subst hv
  have hx := B.exec
  have hb := B.bytes
  have hr := B.returns
  have hts := atoms_spec (ws := (Cond.code yX12_areMany cX12_areMany 1 (some .boolean) :: gw)) B.pre
  have hg : ∀ w ∈ gw, w.before ([.int p1] : List Value).toArray s = true := fun w h => hts w (List.mem_cons_of_mem _ h)
  have hown : s.vm.findClass RX12 = some m.cls := findClass_of_methodNamed B.named
  have hlocks := B.notSynchronized
  have hl := lv_entry ([.int p1]) (n := 1) (Nat.le_of_ble_eq_true rfl)
  rw [lg_entry_eq]
  generalize (lg_sl ([.int p1]) ++ List.replicate (1 - (lg_sl ([.int p1])).length) Slot.unset).toArray = ls at hl ⊢
  have hl : lv_has ls 1 [(0, .int p1)] := hl
  refine lv_iload_n hx hb dX12_areMany_0 rfl (lv_at hl 0 rfl) ?_
  refine lv_iconst (v := 0) hx hb dX12_areMany_1 (by decide) ?_
  refine lv_bipush (v := 24) hx hb dX12_areMany_2 (by decide) ?_
  refine cS_p (As := [.int p1, .int 0, .int 24]) (rest := []) ⟨hx, hb, hml, hown, hg⟩ (k_X12_in l   p1 0 24 ) ca_X12_in q5_212 ⟨rfl, rfl⟩ ⟨Nat.le_of_ble_eq_true rfl, Nat.le_of_ble_eq_true rfl⟩ rfl hl.1 rfl (Nat.le_of_ble_eq_true rfl) ⟨Nat.zero_le _, Nat.zero_le _⟩ dX12_areMany_4 (fun r_1 wr_1 => ?_)
  have wr_1 : (r_1.toInt = 1 ∧ (0 : Int) ≤ p1.toInt ∧ p1.toInt ≤ (24 : Int)) ∨ (r_1.toInt = 0 ∧ ¬ ((0 : Int) ≤ p1.toInt ∧ p1.toInt ≤ (24 : Int))) := wr_1
  exact W.zret (v := r_1) hx hb hr (i_nb (by omega) (by omega)) (fun tt ht hW => ⟨r_1, rfl, (by first | rfl | omega | trivial | assumption | (dsimp only; first | omega | assumption)), ht⟩) (fun _ h => by cases h) dX12_areMany_7
set_option maxHeartbeats 4000000 in
set_option maxRecDepth 100000 in
theorem k_X12_mayHave (l : Launch)   (p1 : Int32) (p2 : Int32)  : Met l yX12_mayHave (Cond.code yX12_mayHave cX12_mayHave 2 (some .boolean) :: gw) ({ frames := 2, cells := 0, slots := 0, locals := 42 }) (fun v _ => v = ([.int p1, .int p2] : List Value).toArray) (vp_Si (fun (r : Int32) => (r.toInt = 1 ∧ ((p1.toInt = 1 ∧ 0 ≤ p2.toInt ∧ p2.toInt ≤ 12) ∨ (p1.toInt = 2 ∧ 0 ≤ p2.toInt ∧ p2.toInt ≤ 9) ∨ (p1.toInt = 3 ∧ 0 ≤ p2.toInt ∧ p2.toInt ≤ 99) ∨ (p1.toInt = 5 ∧ 1 ≤ p2.toInt ∧ p2.toInt ≤ 20) ∨ (p1.toInt = 6 ∧ 0 ≤ p2.toInt ∧ p2.toInt ≤ 23) ∨ (p1.toInt = 7 ∧ 1 ≤ p2.toInt ∧ p2.toInt ≤ 9) ∨ ((p1.toInt < 1 ∨ p1.toInt = 4 ∨ 7 < p1.toInt) ∧ 0 ≤ p2.toInt ∧ p2.toInt < 256))) ∨ (r.toInt = 0 ∧ ¬ (((p1.toInt = 1 ∧ 0 ≤ p2.toInt ∧ p2.toInt ≤ 12) ∨ (p1.toInt = 2 ∧ 0 ≤ p2.toInt ∧ p2.toInt ≤ 9) ∨ (p1.toInt = 3 ∧ 0 ≤ p2.toInt ∧ p2.toInt ≤ 99) ∨ (p1.toInt = 5 ∧ 1 ≤ p2.toInt ∧ p2.toInt ≤ 20) ∨ (p1.toInt = 6 ∧ 0 ≤ p2.toInt ∧ p2.toInt ≤ 23) ∨ (p1.toInt = 7 ∧ 1 ≤ p2.toInt ∧ p2.toInt ≤ 9) ∨ ((p1.toInt < 1 ∨ p1.toInt = 4 ∨ 7 < p1.toInt) ∧ 0 ≤ p2.toInt ∧ p2.toInt < 256)))))) 0 0 (fun _ => False) := by
  refine Met.ofW (cc := cX12_mayHave) (maxL := 2) (ret := (some .boolean)) (by decide) rfl ?_
  intro p e s m args below meth c s₁ B hml hv
  subst hv
  have hx := B.exec
  have hb := B.bytes
  have hr := B.returns
  have hts := atoms_spec (ws := (Cond.code yX12_mayHave cX12_mayHave 2 (some .boolean) :: gw)) B.pre
  have hg : ∀ w ∈ gw, w.before ([.int p1, .int p2] : List Value).toArray s = true := fun w h => hts w (List.mem_cons_of_mem _ h)
  have hown : s.vm.findClass RX12 = some m.cls := findClass_of_methodNamed B.named
  have hlocks := B.notSynchronized
  have hl := lv_entry ([.int p1, .int p2]) (n := 2) (Nat.le_of_ble_eq_true rfl)
  rw [lg_entry_eq]
  generalize (lg_sl ([.int p1, .int p2]) ++ List.replicate (2 - (lg_sl ([.int p1, .int p2])).length) Slot.unset).toArray = ls at hl ⊢
  have hl : lv_has ls 2 [(0, .int p1), (1, .int p2)] := hl
  refine lv_iload_n hx hb dX12_mayHave_0 rfl (lv_at hl 0 rfl) ?_
  rcases (show p1.toInt = 1 ∨ p1.toInt = 2 ∨ p1.toInt = 3 ∨ p1.toInt = 4 ∨ p1.toInt = 5 ∨ p1.toInt = 6 ∨ p1.toInt = 7 ∨ (p1.toInt < 1 ∨ 7 < p1.toInt) by omega) with kc_1 | kc_1 | kc_1 | kc_1 | kc_1 | kc_1 | kc_1 | kc_1
  ·
    refine lv_tableIn (tgt := 44) hx hb dX12_mayHave_1 (by omega) (by omega) (off := 43) (by rw [kc_1]; rfl) (by decide) ?_
    refine lv_iload_n hx hb dX12_mayHave_44 rfl (lv_at hl 1 rfl) ?_
    refine lv_iconst (v := 0) hx hb dX12_mayHave_45 (by decide) ?_
    refine lv_bipush (v := 12) hx hb dX12_mayHave_46 (by decide) ?_
    refine cS_p (As := [.int p2, .int 0, .int 12]) (rest := []) ⟨hx, hb, hml, hown, hg⟩ (k_X12_in l   p2 0 12 ) ca_X12_in q5_212 ⟨rfl, rfl⟩ ⟨Nat.le_of_ble_eq_true rfl, Nat.le_of_ble_eq_true rfl⟩ rfl hl.1 rfl (Nat.le_of_ble_eq_true rfl) ⟨Nat.zero_le _, Nat.zero_le _⟩ dX12_mayHave_48 (fun r_2 wr_2 => ?_)
    have wr_2 : (r_2.toInt = 1 ∧ (0 : Int) ≤ p2.toInt ∧ p2.toInt ≤ (12 : Int)) ∨ (r_2.toInt = 0 ∧ ¬ ((0 : Int) ≤ p2.toInt ∧ p2.toInt ≤ (12 : Int))) := wr_2
    exact W.zret (v := r_2) hx hb hr (i_nb (by omega) (by omega)) (fun tt ht hW => ⟨r_2, rfl, (by first | rfl | omega | trivial | assumption | (dsimp only; first | omega | assumption)), ht⟩) (fun _ h => by cases h) dX12_mayHave_51
  ·
    refine lv_tableIn (tgt := 52) hx hb dX12_mayHave_1 (by omega) (by omega) (off := 51) (by rw [kc_1]; rfl) (by decide) ?_
    refine lv_iload_n hx hb dX12_mayHave_52 rfl (lv_at hl 1 rfl) ?_
    refine lv_iconst (v := 0) hx hb dX12_mayHave_53 (by decide) ?_
    refine lv_bipush (v := 9) hx hb dX12_mayHave_54 (by decide) ?_
    refine cS_p (As := [.int p2, .int 0, .int 9]) (rest := []) ⟨hx, hb, hml, hown, hg⟩ (k_X12_in l   p2 0 9 ) ca_X12_in q5_212 ⟨rfl, rfl⟩ ⟨Nat.le_of_ble_eq_true rfl, Nat.le_of_ble_eq_true rfl⟩ rfl hl.1 rfl (Nat.le_of_ble_eq_true rfl) ⟨Nat.zero_le _, Nat.zero_le _⟩ dX12_mayHave_56 (fun r_3 wr_3 => ?_)
    have wr_3 : (r_3.toInt = 1 ∧ (0 : Int) ≤ p2.toInt ∧ p2.toInt ≤ (9 : Int)) ∨ (r_3.toInt = 0 ∧ ¬ ((0 : Int) ≤ p2.toInt ∧ p2.toInt ≤ (9 : Int))) := wr_3
    exact W.zret (v := r_3) hx hb hr (i_nb (by omega) (by omega)) (fun tt ht hW => ⟨r_3, rfl, (by first | rfl | omega | trivial | assumption | (dsimp only; first | omega | assumption)), ht⟩) (fun _ h => by cases h) dX12_mayHave_59
  ·
    refine lv_tableIn (tgt := 60) hx hb dX12_mayHave_1 (by omega) (by omega) (off := 59) (by rw [kc_1]; rfl) (by decide) ?_
    refine lv_iload_n hx hb dX12_mayHave_60 rfl (lv_at hl 1 rfl) ?_
    refine lv_iconst (v := 0) hx hb dX12_mayHave_61 (by decide) ?_
    refine lv_bipush (v := 99) hx hb dX12_mayHave_62 (by decide) ?_
    refine cS_p (As := [.int p2, .int 0, .int 99]) (rest := []) ⟨hx, hb, hml, hown, hg⟩ (k_X12_in l   p2 0 99 ) ca_X12_in q5_212 ⟨rfl, rfl⟩ ⟨Nat.le_of_ble_eq_true rfl, Nat.le_of_ble_eq_true rfl⟩ rfl hl.1 rfl (Nat.le_of_ble_eq_true rfl) ⟨Nat.zero_le _, Nat.zero_le _⟩ dX12_mayHave_64 (fun r_4 wr_4 => ?_)
    have wr_4 : (r_4.toInt = 1 ∧ (0 : Int) ≤ p2.toInt ∧ p2.toInt ≤ (99 : Int)) ∨ (r_4.toInt = 0 ∧ ¬ ((0 : Int) ≤ p2.toInt ∧ p2.toInt ≤ (99 : Int))) := wr_4
    exact W.zret (v := r_4) hx hb hr (i_nb (by omega) (by omega)) (fun tt ht hW => ⟨r_4, rfl, (by first | rfl | omega | trivial | assumption | (dsimp only; first | omega | assumption)), ht⟩) (fun _ h => by cases h) dX12_mayHave_67
  ·
    refine lv_tableIn (tgt := 92) hx hb dX12_mayHave_1 (by omega) (by omega) (off := 91) (by rw [kc_1]; rfl) (by decide) ?_
    refine lv_iload_n hx hb dX12_mayHave_92 rfl (lv_at hl 1 rfl) ?_
    refine cS_p (As := [.int p2]) (rest := []) ⟨hx, hb, hml, hown, hg⟩ (k_X12_isCell l   p2 ) ca_X12_isCell q5_209 ⟨rfl, rfl⟩ ⟨Nat.le_of_ble_eq_true rfl, Nat.le_of_ble_eq_true rfl⟩ rfl hl.1 rfl (Nat.le_of_ble_eq_true rfl) ⟨Nat.zero_le _, Nat.zero_le _⟩ dX12_mayHave_93 (fun r_5 wr_5 => ?_)
    have wr_5 : (r_5.toInt = 1 ∧ 0 ≤ p2.toInt ∧ p2.toInt < 256) ∨ (r_5.toInt = 0 ∧ ¬ (0 ≤ p2.toInt ∧ p2.toInt < 256)) := wr_5
    exact W.zret (v := r_5) hx hb hr (i_nb (by omega) (by omega)) (fun tt ht hW => ⟨r_5, rfl, (by first | rfl | omega | trivial | assumption | (dsimp only; first | omega | assumption)), ht⟩) (fun _ h => by cases h) dX12_mayHave_96
  ·
    refine lv_tableIn (tgt := 68) hx hb dX12_mayHave_1 (by omega) (by omega) (off := 67) (by rw [kc_1]; rfl) (by decide) ?_
    refine lv_iload_n hx hb dX12_mayHave_68 rfl (lv_at hl 1 rfl) ?_
    refine lv_iconst (v := 1) hx hb dX12_mayHave_69 (by decide) ?_
    refine lv_bipush (v := 20) hx hb dX12_mayHave_70 (by decide) ?_
    refine cS_p (As := [.int p2, .int 1, .int 20]) (rest := []) ⟨hx, hb, hml, hown, hg⟩ (k_X12_in l   p2 1 20 ) ca_X12_in q5_212 ⟨rfl, rfl⟩ ⟨Nat.le_of_ble_eq_true rfl, Nat.le_of_ble_eq_true rfl⟩ rfl hl.1 rfl (Nat.le_of_ble_eq_true rfl) ⟨Nat.zero_le _, Nat.zero_le _⟩ dX12_mayHave_72 (fun r_6 wr_6 => ?_)
    have wr_6 : (r_6.toInt = 1 ∧ (1 : Int) ≤ p2.toInt ∧ p2.toInt ≤ (20 : Int)) ∨ (r_6.toInt = 0 ∧ ¬ ((1 : Int) ≤ p2.toInt ∧ p2.toInt ≤ (20 : Int))) := wr_6
    exact W.zret (v := r_6) hx hb hr (i_nb (by omega) (by omega)) (fun tt ht hW => ⟨r_6, rfl, (by first | rfl | omega | trivial | assumption | (dsimp only; first | omega | assumption)), ht⟩) (fun _ h => by cases h) dX12_mayHave_75
  ·
    refine lv_tableIn (tgt := 76) hx hb dX12_mayHave_1 (by omega) (by omega) (off := 75) (by rw [kc_1]; rfl) (by decide) ?_
    refine lv_iload_n hx hb dX12_mayHave_76 rfl (lv_at hl 1 rfl) ?_
    refine lv_iconst (v := 0) hx hb dX12_mayHave_77 (by decide) ?_
    refine lv_bipush (v := 23) hx hb dX12_mayHave_78 (by decide) ?_
    refine cS_p (As := [.int p2, .int 0, .int 23]) (rest := []) ⟨hx, hb, hml, hown, hg⟩ (k_X12_in l   p2 0 23 ) ca_X12_in q5_212 ⟨rfl, rfl⟩ ⟨Nat.le_of_ble_eq_true rfl, Nat.le_of_ble_eq_true rfl⟩ rfl hl.1 rfl (Nat.le_of_ble_eq_true rfl) ⟨Nat.zero_le _, Nat.zero_le _⟩ dX12_mayHave_80 (fun r_7 wr_7 => ?_)
    have wr_7 : (r_7.toInt = 1 ∧ (0 : Int) ≤ p2.toInt ∧ p2.toInt ≤ (23 : Int)) ∨ (r_7.toInt = 0 ∧ ¬ ((0 : Int) ≤ p2.toInt ∧ p2.toInt ≤ (23 : Int))) := wr_7
    exact W.zret (v := r_7) hx hb hr (i_nb (by omega) (by omega)) (fun tt ht hW => ⟨r_7, rfl, (by first | rfl | omega | trivial | assumption | (dsimp only; first | omega | assumption)), ht⟩) (fun _ h => by cases h) dX12_mayHave_83
  ·
    refine lv_tableIn (tgt := 84) hx hb dX12_mayHave_1 (by omega) (by omega) (off := 83) (by rw [kc_1]; rfl) (by decide) ?_
    refine lv_iload_n hx hb dX12_mayHave_84 rfl (lv_at hl 1 rfl) ?_
    refine lv_iconst (v := 1) hx hb dX12_mayHave_85 (by decide) ?_
    refine lv_bipush (v := 9) hx hb dX12_mayHave_86 (by decide) ?_
    refine cS_p (As := [.int p2, .int 1, .int 9]) (rest := []) ⟨hx, hb, hml, hown, hg⟩ (k_X12_in l   p2 1 9 ) ca_X12_in q5_212 ⟨rfl, rfl⟩ ⟨Nat.le_of_ble_eq_true rfl, Nat.le_of_ble_eq_true rfl⟩ rfl hl.1 rfl (Nat.le_of_ble_eq_true rfl) ⟨Nat.zero_le _, Nat.zero_le _⟩ dX12_mayHave_88 (fun r_8 wr_8 => ?_)
    have wr_8 : (r_8.toInt = 1 ∧ (1 : Int) ≤ p2.toInt ∧ p2.toInt ≤ (9 : Int)) ∨ (r_8.toInt = 0 ∧ ¬ ((1 : Int) ≤ p2.toInt ∧ p2.toInt ≤ (9 : Int))) := wr_8
    exact W.zret (v := r_8) hx hb hr (i_nb (by omega) (by omega)) (fun tt ht hW => ⟨r_8, rfl, (by first | rfl | omega | trivial | assumption | (dsimp only; first | omega | assumption)), ht⟩) (fun _ h => by cases h) dX12_mayHave_91
  ·
    refine lv_tableOut (tgt := 92) hx hb dX12_mayHave_1 kc_1 (by decide) ?_
    refine lv_iload_n hx hb dX12_mayHave_92 rfl (lv_at hl 1 rfl) ?_
    refine cS_p (As := [.int p2]) (rest := []) ⟨hx, hb, hml, hown, hg⟩ (k_X12_isCell l   p2 ) ca_X12_isCell q5_209 ⟨rfl, rfl⟩ ⟨Nat.le_of_ble_eq_true rfl, Nat.le_of_ble_eq_true rfl⟩ rfl hl.1 rfl (Nat.le_of_ble_eq_true rfl) ⟨Nat.zero_le _, Nat.zero_le _⟩ dX12_mayHave_93 (fun r_9 wr_9 => ?_)
    have wr_9 : (r_9.toInt = 1 ∧ 0 ≤ p2.toInt ∧ p2.toInt < 256) ∨ (r_9.toInt = 0 ∧ ¬ (0 ≤ p2.toInt ∧ p2.toInt < 256)) := wr_9
    exact W.zret (v := r_9) hx hb hr (i_nb (by omega) (by omega)) (fun tt ht hW => ⟨r_9, rfl, (by first | rfl | omega | trivial | assumption | (dsimp only; first | omega | assumption)), ht⟩) (fun _ h => by cases h) dX12_mayHave_96
set_option maxHeartbeats 4000000 in
set_option maxRecDepth 100000 in
theorem k_X12_apart (l : Launch)   (p1 : Int32) (p2 : Int32)  : Met l yX12_apart (Cond.code yX12_apart cX12_apart 2 (some .int) :: gw) ({ frames := 0, cells := 0, slots := 0, locals := 0 }) (fun v _ => v = ([.int p1, .int p2] : List Value).toArray) (vp_Si (fun (r : Int32) => True)) 0 0 (fun _ => False) := by
  refine Met.ofW (cc := cX12_apart) (maxL := 2) (ret := (some .int)) (by decide) rfl ?_
  intro p e s m args below meth c s₁ B hml hv
  subst hv
  have hx := B.exec
  have hb := B.bytes
  have hr := B.returns
  have hts := atoms_spec (ws := (Cond.code yX12_apart cX12_apart 2 (some .int) :: gw)) B.pre
  have hg : ∀ w ∈ gw, w.before ([.int p1, .int p2] : List Value).toArray s = true := fun w h => hts w (List.mem_cons_of_mem _ h)
  have hown : s.vm.findClass RX12 = some m.cls := findClass_of_methodNamed B.named
  have hlocks := B.notSynchronized
  have hl := lv_entry ([.int p1, .int p2]) (n := 2) (Nat.le_of_ble_eq_true rfl)
  rw [lg_entry_eq]
  generalize (lg_sl ([.int p1, .int p2]) ++ List.replicate (2 - (lg_sl ([.int p1, .int p2])).length) Slot.unset).toArray = ls at hl ⊢
  have hl : lv_has ls 2 [(0, .int p1), (1, .int p2)] := hl
  refine lv_iload_n hx hb dX12_apart_0 rfl (lv_at hl 0 rfl) ?_
  refine lv_iload_n hx hb dX12_apart_1 rfl (lv_at hl 1 rfl) ?_
  refine lv_icmp_ge (tgt := 11) hx hb dX12_apart_2 (by decide) (fun c_1 => ?_) (fun c_1 => ?_)
  ·
    have kc_1 : p2.toInt ≤ p1.toInt := i_le c_1
    refine lv_iload_n hx hb dX12_apart_11 rfl (lv_at hl 0 rfl) ?_
    refine lv_iload_n hx hb dX12_apart_12 rfl (lv_at hl 1 rfl) ?_
    refine lv_isub hx hb dX12_apart_13 ?_
    refine lv_topi (fun x_2 ex_2 => ?_)
    exact W.iret (v := x_2) hx hb hr (fun tt ht hW => ⟨x_2, rfl, trivial, ht⟩) (fun _ h => by cases h) dX12_apart_14
  ·
    have kc_1 : p1.toInt < p2.toInt := i_nle c_1
    refine lv_iload_n hx hb dX12_apart_5 rfl (lv_at hl 1 rfl) ?_
    refine lv_iload_n hx hb dX12_apart_6 rfl (lv_at hl 0 rfl) ?_
    refine lv_isub hx hb dX12_apart_7 ?_
    refine lv_topi (fun x_3 ex_3 => ?_)
    refine lv_goto (tgt := 14) hx hb dX12_apart_8 (by decide) ?_
    exact W.iret (v := x_3) hx hb hr (fun tt ht hW => ⟨x_3, rfl, trivial, ht⟩) (fun _ h => by cases h) dX12_apart_14
set_option maxHeartbeats 4000000 in
set_option maxRecDepth 100000 in
theorem k_X12_far (l : Launch)   (p1 : Int32) (p2 : Int32)  : Met l yX12_far (Cond.code yX12_far cX12_far 2 (some .int) :: gw) ({ frames := 1, cells := 0, slots := 0, locals := 21 }) (fun v _ => v = ([.int p1, .int p2] : List Value).toArray) (vp_Si (fun (r : Int32) => True)) 0 0 (fun _ => False) := by
  refine Met.ofW (cc := cX12_far) (maxL := 2) (ret := (some .int)) (by decide) rfl ?_
  intro p e s m args below meth c s₁ B hml hv
  subst hv
  have hx := B.exec
  have hb := B.bytes
  have hr := B.returns
  have hts := atoms_spec (ws := (Cond.code yX12_far cX12_far 2 (some .int) :: gw)) B.pre
  have hg : ∀ w ∈ gw, w.before ([.int p1, .int p2] : List Value).toArray s = true := fun w h => hts w (List.mem_cons_of_mem _ h)
  have hown : s.vm.findClass RX12 = some m.cls := findClass_of_methodNamed B.named
  have hlocks := B.notSynchronized
  have hl := lv_entry ([.int p1, .int p2]) (n := 2) (Nat.le_of_ble_eq_true rfl)
  rw [lg_entry_eq]
  generalize (lg_sl ([.int p1, .int p2]) ++ List.replicate (2 - (lg_sl ([.int p1, .int p2])).length) Slot.unset).toArray = ls at hl ⊢
  have hl : lv_has ls 2 [(0, .int p1), (1, .int p2)] := hl
  refine lv_iload_n hx hb dX12_far_0 rfl (lv_at hl 0 rfl) ?_
  refine lv_bipush (v := 16) hx hb dX12_far_1 (by decide) ?_
  refine lv_irem hx hb dX12_far_3 (by decide) ?_
  refine lv_topi (fun x_1 ex_1 => ?_)
  refine lv_iload_n hx hb dX12_far_4 rfl (lv_at hl 1 rfl) ?_
  refine lv_bipush (v := 16) hx hb dX12_far_5 (by decide) ?_
  refine lv_irem hx hb dX12_far_7 (by decide) ?_
  refine lv_topi (fun x_2 ex_2 => ?_)
  refine cS_p (As := [.int x_1, .int x_2]) (rest := []) ⟨hx, hb, hml, hown, hg⟩ (k_X12_apart l   x_1 x_2 ) ca_X12_apart q6_104 ⟨rfl, rfl⟩ ⟨Nat.le_of_ble_eq_true rfl, Nat.le_of_ble_eq_true rfl⟩ rfl hl.1 rfl (Nat.le_of_ble_eq_true rfl) ⟨Nat.zero_le _, Nat.zero_le _⟩ dX12_far_8 (fun r_3 wr_3 => ?_)
  refine lv_iload_n hx hb dX12_far_11 rfl (lv_at hl 0 rfl) ?_
  refine lv_bipush (v := 16) hx hb dX12_far_12 (by decide) ?_
  refine lv_idiv hx hb dX12_far_14 (by decide) ?_
  refine lv_topi (fun x_4 ex_4 => ?_)
  refine lv_iload_n hx hb dX12_far_15 rfl (lv_at hl 1 rfl) ?_
  refine lv_bipush (v := 16) hx hb dX12_far_16 (by decide) ?_
  refine lv_idiv hx hb dX12_far_18 (by decide) ?_
  refine lv_topi (fun x_5 ex_5 => ?_)
  refine cS_p (As := [.int x_4, .int x_5]) (rest := [.int r_3]) ⟨hx, hb, hml, hown, hg⟩ (k_X12_apart l   x_4 x_5 ) ca_X12_apart q6_104 ⟨rfl, rfl⟩ ⟨Nat.le_of_ble_eq_true rfl, Nat.le_of_ble_eq_true rfl⟩ rfl hl.1 rfl (Nat.le_of_ble_eq_true rfl) ⟨Nat.zero_le _, Nat.zero_le _⟩ dX12_far_19 (fun r_6 wr_6 => ?_)
  refine lv_iadd hx hb dX12_far_22 ?_
  refine lv_topi (fun x_7 ex_7 => ?_)
  exact W.iret (v := x_7) hx hb hr (fun tt ht hW => ⟨x_7, rfl, trivial, ht⟩) (fun _ h => by cases h) dX12_far_23
set_option maxHeartbeats 4000000 in
set_option maxRecDepth 100000 in
theorem k_X12_bitsOf (l : Launch)   (p1 : Int32)  : Met l yX12_bitsOf (Cond.code yX12_bitsOf cX12_bitsOf 3 (some .int) :: gw) ({ frames := 0, cells := 0, slots := 0, locals := 0 }) (fun v _ => v = ([.int p1] : List Value).toArray) (vp_Si (fun (r : Int32) => True)) 0 0 (fun _ => False) := by
  refine Met.ofW (cc := cX12_bitsOf) (maxL := 3) (ret := (some .int)) (by decide) rfl ?_
  intro p e s m args below meth c s₁ B hml hv
  subst hv
  have hx := B.exec
  have hb := B.bytes
  have hr := B.returns
  have hts := atoms_spec (ws := (Cond.code yX12_bitsOf cX12_bitsOf 3 (some .int) :: gw)) B.pre
  have hg : ∀ w ∈ gw, w.before ([.int p1] : List Value).toArray s = true := fun w h => hts w (List.mem_cons_of_mem _ h)
  have hown : s.vm.findClass RX12 = some m.cls := findClass_of_methodNamed B.named
  have hlocks := B.notSynchronized
  have hl := lv_entry ([.int p1]) (n := 3) (Nat.le_of_ble_eq_true rfl)
  rw [lg_entry_eq]
  generalize (lg_sl ([.int p1]) ++ List.replicate (3 - (lg_sl ([.int p1])).length) Slot.unset).toArray = ls at hl ⊢
  have hl : lv_has ls 3 [(0, .int p1)] := hl
  have hcut : ∀ nk : Nat, (∀ (x1 : Int32) (x2 : Int32) (hmu : x2.toBitVec.toNat < nk) (ls : Array Slot) (hl : lv_has ls 3 [(0, .int p1), (1, .int x1), (2, .int x2)]), W p l e (headSpec (Cond.code yX12_bitsOf cX12_bitsOf 3 (some .int) :: gw) ({ frames := 0, cells := 0, slots := 0, locals := 0 })).room s m ([.int p1] : List Value).toArray below meth c s.heap [] 0 0 (MQ below (vp_Si (fun (r : Int32) => True)) ([.int p1] : List Value).toArray s 0 0 (fun _ => False)) (F0 m 4 ls [])) := by
    intro nk
    induction nk with
    | zero => exact (fun x1 x2 hmu ls hl => absurd hmu (Nat.not_lt_zero _))
    | succ nk ih =>
      intro x1 x2 hmu ls hl
      refine lv_iload_n hx hb dX12_bitsOf_4 rfl (lv_at hl 2 rfl) ?_
      refine lv_if_eq (tgt := 20) hx hb dX12_bitsOf_5 (by decide) (fun c_1 => ?_) (fun c_1 => ?_)
      ·
        have kc_1 : x2.toInt = (0 : Int) := i_eq c_1
        refine lv_iload_n hx hb dX12_bitsOf_20 rfl (lv_at hl 1 rfl) ?_
        exact W.iret (v := x1) hx hb hr (fun tt ht hW => ⟨x1, rfl, trivial, ht⟩) (fun _ h => by cases h) dX12_bitsOf_21
      ·
        have kc_1 : x2.toInt ≠ (0 : Int) := i_ne c_1
        obtain ⟨x_2, ex_2⟩ : ∃ y : Int32, y = x1 + 1 := ⟨_, rfl⟩
        refine lv_iinc (v := x_2) (lv' := [(1, .int x_2), (0, .int p1), (2, .int x2)]) hx hb dX12_bitsOf_8 hl (k := 1) rfl (by rw [ex_2]; rfl) (by decide) rfl (fun ls hl => ?_)
        refine lv_iload_n hx hb dX12_bitsOf_11 rfl (lv_at hl 2 rfl) ?_
        refine lv_iload_n hx hb dX12_bitsOf_12 rfl (lv_at hl 2 rfl) ?_
        refine lv_iconst (v := 1) hx hb dX12_bitsOf_13 (by decide) ?_
        refine lv_isub hx hb dX12_bitsOf_14 ?_
        refine lv_topi (fun x_3 ex_3 => ?_)
        refine lv_iand hx hb dX12_bitsOf_15 ?_
        refine lv_topi (fun x_4 ex_4 => ?_)
        have hfall : x_4.toBitVec.toNat < x2.toBitVec.toNat := by rw [ex_4, ex_3]; exact i_fall (by omega)
        refine lv_istore_n (lv' := [(2, .int x_4), (1, .int x_2), (0, .int p1)]) hx hb dX12_bitsOf_16 rfl hl (by decide) rfl (fun ls hl => ?_)
        refine lv_goto (tgt := 4) hx hb dX12_bitsOf_17 (by decide) ?_
        exact ih x_2 x_4 (by omega) ls (lv_sub hl [2, 1, 0] rfl)
  refine lv_iconst (v := 0) hx hb dX12_bitsOf_0 (by decide) ?_
  refine lv_istore_n (lv' := [(1, .int 0), (0, .int p1)]) hx hb dX12_bitsOf_1 rfl hl (by decide) rfl (fun ls hl => ?_)
  refine lv_iload_n hx hb dX12_bitsOf_2 rfl (lv_at hl 1 rfl) ?_
  refine lv_istore_n (lv' := [(2, .int p1), (1, .int 0), (0, .int p1)]) hx hb dX12_bitsOf_3 rfl hl (by decide) rfl (fun ls hl => ?_)
  have q0_0 : (0 : Int32).toInt = 0 := rfl
  exact (hcut (p1.toBitVec.toNat + 1)) 0 p1 (Nat.lt_succ_self _) ls (lv_sub hl [2, 1, 0] rfl)
set_option maxHeartbeats 4000000 in
set_option maxRecDepth 100000 in
theorem k_X12_nearer (l : Launch)   (p1 : Int32) (p2 : Int32) (p3 : Int32)  : Met l yX12_nearer (Cond.code yX12_nearer cX12_nearer 3 (some .int) :: gw) ({ frames := 0, cells := 0, slots := 0, locals := 0 }) (fun v _ => v = ([.int p1, .int p2, .int p3] : List Value).toArray) (vp_Si (fun (r : Int32) => True)) 0 0 (fun _ => False) := by
  refine Met.ofW (cc := cX12_nearer) (maxL := 3) (ret := (some .int)) (by decide) rfl ?_
  intro p e s m args below meth c s₁ B hml hv
  subst hv
  have hx := B.exec
  have hb := B.bytes
  have hr := B.returns
  have hts := atoms_spec (ws := (Cond.code yX12_nearer cX12_nearer 3 (some .int) :: gw)) B.pre
  have hg : ∀ w ∈ gw, w.before ([.int p1, .int p2, .int p3] : List Value).toArray s = true := fun w h => hts w (List.mem_cons_of_mem _ h)
  have hown : s.vm.findClass RX12 = some m.cls := findClass_of_methodNamed B.named
  have hlocks := B.notSynchronized
  have hl := lv_entry ([.int p1, .int p2, .int p3]) (n := 3) (Nat.le_of_ble_eq_true rfl)
  rw [lg_entry_eq]
  generalize (lg_sl ([.int p1, .int p2, .int p3]) ++ List.replicate (3 - (lg_sl ([.int p1, .int p2, .int p3])).length) Slot.unset).toArray = ls at hl ⊢
  have hl : lv_has ls 3 [(0, .int p1), (1, .int p2), (2, .int p3)] := hl
  refine lv_iload_n hx hb dX12_nearer_0 rfl (lv_at hl 0 rfl) ?_
  refine lv_iload_n hx hb dX12_nearer_1 rfl (lv_at hl 1 rfl) ?_
  refine lv_icmp_ge (tgt := 22) hx hb dX12_nearer_2 (by decide) (fun c_1 => ?_) (fun c_1 => ?_)
  ·
    have kc_1 : p2.toInt ≤ p1.toInt := i_le c_1
    refine lv_iload_n hx hb dX12_nearer_22 rfl (lv_at hl 0 rfl) ?_
    refine lv_iload_n hx hb dX12_nearer_23 rfl (lv_at hl 1 rfl) ?_
    refine lv_isub hx hb dX12_nearer_24 ?_
    refine lv_topi (fun x_2 ex_2 => ?_)
    refine lv_iload_n hx hb dX12_nearer_25 rfl (lv_at hl 2 rfl) ?_
    refine lv_icmp_ge (tgt := 33) hx hb dX12_nearer_26 (by decide) (fun c_3 => ?_) (fun c_3 => ?_)
    ·
      have kc_3 : p3.toInt ≤ x_2.toInt := i_le c_3
      refine lv_iload_n hx hb dX12_nearer_33 rfl (lv_at hl 0 rfl) ?_
      refine lv_iload_n hx hb dX12_nearer_34 rfl (lv_at hl 2 rfl) ?_
      refine lv_isub hx hb dX12_nearer_35 ?_
      refine lv_topi (fun x_4 ex_4 => ?_)
      exact W.iret (v := x_4) hx hb hr (fun tt ht hW => ⟨x_4, rfl, trivial, ht⟩) (fun _ h => by cases h) dX12_nearer_36
    ·
      have kc_3 : x_2.toInt < p3.toInt := i_nle c_3
      refine lv_iload_n hx hb dX12_nearer_29 rfl (lv_at hl 1 rfl) ?_
      refine lv_goto (tgt := 36) hx hb dX12_nearer_30 (by decide) ?_
      exact W.iret (v := p2) hx hb hr (fun tt ht hW => ⟨p2, rfl, trivial, ht⟩) (fun _ h => by cases h) dX12_nearer_36
  ·
    have kc_1 : p1.toInt < p2.toInt := i_nle c_1
    refine lv_iload_n hx hb dX12_nearer_5 rfl (lv_at hl 1 rfl) ?_
    refine lv_iload_n hx hb dX12_nearer_6 rfl (lv_at hl 0 rfl) ?_
    refine lv_isub hx hb dX12_nearer_7 ?_
    refine lv_topi (fun x_5 ex_5 => ?_)
    refine lv_iload_n hx hb dX12_nearer_8 rfl (lv_at hl 2 rfl) ?_
    refine lv_icmp_ge (tgt := 16) hx hb dX12_nearer_9 (by decide) (fun c_6 => ?_) (fun c_6 => ?_)
    ·
      have kc_6 : p3.toInt ≤ x_5.toInt := i_le c_6
      refine lv_iload_n hx hb dX12_nearer_16 rfl (lv_at hl 0 rfl) ?_
      refine lv_iload_n hx hb dX12_nearer_17 rfl (lv_at hl 2 rfl) ?_
      refine lv_iadd hx hb dX12_nearer_18 ?_
      refine lv_topi (fun x_7 ex_7 => ?_)
      refine lv_goto (tgt := 36) hx hb dX12_nearer_19 (by decide) ?_
      exact W.iret (v := x_7) hx hb hr (fun tt ht hW => ⟨x_7, rfl, trivial, ht⟩) (fun _ h => by cases h) dX12_nearer_36
    ·
      have kc_6 : x_5.toInt < p3.toInt := i_nle c_6
      refine lv_iload_n hx hb dX12_nearer_12 rfl (lv_at hl 1 rfl) ?_
      refine lv_goto (tgt := 36) hx hb dX12_nearer_13 (by decide) ?_
      exact W.iret (v := p2) hx hb hr (fun tt ht hW => ⟨p2, rfl, trivial, ht⟩) (fun _ h => by cases h) dX12_nearer_36
set_option maxHeartbeats 4000000 in
set_option maxRecDepth 100000 in
theorem k_X12_twoOf (l : Launch)   (p1 : Int32) (p2 : Int32) (p3 : Int32)  : Met l yX12_twoOf (Cond.code yX12_twoOf cX12_twoOf 3 (some .int) :: gw) ({ frames := 0, cells := 0, slots := 0, locals := 0 }) (fun v _ => v = ([.int p1, .int p2, .int p3] : List Value).toArray) (vp_Si (fun (r : Int32) => True)) 0 0 (fun _ => False) := by
  refine Met.ofW (cc := cX12_twoOf) (maxL := 3) (ret := (some .int)) (by decide) rfl ?_
  intro p e s m args below meth c s₁ B hml hv
  subst hv
  have hx := B.exec
  have hb := B.bytes
  have hr := B.returns
  have hts := atoms_spec (ws := (Cond.code yX12_twoOf cX12_twoOf 3 (some .int) :: gw)) B.pre
  have hg : ∀ w ∈ gw, w.before ([.int p1, .int p2, .int p3] : List Value).toArray s = true := fun w h => hts w (List.mem_cons_of_mem _ h)
  have hown : s.vm.findClass RX12 = some m.cls := findClass_of_methodNamed B.named
  have hlocks := B.notSynchronized
  have hl := lv_entry ([.int p1, .int p2, .int p3]) (n := 3) (Nat.le_of_ble_eq_true rfl)
  rw [lg_entry_eq]
  generalize (lg_sl ([.int p1, .int p2, .int p3]) ++ List.replicate (3 - (lg_sl ([.int p1, .int p2, .int p3])).length) Slot.unset).toArray = ls at hl ⊢
  have hl : lv_has ls 3 [(0, .int p1), (1, .int p2), (2, .int p3)] := hl
  refine lv_iload_n hx hb dX12_twoOf_0 rfl (lv_at hl 0 rfl) ?_
  rcases (show p1.toInt = 37 ∨ p1.toInt = 38 ∨ p1.toInt = 39 ∨ p1.toInt = 40 ∨ p1.toInt = 41 ∨ p1.toInt = 42 ∨ p1.toInt = 43 ∨ p1.toInt = 44 ∨ p1.toInt = 45 ∨ p1.toInt = 46 ∨ p1.toInt = 47 ∨ p1.toInt = 48 ∨ p1.toInt = 49 ∨ p1.toInt = 50 ∨ p1.toInt = 51 ∨ p1.toInt = 52 ∨ p1.toInt = 53 ∨ p1.toInt = 54 ∨ p1.toInt = 55 ∨ p1.toInt = 56 ∨ p1.toInt = 57 ∨ p1.toInt = 58 ∨ p1.toInt = 59 ∨ p1.toInt = 60 ∨ p1.toInt = 61 ∨ p1.toInt = 62 ∨ (p1.toInt < 37 ∨ 62 < p1.toInt) by omega) with kc_1 | kc_1 | kc_1 | kc_1 | kc_1 | kc_1 | kc_1 | kc_1 | kc_1 | kc_1 | kc_1 | kc_1 | kc_1 | kc_1 | kc_1 | kc_1 | kc_1 | kc_1 | kc_1 | kc_1 | kc_1 | kc_1 | kc_1 | kc_1 | kc_1 | kc_1 | kc_1
  ·
    refine lv_tableIn (tgt := 154) hx hb dX12_twoOf_1 (by omega) (by omega) (off := 153) (by rw [kc_1]; rfl) (by decide) ?_
    refine lv_iload_n hx hb dX12_twoOf_154 rfl (lv_at hl 2 rfl) ?_
    refine lv_if_eq (tgt := 163) hx hb dX12_twoOf_155 (by decide) (fun c_2 => ?_) (fun c_2 => ?_)
    ·
      have kc_2 : p3.toInt = (0 : Int) := i_eq c_2
      refine lv_iconst (v := 0) hx hb dX12_twoOf_163 (by decide) ?_
      refine lv_goto (tgt := 170) hx hb dX12_twoOf_164 (by decide) ?_
      have q0_0 : (0 : Int32).toInt = 0 := rfl
      exact W.iret (v := 0) hx hb hr (fun tt ht hW => ⟨0, rfl, trivial, ht⟩) (fun _ h => by cases h) dX12_twoOf_170
    ·
      have kc_2 : p3.toInt ≠ (0 : Int) := i_ne c_2
      refine lv_iload_n hx hb dX12_twoOf_158 rfl (lv_at hl 2 rfl) ?_
      refine lv_iconst (v := (-1)) hx hb dX12_twoOf_159 (by decide) ?_
      refine lv_icmp_ne (tgt := 167) hx hb dX12_twoOf_160 (by decide) (fun c_3 => ?_) (fun c_3 => ?_)
      ·
        have kc_3 : p3.toInt ≠ (-1 : Int) := i_ne c_3
        refine lv_iload_n hx hb dX12_twoOf_167 rfl (lv_at hl 1 rfl) ?_
        refine lv_iload_n hx hb dX12_twoOf_168 rfl (lv_at hl 2 rfl) ?_
        refine lv_irem hx hb dX12_twoOf_169 (fun q => by have q0 : p3.toInt = 0 := i_eq q; omega) ?_
        refine lv_topi (fun x_4 ex_4 => ?_)
        exact W.iret (v := x_4) hx hb hr (fun tt ht hW => ⟨x_4, rfl, trivial, ht⟩) (fun _ h => by cases h) dX12_twoOf_170
      ·
        have kc_3 : p3.toInt = (-1 : Int) := i_eq c_3
        refine lv_iconst (v := 0) hx hb dX12_twoOf_163 (by decide) ?_
        refine lv_goto (tgt := 170) hx hb dX12_twoOf_164 (by decide) ?_
        have q0_0 : (0 : Int32).toInt = 0 := rfl
        exact W.iret (v := 0) hx hb hr (fun tt ht hW => ⟨0, rfl, trivial, ht⟩) (fun _ h => by cases h) dX12_twoOf_170
  ·
    refine lv_tableIn (tgt := 204) hx hb dX12_twoOf_1 (by omega) (by omega) (off := 203) (by rw [kc_1]; rfl) (by decide) ?_
    refine lv_iload_n hx hb dX12_twoOf_204 rfl (lv_at hl 1 rfl) ?_
    refine lv_if_eq (tgt := 216) hx hb dX12_twoOf_205 (by decide) (fun c_5 => ?_) (fun c_5 => ?_)
    ·
      have kc_5 : p2.toInt = (0 : Int) := i_eq c_5
      refine lv_iconst (v := 0) hx hb dX12_twoOf_216 (by decide) ?_
      have q0_0 : (0 : Int32).toInt = 0 := rfl
      exact W.iret (v := 0) hx hb hr (fun tt ht hW => ⟨0, rfl, trivial, ht⟩) (fun _ h => by cases h) dX12_twoOf_217
    ·
      have kc_5 : p2.toInt ≠ (0 : Int) := i_ne c_5
      refine lv_iload_n hx hb dX12_twoOf_208 rfl (lv_at hl 2 rfl) ?_
      refine lv_if_eq (tgt := 216) hx hb dX12_twoOf_209 (by decide) (fun c_6 => ?_) (fun c_6 => ?_)
      ·
        have kc_6 : p3.toInt = (0 : Int) := i_eq c_6
        refine lv_iconst (v := 0) hx hb dX12_twoOf_216 (by decide) ?_
        have q0_0 : (0 : Int32).toInt = 0 := rfl
        exact W.iret (v := 0) hx hb hr (fun tt ht hW => ⟨0, rfl, trivial, ht⟩) (fun _ h => by cases h) dX12_twoOf_217
      ·
        have kc_6 : p3.toInt ≠ (0 : Int) := i_ne c_6
        refine lv_iconst (v := 1) hx hb dX12_twoOf_212 (by decide) ?_
        refine lv_goto (tgt := 217) hx hb dX12_twoOf_213 (by decide) ?_
        have q0_1 : (1 : Int32).toInt = 1 := rfl
        exact W.iret (v := 1) hx hb hr (fun tt ht hW => ⟨1, rfl, trivial, ht⟩) (fun _ h => by cases h) dX12_twoOf_217
  ·
    refine lv_tableIn (tgt := 218) hx hb dX12_twoOf_1 (by omega) (by omega) (off := 217) (by rw [kc_1]; rfl) (by decide) ?_
    refine lv_iload_n hx hb dX12_twoOf_218 rfl (lv_at hl 1 rfl) ?_
    refine lv_if_ne (tgt := 226) hx hb dX12_twoOf_219 (by decide) (fun c_7 => ?_) (fun c_7 => ?_)
    ·
      have kc_7 : p2.toInt ≠ (0 : Int) := i_ne c_7
      refine lv_iconst (v := 1) hx hb dX12_twoOf_226 (by decide) ?_
      refine lv_goto (tgt := 231) hx hb dX12_twoOf_227 (by decide) ?_
      have q0_1 : (1 : Int32).toInt = 1 := rfl
      exact W.iret (v := 1) hx hb hr (fun tt ht hW => ⟨1, rfl, trivial, ht⟩) (fun _ h => by cases h) dX12_twoOf_231
    ·
      have kc_7 : p2.toInt = (0 : Int) := i_eq c_7
      refine lv_iload_n hx hb dX12_twoOf_222 rfl (lv_at hl 2 rfl) ?_
      refine lv_if_eq (tgt := 230) hx hb dX12_twoOf_223 (by decide) (fun c_8 => ?_) (fun c_8 => ?_)
      ·
        have kc_8 : p3.toInt = (0 : Int) := i_eq c_8
        refine lv_iconst (v := 0) hx hb dX12_twoOf_230 (by decide) ?_
        have q0_0 : (0 : Int32).toInt = 0 := rfl
        exact W.iret (v := 0) hx hb hr (fun tt ht hW => ⟨0, rfl, trivial, ht⟩) (fun _ h => by cases h) dX12_twoOf_231
      ·
        have kc_8 : p3.toInt ≠ (0 : Int) := i_ne c_8
        refine lv_iconst (v := 1) hx hb dX12_twoOf_226 (by decide) ?_
        refine lv_goto (tgt := 231) hx hb dX12_twoOf_227 (by decide) ?_
        have q0_1 : (1 : Int32).toInt = 1 := rfl
        exact W.iret (v := 1) hx hb hr (fun tt ht hW => ⟨1, rfl, trivial, ht⟩) (fun _ h => by cases h) dX12_twoOf_231
  ·
    refine lv_tableIn (tgt := 218) hx hb dX12_twoOf_1 (by omega) (by omega) (off := 217) (by rw [kc_1]; rfl) (by decide) ?_
    refine lv_iload_n hx hb dX12_twoOf_218 rfl (lv_at hl 1 rfl) ?_
    refine lv_if_ne (tgt := 226) hx hb dX12_twoOf_219 (by decide) (fun c_9 => ?_) (fun c_9 => ?_)
    ·
      have kc_9 : p2.toInt ≠ (0 : Int) := i_ne c_9
      refine lv_iconst (v := 1) hx hb dX12_twoOf_226 (by decide) ?_
      refine lv_goto (tgt := 231) hx hb dX12_twoOf_227 (by decide) ?_
      have q0_1 : (1 : Int32).toInt = 1 := rfl
      exact W.iret (v := 1) hx hb hr (fun tt ht hW => ⟨1, rfl, trivial, ht⟩) (fun _ h => by cases h) dX12_twoOf_231
    ·
      have kc_9 : p2.toInt = (0 : Int) := i_eq c_9
      refine lv_iload_n hx hb dX12_twoOf_222 rfl (lv_at hl 2 rfl) ?_
      refine lv_if_eq (tgt := 230) hx hb dX12_twoOf_223 (by decide) (fun c_10 => ?_) (fun c_10 => ?_)
      ·
        have kc_10 : p3.toInt = (0 : Int) := i_eq c_10
        refine lv_iconst (v := 0) hx hb dX12_twoOf_230 (by decide) ?_
        have q0_0 : (0 : Int32).toInt = 0 := rfl
        exact W.iret (v := 0) hx hb hr (fun tt ht hW => ⟨0, rfl, trivial, ht⟩) (fun _ h => by cases h) dX12_twoOf_231
      ·
        have kc_10 : p3.toInt ≠ (0 : Int) := i_ne c_10
        refine lv_iconst (v := 1) hx hb dX12_twoOf_226 (by decide) ?_
        refine lv_goto (tgt := 231) hx hb dX12_twoOf_227 (by decide) ?_
        have q0_1 : (1 : Int32).toInt = 1 := rfl
        exact W.iret (v := 1) hx hb hr (fun tt ht hW => ⟨1, rfl, trivial, ht⟩) (fun _ h => by cases h) dX12_twoOf_231
  ·
    refine lv_tableIn (tgt := 218) hx hb dX12_twoOf_1 (by omega) (by omega) (off := 217) (by rw [kc_1]; rfl) (by decide) ?_
    refine lv_iload_n hx hb dX12_twoOf_218 rfl (lv_at hl 1 rfl) ?_
    refine lv_if_ne (tgt := 226) hx hb dX12_twoOf_219 (by decide) (fun c_11 => ?_) (fun c_11 => ?_)
    ·
      have kc_11 : p2.toInt ≠ (0 : Int) := i_ne c_11
      refine lv_iconst (v := 1) hx hb dX12_twoOf_226 (by decide) ?_
      refine lv_goto (tgt := 231) hx hb dX12_twoOf_227 (by decide) ?_
      have q0_1 : (1 : Int32).toInt = 1 := rfl
      exact W.iret (v := 1) hx hb hr (fun tt ht hW => ⟨1, rfl, trivial, ht⟩) (fun _ h => by cases h) dX12_twoOf_231
    ·
      have kc_11 : p2.toInt = (0 : Int) := i_eq c_11
      refine lv_iload_n hx hb dX12_twoOf_222 rfl (lv_at hl 2 rfl) ?_
      refine lv_if_eq (tgt := 230) hx hb dX12_twoOf_223 (by decide) (fun c_12 => ?_) (fun c_12 => ?_)
      ·
        have kc_12 : p3.toInt = (0 : Int) := i_eq c_12
        refine lv_iconst (v := 0) hx hb dX12_twoOf_230 (by decide) ?_
        have q0_0 : (0 : Int32).toInt = 0 := rfl
        exact W.iret (v := 0) hx hb hr (fun tt ht hW => ⟨0, rfl, trivial, ht⟩) (fun _ h => by cases h) dX12_twoOf_231
      ·
        have kc_12 : p3.toInt ≠ (0 : Int) := i_ne c_12
        refine lv_iconst (v := 1) hx hb dX12_twoOf_226 (by decide) ?_
        refine lv_goto (tgt := 231) hx hb dX12_twoOf_227 (by decide) ?_
        have q0_1 : (1 : Int32).toInt = 1 := rfl
        exact W.iret (v := 1) hx hb hr (fun tt ht hW => ⟨1, rfl, trivial, ht⟩) (fun _ h => by cases h) dX12_twoOf_231
  ·
    refine lv_tableIn (tgt := 128) hx hb dX12_twoOf_1 (by omega) (by omega) (off := 127) (by rw [kc_1]; rfl) (by decide) ?_
    refine lv_iload_n hx hb dX12_twoOf_128 rfl (lv_at hl 1 rfl) ?_
    refine lv_iload_n hx hb dX12_twoOf_129 rfl (lv_at hl 2 rfl) ?_
    refine lv_imul hx hb dX12_twoOf_130 ?_
    refine lv_topi (fun x_13 ex_13 => ?_)
    exact W.iret (v := x_13) hx hb hr (fun tt ht hW => ⟨x_13, rfl, trivial, ht⟩) (fun _ h => by cases h) dX12_twoOf_131
  ·
    refine lv_tableIn (tgt := 120) hx hb dX12_twoOf_1 (by omega) (by omega) (off := 119) (by rw [kc_1]; rfl) (by decide) ?_
    refine lv_iload_n hx hb dX12_twoOf_120 rfl (lv_at hl 1 rfl) ?_
    refine lv_iload_n hx hb dX12_twoOf_121 rfl (lv_at hl 2 rfl) ?_
    refine lv_iadd hx hb dX12_twoOf_122 ?_
    refine lv_topi (fun x_14 ex_14 => ?_)
    exact W.iret (v := x_14) hx hb hr (fun tt ht hW => ⟨x_14, rfl, trivial, ht⟩) (fun _ h => by cases h) dX12_twoOf_123
  ·
    refine lv_tableIn (tgt := 218) hx hb dX12_twoOf_1 (by omega) (by omega) (off := 217) (by rw [kc_1]; rfl) (by decide) ?_
    refine lv_iload_n hx hb dX12_twoOf_218 rfl (lv_at hl 1 rfl) ?_
    refine lv_if_ne (tgt := 226) hx hb dX12_twoOf_219 (by decide) (fun c_15 => ?_) (fun c_15 => ?_)
    ·
      have kc_15 : p2.toInt ≠ (0 : Int) := i_ne c_15
      refine lv_iconst (v := 1) hx hb dX12_twoOf_226 (by decide) ?_
      refine lv_goto (tgt := 231) hx hb dX12_twoOf_227 (by decide) ?_
      have q0_1 : (1 : Int32).toInt = 1 := rfl
      exact W.iret (v := 1) hx hb hr (fun tt ht hW => ⟨1, rfl, trivial, ht⟩) (fun _ h => by cases h) dX12_twoOf_231
    ·
      have kc_15 : p2.toInt = (0 : Int) := i_eq c_15
      refine lv_iload_n hx hb dX12_twoOf_222 rfl (lv_at hl 2 rfl) ?_
      refine lv_if_eq (tgt := 230) hx hb dX12_twoOf_223 (by decide) (fun c_16 => ?_) (fun c_16 => ?_)
      ·
        have kc_16 : p3.toInt = (0 : Int) := i_eq c_16
        refine lv_iconst (v := 0) hx hb dX12_twoOf_230 (by decide) ?_
        have q0_0 : (0 : Int32).toInt = 0 := rfl
        exact W.iret (v := 0) hx hb hr (fun tt ht hW => ⟨0, rfl, trivial, ht⟩) (fun _ h => by cases h) dX12_twoOf_231
      ·
        have kc_16 : p3.toInt ≠ (0 : Int) := i_ne c_16
        refine lv_iconst (v := 1) hx hb dX12_twoOf_226 (by decide) ?_
        refine lv_goto (tgt := 231) hx hb dX12_twoOf_227 (by decide) ?_
        have q0_1 : (1 : Int32).toInt = 1 := rfl
        exact W.iret (v := 1) hx hb hr (fun tt ht hW => ⟨1, rfl, trivial, ht⟩) (fun _ h => by cases h) dX12_twoOf_231
  ·
    refine lv_tableIn (tgt := 124) hx hb dX12_twoOf_1 (by omega) (by omega) (off := 123) (by rw [kc_1]; rfl) (by decide) ?_
    refine lv_iload_n hx hb dX12_twoOf_124 rfl (lv_at hl 1 rfl) ?_
    refine lv_iload_n hx hb dX12_twoOf_125 rfl (lv_at hl 2 rfl) ?_
    refine lv_isub hx hb dX12_twoOf_126 ?_
    refine lv_topi (fun x_17 ex_17 => ?_)
    exact W.iret (v := x_17) hx hb hr (fun tt ht hW => ⟨x_17, rfl, trivial, ht⟩) (fun _ h => by cases h) dX12_twoOf_127
  ·
    refine lv_tableIn (tgt := 218) hx hb dX12_twoOf_1 (by omega) (by omega) (off := 217) (by rw [kc_1]; rfl) (by decide) ?_
    refine lv_iload_n hx hb dX12_twoOf_218 rfl (lv_at hl 1 rfl) ?_
    refine lv_if_ne (tgt := 226) hx hb dX12_twoOf_219 (by decide) (fun c_18 => ?_) (fun c_18 => ?_)
    ·
      have kc_18 : p2.toInt ≠ (0 : Int) := i_ne c_18
      refine lv_iconst (v := 1) hx hb dX12_twoOf_226 (by decide) ?_
      refine lv_goto (tgt := 231) hx hb dX12_twoOf_227 (by decide) ?_
      have q0_1 : (1 : Int32).toInt = 1 := rfl
      exact W.iret (v := 1) hx hb hr (fun tt ht hW => ⟨1, rfl, trivial, ht⟩) (fun _ h => by cases h) dX12_twoOf_231
    ·
      have kc_18 : p2.toInt = (0 : Int) := i_eq c_18
      refine lv_iload_n hx hb dX12_twoOf_222 rfl (lv_at hl 2 rfl) ?_
      refine lv_if_eq (tgt := 230) hx hb dX12_twoOf_223 (by decide) (fun c_19 => ?_) (fun c_19 => ?_)
      ·
        have kc_19 : p3.toInt = (0 : Int) := i_eq c_19
        refine lv_iconst (v := 0) hx hb dX12_twoOf_230 (by decide) ?_
        have q0_0 : (0 : Int32).toInt = 0 := rfl
        exact W.iret (v := 0) hx hb hr (fun tt ht hW => ⟨0, rfl, trivial, ht⟩) (fun _ h => by cases h) dX12_twoOf_231
      ·
        have kc_19 : p3.toInt ≠ (0 : Int) := i_ne c_19
        refine lv_iconst (v := 1) hx hb dX12_twoOf_226 (by decide) ?_
        refine lv_goto (tgt := 231) hx hb dX12_twoOf_227 (by decide) ?_
        have q0_1 : (1 : Int32).toInt = 1 := rfl
        exact W.iret (v := 1) hx hb hr (fun tt ht hW => ⟨1, rfl, trivial, ht⟩) (fun _ h => by cases h) dX12_twoOf_231
  ·
    refine lv_tableIn (tgt := 132) hx hb dX12_twoOf_1 (by omega) (by omega) (off := 131) (by rw [kc_1]; rfl) (by decide) ?_
    refine lv_iload_n hx hb dX12_twoOf_132 rfl (lv_at hl 2 rfl) ?_
    refine lv_if_ne (tgt := 140) hx hb dX12_twoOf_133 (by decide) (fun c_20 => ?_) (fun c_20 => ?_)
    ·
      have kc_20 : p3.toInt ≠ (0 : Int) := i_ne c_20
      refine lv_iload_n hx hb dX12_twoOf_140 rfl (lv_at hl 2 rfl) ?_
      refine lv_iconst (v := (-1)) hx hb dX12_twoOf_141 (by decide) ?_
      refine lv_icmp_ne (tgt := 150) hx hb dX12_twoOf_142 (by decide) (fun c_21 => ?_) (fun c_21 => ?_)
      ·
        have kc_21 : p3.toInt ≠ (-1 : Int) := i_ne c_21
        refine lv_iload_n hx hb dX12_twoOf_150 rfl (lv_at hl 1 rfl) ?_
        refine lv_iload_n hx hb dX12_twoOf_151 rfl (lv_at hl 2 rfl) ?_
        refine lv_idiv hx hb dX12_twoOf_152 (fun q => by have q0 : p3.toInt = 0 := i_eq q; omega) ?_
        refine lv_topi (fun x_22 ex_22 => ?_)
        exact W.iret (v := x_22) hx hb hr (fun tt ht hW => ⟨x_22, rfl, trivial, ht⟩) (fun _ h => by cases h) dX12_twoOf_153
      ·
        have kc_21 : p3.toInt = (-1 : Int) := i_eq c_21
        refine lv_iload_n hx hb dX12_twoOf_145 rfl (lv_at hl 1 rfl) ?_
        refine lv_ineg hx hb dX12_twoOf_146 ?_
        refine lv_topi (fun x_23 ex_23 => ?_)
        refine lv_goto (tgt := 153) hx hb dX12_twoOf_147 (by decide) ?_
        exact W.iret (v := x_23) hx hb hr (fun tt ht hW => ⟨x_23, rfl, trivial, ht⟩) (fun _ h => by cases h) dX12_twoOf_153
    ·
      have kc_20 : p3.toInt = (0 : Int) := i_eq c_20
      refine lv_iconst (v := 0) hx hb dX12_twoOf_136 (by decide) ?_
      refine lv_goto (tgt := 153) hx hb dX12_twoOf_137 (by decide) ?_
      have q0_0 : (0 : Int32).toInt = 0 := rfl
      exact W.iret (v := 0) hx hb hr (fun tt ht hW => ⟨0, rfl, trivial, ht⟩) (fun _ h => by cases h) dX12_twoOf_153
  ·
    refine lv_tableIn (tgt := 218) hx hb dX12_twoOf_1 (by omega) (by omega) (off := 217) (by rw [kc_1]; rfl) (by decide) ?_
    refine lv_iload_n hx hb dX12_twoOf_218 rfl (lv_at hl 1 rfl) ?_
    refine lv_if_ne (tgt := 226) hx hb dX12_twoOf_219 (by decide) (fun c_24 => ?_) (fun c_24 => ?_)
    ·
      have kc_24 : p2.toInt ≠ (0 : Int) := i_ne c_24
      refine lv_iconst (v := 1) hx hb dX12_twoOf_226 (by decide) ?_
      refine lv_goto (tgt := 231) hx hb dX12_twoOf_227 (by decide) ?_
      have q0_1 : (1 : Int32).toInt = 1 := rfl
      exact W.iret (v := 1) hx hb hr (fun tt ht hW => ⟨1, rfl, trivial, ht⟩) (fun _ h => by cases h) dX12_twoOf_231
    ·
      have kc_24 : p2.toInt = (0 : Int) := i_eq c_24
      refine lv_iload_n hx hb dX12_twoOf_222 rfl (lv_at hl 2 rfl) ?_
      refine lv_if_eq (tgt := 230) hx hb dX12_twoOf_223 (by decide) (fun c_25 => ?_) (fun c_25 => ?_)
      ·
        have kc_25 : p3.toInt = (0 : Int) := i_eq c_25
        refine lv_iconst (v := 0) hx hb dX12_twoOf_230 (by decide) ?_
        have q0_0 : (0 : Int32).toInt = 0 := rfl
        exact W.iret (v := 0) hx hb hr (fun tt ht hW => ⟨0, rfl, trivial, ht⟩) (fun _ h => by cases h) dX12_twoOf_231
      ·
        have kc_25 : p3.toInt ≠ (0 : Int) := i_ne c_25
        refine lv_iconst (v := 1) hx hb dX12_twoOf_226 (by decide) ?_
        refine lv_goto (tgt := 231) hx hb dX12_twoOf_227 (by decide) ?_
        have q0_1 : (1 : Int32).toInt = 1 := rfl
        exact W.iret (v := 1) hx hb hr (fun tt ht hW => ⟨1, rfl, trivial, ht⟩) (fun _ h => by cases h) dX12_twoOf_231
  ·
    refine lv_tableIn (tgt := 218) hx hb dX12_twoOf_1 (by omega) (by omega) (off := 217) (by rw [kc_1]; rfl) (by decide) ?_
    refine lv_iload_n hx hb dX12_twoOf_218 rfl (lv_at hl 1 rfl) ?_
    refine lv_if_ne (tgt := 226) hx hb dX12_twoOf_219 (by decide) (fun c_26 => ?_) (fun c_26 => ?_)
    ·
      have kc_26 : p2.toInt ≠ (0 : Int) := i_ne c_26
      refine lv_iconst (v := 1) hx hb dX12_twoOf_226 (by decide) ?_
      refine lv_goto (tgt := 231) hx hb dX12_twoOf_227 (by decide) ?_
      have q0_1 : (1 : Int32).toInt = 1 := rfl
      exact W.iret (v := 1) hx hb hr (fun tt ht hW => ⟨1, rfl, trivial, ht⟩) (fun _ h => by cases h) dX12_twoOf_231
    ·
      have kc_26 : p2.toInt = (0 : Int) := i_eq c_26
      refine lv_iload_n hx hb dX12_twoOf_222 rfl (lv_at hl 2 rfl) ?_
      refine lv_if_eq (tgt := 230) hx hb dX12_twoOf_223 (by decide) (fun c_27 => ?_) (fun c_27 => ?_)
      ·
        have kc_27 : p3.toInt = (0 : Int) := i_eq c_27
        refine lv_iconst (v := 0) hx hb dX12_twoOf_230 (by decide) ?_
        have q0_0 : (0 : Int32).toInt = 0 := rfl
        exact W.iret (v := 0) hx hb hr (fun tt ht hW => ⟨0, rfl, trivial, ht⟩) (fun _ h => by cases h) dX12_twoOf_231
      ·
        have kc_27 : p3.toInt ≠ (0 : Int) := i_ne c_27
        refine lv_iconst (v := 1) hx hb dX12_twoOf_226 (by decide) ?_
        refine lv_goto (tgt := 231) hx hb dX12_twoOf_227 (by decide) ?_
        have q0_1 : (1 : Int32).toInt = 1 := rfl
        exact W.iret (v := 1) hx hb hr (fun tt ht hW => ⟨1, rfl, trivial, ht⟩) (fun _ h => by cases h) dX12_twoOf_231
  ·
    refine lv_tableIn (tgt := 218) hx hb dX12_twoOf_1 (by omega) (by omega) (off := 217) (by rw [kc_1]; rfl) (by decide) ?_
    refine lv_iload_n hx hb dX12_twoOf_218 rfl (lv_at hl 1 rfl) ?_
    refine lv_if_ne (tgt := 226) hx hb dX12_twoOf_219 (by decide) (fun c_28 => ?_) (fun c_28 => ?_)
    ·
      have kc_28 : p2.toInt ≠ (0 : Int) := i_ne c_28
      refine lv_iconst (v := 1) hx hb dX12_twoOf_226 (by decide) ?_
      refine lv_goto (tgt := 231) hx hb dX12_twoOf_227 (by decide) ?_
      have q0_1 : (1 : Int32).toInt = 1 := rfl
      exact W.iret (v := 1) hx hb hr (fun tt ht hW => ⟨1, rfl, trivial, ht⟩) (fun _ h => by cases h) dX12_twoOf_231
    ·
      have kc_28 : p2.toInt = (0 : Int) := i_eq c_28
      refine lv_iload_n hx hb dX12_twoOf_222 rfl (lv_at hl 2 rfl) ?_
      refine lv_if_eq (tgt := 230) hx hb dX12_twoOf_223 (by decide) (fun c_29 => ?_) (fun c_29 => ?_)
      ·
        have kc_29 : p3.toInt = (0 : Int) := i_eq c_29
        refine lv_iconst (v := 0) hx hb dX12_twoOf_230 (by decide) ?_
        have q0_0 : (0 : Int32).toInt = 0 := rfl
        exact W.iret (v := 0) hx hb hr (fun tt ht hW => ⟨0, rfl, trivial, ht⟩) (fun _ h => by cases h) dX12_twoOf_231
      ·
        have kc_29 : p3.toInt ≠ (0 : Int) := i_ne c_29
        refine lv_iconst (v := 1) hx hb dX12_twoOf_226 (by decide) ?_
        refine lv_goto (tgt := 231) hx hb dX12_twoOf_227 (by decide) ?_
        have q0_1 : (1 : Int32).toInt = 1 := rfl
        exact W.iret (v := 1) hx hb hr (fun tt ht hW => ⟨1, rfl, trivial, ht⟩) (fun _ h => by cases h) dX12_twoOf_231
  ·
    refine lv_tableIn (tgt := 218) hx hb dX12_twoOf_1 (by omega) (by omega) (off := 217) (by rw [kc_1]; rfl) (by decide) ?_
    refine lv_iload_n hx hb dX12_twoOf_218 rfl (lv_at hl 1 rfl) ?_
    refine lv_if_ne (tgt := 226) hx hb dX12_twoOf_219 (by decide) (fun c_30 => ?_) (fun c_30 => ?_)
    ·
      have kc_30 : p2.toInt ≠ (0 : Int) := i_ne c_30
      refine lv_iconst (v := 1) hx hb dX12_twoOf_226 (by decide) ?_
      refine lv_goto (tgt := 231) hx hb dX12_twoOf_227 (by decide) ?_
      have q0_1 : (1 : Int32).toInt = 1 := rfl
      exact W.iret (v := 1) hx hb hr (fun tt ht hW => ⟨1, rfl, trivial, ht⟩) (fun _ h => by cases h) dX12_twoOf_231
    ·
      have kc_30 : p2.toInt = (0 : Int) := i_eq c_30
      refine lv_iload_n hx hb dX12_twoOf_222 rfl (lv_at hl 2 rfl) ?_
      refine lv_if_eq (tgt := 230) hx hb dX12_twoOf_223 (by decide) (fun c_31 => ?_) (fun c_31 => ?_)
      ·
        have kc_31 : p3.toInt = (0 : Int) := i_eq c_31
        refine lv_iconst (v := 0) hx hb dX12_twoOf_230 (by decide) ?_
        have q0_0 : (0 : Int32).toInt = 0 := rfl
        exact W.iret (v := 0) hx hb hr (fun tt ht hW => ⟨0, rfl, trivial, ht⟩) (fun _ h => by cases h) dX12_twoOf_231
      ·
        have kc_31 : p3.toInt ≠ (0 : Int) := i_ne c_31
        refine lv_iconst (v := 1) hx hb dX12_twoOf_226 (by decide) ?_
        refine lv_goto (tgt := 231) hx hb dX12_twoOf_227 (by decide) ?_
        have q0_1 : (1 : Int32).toInt = 1 := rfl
        exact W.iret (v := 1) hx hb hr (fun tt ht hW => ⟨1, rfl, trivial, ht⟩) (fun _ h => by cases h) dX12_twoOf_231
  ·
    refine lv_tableIn (tgt := 218) hx hb dX12_twoOf_1 (by omega) (by omega) (off := 217) (by rw [kc_1]; rfl) (by decide) ?_
    refine lv_iload_n hx hb dX12_twoOf_218 rfl (lv_at hl 1 rfl) ?_
    refine lv_if_ne (tgt := 226) hx hb dX12_twoOf_219 (by decide) (fun c_32 => ?_) (fun c_32 => ?_)
    ·
      have kc_32 : p2.toInt ≠ (0 : Int) := i_ne c_32
      refine lv_iconst (v := 1) hx hb dX12_twoOf_226 (by decide) ?_
      refine lv_goto (tgt := 231) hx hb dX12_twoOf_227 (by decide) ?_
      have q0_1 : (1 : Int32).toInt = 1 := rfl
      exact W.iret (v := 1) hx hb hr (fun tt ht hW => ⟨1, rfl, trivial, ht⟩) (fun _ h => by cases h) dX12_twoOf_231
    ·
      have kc_32 : p2.toInt = (0 : Int) := i_eq c_32
      refine lv_iload_n hx hb dX12_twoOf_222 rfl (lv_at hl 2 rfl) ?_
      refine lv_if_eq (tgt := 230) hx hb dX12_twoOf_223 (by decide) (fun c_33 => ?_) (fun c_33 => ?_)
      ·
        have kc_33 : p3.toInt = (0 : Int) := i_eq c_33
        refine lv_iconst (v := 0) hx hb dX12_twoOf_230 (by decide) ?_
        have q0_0 : (0 : Int32).toInt = 0 := rfl
        exact W.iret (v := 0) hx hb hr (fun tt ht hW => ⟨0, rfl, trivial, ht⟩) (fun _ h => by cases h) dX12_twoOf_231
      ·
        have kc_33 : p3.toInt ≠ (0 : Int) := i_ne c_33
        refine lv_iconst (v := 1) hx hb dX12_twoOf_226 (by decide) ?_
        refine lv_goto (tgt := 231) hx hb dX12_twoOf_227 (by decide) ?_
        have q0_1 : (1 : Int32).toInt = 1 := rfl
        exact W.iret (v := 1) hx hb hr (fun tt ht hW => ⟨1, rfl, trivial, ht⟩) (fun _ h => by cases h) dX12_twoOf_231
  ·
    refine lv_tableIn (tgt := 218) hx hb dX12_twoOf_1 (by omega) (by omega) (off := 217) (by rw [kc_1]; rfl) (by decide) ?_
    refine lv_iload_n hx hb dX12_twoOf_218 rfl (lv_at hl 1 rfl) ?_
    refine lv_if_ne (tgt := 226) hx hb dX12_twoOf_219 (by decide) (fun c_34 => ?_) (fun c_34 => ?_)
    ·
      have kc_34 : p2.toInt ≠ (0 : Int) := i_ne c_34
      refine lv_iconst (v := 1) hx hb dX12_twoOf_226 (by decide) ?_
      refine lv_goto (tgt := 231) hx hb dX12_twoOf_227 (by decide) ?_
      have q0_1 : (1 : Int32).toInt = 1 := rfl
      exact W.iret (v := 1) hx hb hr (fun tt ht hW => ⟨1, rfl, trivial, ht⟩) (fun _ h => by cases h) dX12_twoOf_231
    ·
      have kc_34 : p2.toInt = (0 : Int) := i_eq c_34
      refine lv_iload_n hx hb dX12_twoOf_222 rfl (lv_at hl 2 rfl) ?_
      refine lv_if_eq (tgt := 230) hx hb dX12_twoOf_223 (by decide) (fun c_35 => ?_) (fun c_35 => ?_)
      ·
        have kc_35 : p3.toInt = (0 : Int) := i_eq c_35
        refine lv_iconst (v := 0) hx hb dX12_twoOf_230 (by decide) ?_
        have q0_0 : (0 : Int32).toInt = 0 := rfl
        exact W.iret (v := 0) hx hb hr (fun tt ht hW => ⟨0, rfl, trivial, ht⟩) (fun _ h => by cases h) dX12_twoOf_231
      ·
        have kc_35 : p3.toInt ≠ (0 : Int) := i_ne c_35
        refine lv_iconst (v := 1) hx hb dX12_twoOf_226 (by decide) ?_
        refine lv_goto (tgt := 231) hx hb dX12_twoOf_227 (by decide) ?_
        have q0_1 : (1 : Int32).toInt = 1 := rfl
        exact W.iret (v := 1) hx hb hr (fun tt ht hW => ⟨1, rfl, trivial, ht⟩) (fun _ h => by cases h) dX12_twoOf_231
  ·
    refine lv_tableIn (tgt := 218) hx hb dX12_twoOf_1 (by omega) (by omega) (off := 217) (by rw [kc_1]; rfl) (by decide) ?_
    refine lv_iload_n hx hb dX12_twoOf_218 rfl (lv_at hl 1 rfl) ?_
    refine lv_if_ne (tgt := 226) hx hb dX12_twoOf_219 (by decide) (fun c_36 => ?_) (fun c_36 => ?_)
    ·
      have kc_36 : p2.toInt ≠ (0 : Int) := i_ne c_36
      refine lv_iconst (v := 1) hx hb dX12_twoOf_226 (by decide) ?_
      refine lv_goto (tgt := 231) hx hb dX12_twoOf_227 (by decide) ?_
      have q0_1 : (1 : Int32).toInt = 1 := rfl
      exact W.iret (v := 1) hx hb hr (fun tt ht hW => ⟨1, rfl, trivial, ht⟩) (fun _ h => by cases h) dX12_twoOf_231
    ·
      have kc_36 : p2.toInt = (0 : Int) := i_eq c_36
      refine lv_iload_n hx hb dX12_twoOf_222 rfl (lv_at hl 2 rfl) ?_
      refine lv_if_eq (tgt := 230) hx hb dX12_twoOf_223 (by decide) (fun c_37 => ?_) (fun c_37 => ?_)
      ·
        have kc_37 : p3.toInt = (0 : Int) := i_eq c_37
        refine lv_iconst (v := 0) hx hb dX12_twoOf_230 (by decide) ?_
        have q0_0 : (0 : Int32).toInt = 0 := rfl
        exact W.iret (v := 0) hx hb hr (fun tt ht hW => ⟨0, rfl, trivial, ht⟩) (fun _ h => by cases h) dX12_twoOf_231
      ·
        have kc_37 : p3.toInt ≠ (0 : Int) := i_ne c_37
        refine lv_iconst (v := 1) hx hb dX12_twoOf_226 (by decide) ?_
        refine lv_goto (tgt := 231) hx hb dX12_twoOf_227 (by decide) ?_
        have q0_1 : (1 : Int32).toInt = 1 := rfl
        exact W.iret (v := 1) hx hb hr (fun tt ht hW => ⟨1, rfl, trivial, ht⟩) (fun _ h => by cases h) dX12_twoOf_231
  ·
    refine lv_tableIn (tgt := 218) hx hb dX12_twoOf_1 (by omega) (by omega) (off := 217) (by rw [kc_1]; rfl) (by decide) ?_
    refine lv_iload_n hx hb dX12_twoOf_218 rfl (lv_at hl 1 rfl) ?_
    refine lv_if_ne (tgt := 226) hx hb dX12_twoOf_219 (by decide) (fun c_38 => ?_) (fun c_38 => ?_)
    ·
      have kc_38 : p2.toInt ≠ (0 : Int) := i_ne c_38
      refine lv_iconst (v := 1) hx hb dX12_twoOf_226 (by decide) ?_
      refine lv_goto (tgt := 231) hx hb dX12_twoOf_227 (by decide) ?_
      have q0_1 : (1 : Int32).toInt = 1 := rfl
      exact W.iret (v := 1) hx hb hr (fun tt ht hW => ⟨1, rfl, trivial, ht⟩) (fun _ h => by cases h) dX12_twoOf_231
    ·
      have kc_38 : p2.toInt = (0 : Int) := i_eq c_38
      refine lv_iload_n hx hb dX12_twoOf_222 rfl (lv_at hl 2 rfl) ?_
      refine lv_if_eq (tgt := 230) hx hb dX12_twoOf_223 (by decide) (fun c_39 => ?_) (fun c_39 => ?_)
      ·
        have kc_39 : p3.toInt = (0 : Int) := i_eq c_39
        refine lv_iconst (v := 0) hx hb dX12_twoOf_230 (by decide) ?_
        have q0_0 : (0 : Int32).toInt = 0 := rfl
        exact W.iret (v := 0) hx hb hr (fun tt ht hW => ⟨0, rfl, trivial, ht⟩) (fun _ h => by cases h) dX12_twoOf_231
      ·
        have kc_39 : p3.toInt ≠ (0 : Int) := i_ne c_39
        refine lv_iconst (v := 1) hx hb dX12_twoOf_226 (by decide) ?_
        refine lv_goto (tgt := 231) hx hb dX12_twoOf_227 (by decide) ?_
        have q0_1 : (1 : Int32).toInt = 1 := rfl
        exact W.iret (v := 1) hx hb hr (fun tt ht hW => ⟨1, rfl, trivial, ht⟩) (fun _ h => by cases h) dX12_twoOf_231
  ·
    refine lv_tableIn (tgt := 218) hx hb dX12_twoOf_1 (by omega) (by omega) (off := 217) (by rw [kc_1]; rfl) (by decide) ?_
    refine lv_iload_n hx hb dX12_twoOf_218 rfl (lv_at hl 1 rfl) ?_
    refine lv_if_ne (tgt := 226) hx hb dX12_twoOf_219 (by decide) (fun c_40 => ?_) (fun c_40 => ?_)
    ·
      have kc_40 : p2.toInt ≠ (0 : Int) := i_ne c_40
      refine lv_iconst (v := 1) hx hb dX12_twoOf_226 (by decide) ?_
      refine lv_goto (tgt := 231) hx hb dX12_twoOf_227 (by decide) ?_
      have q0_1 : (1 : Int32).toInt = 1 := rfl
      exact W.iret (v := 1) hx hb hr (fun tt ht hW => ⟨1, rfl, trivial, ht⟩) (fun _ h => by cases h) dX12_twoOf_231
    ·
      have kc_40 : p2.toInt = (0 : Int) := i_eq c_40
      refine lv_iload_n hx hb dX12_twoOf_222 rfl (lv_at hl 2 rfl) ?_
      refine lv_if_eq (tgt := 230) hx hb dX12_twoOf_223 (by decide) (fun c_41 => ?_) (fun c_41 => ?_)
      ·
        have kc_41 : p3.toInt = (0 : Int) := i_eq c_41
        refine lv_iconst (v := 0) hx hb dX12_twoOf_230 (by decide) ?_
        have q0_0 : (0 : Int32).toInt = 0 := rfl
        exact W.iret (v := 0) hx hb hr (fun tt ht hW => ⟨0, rfl, trivial, ht⟩) (fun _ h => by cases h) dX12_twoOf_231
      ·
        have kc_41 : p3.toInt ≠ (0 : Int) := i_ne c_41
        refine lv_iconst (v := 1) hx hb dX12_twoOf_226 (by decide) ?_
        refine lv_goto (tgt := 231) hx hb dX12_twoOf_227 (by decide) ?_
        have q0_1 : (1 : Int32).toInt = 1 := rfl
        exact W.iret (v := 1) hx hb hr (fun tt ht hW => ⟨1, rfl, trivial, ht⟩) (fun _ h => by cases h) dX12_twoOf_231
  ·
    refine lv_tableIn (tgt := 218) hx hb dX12_twoOf_1 (by omega) (by omega) (off := 217) (by rw [kc_1]; rfl) (by decide) ?_
    refine lv_iload_n hx hb dX12_twoOf_218 rfl (lv_at hl 1 rfl) ?_
    refine lv_if_ne (tgt := 226) hx hb dX12_twoOf_219 (by decide) (fun c_42 => ?_) (fun c_42 => ?_)
    ·
      have kc_42 : p2.toInt ≠ (0 : Int) := i_ne c_42
      refine lv_iconst (v := 1) hx hb dX12_twoOf_226 (by decide) ?_
      refine lv_goto (tgt := 231) hx hb dX12_twoOf_227 (by decide) ?_
      have q0_1 : (1 : Int32).toInt = 1 := rfl
      exact W.iret (v := 1) hx hb hr (fun tt ht hW => ⟨1, rfl, trivial, ht⟩) (fun _ h => by cases h) dX12_twoOf_231
    ·
      have kc_42 : p2.toInt = (0 : Int) := i_eq c_42
      refine lv_iload_n hx hb dX12_twoOf_222 rfl (lv_at hl 2 rfl) ?_
      refine lv_if_eq (tgt := 230) hx hb dX12_twoOf_223 (by decide) (fun c_43 => ?_) (fun c_43 => ?_)
      ·
        have kc_43 : p3.toInt = (0 : Int) := i_eq c_43
        refine lv_iconst (v := 0) hx hb dX12_twoOf_230 (by decide) ?_
        have q0_0 : (0 : Int32).toInt = 0 := rfl
        exact W.iret (v := 0) hx hb hr (fun tt ht hW => ⟨0, rfl, trivial, ht⟩) (fun _ h => by cases h) dX12_twoOf_231
      ·
        have kc_43 : p3.toInt ≠ (0 : Int) := i_ne c_43
        refine lv_iconst (v := 1) hx hb dX12_twoOf_226 (by decide) ?_
        refine lv_goto (tgt := 231) hx hb dX12_twoOf_227 (by decide) ?_
        have q0_1 : (1 : Int32).toInt = 1 := rfl
        exact W.iret (v := 1) hx hb hr (fun tt ht hW => ⟨1, rfl, trivial, ht⟩) (fun _ h => by cases h) dX12_twoOf_231
  ·
    refine lv_tableIn (tgt := 218) hx hb dX12_twoOf_1 (by omega) (by omega) (off := 217) (by rw [kc_1]; rfl) (by decide) ?_
    refine lv_iload_n hx hb dX12_twoOf_218 rfl (lv_at hl 1 rfl) ?_
    refine lv_if_ne (tgt := 226) hx hb dX12_twoOf_219 (by decide) (fun c_44 => ?_) (fun c_44 => ?_)
    ·
      have kc_44 : p2.toInt ≠ (0 : Int) := i_ne c_44
      refine lv_iconst (v := 1) hx hb dX12_twoOf_226 (by decide) ?_
      refine lv_goto (tgt := 231) hx hb dX12_twoOf_227 (by decide) ?_
      have q0_1 : (1 : Int32).toInt = 1 := rfl
      exact W.iret (v := 1) hx hb hr (fun tt ht hW => ⟨1, rfl, trivial, ht⟩) (fun _ h => by cases h) dX12_twoOf_231
    ·
      have kc_44 : p2.toInt = (0 : Int) := i_eq c_44
      refine lv_iload_n hx hb dX12_twoOf_222 rfl (lv_at hl 2 rfl) ?_
      refine lv_if_eq (tgt := 230) hx hb dX12_twoOf_223 (by decide) (fun c_45 => ?_) (fun c_45 => ?_)
      ·
        have kc_45 : p3.toInt = (0 : Int) := i_eq c_45
        refine lv_iconst (v := 0) hx hb dX12_twoOf_230 (by decide) ?_
        have q0_0 : (0 : Int32).toInt = 0 := rfl
        exact W.iret (v := 0) hx hb hr (fun tt ht hW => ⟨0, rfl, trivial, ht⟩) (fun _ h => by cases h) dX12_twoOf_231
      ·
        have kc_45 : p3.toInt ≠ (0 : Int) := i_ne c_45
        refine lv_iconst (v := 1) hx hb dX12_twoOf_226 (by decide) ?_
        refine lv_goto (tgt := 231) hx hb dX12_twoOf_227 (by decide) ?_
        have q0_1 : (1 : Int32).toInt = 1 := rfl
        exact W.iret (v := 1) hx hb hr (fun tt ht hW => ⟨1, rfl, trivial, ht⟩) (fun _ h => by cases h) dX12_twoOf_231
  ·
    refine lv_tableIn (tgt := 218) hx hb dX12_twoOf_1 (by omega) (by omega) (off := 217) (by rw [kc_1]; rfl) (by decide) ?_
    refine lv_iload_n hx hb dX12_twoOf_218 rfl (lv_at hl 1 rfl) ?_
    refine lv_if_ne (tgt := 226) hx hb dX12_twoOf_219 (by decide) (fun c_46 => ?_) (fun c_46 => ?_)
    ·
      have kc_46 : p2.toInt ≠ (0 : Int) := i_ne c_46
      refine lv_iconst (v := 1) hx hb dX12_twoOf_226 (by decide) ?_
      refine lv_goto (tgt := 231) hx hb dX12_twoOf_227 (by decide) ?_
      have q0_1 : (1 : Int32).toInt = 1 := rfl
      exact W.iret (v := 1) hx hb hr (fun tt ht hW => ⟨1, rfl, trivial, ht⟩) (fun _ h => by cases h) dX12_twoOf_231
    ·
      have kc_46 : p2.toInt = (0 : Int) := i_eq c_46
      refine lv_iload_n hx hb dX12_twoOf_222 rfl (lv_at hl 2 rfl) ?_
      refine lv_if_eq (tgt := 230) hx hb dX12_twoOf_223 (by decide) (fun c_47 => ?_) (fun c_47 => ?_)
      ·
        have kc_47 : p3.toInt = (0 : Int) := i_eq c_47
        refine lv_iconst (v := 0) hx hb dX12_twoOf_230 (by decide) ?_
        have q0_0 : (0 : Int32).toInt = 0 := rfl
        exact W.iret (v := 0) hx hb hr (fun tt ht hW => ⟨0, rfl, trivial, ht⟩) (fun _ h => by cases h) dX12_twoOf_231
      ·
        have kc_47 : p3.toInt ≠ (0 : Int) := i_ne c_47
        refine lv_iconst (v := 1) hx hb dX12_twoOf_226 (by decide) ?_
        refine lv_goto (tgt := 231) hx hb dX12_twoOf_227 (by decide) ?_
        have q0_1 : (1 : Int32).toInt = 1 := rfl
        exact W.iret (v := 1) hx hb hr (fun tt ht hW => ⟨1, rfl, trivial, ht⟩) (fun _ h => by cases h) dX12_twoOf_231
  ·
    refine lv_tableIn (tgt := 171) hx hb dX12_twoOf_1 (by omega) (by omega) (off := 170) (by rw [kc_1]; rfl) (by decide) ?_
    refine lv_iload_n hx hb dX12_twoOf_171 rfl (lv_at hl 1 rfl) ?_
    refine lv_iload_n hx hb dX12_twoOf_172 rfl (lv_at hl 2 rfl) ?_
    refine lv_icmp_ge (tgt := 180) hx hb dX12_twoOf_173 (by decide) (fun c_48 => ?_) (fun c_48 => ?_)
    ·
      have kc_48 : p3.toInt ≤ p2.toInt := i_le c_48
      refine lv_iconst (v := 0) hx hb dX12_twoOf_180 (by decide) ?_
      have q0_0 : (0 : Int32).toInt = 0 := rfl
      exact W.iret (v := 0) hx hb hr (fun tt ht hW => ⟨0, rfl, trivial, ht⟩) (fun _ h => by cases h) dX12_twoOf_181
    ·
      have kc_48 : p2.toInt < p3.toInt := i_nle c_48
      refine lv_iconst (v := 1) hx hb dX12_twoOf_176 (by decide) ?_
      refine lv_goto (tgt := 181) hx hb dX12_twoOf_177 (by decide) ?_
      have q0_1 : (1 : Int32).toInt = 1 := rfl
      exact W.iret (v := 1) hx hb hr (fun tt ht hW => ⟨1, rfl, trivial, ht⟩) (fun _ h => by cases h) dX12_twoOf_181
  ·
    refine lv_tableIn (tgt := 182) hx hb dX12_twoOf_1 (by omega) (by omega) (off := 181) (by rw [kc_1]; rfl) (by decide) ?_
    refine lv_iload_n hx hb dX12_twoOf_182 rfl (lv_at hl 1 rfl) ?_
    refine lv_iload_n hx hb dX12_twoOf_183 rfl (lv_at hl 2 rfl) ?_
    refine lv_icmp_ne (tgt := 191) hx hb dX12_twoOf_184 (by decide) (fun c_49 => ?_) (fun c_49 => ?_)
    ·
      have kc_49 : p2.toInt ≠ p3.toInt := i_ne c_49
      refine lv_iconst (v := 0) hx hb dX12_twoOf_191 (by decide) ?_
      have q0_0 : (0 : Int32).toInt = 0 := rfl
      exact W.iret (v := 0) hx hb hr (fun tt ht hW => ⟨0, rfl, trivial, ht⟩) (fun _ h => by cases h) dX12_twoOf_192
    ·
      have kc_49 : p2.toInt = p3.toInt := i_eq c_49
      refine lv_iconst (v := 1) hx hb dX12_twoOf_187 (by decide) ?_
      refine lv_goto (tgt := 192) hx hb dX12_twoOf_188 (by decide) ?_
      have q0_1 : (1 : Int32).toInt = 1 := rfl
      exact W.iret (v := 1) hx hb hr (fun tt ht hW => ⟨1, rfl, trivial, ht⟩) (fun _ h => by cases h) dX12_twoOf_192
  ·
    refine lv_tableIn (tgt := 193) hx hb dX12_twoOf_1 (by omega) (by omega) (off := 192) (by rw [kc_1]; rfl) (by decide) ?_
    refine lv_iload_n hx hb dX12_twoOf_193 rfl (lv_at hl 1 rfl) ?_
    refine lv_iload_n hx hb dX12_twoOf_194 rfl (lv_at hl 2 rfl) ?_
    refine lv_icmp_le (tgt := 202) hx hb dX12_twoOf_195 (by decide) (fun c_50 => ?_) (fun c_50 => ?_)
    ·
      have kc_50 : p2.toInt ≤ p3.toInt := i_le c_50
      refine lv_iconst (v := 0) hx hb dX12_twoOf_202 (by decide) ?_
      have q0_0 : (0 : Int32).toInt = 0 := rfl
      exact W.iret (v := 0) hx hb hr (fun tt ht hW => ⟨0, rfl, trivial, ht⟩) (fun _ h => by cases h) dX12_twoOf_203
    ·
      have kc_50 : p3.toInt < p2.toInt := i_nle c_50
      refine lv_iconst (v := 1) hx hb dX12_twoOf_198 (by decide) ?_
      refine lv_goto (tgt := 203) hx hb dX12_twoOf_199 (by decide) ?_
      have q0_1 : (1 : Int32).toInt = 1 := rfl
      exact W.iret (v := 1) hx hb hr (fun tt ht hW => ⟨1, rfl, trivial, ht⟩) (fun _ h => by cases h) dX12_twoOf_203
  ·
    refine lv_tableOut (tgt := 218) hx hb dX12_twoOf_1 kc_1 (by decide) ?_
    refine lv_iload_n hx hb dX12_twoOf_218 rfl (lv_at hl 1 rfl) ?_
    refine lv_if_ne (tgt := 226) hx hb dX12_twoOf_219 (by decide) (fun c_51 => ?_) (fun c_51 => ?_)
    ·
      have kc_51 : p2.toInt ≠ (0 : Int) := i_ne c_51
      refine lv_iconst (v := 1) hx hb dX12_twoOf_226 (by decide) ?_
      refine lv_goto (tgt := 231) hx hb dX12_twoOf_227 (by decide) ?_
      have q0_1 : (1 : Int32).toInt = 1 := rfl
      exact W.iret (v := 1) hx hb hr (fun tt ht hW => ⟨1, rfl, trivial, ht⟩) (fun _ h => by cases h) dX12_twoOf_231
    ·
      have kc_51 : p2.toInt = (0 : Int) := i_eq c_51
      refine lv_iload_n hx hb dX12_twoOf_222 rfl (lv_at hl 2 rfl) ?_
      refine lv_if_eq (tgt := 230) hx hb dX12_twoOf_223 (by decide) (fun c_52 => ?_) (fun c_52 => ?_)
      ·
        have kc_52 : p3.toInt = (0 : Int) := i_eq c_52
        refine lv_iconst (v := 0) hx hb dX12_twoOf_230 (by decide) ?_
        have q0_0 : (0 : Int32).toInt = 0 := rfl
        exact W.iret (v := 0) hx hb hr (fun tt ht hW => ⟨0, rfl, trivial, ht⟩) (fun _ h => by cases h) dX12_twoOf_231
      ·
        have kc_52 : p3.toInt ≠ (0 : Int) := i_ne c_52
        refine lv_iconst (v := 1) hx hb dX12_twoOf_226 (by decide) ?_
        refine lv_goto (tgt := 231) hx hb dX12_twoOf_227 (by decide) ?_
        have q0_1 : (1 : Int32).toInt = 1 := rfl
        exact W.iret (v := 1) hx hb hr (fun tt ht hW => ⟨1, rfl, trivial, ht⟩) (fun _ h => by cases h) dX12_twoOf_231
set_option maxHeartbeats 4000000 in
set_option maxRecDepth 100000 in
theorem k_X12_likes (l : Launch)   (p1 : Int32) (p2 : Int32)  : Met l yX12_likes (Cond.code yX12_likes cX12_likes 2 (some .int) :: gw) ({ frames := 0, cells := 0, slots := 0, locals := 0 }) (fun v _ => v = ([.int p1, .int p2] : List Value).toArray) (vp_Si (fun (r : Int32) => True)) 0 0 (fun _ => False) := by
  refine Met.ofW (cc := cX12_likes) (maxL := 2) (ret := (some .int)) (by decide) rfl ?_
  intro p e s m args below meth c s₁ B hml hv
  subst hv
  have hx := B.exec
  have hb := B.bytes
  have hr := B.returns
  have hts := atoms_spec (ws := (Cond.code yX12_likes cX12_likes 2 (some .int) :: gw)) B.pre
  have hg : ∀ w ∈ gw, w.before ([.int p1, .int p2] : List Value).toArray s = true := fun w h => hts w (List.mem_cons_of_mem _ h)
  have hown : s.vm.findClass RX12 = some m.cls := findClass_of_methodNamed B.named
  have hlocks := B.notSynchronized
  have hl := lv_entry ([.int p1, .int p2]) (n := 2) (Nat.le_of_ble_eq_true rfl)
  rw [lg_entry_eq]
  generalize (lg_sl ([.int p1, .int p2]) ++ List.replicate (2 - (lg_sl ([.int p1, .int p2])).length) Slot.unset).toArray = ls at hl ⊢
  have hl : lv_has ls 2 [(0, .int p1), (1, .int p2)] := hl
  refine lv_iload_n hx hb dX12_likes_0 rfl (lv_at hl 0 rfl) ?_
  refine lv_iload_n hx hb dX12_likes_1 rfl (lv_at hl 1 rfl) ?_
  refine lv_iand hx hb dX12_likes_2 ?_
  refine lv_topi (fun x_1 ex_1 => ?_)
  refine lv_if_ne (tgt := 10) hx hb dX12_likes_3 (by decide) (fun c_2 => ?_) (fun c_2 => ?_)
  ·
    have kc_2 : x_1.toInt ≠ (0 : Int) := i_ne c_2
    refine lv_iconst (v := 0) hx hb dX12_likes_10 (by decide) ?_
    refine lv_iload_n hx hb dX12_likes_11 rfl (lv_at hl 0 rfl) ?_
    refine lv_iconst (v := 3) hx hb dX12_likes_12 (by decide) ?_
    refine lv_iload_n hx hb dX12_likes_13 rfl (lv_at hl 1 rfl) ?_
    refine lv_isub hx hb dX12_likes_14 ?_
    refine lv_topi (fun x_3 ex_3 => ?_)
    refine lv_iand hx hb dX12_likes_15 ?_
    refine lv_topi (fun x_4 ex_4 => ?_)
    refine lv_if_eq (tgt := 23) hx hb dX12_likes_16 (by decide) (fun c_5 => ?_) (fun c_5 => ?_)
    ·
      have kc_5 : x_4.toInt = (0 : Int) := i_eq c_5
      refine lv_iconst (v := 0) hx hb dX12_likes_23 (by decide) ?_
      refine lv_iadd hx hb dX12_likes_24 ?_
      refine lv_topi (fun x_6 ex_6 => ?_)
      have fx_6 : x_6 = 0 := by rw [ex_6]; rfl
      subst fx_6
      have q0_0 : (0 : Int32).toInt = 0 := rfl
      exact W.iret (v := 0) hx hb hr (fun tt ht hW => ⟨0, rfl, trivial, ht⟩) (fun _ h => by cases h) dX12_likes_25
    ·
      have kc_5 : x_4.toInt ≠ (0 : Int) := i_ne c_5
      refine lv_iconst (v := 1) hx hb dX12_likes_19 (by decide) ?_
      refine lv_goto (tgt := 24) hx hb dX12_likes_20 (by decide) ?_
      refine lv_iadd hx hb dX12_likes_24 ?_
      refine lv_topi (fun x_7 ex_7 => ?_)
      have fx_7 : x_7 = 1 := by rw [ex_7]; rfl
      subst fx_7
      have q0_1 : (1 : Int32).toInt = 1 := rfl
      exact W.iret (v := 1) hx hb hr (fun tt ht hW => ⟨1, rfl, trivial, ht⟩) (fun _ h => by cases h) dX12_likes_25
  ·
    have kc_2 : x_1.toInt = (0 : Int) := i_eq c_2
    refine lv_iconst (v := 2) hx hb dX12_likes_6 (by decide) ?_
    refine lv_goto (tgt := 11) hx hb dX12_likes_7 (by decide) ?_
    refine lv_iload_n hx hb dX12_likes_11 rfl (lv_at hl 0 rfl) ?_
    refine lv_iconst (v := 3) hx hb dX12_likes_12 (by decide) ?_
    refine lv_iload_n hx hb dX12_likes_13 rfl (lv_at hl 1 rfl) ?_
    refine lv_isub hx hb dX12_likes_14 ?_
    refine lv_topi (fun x_8 ex_8 => ?_)
    refine lv_iand hx hb dX12_likes_15 ?_
    refine lv_topi (fun x_9 ex_9 => ?_)
    refine lv_if_eq (tgt := 23) hx hb dX12_likes_16 (by decide) (fun c_10 => ?_) (fun c_10 => ?_)
    ·
      have kc_10 : x_9.toInt = (0 : Int) := i_eq c_10
      refine lv_iconst (v := 0) hx hb dX12_likes_23 (by decide) ?_
      refine lv_iadd hx hb dX12_likes_24 ?_
      refine lv_topi (fun x_11 ex_11 => ?_)
      have fx_11 : x_11 = 2 := by rw [ex_11]; rfl
      subst fx_11
      have q0_2 : (2 : Int32).toInt = 2 := rfl
      exact W.iret (v := 2) hx hb hr (fun tt ht hW => ⟨2, rfl, trivial, ht⟩) (fun _ h => by cases h) dX12_likes_25
    ·
      have kc_10 : x_9.toInt ≠ (0 : Int) := i_ne c_10
      refine lv_iconst (v := 1) hx hb dX12_likes_19 (by decide) ?_
      refine lv_goto (tgt := 24) hx hb dX12_likes_20 (by decide) ?_
      refine lv_iadd hx hb dX12_likes_24 ?_
      refine lv_topi (fun x_12 ex_12 => ?_)
      have fx_12 : x_12 = 3 := by rw [ex_12]; rfl
      subst fx_12
      have q0_3 : (3 : Int32).toInt = 3 := rfl
      exact W.iret (v := 3) hx hb hr (fun tt ht hW => ⟨3, rfl, trivial, ht⟩) (fun _ h => by cases h) dX12_likes_25
set_option maxHeartbeats 4000000 in
set_option maxRecDepth 100000 in
theorem k_X12_isUnder (l : Launch)   (p1 : Int32) (p2 : Int32)  : Met l yX12_isUnder (Cond.code yX12_isUnder cX12_isUnder 2 (some .boolean) :: gw) ({ frames := 0, cells := 0, slots := 0, locals := 0 }) (fun v _ => v = ([.int p1, .int p2] : List Value).toArray) (vp_Si (fun (r : Int32) => (r.toInt = 1 ∧ (UNDR p1.toInt p2.toInt)) ∨ (r.toInt = 0 ∧ ¬ ((UNDR p1.toInt p2.toInt))))) 0 0 (fun _ => False) := by
  refine Met.ofW (cc := cX12_isUnder) (maxL := 2) (ret := (some .boolean)) (by decide) rfl ?_
  intro p e s m args below meth c s₁ B hml hv
  subst hv
  have hx := B.exec
  have hb := B.bytes
  have hr := B.returns
  have hts := atoms_spec (ws := (Cond.code yX12_isUnder cX12_isUnder 2 (some .boolean) :: gw)) B.pre
  have hg : ∀ w ∈ gw, w.before ([.int p1, .int p2] : List Value).toArray s = true := fun w h => hts w (List.mem_cons_of_mem _ h)
  have hown : s.vm.findClass RX12 = some m.cls := findClass_of_methodNamed B.named
  have hlocks := B.notSynchronized
  have hl := lv_entry ([.int p1, .int p2]) (n := 2) (Nat.le_of_ble_eq_true rfl)
  rw [lg_entry_eq]
  generalize (lg_sl ([.int p1, .int p2]) ++ List.replicate (2 - (lg_sl ([.int p1, .int p2])).length) Slot.unset).toArray = ls at hl ⊢
  have hl : lv_has ls 2 [(0, .int p1), (1, .int p2)] := hl
  refine lv_iload_n hx hb dX12_isUnder_0 rfl (lv_at hl 1 rfl) ?_
  refine lv_if_eq (tgt := 56) hx hb dX12_isUnder_1 (by decide) (fun c_1 => ?_) (fun c_1 => ?_)
  ·
    have kc_1 : p2.toInt = (0 : Int) := i_eq c_1
    refine lv_iconst (v := 1) hx hb dX12_isUnder_56 (by decide) ?_
    refine lv_goto (tgt := 61) hx hb dX12_isUnder_57 (by decide) ?_
    have q0_1 : (1 : Int32).toInt = 1 := rfl
    exact W.zret (v := 1) hx hb hr rfl (fun tt ht hW => ⟨1, rfl, (by unfold UNDR; omega), ht⟩) (fun _ h => by cases h) dX12_isUnder_61
  ·
    have kc_1 : p2.toInt ≠ (0 : Int) := i_ne c_1
    refine lv_iload_n hx hb dX12_isUnder_4 rfl (lv_at hl 0 rfl) ?_
    refine lv_iload_n hx hb dX12_isUnder_5 rfl (lv_at hl 1 rfl) ?_
    refine lv_icmp_eq (tgt := 56) hx hb dX12_isUnder_6 (by decide) (fun c_2 => ?_) (fun c_2 => ?_)
    ·
      have kc_2 : p1.toInt = p2.toInt := i_eq c_2
      refine lv_iconst (v := 1) hx hb dX12_isUnder_56 (by decide) ?_
      refine lv_goto (tgt := 61) hx hb dX12_isUnder_57 (by decide) ?_
      have q0_1 : (1 : Int32).toInt = 1 := rfl
      exact W.zret (v := 1) hx hb hr rfl (fun tt ht hW => ⟨1, rfl, (by unfold UNDR; omega), ht⟩) (fun _ h => by cases h) dX12_isUnder_61
    ·
      have kc_2 : p1.toInt ≠ p2.toInt := i_ne c_2
      refine lv_iload_n hx hb dX12_isUnder_9 rfl (lv_at hl 1 rfl) ?_
      refine lv_iconst (v := 1) hx hb dX12_isUnder_10 (by decide) ?_
      refine lv_icmp_ne (tgt := 19) hx hb dX12_isUnder_11 (by decide) (fun c_3 => ?_) (fun c_3 => ?_)
      ·
        have kc_3 : p2.toInt ≠ (1 : Int) := i_ne c_3
        refine lv_iload_n hx hb dX12_isUnder_19 rfl (lv_at hl 1 rfl) ?_
        refine lv_iconst (v := 2) hx hb dX12_isUnder_20 (by decide) ?_
        refine lv_icmp_ne (tgt := 34) hx hb dX12_isUnder_21 (by decide) (fun c_4 => ?_) (fun c_4 => ?_)
        ·
          have kc_4 : p2.toInt ≠ (2 : Int) := i_ne c_4
          refine lv_iload_n hx hb dX12_isUnder_34 rfl (lv_at hl 1 rfl) ?_
          refine lv_iconst (v := 3) hx hb dX12_isUnder_35 (by decide) ?_
          refine lv_icmp_ne (tgt := 44) hx hb dX12_isUnder_36 (by decide) (fun c_5 => ?_) (fun c_5 => ?_)
          ·
            have kc_5 : p2.toInt ≠ (3 : Int) := i_ne c_5
            refine lv_iload_n hx hb dX12_isUnder_44 rfl (lv_at hl 1 rfl) ?_
            refine lv_bipush (v := 6) hx hb dX12_isUnder_45 (by decide) ?_
            refine lv_icmp_ne (tgt := 60) hx hb dX12_isUnder_47 (by decide) (fun c_6 => ?_) (fun c_6 => ?_)
            ·
              have kc_6 : p2.toInt ≠ (6 : Int) := i_ne c_6
              refine lv_iconst (v := 0) hx hb dX12_isUnder_60 (by decide) ?_
              have q0_0 : (0 : Int32).toInt = 0 := rfl
              exact W.zret (v := 0) hx hb hr rfl (fun tt ht hW => ⟨0, rfl, (by unfold UNDR; omega), ht⟩) (fun _ h => by cases h) dX12_isUnder_61
            ·
              have kc_6 : p2.toInt = (6 : Int) := i_eq c_6
              refine lv_iload_n hx hb dX12_isUnder_50 rfl (lv_at hl 0 rfl) ?_
              refine lv_bipush (v := 7) hx hb dX12_isUnder_51 (by decide) ?_
              refine lv_icmp_ne (tgt := 60) hx hb dX12_isUnder_53 (by decide) (fun c_7 => ?_) (fun c_7 => ?_)
              ·
                have kc_7 : p1.toInt ≠ (7 : Int) := i_ne c_7
                refine lv_iconst (v := 0) hx hb dX12_isUnder_60 (by decide) ?_
                have q0_0 : (0 : Int32).toInt = 0 := rfl
                exact W.zret (v := 0) hx hb hr rfl (fun tt ht hW => ⟨0, rfl, (by unfold UNDR; omega), ht⟩) (fun _ h => by cases h) dX12_isUnder_61
              ·
                have kc_7 : p1.toInt = (7 : Int) := i_eq c_7
                refine lv_iconst (v := 1) hx hb dX12_isUnder_56 (by decide) ?_
                refine lv_goto (tgt := 61) hx hb dX12_isUnder_57 (by decide) ?_
                have q0_1 : (1 : Int32).toInt = 1 := rfl
                exact W.zret (v := 1) hx hb hr rfl (fun tt ht hW => ⟨1, rfl, (by unfold UNDR; omega), ht⟩) (fun _ h => by cases h) dX12_isUnder_61
          ·
            have kc_5 : p2.toInt = (3 : Int) := i_eq c_5
            refine lv_iload_n hx hb dX12_isUnder_39 rfl (lv_at hl 0 rfl) ?_
            refine lv_iconst (v := 5) hx hb dX12_isUnder_40 (by decide) ?_
            refine lv_icmp_eq (tgt := 56) hx hb dX12_isUnder_41 (by decide) (fun c_8 => ?_) (fun c_8 => ?_)
            ·
              have kc_8 : p1.toInt = (5 : Int) := i_eq c_8
              refine lv_iconst (v := 1) hx hb dX12_isUnder_56 (by decide) ?_
              refine lv_goto (tgt := 61) hx hb dX12_isUnder_57 (by decide) ?_
              have q0_1 : (1 : Int32).toInt = 1 := rfl
              exact W.zret (v := 1) hx hb hr rfl (fun tt ht hW => ⟨1, rfl, (by unfold UNDR; omega), ht⟩) (fun _ h => by cases h) dX12_isUnder_61
            ·
              have kc_8 : p1.toInt ≠ (5 : Int) := i_ne c_8
              refine lv_iload_n hx hb dX12_isUnder_44 rfl (lv_at hl 1 rfl) ?_
              refine lv_bipush (v := 6) hx hb dX12_isUnder_45 (by decide) ?_
              refine lv_icmp_ne (tgt := 60) hx hb dX12_isUnder_47 (by decide) (fun c_9 => ?_) (fun c_9 => ?_)
              ·
                have kc_9 : p2.toInt ≠ (6 : Int) := i_ne c_9
                refine lv_iconst (v := 0) hx hb dX12_isUnder_60 (by decide) ?_
                have q0_0 : (0 : Int32).toInt = 0 := rfl
                exact W.zret (v := 0) hx hb hr rfl (fun tt ht hW => ⟨0, rfl, (by unfold UNDR; omega), ht⟩) (fun _ h => by cases h) dX12_isUnder_61
              ·
                have kc_9 : p2.toInt = (6 : Int) := i_eq c_9
                exfalso; omega
        ·
          have kc_4 : p2.toInt = (2 : Int) := i_eq c_4
          refine lv_iload_n hx hb dX12_isUnder_24 rfl (lv_at hl 0 rfl) ?_
          refine lv_iconst (v := 3) hx hb dX12_isUnder_25 (by decide) ?_
          refine lv_icmp_eq (tgt := 56) hx hb dX12_isUnder_26 (by decide) (fun c_10 => ?_) (fun c_10 => ?_)
          ·
            have kc_10 : p1.toInt = (3 : Int) := i_eq c_10
            refine lv_iconst (v := 1) hx hb dX12_isUnder_56 (by decide) ?_
            refine lv_goto (tgt := 61) hx hb dX12_isUnder_57 (by decide) ?_
            have q0_1 : (1 : Int32).toInt = 1 := rfl
            exact W.zret (v := 1) hx hb hr rfl (fun tt ht hW => ⟨1, rfl, (by unfold UNDR; omega), ht⟩) (fun _ h => by cases h) dX12_isUnder_61
          ·
            have kc_10 : p1.toInt ≠ (3 : Int) := i_ne c_10
            refine lv_iload_n hx hb dX12_isUnder_29 rfl (lv_at hl 0 rfl) ?_
            refine lv_iconst (v := 5) hx hb dX12_isUnder_30 (by decide) ?_
            refine lv_icmp_eq (tgt := 56) hx hb dX12_isUnder_31 (by decide) (fun c_11 => ?_) (fun c_11 => ?_)
            ·
              have kc_11 : p1.toInt = (5 : Int) := i_eq c_11
              refine lv_iconst (v := 1) hx hb dX12_isUnder_56 (by decide) ?_
              refine lv_goto (tgt := 61) hx hb dX12_isUnder_57 (by decide) ?_
              have q0_1 : (1 : Int32).toInt = 1 := rfl
              exact W.zret (v := 1) hx hb hr rfl (fun tt ht hW => ⟨1, rfl, (by unfold UNDR; omega), ht⟩) (fun _ h => by cases h) dX12_isUnder_61
            ·
              have kc_11 : p1.toInt ≠ (5 : Int) := i_ne c_11
              refine lv_iload_n hx hb dX12_isUnder_34 rfl (lv_at hl 1 rfl) ?_
              refine lv_iconst (v := 3) hx hb dX12_isUnder_35 (by decide) ?_
              refine lv_icmp_ne (tgt := 44) hx hb dX12_isUnder_36 (by decide) (fun c_12 => ?_) (fun c_12 => ?_)
              ·
                have kc_12 : p2.toInt ≠ (3 : Int) := i_ne c_12
                refine lv_iload_n hx hb dX12_isUnder_44 rfl (lv_at hl 1 rfl) ?_
                refine lv_bipush (v := 6) hx hb dX12_isUnder_45 (by decide) ?_
                refine lv_icmp_ne (tgt := 60) hx hb dX12_isUnder_47 (by decide) (fun c_13 => ?_) (fun c_13 => ?_)
                ·
                  have kc_13 : p2.toInt ≠ (6 : Int) := i_ne c_13
                  refine lv_iconst (v := 0) hx hb dX12_isUnder_60 (by decide) ?_
                  have q0_0 : (0 : Int32).toInt = 0 := rfl
                  exact W.zret (v := 0) hx hb hr rfl (fun tt ht hW => ⟨0, rfl, (by unfold UNDR; omega), ht⟩) (fun _ h => by cases h) dX12_isUnder_61
                ·
                  have kc_13 : p2.toInt = (6 : Int) := i_eq c_13
                  exfalso; omega
              ·
                have kc_12 : p2.toInt = (3 : Int) := i_eq c_12
                exfalso; omega
      ·
        have kc_3 : p2.toInt = (1 : Int) := i_eq c_3
        refine lv_iload_n hx hb dX12_isUnder_14 rfl (lv_at hl 0 rfl) ?_
        refine lv_iconst (v := 4) hx hb dX12_isUnder_15 (by decide) ?_
        refine lv_icmp_eq (tgt := 56) hx hb dX12_isUnder_16 (by decide) (fun c_14 => ?_) (fun c_14 => ?_)
        ·
          have kc_14 : p1.toInt = (4 : Int) := i_eq c_14
          refine lv_iconst (v := 1) hx hb dX12_isUnder_56 (by decide) ?_
          refine lv_goto (tgt := 61) hx hb dX12_isUnder_57 (by decide) ?_
          have q0_1 : (1 : Int32).toInt = 1 := rfl
          exact W.zret (v := 1) hx hb hr rfl (fun tt ht hW => ⟨1, rfl, (by unfold UNDR; omega), ht⟩) (fun _ h => by cases h) dX12_isUnder_61
        ·
          have kc_14 : p1.toInt ≠ (4 : Int) := i_ne c_14
          refine lv_iload_n hx hb dX12_isUnder_19 rfl (lv_at hl 1 rfl) ?_
          refine lv_iconst (v := 2) hx hb dX12_isUnder_20 (by decide) ?_
          refine lv_icmp_ne (tgt := 34) hx hb dX12_isUnder_21 (by decide) (fun c_15 => ?_) (fun c_15 => ?_)
          ·
            have kc_15 : p2.toInt ≠ (2 : Int) := i_ne c_15
            refine lv_iload_n hx hb dX12_isUnder_34 rfl (lv_at hl 1 rfl) ?_
            refine lv_iconst (v := 3) hx hb dX12_isUnder_35 (by decide) ?_
            refine lv_icmp_ne (tgt := 44) hx hb dX12_isUnder_36 (by decide) (fun c_16 => ?_) (fun c_16 => ?_)
            ·
              have kc_16 : p2.toInt ≠ (3 : Int) := i_ne c_16
              refine lv_iload_n hx hb dX12_isUnder_44 rfl (lv_at hl 1 rfl) ?_
              refine lv_bipush (v := 6) hx hb dX12_isUnder_45 (by decide) ?_
              refine lv_icmp_ne (tgt := 60) hx hb dX12_isUnder_47 (by decide) (fun c_17 => ?_) (fun c_17 => ?_)
              ·
                have kc_17 : p2.toInt ≠ (6 : Int) := i_ne c_17
                refine lv_iconst (v := 0) hx hb dX12_isUnder_60 (by decide) ?_
                have q0_0 : (0 : Int32).toInt = 0 := rfl
                exact W.zret (v := 0) hx hb hr rfl (fun tt ht hW => ⟨0, rfl, (by unfold UNDR; omega), ht⟩) (fun _ h => by cases h) dX12_isUnder_61
              ·
                have kc_17 : p2.toInt = (6 : Int) := i_eq c_17
                exfalso; omega
            ·
              have kc_16 : p2.toInt = (3 : Int) := i_eq c_16
              exfalso; omega
          ·
            have kc_15 : p2.toInt = (2 : Int) := i_eq c_15
            exfalso; omega
set_option maxHeartbeats 4000000 in
set_option maxRecDepth 100000 in
theorem k_X12_nameOf (l : Launch)   (p1 : Int32)  : Met l yX12_nameOf (Cond.code yX12_nameOf cX12_nameOf 1 (some .int) :: gw) ({ frames := 0, cells := 0, slots := 0, locals := 0 }) (fun v _ => v = ([.int p1] : List Value).toArray) (vp_Si (fun (r : Int32) => (p1.toInt = 99 ∧ r.toInt = 0) ∨ (p1.toInt = 103 ∧ r.toInt = 1) ∨ (p1.toInt = 100 ∧ r.toInt = 2) ∨ (p1.toInt = 104 ∧ r.toInt = 3) ∨ (p1.toInt = 110 ∧ r.toInt = 4) ∨ (p1.toInt = 107 ∧ r.toInt = 5) ∨ ((p1.toInt ≠ 99 ∧ p1.toInt ≠ 103 ∧ p1.toInt ≠ 100 ∧ p1.toInt ≠ 104 ∧ p1.toInt ≠ 110 ∧ p1.toInt ≠ 107) ∧ r.toInt = -1))) 0 0 (fun _ => False) := by
  refine Met.ofW (cc := cX12_nameOf) (maxL := 1) (ret := (some .int)) (by decide) rfl ?_
  intro p e s m args below meth c s₁ B hml hv
  subst hv
  have hx := B.exec
  have hb := B.bytes
  have hr := B.returns
  have hts := atoms_spec (ws := (Cond.code yX12_nameOf cX12_nameOf 1 (some .int) :: gw)) B.pre
  have hg : ∀ w ∈ gw, w.before ([.int p1] : List Value).toArray s = true := fun w h => hts w (List.mem_cons_of_mem _ h)
  have hown : s.vm.findClass RX12 = some m.cls := findClass_of_methodNamed B.named
  have hlocks := B.notSynchronized
  have hl := lv_entry ([.int p1]) (n := 1) (Nat.le_of_ble_eq_true rfl)
  rw [lg_entry_eq]
  generalize (lg_sl ([.int p1]) ++ List.replicate (1 - (lg_sl ([.int p1])).length) Slot.unset).toArray = ls at hl ⊢
  have hl : lv_has ls 1 [(0, .int p1)] := hl
  refine lv_iload_n hx hb dX12_nameOf_0 rfl (lv_at hl 0 rfl) ?_
  rcases (show p1.toInt = 99 ∨ p1.toInt = 100 ∨ p1.toInt = 101 ∨ p1.toInt = 102 ∨ p1.toInt = 103 ∨ p1.toInt = 104 ∨ p1.toInt = 105 ∨ p1.toInt = 106 ∨ p1.toInt = 107 ∨ p1.toInt = 108 ∨ p1.toInt = 109 ∨ p1.toInt = 110 ∨ (p1.toInt < 99 ∨ 110 < p1.toInt) by omega) with kc_1 | kc_1 | kc_1 | kc_1 | kc_1 | kc_1 | kc_1 | kc_1 | kc_1 | kc_1 | kc_1 | kc_1 | kc_1
  ·
    refine lv_tableIn (tgt := 64) hx hb dX12_nameOf_1 (by omega) (by omega) (off := 63) (by rw [kc_1]; rfl) (by decide) ?_
    refine lv_iconst (v := 0) hx hb dX12_nameOf_64 (by decide) ?_
    have q0_0 : (0 : Int32).toInt = 0 := rfl
    exact W.iret (v := 0) hx hb hr (fun tt ht hW => ⟨0, rfl, (by first | rfl | omega | trivial | assumption | (dsimp only; first | omega | assumption)), ht⟩) (fun _ h => by cases h) dX12_nameOf_65
  ·
    refine lv_tableIn (tgt := 68) hx hb dX12_nameOf_1 (by omega) (by omega) (off := 67) (by rw [kc_1]; rfl) (by decide) ?_
    refine lv_iconst (v := 2) hx hb dX12_nameOf_68 (by decide) ?_
    have q0_2 : (2 : Int32).toInt = 2 := rfl
    exact W.iret (v := 2) hx hb hr (fun tt ht hW => ⟨2, rfl, (by first | rfl | omega | trivial | assumption | (dsimp only; first | omega | assumption)), ht⟩) (fun _ h => by cases h) dX12_nameOf_69
  ·
    refine lv_tableIn (tgt := 76) hx hb dX12_nameOf_1 (by omega) (by omega) (off := 75) (by rw [kc_1]; rfl) (by decide) ?_
    refine lv_iconst (v := (-1)) hx hb dX12_nameOf_76 (by decide) ?_
    have q0_m1 : ((-1) : Int32).toInt = (-1) := rfl
    exact W.iret (v := (-1)) hx hb hr (fun tt ht hW => ⟨(-1), rfl, (by first | rfl | omega | trivial | assumption | (dsimp only; first | omega | assumption)), ht⟩) (fun _ h => by cases h) dX12_nameOf_77
  ·
    refine lv_tableIn (tgt := 76) hx hb dX12_nameOf_1 (by omega) (by omega) (off := 75) (by rw [kc_1]; rfl) (by decide) ?_
    refine lv_iconst (v := (-1)) hx hb dX12_nameOf_76 (by decide) ?_
    have q0_m1 : ((-1) : Int32).toInt = (-1) := rfl
    exact W.iret (v := (-1)) hx hb hr (fun tt ht hW => ⟨(-1), rfl, (by first | rfl | omega | trivial | assumption | (dsimp only; first | omega | assumption)), ht⟩) (fun _ h => by cases h) dX12_nameOf_77
  ·
    refine lv_tableIn (tgt := 66) hx hb dX12_nameOf_1 (by omega) (by omega) (off := 65) (by rw [kc_1]; rfl) (by decide) ?_
    refine lv_iconst (v := 1) hx hb dX12_nameOf_66 (by decide) ?_
    have q0_1 : (1 : Int32).toInt = 1 := rfl
    exact W.iret (v := 1) hx hb hr (fun tt ht hW => ⟨1, rfl, (by first | rfl | omega | trivial | assumption | (dsimp only; first | omega | assumption)), ht⟩) (fun _ h => by cases h) dX12_nameOf_67
  ·
    refine lv_tableIn (tgt := 70) hx hb dX12_nameOf_1 (by omega) (by omega) (off := 69) (by rw [kc_1]; rfl) (by decide) ?_
    refine lv_iconst (v := 3) hx hb dX12_nameOf_70 (by decide) ?_
    have q0_3 : (3 : Int32).toInt = 3 := rfl
    exact W.iret (v := 3) hx hb hr (fun tt ht hW => ⟨3, rfl, (by first | rfl | omega | trivial | assumption | (dsimp only; first | omega | assumption)), ht⟩) (fun _ h => by cases h) dX12_nameOf_71
  ·
    refine lv_tableIn (tgt := 76) hx hb dX12_nameOf_1 (by omega) (by omega) (off := 75) (by rw [kc_1]; rfl) (by decide) ?_
    refine lv_iconst (v := (-1)) hx hb dX12_nameOf_76 (by decide) ?_
    have q0_m1 : ((-1) : Int32).toInt = (-1) := rfl
    exact W.iret (v := (-1)) hx hb hr (fun tt ht hW => ⟨(-1), rfl, (by first | rfl | omega | trivial | assumption | (dsimp only; first | omega | assumption)), ht⟩) (fun _ h => by cases h) dX12_nameOf_77
  ·
    refine lv_tableIn (tgt := 76) hx hb dX12_nameOf_1 (by omega) (by omega) (off := 75) (by rw [kc_1]; rfl) (by decide) ?_
    refine lv_iconst (v := (-1)) hx hb dX12_nameOf_76 (by decide) ?_
    have q0_m1 : ((-1) : Int32).toInt = (-1) := rfl
    exact W.iret (v := (-1)) hx hb hr (fun tt ht hW => ⟨(-1), rfl, (by first | rfl | omega | trivial | assumption | (dsimp only; first | omega | assumption)), ht⟩) (fun _ h => by cases h) dX12_nameOf_77
  ·
    refine lv_tableIn (tgt := 74) hx hb dX12_nameOf_1 (by omega) (by omega) (off := 73) (by rw [kc_1]; rfl) (by decide) ?_
    refine lv_iconst (v := 5) hx hb dX12_nameOf_74 (by decide) ?_
    have q0_5 : (5 : Int32).toInt = 5 := rfl
    exact W.iret (v := 5) hx hb hr (fun tt ht hW => ⟨5, rfl, (by first | rfl | omega | trivial | assumption | (dsimp only; first | omega | assumption)), ht⟩) (fun _ h => by cases h) dX12_nameOf_75
  ·
    refine lv_tableIn (tgt := 76) hx hb dX12_nameOf_1 (by omega) (by omega) (off := 75) (by rw [kc_1]; rfl) (by decide) ?_
    refine lv_iconst (v := (-1)) hx hb dX12_nameOf_76 (by decide) ?_
    have q0_m1 : ((-1) : Int32).toInt = (-1) := rfl
    exact W.iret (v := (-1)) hx hb hr (fun tt ht hW => ⟨(-1), rfl, (by first | rfl | omega | trivial | assumption | (dsimp only; first | omega | assumption)), ht⟩) (fun _ h => by cases h) dX12_nameOf_77
  ·
    refine lv_tableIn (tgt := 76) hx hb dX12_nameOf_1 (by omega) (by omega) (off := 75) (by rw [kc_1]; rfl) (by decide) ?_
    refine lv_iconst (v := (-1)) hx hb dX12_nameOf_76 (by decide) ?_
    have q0_m1 : ((-1) : Int32).toInt = (-1) := rfl
    exact W.iret (v := (-1)) hx hb hr (fun tt ht hW => ⟨(-1), rfl, (by first | rfl | omega | trivial | assumption | (dsimp only; first | omega | assumption)), ht⟩) (fun _ h => by cases h) dX12_nameOf_77
  ·
    refine lv_tableIn (tgt := 72) hx hb dX12_nameOf_1 (by omega) (by omega) (off := 71) (by rw [kc_1]; rfl) (by decide) ?_
    refine lv_iconst (v := 4) hx hb dX12_nameOf_72 (by decide) ?_
    have q0_4 : (4 : Int32).toInt = 4 := rfl
    exact W.iret (v := 4) hx hb hr (fun tt ht hW => ⟨4, rfl, (by first | rfl | omega | trivial | assumption | (dsimp only; first | omega | assumption)), ht⟩) (fun _ h => by cases h) dX12_nameOf_73
  ·
    refine lv_tableOut (tgt := 76) hx hb dX12_nameOf_1 kc_1 (by decide) ?_
    refine lv_iconst (v := (-1)) hx hb dX12_nameOf_76 (by decide) ?_
    have q0_m1 : ((-1) : Int32).toInt = (-1) := rfl
    exact W.iret (v := (-1)) hx hb hr (fun tt ht hW => ⟨(-1), rfl, (by first | rfl | omega | trivial | assumption | (dsimp only; first | omega | assumption)), ht⟩) (fun _ h => by cases h) dX12_nameOf_77
set_option maxHeartbeats 4000000 in
set_option maxRecDepth 100000 in
theorem k_X12_isOne (l : Launch) (D : va_G) (cs : Nat → ClassId) (A : Nat → Prop) (bd : Nat → Nat) (u : Nat → Int32) (b : Nat → Nat → Int32) (bw : Nat → Nat → Int64)  (p1 : Int32) (iu1_0 : 0 ≤ (u 1).toInt) (iu1_1 : (u 1).toInt ≤ 8) : Met l yX12_isOne (Cond.code yX12_isOne cX12_isOne 2 (some .boolean) :: gw) ({ frames := 1, cells := 0, slots := 0, locals := 22 }) (va_Pc [.ref (bd 0), .int p1] (XPre D (TY cs) (RW cs bd u b bw) A)) (vp_Si (fun (r : Int32) => ((r.toInt = 1 ∧ 0 ≤ p1.toInt ∧ p1.toInt < (u 1).toInt) ∨ (r.toInt = 0 ∧ ¬ (0 ≤ p1.toInt ∧ p1.toInt < (u 1).toInt))))) 0 0 (fun _ => False) := by
  refine Met.ofW (cc := cX12_isOne) (maxL := 2) (ret := (some .boolean)) (by decide) rfl ?_
  intro p e s m args below meth c s₁ B hml hv
  obtain ⟨rfl, hP, hK, hD, hZ⟩ := hv
  have hx := B.exec
  have hb := B.bytes
  have hr := B.returns
  have hts := atoms_spec (ws := (Cond.code yX12_isOne cX12_isOne 2 (some .boolean) :: gw)) B.pre
  have hg : ∀ w ∈ gw, w.before ([.ref (bd 0), .int p1] : List Value).toArray s = true := fun w h => hts w (List.mem_cons_of_mem _ h)
  have hown : s.vm.findClass RX12 = some m.cls := findClass_of_methodNamed B.named
  have hlocks := B.notSynchronized
  have hS : va_S A s.heap s.heap [] := va_S.rf
  have hl := lv_entry ([.ref (bd 0), .int p1]) (n := 2) (Nat.le_of_ble_eq_true rfl)
  rw [lg_entry_eq]
  generalize (lg_sl ([.ref (bd 0), .int p1]) ++ List.replicate (2 - (lg_sl ([.ref (bd 0), .int p1])).length) Slot.unset).toArray = ls at hl ⊢
  have hl : lv_has ls 2 [(0, .ref (bd 0)), (1, .int p1)] := hl
  refine lv_iload_n hx hb dX12_isOne_0 rfl (lv_at hl 1 rfl) ?_
  refine lv_iconst (v := 0) hx hb dX12_isOne_1 (by decide) ?_
  refine lv_aload_n hx hb dX12_isOne_2 rfl (lv_at hl 0 rfl) ?_
  refine gr_people1 hx hb hg hown hK hP (x := (u 1)) rfl (hg _ q4_233) dX12_isOne_3 ?_
  refine lv_iconst (v := 1) hx hb dX12_isOne_6 (by decide) ?_
  refine lv_isub hx hb dX12_isOne_7 ?_
  refine lv_topi (fun x_1 ex_1 => ?_)
  have fx_1 : x_1.toInt = (u 1).toInt - (1 : Int) := by rw [ex_1]; exact i_sub (by first | omega | (show (_ : Int) ≤ (u 1).toInt - (1 : Int); omega)) (by first | omega | (show (u 1).toInt - (1 : Int) ≤ (_ : Int); omega))
  refine cS_p (As := [.int p1, .int 0, .int x_1]) (rest := []) ⟨hx, hb, hml, hown, hg⟩ (k_X12_in l   p1 0 x_1 ) ca_X12_in q5_212 ⟨rfl, rfl⟩ ⟨Nat.le_of_ble_eq_true rfl, Nat.le_of_ble_eq_true rfl⟩ rfl hl.1 rfl (Nat.le_of_ble_eq_true rfl) ⟨Nat.zero_le _, Nat.zero_le _⟩ dX12_isOne_8 (fun r_2 wr_2 => ?_)
  have wr_2 : (r_2.toInt = 1 ∧ (0 : Int) ≤ p1.toInt ∧ p1.toInt ≤ x_1.toInt) ∨ (r_2.toInt = 0 ∧ ¬ ((0 : Int) ≤ p1.toInt ∧ p1.toInt ≤ x_1.toInt)) := wr_2
  exact W.zret (v := r_2) hx hb hr (i_nb (by omega) (by omega)) (fun tt ht hW => ⟨r_2, rfl, (by first | rfl | omega | trivial | assumption | (dsimp only; first | omega | assumption)), ht⟩) (fun _ h => by cases h) dX12_isOne_11
set_option maxHeartbeats 4000000 in
set_option maxRecDepth 100000 in
theorem k_X12_isPlace (l : Launch) (D : va_G) (cs : Nat → ClassId) (A : Nat → Prop) (bd : Nat → Nat) (u : Nat → Int32) (b : Nat → Nat → Int32) (bw : Nat → Nat → Int64)  (p1 : Int32) (p2 : Int32) (iu1_0 : 0 ≤ (u 1).toInt) (iu1_1 : (u 1).toInt ≤ 8) : Met l yX12_isPlace (Cond.code yX12_isPlace cX12_isPlace 3 (some .boolean) :: gw) ({ frames := 2, cells := 0, slots := 0, locals := 43 }) (va_Pc [.ref (bd 0), .int p1, .int p2] (XPre D (TY cs) (RW cs bd u b bw) A)) (vp_Si (fun (r : Int32) => ((r.toInt = 1 ∧ ((0 ≤ p2.toInt ∧ p2.toInt ≤ 3 ∧ 0 ≤ p1.toInt ∧ p1.toInt < (u 1).toInt) ∨ (4 ≤ p2.toInt ∧ p2.toInt ≤ 7 ∧ p1.toInt = 0))) ∨ (r.toInt = 0 ∧ ¬ (((0 ≤ p2.toInt ∧ p2.toInt ≤ 3 ∧ 0 ≤ p1.toInt ∧ p1.toInt < (u 1).toInt) ∨ (4 ≤ p2.toInt ∧ p2.toInt ≤ 7 ∧ p1.toInt = 0))))))) 0 0 (fun _ => False) := by
  refine Met.ofW (cc := cX12_isPlace) (maxL := 3) (ret := (some .boolean)) (by decide) rfl ?_
  intro p e s m args below meth c s₁ B hml hv
  obtain ⟨rfl, hP, hK, hD, hZ⟩ := hv
  have hx := B.exec
  have hb := B.bytes
  have hr := B.returns
  have hts := atoms_spec (ws := (Cond.code yX12_isPlace cX12_isPlace 3 (some .boolean) :: gw)) B.pre
  have hg : ∀ w ∈ gw, w.before ([.ref (bd 0), .int p1, .int p2] : List Value).toArray s = true := fun w h => hts w (List.mem_cons_of_mem _ h)
  have hown : s.vm.findClass RX12 = some m.cls := findClass_of_methodNamed B.named
  have hlocks := B.notSynchronized
  have hS : va_S A s.heap s.heap [] := va_S.rf
  have hl := lv_entry ([.ref (bd 0), .int p1, .int p2]) (n := 3) (Nat.le_of_ble_eq_true rfl)
  rw [lg_entry_eq]
  generalize (lg_sl ([.ref (bd 0), .int p1, .int p2]) ++ List.replicate (3 - (lg_sl ([.ref (bd 0), .int p1, .int p2])).length) Slot.unset).toArray = ls at hl ⊢
  have hl : lv_has ls 3 [(0, .ref (bd 0)), (1, .int p1), (2, .int p2)] := hl
  refine lv_iload_n hx hb dX12_isPlace_0 rfl (lv_at hl 2 rfl) ?_
  refine lv_iconst (v := 0) hx hb dX12_isPlace_1 (by decide) ?_
  refine lv_iconst (v := 3) hx hb dX12_isPlace_2 (by decide) ?_
  refine cS_p (As := [.int p2, .int 0, .int 3]) (rest := []) ⟨hx, hb, hml, hown, hg⟩ (k_X12_in l   p2 0 3 ) ca_X12_in q5_212 ⟨rfl, rfl⟩ ⟨Nat.le_of_ble_eq_true rfl, Nat.le_of_ble_eq_true rfl⟩ rfl hl.1 rfl (Nat.le_of_ble_eq_true rfl) ⟨Nat.zero_le _, Nat.zero_le _⟩ dX12_isPlace_3 (fun r_1 wr_1 => ?_)
  have wr_1 : (r_1.toInt = 1 ∧ (0 : Int) ≤ p2.toInt ∧ p2.toInt ≤ (3 : Int)) ∨ (r_1.toInt = 0 ∧ ¬ ((0 : Int) ≤ p2.toInt ∧ p2.toInt ≤ (3 : Int))) := wr_1
  refine lv_if_eq (tgt := 17) hx hb dX12_isPlace_6 (by decide) (fun c_2 => ?_) (fun c_2 => ?_)
  ·
    have kc_2 : r_1.toInt = (0 : Int) := i_eq c_2
    refine lv_iload_n hx hb dX12_isPlace_17 rfl (lv_at hl 2 rfl) ?_
    refine lv_iconst (v := 4) hx hb dX12_isPlace_18 (by decide) ?_
    refine lv_bipush (v := 7) hx hb dX12_isPlace_19 (by decide) ?_
    refine cS_p (As := [.int p2, .int 4, .int 7]) (rest := []) ⟨hx, hb, hml, hown, hg⟩ (k_X12_in l   p2 4 7 ) ca_X12_in q5_212 ⟨rfl, rfl⟩ ⟨Nat.le_of_ble_eq_true rfl, Nat.le_of_ble_eq_true rfl⟩ rfl hl.1 rfl (Nat.le_of_ble_eq_true rfl) ⟨Nat.zero_le _, Nat.zero_le _⟩ dX12_isPlace_21 (fun r_3 wr_3 => ?_)
    have wr_3 : (r_3.toInt = 1 ∧ (4 : Int) ≤ p2.toInt ∧ p2.toInt ≤ (7 : Int)) ∨ (r_3.toInt = 0 ∧ ¬ ((4 : Int) ≤ p2.toInt ∧ p2.toInt ≤ (7 : Int))) := wr_3
    refine lv_if_eq (tgt := 35) hx hb dX12_isPlace_24 (by decide) (fun c_4 => ?_) (fun c_4 => ?_)
    ·
      have kc_4 : r_3.toInt = (0 : Int) := i_eq c_4
      refine lv_iconst (v := 0) hx hb dX12_isPlace_35 (by decide) ?_
      have q0_0 : (0 : Int32).toInt = 0 := rfl
      exact W.zret (v := 0) hx hb hr rfl (fun tt ht hW => ⟨0, rfl, (by first | rfl | omega | trivial | assumption | (dsimp only; first | omega | assumption)), ht⟩) (fun _ h => by cases h) dX12_isPlace_36
    ·
      have kc_4 : r_3.toInt ≠ (0 : Int) := i_ne c_4
      refine lv_iload_n hx hb dX12_isPlace_27 rfl (lv_at hl 1 rfl) ?_
      refine lv_if_ne (tgt := 35) hx hb dX12_isPlace_28 (by decide) (fun c_5 => ?_) (fun c_5 => ?_)
      ·
        have kc_5 : p1.toInt ≠ (0 : Int) := i_ne c_5
        refine lv_iconst (v := 0) hx hb dX12_isPlace_35 (by decide) ?_
        have q0_0 : (0 : Int32).toInt = 0 := rfl
        exact W.zret (v := 0) hx hb hr rfl (fun tt ht hW => ⟨0, rfl, (by first | rfl | omega | trivial | assumption | (dsimp only; first | omega | assumption)), ht⟩) (fun _ h => by cases h) dX12_isPlace_36
      ·
        have kc_5 : p1.toInt = (0 : Int) := i_eq c_5
        refine lv_iconst (v := 1) hx hb dX12_isPlace_31 (by decide) ?_
        refine lv_goto (tgt := 36) hx hb dX12_isPlace_32 (by decide) ?_
        have q0_1 : (1 : Int32).toInt = 1 := rfl
        exact W.zret (v := 1) hx hb hr rfl (fun tt ht hW => ⟨1, rfl, (by first | rfl | omega | trivial | assumption | (dsimp only; first | omega | assumption)), ht⟩) (fun _ h => by cases h) dX12_isPlace_36
  ·
    have kc_2 : r_1.toInt ≠ (0 : Int) := i_ne c_2
    refine lv_aload_n hx hb dX12_isPlace_9 rfl (lv_at hl 0 rfl) ?_
    refine lv_iload_n hx hb dX12_isPlace_10 rfl (lv_at hl 1 rfl) ?_
    refine cV_ro (As := [.int p1]) (rest := []) ⟨hx, hb, hml, hown, hg⟩ (k_X12_isOne l D cs A bd u b bw  p1 (show 0 ≤ (u 1).toInt by first | omega | decide) (show (u 1).toInt ≤ 8 by first | omega | decide)) ca_X12_isOne q6_7 ⟨rfl, rfl⟩ ⟨Nat.le_of_ble_eq_true rfl, Nat.le_of_ble_eq_true rfl⟩ (rc_model hK hP) hK hP hD hS hZ rfl hl.1 rfl (Nat.le_of_ble_eq_true rfl) ⟨Nat.zero_le _, Nat.zero_le _⟩ dX12_isPlace_11 (fun r_6 wr_6 => ?_)
    have wr_6_0 : (r_6.toInt = 1 ∧ 0 ≤ p1.toInt ∧ p1.toInt < (u 1).toInt) ∨ (r_6.toInt = 0 ∧ ¬ (0 ≤ p1.toInt ∧ p1.toInt < (u 1).toInt)) := wr_6
    refine lv_goto (tgt := 36) hx hb dX12_isPlace_14 (by decide) ?_
    exact W.zret (v := r_6) hx hb hr (i_nb (by omega) (by omega)) (fun tt ht hW => ⟨r_6, rfl, (by first | rfl | omega | trivial | assumption | (dsimp only; first | omega | assumption)), ht⟩) (fun _ h => by cases h) dX12_isPlace_36
set_option maxHeartbeats 4000000 in
set_option maxRecDepth 100000 in
theorem k_X12_isBody (l : Launch) (D : va_G) (cs : Nat → ClassId) (A : Nat → Prop) (bd : Nat → Nat) (u : Nat → Int32) (b : Nat → Nat → Int32) (bw : Nat → Nat → Int64)  (p1 : Int32) (iu62_0 : 0 ≤ (u 62).toInt) (iu62_1 : (u 62).toInt ≤ 50) : Met l yX12_isBody (Cond.code yX12_isBody cX12_isBody 2 (some .boolean) :: gw) ({ frames := 1, cells := 0, slots := 0, locals := 22 }) (va_Pc [.ref (bd 0), .int p1] (XPre D (TY cs) (RW cs bd u b bw) A)) (vp_Si (fun (r : Int32) => ((r.toInt = 1 ∧ 0 ≤ p1.toInt ∧ p1.toInt < (u 62).toInt) ∨ (r.toInt = 0 ∧ ¬ (0 ≤ p1.toInt ∧ p1.toInt < (u 62).toInt))))) 0 0 (fun _ => False) := by
  refine Met.ofW (cc := cX12_isBody) (maxL := 2) (ret := (some .boolean)) (by decide) rfl ?_
  intro p e s m args below meth c s₁ B hml hv
  obtain ⟨rfl, hP, hK, hD, hZ⟩ := hv
  have hx := B.exec
  have hb := B.bytes
  have hr := B.returns
  have hts := atoms_spec (ws := (Cond.code yX12_isBody cX12_isBody 2 (some .boolean) :: gw)) B.pre
  have hg : ∀ w ∈ gw, w.before ([.ref (bd 0), .int p1] : List Value).toArray s = true := fun w h => hts w (List.mem_cons_of_mem _ h)
  have hown : s.vm.findClass RX12 = some m.cls := findClass_of_methodNamed B.named
  have hlocks := B.notSynchronized
  have hS : va_S A s.heap s.heap [] := va_S.rf
  have hl := lv_entry ([.ref (bd 0), .int p1]) (n := 2) (Nat.le_of_ble_eq_true rfl)
  rw [lg_entry_eq]
  generalize (lg_sl ([.ref (bd 0), .int p1]) ++ List.replicate (2 - (lg_sl ([.ref (bd 0), .int p1])).length) Slot.unset).toArray = ls at hl ⊢
  have hl : lv_has ls 2 [(0, .ref (bd 0)), (1, .int p1)] := hl
  refine lv_iload_n hx hb dX12_isBody_0 rfl (lv_at hl 1 rfl) ?_
  refine lv_iconst (v := 0) hx hb dX12_isBody_1 (by decide) ?_
  refine lv_aload_n hx hb dX12_isBody_2 rfl (lv_at hl 0 rfl) ?_
  refine gr_bodies hx hb hg hown hK hP (x := (u 62)) rfl (hg _ q5_54) dX12_isBody_3 ?_
  refine lv_iconst (v := 1) hx hb dX12_isBody_6 (by decide) ?_
  refine lv_isub hx hb dX12_isBody_7 ?_
  refine lv_topi (fun x_1 ex_1 => ?_)
  have fx_1 : x_1.toInt = (u 62).toInt - (1 : Int) := by rw [ex_1]; exact i_sub (by first | omega | (show (_ : Int) ≤ (u 62).toInt - (1 : Int); omega)) (by first | omega | (show (u 62).toInt - (1 : Int) ≤ (_ : Int); omega))
  refine cS_p (As := [.int p1, .int 0, .int x_1]) (rest := []) ⟨hx, hb, hml, hown, hg⟩ (k_X12_in l   p1 0 x_1 ) ca_X12_in q5_212 ⟨rfl, rfl⟩ ⟨Nat.le_of_ble_eq_true rfl, Nat.le_of_ble_eq_true rfl⟩ rfl hl.1 rfl (Nat.le_of_ble_eq_true rfl) ⟨Nat.zero_le _, Nat.zero_le _⟩ dX12_isBody_8 (fun r_2 wr_2 => ?_)
  have wr_2 : (r_2.toInt = 1 ∧ (0 : Int) ≤ p1.toInt ∧ p1.toInt ≤ x_1.toInt) ∨ (r_2.toInt = 0 ∧ ¬ ((0 : Int) ≤ p1.toInt ∧ p1.toInt ≤ x_1.toInt)) := wr_2
  exact W.zret (v := r_2) hx hb hr (i_nb (by omega) (by omega)) (fun tt ht hW => ⟨r_2, rfl, (by first | rfl | omega | trivial | assumption | (dsimp only; first | omega | assumption)), ht⟩) (fun _ h => by cases h) dX12_isBody_11
set_option maxHeartbeats 4000000 in
set_option maxRecDepth 100000 in
theorem k_X12_areTwo (l : Launch) (D : va_G) (cs : Nat → ClassId) (A : Nat → Prop) (bd : Nat → Nat) (u : Nat → Int32) (b : Nat → Nat → Int32) (bw : Nat → Nat → Int64)  (p1 : Int32) (iu1_0 : 0 ≤ (u 1).toInt) (iu1_1 : (u 1).toInt ≤ 8) : Met l yX12_areTwo (Cond.code yX12_areTwo cX12_areTwo 2 (some .boolean) :: gw) ({ frames := 2, cells := 0, slots := 0, locals := 43 }) (va_Pc [.ref (bd 0), .int p1] (XPre D (TY cs) (RW cs bd u b bw) A)) (vp_Si (fun (r : Int32) => ((r.toInt = 1 ∧ (0 ≤ p1.toInt ∧ p1.toInt / 10 < (u 1).toInt ∧ p1.toInt % 10 < (u 1).toInt ∧ p1.toInt / 10 ≠ p1.toInt % 10)) ∨ (r.toInt = 0 ∧ ¬ ((0 ≤ p1.toInt ∧ p1.toInt / 10 < (u 1).toInt ∧ p1.toInt % 10 < (u 1).toInt ∧ p1.toInt / 10 ≠ p1.toInt % 10)))))) 0 0 (fun _ => False) := by
  refine Met.ofW (cc := cX12_areTwo) (maxL := 2) (ret := (some .boolean)) (by decide) rfl ?_
  intro p e s m args below meth c s₁ B hml hv
  obtain ⟨rfl, hP, hK, hD, hZ⟩ := hv
  have hx := B.exec
  have hb := B.bytes
  have hr := B.returns
  have hts := atoms_spec (ws := (Cond.code yX12_areTwo cX12_areTwo 2 (some .boolean) :: gw)) B.pre
  have hg : ∀ w ∈ gw, w.before ([.ref (bd 0), .int p1] : List Value).toArray s = true := fun w h => hts w (List.mem_cons_of_mem _ h)
  have hown : s.vm.findClass RX12 = some m.cls := findClass_of_methodNamed B.named
  have hlocks := B.notSynchronized
  have hS : va_S A s.heap s.heap [] := va_S.rf
  have hl := lv_entry ([.ref (bd 0), .int p1]) (n := 2) (Nat.le_of_ble_eq_true rfl)
  rw [lg_entry_eq]
  generalize (lg_sl ([.ref (bd 0), .int p1]) ++ List.replicate (2 - (lg_sl ([.ref (bd 0), .int p1])).length) Slot.unset).toArray = ls at hl ⊢
  have hl : lv_has ls 2 [(0, .ref (bd 0)), (1, .int p1)] := hl
  refine lv_iload_n hx hb dX12_areTwo_0 rfl (lv_at hl 1 rfl) ?_
  refine lv_if_lt (tgt := 41) hx hb dX12_areTwo_1 (by decide) (fun c_1 => ?_) (fun c_1 => ?_)
  ·
    have kc_1 : p1.toInt < (0 : Int) := i_lt c_1
    refine lv_iconst (v := 0) hx hb dX12_areTwo_41 (by decide) ?_
    have q0_0 : (0 : Int32).toInt = 0 := rfl
    exact W.zret (v := 0) hx hb hr rfl (fun tt ht hW => ⟨0, rfl, (by first | rfl | omega | trivial | assumption | (dsimp only; first | omega | assumption)), ht⟩) (fun _ h => by cases h) dX12_areTwo_42
  ·
    have kc_1 : (0 : Int) ≤ p1.toInt := i_nlt c_1
    refine lv_aload_n hx hb dX12_areTwo_4 rfl (lv_at hl 0 rfl) ?_
    refine lv_iload_n hx hb dX12_areTwo_5 rfl (lv_at hl 1 rfl) ?_
    refine lv_bipush (v := 10) hx hb dX12_areTwo_6 (by decide) ?_
    refine lv_idiv hx hb dX12_areTwo_8 (by decide) ?_
    refine lv_topi (fun x_2 ex_2 => ?_)
    have fx_2 : x_2.toInt = p1.toInt / (10 : Int) := by rw [ex_2]; exact i_div (by omega) (by first | omega | decide)
    refine cV_ro (As := [.int x_2]) (rest := []) ⟨hx, hb, hml, hown, hg⟩ (k_X12_isOne l D cs A bd u b bw  x_2 (show 0 ≤ (u 1).toInt by first | omega | decide) (show (u 1).toInt ≤ 8 by first | omega | decide)) ca_X12_isOne q6_7 ⟨rfl, rfl⟩ ⟨Nat.le_of_ble_eq_true rfl, Nat.le_of_ble_eq_true rfl⟩ (rc_model hK hP) hK hP hD hS hZ rfl hl.1 rfl (Nat.le_of_ble_eq_true rfl) ⟨Nat.zero_le _, Nat.zero_le _⟩ dX12_areTwo_9 (fun r_3 wr_3 => ?_)
    have wr_3_0 : (r_3.toInt = 1 ∧ 0 ≤ x_2.toInt ∧ x_2.toInt < (u 1).toInt) ∨ (r_3.toInt = 0 ∧ ¬ (0 ≤ x_2.toInt ∧ x_2.toInt < (u 1).toInt)) := wr_3
    refine lv_if_eq (tgt := 41) hx hb dX12_areTwo_12 (by decide) (fun c_4 => ?_) (fun c_4 => ?_)
    ·
      have kc_4 : r_3.toInt = (0 : Int) := i_eq c_4
      refine lv_iconst (v := 0) hx hb dX12_areTwo_41 (by decide) ?_
      have q0_0 : (0 : Int32).toInt = 0 := rfl
      exact W.zret (v := 0) hx hb hr rfl (fun tt ht hW => ⟨0, rfl, (by first | rfl | omega | trivial | assumption | (dsimp only; first | omega | assumption)), ht⟩) (fun _ h => by cases h) dX12_areTwo_42
    ·
      have kc_4 : r_3.toInt ≠ (0 : Int) := i_ne c_4
      refine lv_aload_n hx hb dX12_areTwo_15 rfl (lv_at hl 0 rfl) ?_
      refine lv_iload_n hx hb dX12_areTwo_16 rfl (lv_at hl 1 rfl) ?_
      refine lv_bipush (v := 10) hx hb dX12_areTwo_17 (by decide) ?_
      refine lv_irem hx hb dX12_areTwo_19 (by decide) ?_
      refine lv_topi (fun x_5 ex_5 => ?_)
      have fx_5 : x_5.toInt = p1.toInt % (10 : Int) := by rw [ex_5]; exact i_rem (by omega) (by first | omega | decide)
      refine cV_ro (As := [.int x_5]) (rest := []) ⟨hx, hb, hml, hown, hg⟩ (k_X12_isOne l D cs A bd u b bw  x_5 (show 0 ≤ (u 1).toInt by first | omega | decide) (show (u 1).toInt ≤ 8 by first | omega | decide)) ca_X12_isOne q6_7 ⟨rfl, rfl⟩ ⟨Nat.le_of_ble_eq_true rfl, Nat.le_of_ble_eq_true rfl⟩ (rc_model hK hP) hK hP hD hS hZ rfl hl.1 rfl (Nat.le_of_ble_eq_true rfl) ⟨Nat.zero_le _, Nat.zero_le _⟩ dX12_areTwo_20 (fun r_6 wr_6 => ?_)
      have wr_6_0 : (r_6.toInt = 1 ∧ 0 ≤ x_5.toInt ∧ x_5.toInt < (u 1).toInt) ∨ (r_6.toInt = 0 ∧ ¬ (0 ≤ x_5.toInt ∧ x_5.toInt < (u 1).toInt)) := wr_6
      refine lv_if_eq (tgt := 41) hx hb dX12_areTwo_23 (by decide) (fun c_7 => ?_) (fun c_7 => ?_)
      ·
        have kc_7 : r_6.toInt = (0 : Int) := i_eq c_7
        refine lv_iconst (v := 0) hx hb dX12_areTwo_41 (by decide) ?_
        have q0_0 : (0 : Int32).toInt = 0 := rfl
        exact W.zret (v := 0) hx hb hr rfl (fun tt ht hW => ⟨0, rfl, (by first | rfl | omega | trivial | assumption | (dsimp only; first | omega | assumption)), ht⟩) (fun _ h => by cases h) dX12_areTwo_42
      ·
        have kc_7 : r_6.toInt ≠ (0 : Int) := i_ne c_7
        refine lv_iload_n hx hb dX12_areTwo_26 rfl (lv_at hl 1 rfl) ?_
        refine lv_bipush (v := 10) hx hb dX12_areTwo_27 (by decide) ?_
        refine lv_idiv hx hb dX12_areTwo_29 (by decide) ?_
        refine lv_topi (fun x_8 ex_8 => ?_)
        have fx_8 : x_8.toInt = p1.toInt / (10 : Int) := by rw [ex_8]; exact i_div (by omega) (by first | omega | decide)
        refine lv_iload_n hx hb dX12_areTwo_30 rfl (lv_at hl 1 rfl) ?_
        refine lv_bipush (v := 10) hx hb dX12_areTwo_31 (by decide) ?_
        refine lv_irem hx hb dX12_areTwo_33 (by decide) ?_
        refine lv_topi (fun x_9 ex_9 => ?_)
        have fx_9 : x_9.toInt = p1.toInt % (10 : Int) := by rw [ex_9]; exact i_rem (by omega) (by first | omega | decide)
        refine lv_icmp_eq (tgt := 41) hx hb dX12_areTwo_34 (by decide) (fun c_10 => ?_) (fun c_10 => ?_)
        ·
          have kc_10 : x_8.toInt = x_9.toInt := i_eq c_10
          refine lv_iconst (v := 0) hx hb dX12_areTwo_41 (by decide) ?_
          have q0_0 : (0 : Int32).toInt = 0 := rfl
          exact W.zret (v := 0) hx hb hr rfl (fun tt ht hW => ⟨0, rfl, (by first | rfl | omega | trivial | assumption | (dsimp only; first | omega | assumption)), ht⟩) (fun _ h => by cases h) dX12_areTwo_42
        ·
          have kc_10 : x_8.toInt ≠ x_9.toInt := i_ne c_10
          refine lv_iconst (v := 1) hx hb dX12_areTwo_37 (by decide) ?_
          refine lv_goto (tgt := 42) hx hb dX12_areTwo_38 (by decide) ?_
          have q0_1 : (1 : Int32).toInt = 1 := rfl
          exact W.zret (v := 1) hx hb hr rfl (fun tt ht hW => ⟨1, rfl, (by first | rfl | omega | trivial | assumption | (dsimp only; first | omega | assumption)), ht⟩) (fun _ h => by cases h) dX12_areTwo_42
set_option maxHeartbeats 4000000 in
set_option maxRecDepth 100000 in
theorem k_X12_addOne (l : Launch) (D : va_G) (cs : Nat → ClassId) (A : Nat → Prop) (bd : Nat → Nat) (u : Nat → Int32) (b : Nat → Nat → Int32) (bw : Nat → Nat → Int64)  (p1 : Int32) (p2 : Int32) (p3 : Int32) (hp7 : (u 1).toInt ≤ 7) (iu1_0 : 0 ≤ (u 1).toInt) (iu1_1 : (u 1).toInt ≤ 8) : Met l yX12_addOne (Cond.code yX12_addOne cX12_addOne 4 (some .int) :: gw) ({ frames := 0, cells := 0, slots := 0, locals := 0 }) (va_Pc [.ref (bd 0), .int p1, .int p2, .int p3] (XPre D (TY cs) (RW cs bd u b bw) A)) (va_Qi (fun (r : Int32) (z : Int32 × (Nat → Int32) × (Nat → Int32) × (Nat → Int32) × (Nat → Int32)) => (r.toInt = (u 1).toInt) ∧ (z.1.toInt = (u 1).toInt + 1) ∧ (0 ≤ z.1.toInt) ∧ (z.1.toInt ≤ 8)) (XPo D (fun (z : Int32 × (Nat → Int32) × (Nat → Int32) × (Nat → Int32) × (Nat → Int32)) => RW cs bd (va_up u 1 z.1) (va_up (va_up (va_up (va_up b 2 z.2.1) 3 z.2.2.1) 4 z.2.2.2.1) 5 z.2.2.2.2) bw) A) A) 0 0 A := by
  refine Met.ofW (cc := cX12_addOne) (maxL := 4) (ret := (some .int)) (by decide) rfl ?_
  intro p e s m args below meth c s₁ B hml hv
  obtain ⟨rfl, hP, hK, hD, hZ⟩ := hv
  have hx := B.exec
  have hb := B.bytes
  have hr := B.returns
  have hts := atoms_spec (ws := (Cond.code yX12_addOne cX12_addOne 4 (some .int) :: gw)) B.pre
  have hg : ∀ w ∈ gw, w.before ([.ref (bd 0), .int p1, .int p2, .int p3] : List Value).toArray s = true := fun w h => hts w (List.mem_cons_of_mem _ h)
  have hown : s.vm.findClass RX12 = some m.cls := findClass_of_methodNamed B.named
  have hlocks := B.notSynchronized
  have hS : va_S A s.heap s.heap [] := va_S.rf
  have hP : va_P D vwCl (RW cs bd u b bw) s.heap := hP
  have hl := lv_entry ([.ref (bd 0), .int p1, .int p2, .int p3]) (n := 4) (Nat.le_of_ble_eq_true rfl)
  rw [lg_entry_eq]
  generalize (lg_sl ([.ref (bd 0), .int p1, .int p2, .int p3]) ++ List.replicate (4 - (lg_sl ([.ref (bd 0), .int p1, .int p2, .int p3])).length) Slot.unset).toArray = ls at hl ⊢
  have hl : lv_has ls 4 [(0, .ref (bd 0)), (1, .int p1), (2, .int p2), (3, .int p3)] := hl
  refine lv_aload_n hx hb dX12_addOne_0 rfl (lv_at hl 0 rfl) ?_
  refine gr_cellOf hx hb hg hown hK hP (hg _ q4_234) dX12_addOne_1 ?_
  refine lv_aload_n hx hb dX12_addOne_4 rfl (lv_at hl 0 rfl) ?_
  refine gr_people1 hx hb hg hown hK hP (x := (u 1)) rfl (hg _ q4_233) dX12_addOne_5 ?_
  refine lv_iload_n hx hb dX12_addOne_8 rfl (lv_at hl 1 rfl) ?_
  refine sr_cellOf hx hb hK hP hD hS (i_in (by omega) (by omega)) dX12_addOne_9 (fun H locs hP hD hS => ?_)
  refine lv_aload_n hx hb dX12_addOne_10 rfl (lv_at hl 0 rfl) ?_
  refine gr_cheek hx hb hg hown hK hP (hg _ q4_235) dX12_addOne_11 ?_
  refine lv_aload_n hx hb dX12_addOne_14 rfl (lv_at hl 0 rfl) ?_
  refine gr_people1 hx hb hg hown hK hP (x := (u 1)) rfl (hg _ q4_233) dX12_addOne_15 ?_
  refine lv_iload_n hx hb dX12_addOne_18 rfl (lv_at hl 2 rfl) ?_
  refine sr_cheek hx hb hK hP hD hS (i_in (by omega) (by omega)) dX12_addOne_19 (fun H locs hP hD hS => ?_)
  refine lv_aload_n hx hb dX12_addOne_20 rfl (lv_at hl 0 rfl) ?_
  refine gr_pads hx hb hg hown hK hP (hg _ q4_236) dX12_addOne_21 ?_
  refine lv_aload_n hx hb dX12_addOne_24 rfl (lv_at hl 0 rfl) ?_
  refine gr_people1 hx hb hg hown hK hP (x := (u 1)) rfl (hg _ q4_233) dX12_addOne_25 ?_
  refine lv_iload_n hx hb dX12_addOne_28 rfl (lv_at hl 3 rfl) ?_
  refine sr_pads hx hb hK hP hD hS (i_in (by omega) (by omega)) dX12_addOne_29 (fun H locs hP hD hS => ?_)
  refine lv_aload_n hx hb dX12_addOne_30 rfl (lv_at hl 0 rfl) ?_
  refine gr_pay hx hb hg hown hK hP (hg _ q4_237) dX12_addOne_31 ?_
  refine lv_aload_n hx hb dX12_addOne_34 rfl (lv_at hl 0 rfl) ?_
  refine gr_people1 hx hb hg hown hK hP (x := (u 1)) rfl (hg _ q4_233) dX12_addOne_35 ?_
  refine lv_bipush (v := 10) hx hb dX12_addOne_38 (by decide) ?_
  refine sr_pay hx hb hK hP hD hS (i_in (by omega) (by omega)) dX12_addOne_40 (fun H locs hP hD hS => ?_)
  refine lv_aload_n hx hb dX12_addOne_41 rfl (lv_at hl 0 rfl) ?_
  refine lv_dup hx hb dX12_addOne_42 rfl ?_
  refine gr_people1 hx hb hg hown hK hP (x := (u 1)) rfl (hg _ q4_233) dX12_addOne_43 ?_
  refine lv_iconst (v := 1) hx hb dX12_addOne_46 (by decide) ?_
  refine lv_iadd hx hb dX12_addOne_47 ?_
  refine lv_topi (fun x_1 ex_1 => ?_)
  have fx_1 : x_1.toInt = (u 1).toInt + (1 : Int) := by rw [ex_1]; exact i_add (by first | omega | (show (_ : Int) ≤ (u 1).toInt + (1 : Int); omega)) (by first | omega | (show (u 1).toInt + (1 : Int) ≤ (_ : Int); omega))
  refine pr_people1 hx hb hg hown hK hP hD hS (hg _ q4_233) dX12_addOne_48 (fun H locs hP hD hS => ?_)
  refine lv_aload_n hx hb dX12_addOne_51 rfl (lv_at hl 0 rfl) ?_
  refine gr_people1 hx hb hg hown hK hP (x := x_1) rfl (hg _ q4_233) dX12_addOne_52 ?_
  refine lv_iconst (v := 1) hx hb dX12_addOne_55 (by decide) ?_
  refine lv_isub hx hb dX12_addOne_56 ?_
  refine lv_topi (fun x_2 ex_2 => ?_)
  have fx_2 : x_2.toInt = x_1.toInt - (1 : Int) := by rw [ex_2]; exact i_sub (by first | omega | (show (_ : Int) ≤ x_1.toInt - (1 : Int); omega)) (by first | omega | (show x_1.toInt - (1 : Int) ≤ (_ : Int); omega))
  exact W.iret (v := x_2) hx hb hr (fun tt ht hW => ⟨⟨x_2, ⟨x_1, (upd (b 2) (u 1).toNatClampNeg p1), (upd (b 3) (u 1).toNatClampNeg p2), (upd (b 4) (u 1).toNatClampNeg p3), (upd (b 5) (u 1).toNatClampNeg 10)⟩, rfl, ⟨(by first | rfl | omega | trivial | assumption | (dsimp only; first | omega | assumption)), (by first | rfl | omega | trivial | assumption | (dsimp only; first | omega | assumption)), (show 0 ≤ x_1.toInt by first | omega | assumption), (show x_1.toInt ≤ 8 by first | omega | assumption)⟩, by rw [ht]; exact hP, hD⟩, hS.F ht⟩) hS.2.2 dX12_addOne_57
set_option maxHeartbeats 4000000 in
set_option maxRecDepth 100000 in
theorem k_X12_person (l : Launch) (D : va_G) (cs : Nat → ClassId) (A : Nat → Prop) (bd : Nat → Nat) (u : Nat → Int32) (b : Nat → Nat → Int32) (bw : Nat → Nat → Int64)  (p1 : Int32) (iu1_0 : 0 ≤ (u 1).toInt) (iu1_1 : (u 1).toInt ≤ 8) : Met l yX12_person (Cond.code yX12_person cX12_person 2 (some .int) :: gw) ({ frames := 2, cells := 0, slots := 0, locals := 42 }) (va_Pc [.ref (bd 0), .int p1] (XPre D (TY cs) (RW cs bd u b bw) A)) (va_Qi (fun (r : Int32) (z : Int32 × (Nat → Int32) × (Nat → Int32) × (Nat → Int32) × (Nat → Int32)) => ((((0 ≤ p1.toInt ∧ p1.toInt < 256) ∧ (u 1).toInt < 8) ∧ r.toInt = (u 1).toInt ∧ z.1.toInt = (u 1).toInt + 1) ∨ ((0 ≤ p1.toInt ∧ p1.toInt < 256) ∧ (u 1).toInt = 8 ∧ r.toInt = -3 ∧ z.1.toInt = (u 1).toInt) ∨ (¬ (0 ≤ p1.toInt ∧ p1.toInt < 256) ∧ r.toInt = -1 ∧ z.1.toInt = (u 1).toInt)) ∧ (0 ≤ z.1.toInt) ∧ (z.1.toInt ≤ 8)) (XPo D (fun (z : Int32 × (Nat → Int32) × (Nat → Int32) × (Nat → Int32) × (Nat → Int32)) => RW cs bd (va_up u 1 z.1) (va_up (va_up (va_up (va_up b 2 z.2.1) 3 z.2.2.1) 4 z.2.2.2.1) 5 z.2.2.2.2) bw) A) A) 0 0 A := by
  refine Met.ofW (cc := cX12_person) (maxL := 2) (ret := (some .int)) (by decide) rfl ?_
  intro p e s m args below meth c s₁ B hml hv
  obtain ⟨rfl, hP, hK, hD, hZ⟩ := hv
  have hx := B.exec
  have hb := B.bytes
  have hr := B.returns
  have hts := atoms_spec (ws := (Cond.code yX12_person cX12_person 2 (some .int) :: gw)) B.pre
  have hg : ∀ w ∈ gw, w.before ([.ref (bd 0), .int p1] : List Value).toArray s = true := fun w h => hts w (List.mem_cons_of_mem _ h)
  have hown : s.vm.findClass RX12 = some m.cls := findClass_of_methodNamed B.named
  have hlocks := B.notSynchronized
  have hS : va_S A s.heap s.heap [] := va_S.rf
  have hP : va_P D vwCl (RW cs bd u b bw) s.heap := hP
  have hl := lv_entry ([.ref (bd 0), .int p1]) (n := 2) (Nat.le_of_ble_eq_true rfl)
  rw [lg_entry_eq]
  generalize (lg_sl ([.ref (bd 0), .int p1]) ++ List.replicate (2 - (lg_sl ([.ref (bd 0), .int p1])).length) Slot.unset).toArray = ls at hl ⊢
  have hl : lv_has ls 2 [(0, .ref (bd 0)), (1, .int p1)] := hl
  refine lv_iload_n hx hb dX12_person_0 rfl (lv_at hl 1 rfl) ?_
  refine cS_p (As := [.int p1]) (rest := []) ⟨hx, hb, hml, hown, hg⟩ (k_X12_isCell l   p1 ) ca_X12_isCell q5_209 ⟨rfl, rfl⟩ ⟨Nat.le_of_ble_eq_true rfl, Nat.le_of_ble_eq_true rfl⟩ rfl hl.1 rfl (Nat.le_of_ble_eq_true rfl) ⟨Nat.zero_le _, Nat.zero_le _⟩ dX12_person_1 (fun r_1 wr_1 => ?_)
  have wr_1 : (r_1.toInt = 1 ∧ 0 ≤ p1.toInt ∧ p1.toInt < 256) ∨ (r_1.toInt = 0 ∧ ¬ (0 ≤ p1.toInt ∧ p1.toInt < 256)) := wr_1
  refine lv_if_ne (tgt := 9) hx hb dX12_person_4 (by decide) (fun c_2 => ?_) (fun c_2 => ?_)
  ·
    have kc_2 : r_1.toInt ≠ (0 : Int) := i_ne c_2
    refine lv_aload_n hx hb dX12_person_9 rfl (lv_at hl 0 rfl) ?_
    refine gr_people1 hx hb hg hown hK hP (x := (u 1)) rfl (hg _ q4_233) dX12_person_10 ?_
    refine lv_bipush (v := 8) hx hb dX12_person_13 (by decide) ?_
    refine lv_icmp_ne (tgt := 23) hx hb dX12_person_15 (by decide) (fun c_3 => ?_) (fun c_3 => ?_)
    ·
      have kc_3 : (u 1).toInt ≠ (8 : Int) := i_ne c_3
      refine lv_aload_n hx hb dX12_person_23 rfl (lv_at hl 0 rfl) ?_
      refine lv_iload_n hx hb dX12_person_24 rfl (lv_at hl 1 rfl) ?_
      refine lv_bipush (v := 6) hx hb dX12_person_25 (by decide) ?_
      refine lv_iconst (v := 0) hx hb dX12_person_27 (by decide) ?_
      refine cV_i (As := [.int p1, .int 6, .int 0]) (rest := []) ⟨hx, hb, hml, hown, hg⟩ (k_X12_addOne l D cs A bd u b bw  p1 6 0 (show (u 1).toInt ≤ 7 by first | omega | decide) (show 0 ≤ (u 1).toInt by first | omega | decide) (show (u 1).toInt ≤ 8 by first | omega | decide)) ca_X12_addOne q5_215 ⟨rfl, rfl⟩ ⟨Nat.le_of_ble_eq_true rfl, Nat.le_of_ble_eq_true rfl⟩ (rc_model hK hP) hK hP hD hS hZ rfl hl.1 rfl (Nat.le_of_ble_eq_true rfl) ⟨Nat.zero_le _, Nat.zero_le _⟩ dX12_person_28 (fun r_4 z_10 H locs wr_4 hP hD hS => ?_)
      obtain ⟨o_u1_5, o_b2_6, o_b3_7, o_b4_8, o_b5_9⟩ := z_10
      have hP : va_P D vwCl (RW cs bd (va_up u 1 o_u1_5) (va_up (va_up (va_up (va_up b 2 o_b2_6) 3 o_b3_7) 4 o_b4_8) 5 o_b5_9) bw) H := hP
      have hD : va_D A (RW cs bd (va_up u 1 o_u1_5) (va_up (va_up (va_up (va_up b 2 o_b2_6) 3 o_b3_7) 4 o_b4_8) 5 o_b5_9) bw) := hD
      obtain ⟨wr_4_0, wr_4_1, wr_4_2, wr_4_3⟩ : (r_4.toInt = (u 1).toInt) ∧ (o_u1_5.toInt = (u 1).toInt + 1) ∧ (0 ≤ o_u1_5.toInt) ∧ (o_u1_5.toInt ≤ 8) := wr_4
      exact W.iret (v := r_4) hx hb hr (fun tt ht hW => ⟨⟨r_4, ⟨o_u1_5, o_b2_6, o_b3_7, o_b4_8, o_b5_9⟩, rfl, ⟨(by first | rfl | omega | trivial | assumption | (dsimp only; first | omega | assumption)), (show 0 ≤ o_u1_5.toInt by first | omega | assumption), (show o_u1_5.toInt ≤ 8 by first | omega | assumption)⟩, by rw [ht]; exact hP, hD⟩, hS.F ht⟩) hS.2.2 dX12_person_31
    ·
      have kc_3 : (u 1).toInt = (8 : Int) := i_eq c_3
      refine lv_bipush (v := (-3)) hx hb dX12_person_18 (by decide) ?_
      refine lv_goto (tgt := 31) hx hb dX12_person_20 (by decide) ?_
      have q0_m3 : ((-3) : Int32).toInt = (-3) := rfl
      have hP : va_P D vwCl (RW cs bd (va_up u 1 (u 1)) (va_up (va_up (va_up (va_up b 2 (b 2)) 3 (b 3)) 4 (b 4)) 5 (b 5)) bw) _ := hP
      have hD : va_D A (RW cs bd (va_up u 1 (u 1)) (va_up (va_up (va_up (va_up b 2 (b 2)) 3 (b 3)) 4 (b 4)) 5 (b 5)) bw) := hD
      exact W.iret (v := (-3)) hx hb hr (fun tt ht hW => ⟨⟨(-3), ⟨(u 1), (b 2), (b 3), (b 4), (b 5)⟩, rfl, ⟨(by first | rfl | omega | trivial | assumption | (dsimp only; first | omega | assumption)), (show 0 ≤ (u 1).toInt by first | omega | assumption), (show (u 1).toInt ≤ 8 by first | omega | assumption)⟩, by rw [ht]; exact hP, hD⟩, hS.F ht⟩) hS.2.2 dX12_person_31
  ·
    have kc_2 : r_1.toInt = (0 : Int) := i_eq c_2
    refine lv_iconst (v := (-1)) hx hb dX12_person_7 (by decide) ?_
    have q0_m1 : ((-1) : Int32).toInt = (-1) := rfl
    have hP : va_P D vwCl (RW cs bd (va_up u 1 (u 1)) (va_up (va_up (va_up (va_up b 2 (b 2)) 3 (b 3)) 4 (b 4)) 5 (b 5)) bw) _ := hP
    have hD : va_D A (RW cs bd (va_up u 1 (u 1)) (va_up (va_up (va_up (va_up b 2 (b 2)) 3 (b 3)) 4 (b 4)) 5 (b 5)) bw) := hD
    exact W.iret (v := (-1)) hx hb hr (fun tt ht hW => ⟨⟨(-1), ⟨(u 1), (b 2), (b 3), (b 4), (b 5)⟩, rfl, ⟨(by first | rfl | omega | trivial | assumption | (dsimp only; first | omega | assumption)), (show 0 ≤ (u 1).toInt by first | omega | assumption), (show (u 1).toInt ≤ 8 by first | omega | assumption)⟩, by rw [ht]; exact hP, hD⟩, hS.F ht⟩) hS.2.2 dX12_person_8
set_option maxHeartbeats 4000000 in
set_option maxRecDepth 100000 in
theorem k_X12_people (l : Launch) (D : va_G) (cs : Nat → ClassId) (A : Nat → Prop) (bd : Nat → Nat) (u : Nat → Int32) (b : Nat → Nat → Int32) (bw : Nat → Nat → Int64)  (p1 : Int32) (p2 : Int32) (p3 : Int32) (ib67_0 : AB 0 60 (b 67)) (iu1_0 : 0 ≤ (u 1).toInt) (iu1_1 : (u 1).toInt ≤ 8) (ib66_0 : AB (-6) 49 (b 66)) : Met l yX12_people (Cond.code yX12_people cX12_people 8 (some .int) :: gw) ({ frames := 2, cells := 0, slots := 0, locals := 42 }) (va_Pc [.ref (bd 0), .int p1, .int p2, .int p3] (XPre D (TY cs) (RW cs bd u b bw) A)) (va_Qi (fun (r : Int32) (z : Int32 × (Nat → Int32) × (Nat → Int32) × (Nat → Int32) × (Nat → Int32)) => ((u 1).toInt ≤ z.1.toInt) ∧ ((¬ ((0 ≤ p1.toInt ∧ p1.toInt < 6) ∧ 1 ≤ p3.toInt ∧ p3.toInt ≤ 8) ∧ r.toInt = -1 ∧ z.1.toInt = (u 1).toInt) ∨ (((0 ≤ p1.toInt ∧ p1.toInt < 6) ∧ 1 ≤ p3.toInt ∧ p3.toInt ≤ 8) ∧ ((((b 66) p1.toNatClampNeg).toInt = -1 ∧ r.toInt = 0 ∧ z.1.toInt = (u 1).toInt) ∨ (((b 66) p1.toNatClampNeg).toInt ≠ -1 ∧ ((b 66) p1.toNatClampNeg).toInt ≠ -3 ∧ r.toInt = -12 ∧ z.1.toInt = (u 1).toInt) ∨ (((b 66) p1.toNatClampNeg).toInt = -3 ∧ CAME (ROWOF (bw 68) p1.toNatClampNeg) ((b 67) p1.toNatClampNeg).toInt (u 1).toInt p2.toInt p3.toInt r.toInt ∧ z.1.toInt = (u 1).toInt + r.toInt)))) ∧ (0 ≤ z.1.toInt) ∧ (z.1.toInt ≤ 8)) (XPo D (fun (z : Int32 × (Nat → Int32) × (Nat → Int32) × (Nat → Int32) × (Nat → Int32)) => RW cs bd (va_up u 1 z.1) (va_up (va_up (va_up (va_up b 2 z.2.1) 3 z.2.2.1) 4 z.2.2.2.1) 5 z.2.2.2.2) bw) A) A) 0 0 A := by
  refine Met.ofW (cc := cX12_people) (maxL := 8) (ret := (some .int)) (by decide) rfl ?_
  intro p e s m args below meth c s₁ B hml hv
  obtain ⟨rfl, hP, hK, hD, hZ⟩ := hv
  have hx := B.exec
  have hb := B.bytes
  have hr := B.returns
  have hts := atoms_spec (ws := (Cond.code yX12_people cX12_people 8 (some .int) :: gw)) B.pre
  have hg : ∀ w ∈ gw, w.before ([.ref (bd 0), .int p1, .int p2, .int p3] : List Value).toArray s = true := fun w h => hts w (List.mem_cons_of_mem _ h)
  have hown : s.vm.findClass RX12 = some m.cls := findClass_of_methodNamed B.named
  have hlocks := B.notSynchronized
  have hS : va_S A s.heap s.heap [] := va_S.rf
  have hP : va_P D vwCl (RW cs bd u b bw) s.heap := hP
  have zp1 : p1.toNatClampNeg = p1.toInt.toNat := rfl
  have hl := lv_entry ([.ref (bd 0), .int p1, .int p2, .int p3]) (n := 8) (Nat.le_of_ble_eq_true rfl)
  rw [lg_entry_eq]
  generalize (lg_sl ([.ref (bd 0), .int p1, .int p2, .int p3]) ++ List.replicate (8 - (lg_sl ([.ref (bd 0), .int p1, .int p2, .int p3])).length) Slot.unset).toArray = ls at hl ⊢
  have hl : lv_has ls 8 [(0, .ref (bd 0)), (1, .int p1), (2, .int p2), (3, .int p3)] := hl
  have hcut : ∀ nk : Nat, (∀ (x4 : Int32) (c58_u1 : Int32) (c58_b2 : Nat → Int32) (c58_b3 : Nat → Int32) (c58_b4 : Nat → Int32) (c58_b5 : Nat → Int32) (H : Heap) (locs : List Loc) (j1 : 0 ≤ p1.toInt) (j2 : p1.toInt < 6) (j3 : p3.toInt ≤ 8) (j31 : 1 ≤ p3.toInt) (i4 : 0 ≤ x4.toInt) (i4n : x4.toInt ≤ p3.toInt) (i5 : (u 1).toInt ≤ c58_u1.toInt) (hrow : ((b 66) p1.toNatClampNeg).toInt = -3) (hv : c58_u1.toInt = (u 1).toInt + x4.toInt) (hc : ∀ t : Nat, t < x4.toInt.toNat → OKP (ROWOF (bw 68) p1.toNatClampNeg) ((b 67) p1.toNatClampNeg).toInt (u 1).toInt p2.toInt t) (ju1_0 : 0 ≤ c58_u1.toInt) (ju1_1 : c58_u1.toInt ≤ 8) (hmu : (p3.toInt - x4.toInt).toNat < nk) (hP : va_P D vwCl (RW cs bd (va_up u 1 c58_u1) (va_up (va_up (va_up (va_up b 2 c58_b2) 3 c58_b3) 4 c58_b4) 5 c58_b5) bw) H) (hD : va_D A (RW cs bd (va_up u 1 c58_u1) (va_up (va_up (va_up (va_up b 2 c58_b2) 3 c58_b3) 4 c58_b4) 5 c58_b5) bw)) (hS : va_S A s.heap H locs) (ls : Array Slot) (hl : lv_has ls 8 [(0, .ref (bd 0)), (1, .int p1), (2, .int p2), (3, .int p3), (4, .int x4)]), W p l e (headSpec (Cond.code yX12_people cX12_people 8 (some .int) :: gw) ({ frames := 2, cells := 0, slots := 0, locals := 42 })).room s m ([.ref (bd 0), .int p1, .int p2, .int p3] : List Value).toArray below meth c H locs 0 0 (MQ below (va_Qi (fun (r : Int32) (z : Int32 × (Nat → Int32) × (Nat → Int32) × (Nat → Int32) × (Nat → Int32)) => ((u 1).toInt ≤ z.1.toInt) ∧ ((¬ ((0 ≤ p1.toInt ∧ p1.toInt < 6) ∧ 1 ≤ p3.toInt ∧ p3.toInt ≤ 8) ∧ r.toInt = -1 ∧ z.1.toInt = (u 1).toInt) ∨ (((0 ≤ p1.toInt ∧ p1.toInt < 6) ∧ 1 ≤ p3.toInt ∧ p3.toInt ≤ 8) ∧ ((((b 66) p1.toNatClampNeg).toInt = -1 ∧ r.toInt = 0 ∧ z.1.toInt = (u 1).toInt) ∨ (((b 66) p1.toNatClampNeg).toInt ≠ -1 ∧ ((b 66) p1.toNatClampNeg).toInt ≠ -3 ∧ r.toInt = -12 ∧ z.1.toInt = (u 1).toInt) ∨ (((b 66) p1.toNatClampNeg).toInt = -3 ∧ CAME (ROWOF (bw 68) p1.toNatClampNeg) ((b 67) p1.toNatClampNeg).toInt (u 1).toInt p2.toInt p3.toInt r.toInt ∧ z.1.toInt = (u 1).toInt + r.toInt)))) ∧ (0 ≤ z.1.toInt) ∧ (z.1.toInt ≤ 8)) (XPo D (fun (z : Int32 × (Nat → Int32) × (Nat → Int32) × (Nat → Int32) × (Nat → Int32)) => RW cs bd (va_up u 1 z.1) (va_up (va_up (va_up (va_up b 2 z.2.1) 3 z.2.2.1) 4 z.2.2.2.1) 5 z.2.2.2.2) bw) A) A) ([.ref (bd 0), .int p1, .int p2, .int p3] : List Value).toArray s 0 0 A) (F0 m 58 ls [])) := by
    intro nk
    induction nk with
    | zero => exact (fun x4 c58_u1 c58_b2 c58_b3 c58_b4 c58_b5 H locs j1 j2 j3 j31 i4 i4n i5 hrow hv hc ju1_0 ju1_1 hmu hP hD hS ls hl => absurd hmu (Nat.not_lt_zero _))
    | succ nk ih =>
      intro x4 c58_u1 c58_b2 c58_b3 c58_b4 c58_b5 H locs j1 j2 j3 j31 i4 i4n i5 hrow hv hc ju1_0 ju1_1 hmu hP hD hS ls hl
      refine lv_iload hx hb dX12_people_58 (lv_at hl 4 rfl) ?_
      refine lv_iload_n hx hb dX12_people_60 rfl (lv_at hl 3 rfl) ?_
      refine lv_icmp_ge (tgt := 214) hx hb dX12_people_61 (by decide) (fun c_1 => ?_) (fun c_1 => ?_)
      ·
        have kc_1 : p3.toInt ≤ x4.toInt := i_le c_1
        refine lv_iload_n hx hb dX12_people_214 rfl (lv_at hl 3 rfl) ?_
        exact W.iret (v := p3) hx hb hr (fun tt ht hW => ⟨⟨p3, ⟨c58_u1, c58_b2, c58_b3, c58_b4, c58_b5⟩, rfl, ⟨(by first | rfl | omega | trivial | assumption | (dsimp only; first | omega | assumption)), (by (try dsimp only); exact Or.inr ⟨by omega, Or.inr (Or.inr ⟨by omega, ⟨by omega, by omega, fun t ht => hc t (by omega), Or.inl (by omega)⟩, by omega⟩)⟩), (show 0 ≤ c58_u1.toInt by first | omega | assumption), (show c58_u1.toInt ≤ 8 by first | omega | assumption)⟩, by rw [ht]; exact hP, hD⟩, hS.F ht⟩) hS.2.2 dX12_people_215
      ·
        have kc_1 : x4.toInt < p3.toInt := i_nle c_1
        refine lv_iload_n hx hb dX12_people_64 rfl (lv_at hl 2 rfl) ?_
        refine lv_i2l hx hb dX12_people_65 rfl ?_
        refine lv_topl (fun x_2 ex_2 => ?_)
        have fx_2 : x_2.toInt = p2.toInt := by rw [ex_2]; exact l_i2l p2
        have gx_2 := i_bd p2
        refine lv_iconst (v := 3) hx hb dX12_people_66 (by decide) ?_
        refine lv_iload hx hb dX12_people_67 (lv_at hl 4 rfl) ?_
        refine lv_imul hx hb dX12_people_69 ?_
        refine lv_topi (fun x_3 ex_3 => ?_)
        have fx_3 : x_3.toInt = (3 : Int) * x4.toInt := by rw [ex_3]; exact i_mul (by first | omega | (show _ ≤ (3 : Int) * x4.toInt; omega)) (by first | omega | (show (3 : Int) * x4.toInt ≤ _; omega))
        refine lv_i2l hx hb dX12_people_70 rfl ?_
        refine lv_topl (fun x_4 ex_4 => ?_)
        have fx_4 : x_4.toInt = x_3.toInt := by rw [ex_4]; exact l_i2l x_3
        refine lv_ladd hx hb dX12_people_71 ?_
        refine lv_topl (fun x_5 ex_5 => ?_)
        have fx_5 : x_5.toInt = x_2.toInt + x_4.toInt := by rw [ex_5]; exact l_add (by show (_ : Int) ≤ x_2.toInt + x_4.toInt; omega) (by show x_2.toInt + x_4.toInt ≤ (_ : Int); omega)
        refine lv_lstore (lv' := [(5, .long x_5), (0, .ref (bd 0)), (1, .int p1), (2, .int p2), (3, .int p3), (4, .int x4)]) hx hb dX12_people_72 hl (by decide) rfl (fun ls hl => ?_)
        refine lv_lload hx hb dX12_people_74 (lv_at hl 0 rfl) ?_
        refine lv_lconst (v := 0) hx hb dX12_people_76 (by decide) ?_
        refine W.lcmp hx hb dX12_people_77 ?_
        refine lv_topi (fun x_6 ex_6 => ?_)
        have ql_0 : (0 : Int64).toInt = 0 := rfl
        have fx_6 : (x_6.toInt = 1 ∧ (0 : Int64).toInt < x_5.toInt) ∨ (x_6.toInt = 0 ∧ x_5.toInt = (0 : Int64).toInt) ∨ (x_6.toInt = -1 ∧ x_5.toInt < (0 : Int64).toInt) := by rw [ex_6]; exact l_cmp _ _
        refine lv_if_lt (tgt := 107) hx hb dX12_people_78 (by decide) (fun c_7 => ?_) (fun c_7 => ?_)
        ·
          have kc_7 : x_6.toInt < (0 : Int) := i_lt c_7
          refine lv_iload hx hb dX12_people_107 (lv_at hl 5 rfl) ?_
          exact W.iret (v := x4) hx hb hr (fun tt ht hW => ⟨⟨x4, ⟨c58_u1, c58_b2, c58_b3, c58_b4, c58_b5⟩, rfl, ⟨(by first | rfl | omega | trivial | assumption | (dsimp only; first | omega | assumption)), (by (try dsimp only); exact Or.inr ⟨by omega, Or.inr (Or.inr ⟨by omega, ⟨by omega, by omega, fun t ht => hc t (by omega), Or.inr (fun h => by have h1 := h.1; have h2 := h.2.1; have h3 := h.2.2.1; omega)⟩, by omega⟩)⟩), (show 0 ≤ c58_u1.toInt by first | omega | assumption), (show c58_u1.toInt ≤ 8 by first | omega | assumption)⟩, by rw [ht]; exact hP, hD⟩, hS.F ht⟩) hS.2.2 dX12_people_109
        ·
          have kc_7 : (0 : Int) ≤ x_6.toInt := i_nlt c_7
          refine lv_lload hx hb dX12_people_81 (lv_at hl 0 rfl) ?_
          refine lv_ldc2 hx hb hown (v := 2) (hg _ q5_226) dX12_people_83 ?_
          refine lv_ladd hx hb dX12_people_86 ?_
          refine lv_topl (fun x_8 ex_8 => ?_)
          have ql_2 : (2 : Int64).toInt = 2 := rfl
          have fx_8 : x_8.toInt = x_5.toInt + (2 : Int) := by rw [ex_8]; exact l_add (by show (_ : Int) ≤ x_5.toInt + (2 : Int); omega) (by show x_5.toInt + (2 : Int) ≤ (_ : Int); omega)
          refine lv_aload_n hx hb dX12_people_87 rfl (lv_at hl 1 rfl) ?_
          refine gr_size hx hb hg hown hK hP (hg _ q5_59) dX12_people_88 ?_
          refine lv_iload_n hx hb dX12_people_91 rfl (lv_at hl 2 rfl) ?_
          refine lr_size hx hb hK hP (i_in (by omega) (by omega)) dX12_people_92 ?_
          refine lv_topi (fun x_9 ex_9 => ?_)
          have ex_9 : x_9 = (b 67) p1.toNatClampNeg := ex_9
          have hx_9 : x_9.toInt = ((b 67) p1.toNatClampNeg).toInt := by rw [ex_9]
          have bx_9 := ib67_0 p1.toNatClampNeg
          rw [← ex_9] at bx_9
          refine lv_i2l hx hb dX12_people_93 rfl ?_
          refine lv_topl (fun x_10 ex_10 => ?_)
          have fx_10 : x_10.toInt = x_9.toInt := by rw [ex_10]; exact l_i2l x_9
          refine W.lcmp hx hb dX12_people_94 ?_
          refine lv_topi (fun x_11 ex_11 => ?_)
          have fx_11 : (x_11.toInt = 1 ∧ x_10.toInt < x_8.toInt) ∨ (x_11.toInt = 0 ∧ x_8.toInt = x_10.toInt) ∨ (x_11.toInt = -1 ∧ x_8.toInt < x_10.toInt) := by rw [ex_11]; exact l_cmp _ _
          refine lv_if_ge (tgt := 107) hx hb dX12_people_95 (by decide) (fun c_12 => ?_) (fun c_12 => ?_)
          ·
            have kc_12 : (0 : Int) ≤ x_11.toInt := i_le c_12
            refine lv_iload hx hb dX12_people_107 (lv_at hl 5 rfl) ?_
            exact W.iret (v := x4) hx hb hr (fun tt ht hW => ⟨⟨x4, ⟨c58_u1, c58_b2, c58_b3, c58_b4, c58_b5⟩, rfl, ⟨(by first | rfl | omega | trivial | assumption | (dsimp only; first | omega | assumption)), (by (try dsimp only); exact Or.inr ⟨by omega, Or.inr (Or.inr ⟨by omega, ⟨by omega, by omega, fun t ht => hc t (by omega), Or.inr (fun h => by have h1 := h.1; have h2 := h.2.1; have h3 := h.2.2.1; omega)⟩, by omega⟩)⟩), (show 0 ≤ c58_u1.toInt by first | omega | assumption), (show c58_u1.toInt ≤ 8 by first | omega | assumption)⟩, by rw [ht]; exact hP, hD⟩, hS.F ht⟩) hS.2.2 dX12_people_109
          ·
            have kc_12 : x_11.toInt < (0 : Int) := i_nle c_12
            refine lv_aload_n hx hb dX12_people_98 rfl (lv_at hl 1 rfl) ?_
            refine gr_people1 hx hb hg hown hK hP (x := c58_u1) rfl (hg _ q4_233) dX12_people_99 ?_
            refine lv_bipush (v := 8) hx hb dX12_people_102 (by decide) ?_
            refine lv_icmp_ne (tgt := 110) hx hb dX12_people_104 (by decide) (fun c_13 => ?_) (fun c_13 => ?_)
            ·
              have kc_13 : c58_u1.toInt ≠ (8 : Int) := i_ne c_13
              have ek : x_5.toInt.toNat = (p2.toInt + 3 * ((x4.toInt.toNat : Nat) : Int)).toNat := by omega
              refine lv_bipush (v := 60) hx hb dX12_people_110 (by decide) ?_
              refine lv_iload_n hx hb dX12_people_112 rfl (lv_at hl 2 rfl) ?_
              refine lv_imul hx hb dX12_people_113 ?_
              refine lv_topi (fun x_14 ex_14 => ?_)
              have fx_14 : x_14.toInt = (60 : Int) * p1.toInt := by rw [ex_14]; exact i_mul (by first | omega | (show _ ≤ (60 : Int) * p1.toInt; omega)) (by first | omega | (show (60 : Int) * p1.toInt ≤ _; omega))
              refine lv_lload hx hb dX12_people_114 (lv_at hl 0 rfl) ?_
              refine lv_l2i hx hb dX12_people_116 rfl ?_
              refine lv_topi (fun x_15 ex_15 => ?_)
              have fx_15 : x_15.toInt = x_5.toInt := by rw [ex_15]; exact l_l2i (by omega) (by omega)
              refine lv_iadd hx hb dX12_people_117 ?_
              refine lv_topi (fun x_16 ex_16 => ?_)
              have fx_16 : x_16.toInt = x_14.toInt + x_15.toInt := by rw [ex_16]; exact i_add (by first | omega | (show (_ : Int) ≤ x_14.toInt + x_15.toInt; omega)) (by first | omega | (show x_14.toInt + x_15.toInt ≤ (_ : Int); omega))
              refine lv_istore (lv' := [(7, .int x_16), (5, .long x_5), (0, .ref (bd 0)), (1, .int p1), (2, .int p2), (3, .int p3), (4, .int x4)]) hx hb dX12_people_118 hl (by decide) rfl (fun ls hl => ?_)
              refine lv_aload_n hx hb dX12_people_120 rfl (lv_at hl 2 rfl) ?_
              refine gr_elements hx hb hg hown hK hP (hg _ q5_60) dX12_people_121 ?_
              refine lv_iload hx hb dX12_people_124 (lv_at hl 0 rfl) ?_
              refine lr_elements hx hb hK hP (i_in (by omega) (by omega)) dX12_people_126 ?_
              refine lv_topl (fun x_17 ex_17 => ?_)
              have ex_17 : x_17 = (bw 68) x_16.toNatClampNeg := ex_17
              refine lv_l2i hx hb dX12_people_127 rfl ?_
              refine lv_topi (fun x_18 ex_18 => ?_)
              have kg0 : x_18.toInt = ((ROWOF (bw 68) p1.toNatClampNeg) (x_5.toInt.toNat)).toInt32.toInt := by rw [ex_18, ex_17]; show _ = ((bw 68) (60 * p1.toNatClampNeg + (x_5.toInt.toNat))).toInt32.toInt; rw [show (x_16).toNatClampNeg = 60 * p1.toNatClampNeg + (x_5.toInt.toNat) from (by show (x_16).toInt.toNat = _; omega)]
              refine cS_p (As := [.int x_18]) (rest := []) ⟨hx, hb, hml, hown, hg⟩ (k_X12_isCell l   x_18 ) ca_X12_isCell q5_209 ⟨rfl, rfl⟩ ⟨Nat.le_of_ble_eq_true rfl, Nat.le_of_ble_eq_true rfl⟩ rfl hl.1 rfl (Nat.le_of_ble_eq_true rfl) ⟨Nat.zero_le _, Nat.zero_le _⟩ dX12_people_128 (fun r_19 wr_19 => ?_)
              have wr_19 : (r_19.toInt = 1 ∧ 0 ≤ x_18.toInt ∧ x_18.toInt < 256) ∨ (r_19.toInt = 0 ∧ ¬ (0 ≤ x_18.toInt ∧ x_18.toInt < 256)) := wr_19
              refine lv_if_eq (tgt := 172) hx hb dX12_people_131 (by decide) (fun c_20 => ?_) (fun c_20 => ?_)
              ·
                have kc_20 : r_19.toInt = (0 : Int) := i_eq c_20
                refine lv_iload hx hb dX12_people_172 (lv_at hl 6 rfl) ?_
                exact W.iret (v := x4) hx hb hr (fun tt ht hW => ⟨⟨x4, ⟨c58_u1, c58_b2, c58_b3, c58_b4, c58_b5⟩, rfl, ⟨(by first | rfl | omega | trivial | assumption | (dsimp only; first | omega | assumption)), (by (try dsimp only); exact Or.inr ⟨by omega, Or.inr (Or.inr ⟨by omega, ⟨by omega, by omega, fun t ht => hc t (by omega), Or.inr (fun h => by have h4 := h.2.2.2; rw [← ek] at h4; unfold IS3 at h4; omega)⟩, by omega⟩)⟩), (show 0 ≤ c58_u1.toInt by first | omega | assumption), (show c58_u1.toInt ≤ 8 by first | omega | assumption)⟩, by rw [ht]; exact hP, hD⟩, hS.F ht⟩) hS.2.2 dX12_people_174
              ·
                have kc_20 : r_19.toInt ≠ (0 : Int) := i_ne c_20
                refine lv_aload_n hx hb dX12_people_134 rfl (lv_at hl 2 rfl) ?_
                refine gr_elements hx hb hg hown hK hP (hg _ q5_60) dX12_people_135 ?_
                refine lv_iload hx hb dX12_people_138 (lv_at hl 0 rfl) ?_
                refine lv_iconst (v := 1) hx hb dX12_people_140 (by decide) ?_
                refine lv_iadd hx hb dX12_people_141 ?_
                refine lv_topi (fun x_21 ex_21 => ?_)
                have fx_21 : x_21.toInt = x_16.toInt + (1 : Int) := by rw [ex_21]; exact i_add (by first | omega | (show (_ : Int) ≤ x_16.toInt + (1 : Int); omega)) (by first | omega | (show x_16.toInt + (1 : Int) ≤ (_ : Int); omega))
                refine lr_elements hx hb hK hP (i_in (by omega) (by omega)) dX12_people_142 ?_
                refine lv_topl (fun x_22 ex_22 => ?_)
                have ex_22 : x_22 = (bw 68) x_21.toNatClampNeg := ex_22
                refine lv_l2i hx hb dX12_people_143 rfl ?_
                refine lv_topi (fun x_23 ex_23 => ?_)
                have kg1 : x_23.toInt = ((ROWOF (bw 68) p1.toNatClampNeg) (x_5.toInt.toNat + 1)).toInt32.toInt := by rw [ex_23, ex_22]; show _ = ((bw 68) (60 * p1.toNatClampNeg + (x_5.toInt.toNat + 1))).toInt32.toInt; rw [show (x_21).toNatClampNeg = 60 * p1.toNatClampNeg + (x_5.toInt.toNat + 1) from (by show (x_21).toInt.toNat = _; omega)]
                refine lv_iconst (v := 0) hx hb dX12_people_144 (by decide) ?_
                refine lv_bipush (v := 12) hx hb dX12_people_145 (by decide) ?_
                refine cS_p (As := [.int x_23, .int 0, .int 12]) (rest := []) ⟨hx, hb, hml, hown, hg⟩ (k_X12_in l   x_23 0 12 ) ca_X12_in q5_212 ⟨rfl, rfl⟩ ⟨Nat.le_of_ble_eq_true rfl, Nat.le_of_ble_eq_true rfl⟩ rfl hl.1 rfl (Nat.le_of_ble_eq_true rfl) ⟨Nat.zero_le _, Nat.zero_le _⟩ dX12_people_147 (fun r_24 wr_24 => ?_)
                have wr_24 : (r_24.toInt = 1 ∧ (0 : Int) ≤ x_23.toInt ∧ x_23.toInt ≤ (12 : Int)) ∨ (r_24.toInt = 0 ∧ ¬ ((0 : Int) ≤ x_23.toInt ∧ x_23.toInt ≤ (12 : Int))) := wr_24
                refine lv_if_eq (tgt := 172) hx hb dX12_people_150 (by decide) (fun c_25 => ?_) (fun c_25 => ?_)
                ·
                  have kc_25 : r_24.toInt = (0 : Int) := i_eq c_25
                  refine lv_iload hx hb dX12_people_172 (lv_at hl 6 rfl) ?_
                  exact W.iret (v := x4) hx hb hr (fun tt ht hW => ⟨⟨x4, ⟨c58_u1, c58_b2, c58_b3, c58_b4, c58_b5⟩, rfl, ⟨(by first | rfl | omega | trivial | assumption | (dsimp only; first | omega | assumption)), (by (try dsimp only); exact Or.inr ⟨by omega, Or.inr (Or.inr ⟨by omega, ⟨by omega, by omega, fun t ht => hc t (by omega), Or.inr (fun h => by have h4 := h.2.2.2; rw [← ek] at h4; unfold IS3 at h4; omega)⟩, by omega⟩)⟩), (show 0 ≤ c58_u1.toInt by first | omega | assumption), (show c58_u1.toInt ≤ 8 by first | omega | assumption)⟩, by rw [ht]; exact hP, hD⟩, hS.F ht⟩) hS.2.2 dX12_people_174
                ·
                  have kc_25 : r_24.toInt ≠ (0 : Int) := i_ne c_25
                  refine lv_aload_n hx hb dX12_people_153 rfl (lv_at hl 2 rfl) ?_
                  refine gr_elements hx hb hg hown hK hP (hg _ q5_60) dX12_people_154 ?_
                  refine lv_iload hx hb dX12_people_157 (lv_at hl 0 rfl) ?_
                  refine lv_iconst (v := 2) hx hb dX12_people_159 (by decide) ?_
                  refine lv_iadd hx hb dX12_people_160 ?_
                  refine lv_topi (fun x_26 ex_26 => ?_)
                  have fx_26 : x_26.toInt = x_16.toInt + (2 : Int) := by rw [ex_26]; exact i_add (by first | omega | (show (_ : Int) ≤ x_16.toInt + (2 : Int); omega)) (by first | omega | (show x_16.toInt + (2 : Int) ≤ (_ : Int); omega))
                  refine lr_elements hx hb hK hP (i_in (by omega) (by omega)) dX12_people_161 ?_
                  refine lv_topl (fun x_27 ex_27 => ?_)
                  have ex_27 : x_27 = (bw 68) x_26.toNatClampNeg := ex_27
                  refine lv_l2i hx hb dX12_people_162 rfl ?_
                  refine lv_topi (fun x_28 ex_28 => ?_)
                  have kg2 : x_28.toInt = ((ROWOF (bw 68) p1.toNatClampNeg) (x_5.toInt.toNat + 2)).toInt32.toInt := by rw [ex_28, ex_27]; show _ = ((bw 68) (60 * p1.toNatClampNeg + (x_5.toInt.toNat + 2))).toInt32.toInt; rw [show (x_26).toNatClampNeg = 60 * p1.toNatClampNeg + (x_5.toInt.toNat + 2) from (by show (x_26).toInt.toNat = _; omega)]
                  refine lv_iconst (v := 0) hx hb dX12_people_163 (by decide) ?_
                  refine lv_bipush (v := 9) hx hb dX12_people_164 (by decide) ?_
                  refine cS_p (As := [.int x_28, .int 0, .int 9]) (rest := []) ⟨hx, hb, hml, hown, hg⟩ (k_X12_in l   x_28 0 9 ) ca_X12_in q5_212 ⟨rfl, rfl⟩ ⟨Nat.le_of_ble_eq_true rfl, Nat.le_of_ble_eq_true rfl⟩ rfl hl.1 rfl (Nat.le_of_ble_eq_true rfl) ⟨Nat.zero_le _, Nat.zero_le _⟩ dX12_people_166 (fun r_29 wr_29 => ?_)
                  have wr_29 : (r_29.toInt = 1 ∧ (0 : Int) ≤ x_28.toInt ∧ x_28.toInt ≤ (9 : Int)) ∨ (r_29.toInt = 0 ∧ ¬ ((0 : Int) ≤ x_28.toInt ∧ x_28.toInt ≤ (9 : Int))) := wr_29
                  refine lv_if_ne (tgt := 175) hx hb dX12_people_169 (by decide) (fun c_30 => ?_) (fun c_30 => ?_)
                  ·
                    have kc_30 : r_29.toInt ≠ (0 : Int) := i_ne c_30
                    have kc1 : OKP (ROWOF (bw 68) p1.toNatClampNeg) ((b 67) p1.toNatClampNeg).toInt (u 1).toInt p2.toInt x4.toInt.toNat := ⟨by omega, by omega, by omega, by rw [← ek]; exact ⟨⟨by omega, by omega⟩, ⟨by omega, by omega⟩, ⟨by omega, by omega⟩⟩⟩
                    refine lv_aload_n hx hb dX12_people_175 rfl (lv_at hl 2 rfl) ?_
                    refine lv_aload_n hx hb dX12_people_176 rfl (lv_at hl 2 rfl) ?_
                    refine gr_elements hx hb hg hown hK hP (hg _ q5_60) dX12_people_177 ?_
                    refine lv_iload hx hb dX12_people_180 (lv_at hl 0 rfl) ?_
                    refine lr_elements hx hb hK hP (i_in (by omega) (by omega)) dX12_people_182 ?_
                    refine lv_topl (fun x_31 ex_31 => ?_)
                    have ex_31 : x_31 = (bw 68) x_16.toNatClampNeg := ex_31
                    refine lv_l2i hx hb dX12_people_183 rfl ?_
                    refine lv_topi (fun x_32 ex_32 => ?_)
                    refine lv_aload_n hx hb dX12_people_184 rfl (lv_at hl 2 rfl) ?_
                    refine gr_elements hx hb hg hown hK hP (hg _ q5_60) dX12_people_185 ?_
                    refine lv_iload hx hb dX12_people_188 (lv_at hl 0 rfl) ?_
                    refine lv_iconst (v := 1) hx hb dX12_people_190 (by decide) ?_
                    refine lv_iadd hx hb dX12_people_191 ?_
                    refine lv_topi (fun x_33 ex_33 => ?_)
                    have fx_33 : x_33.toInt = x_16.toInt + (1 : Int) := by rw [ex_33]; exact i_add (by first | omega | (show (_ : Int) ≤ x_16.toInt + (1 : Int); omega)) (by first | omega | (show x_16.toInt + (1 : Int) ≤ (_ : Int); omega))
                    refine lr_elements hx hb hK hP (i_in (by omega) (by omega)) dX12_people_192 ?_
                    refine lv_topl (fun x_34 ex_34 => ?_)
                    have ex_34 : x_34 = (bw 68) x_33.toNatClampNeg := ex_34
                    refine lv_l2i hx hb dX12_people_193 rfl ?_
                    refine lv_topi (fun x_35 ex_35 => ?_)
                    refine lv_aload_n hx hb dX12_people_194 rfl (lv_at hl 2 rfl) ?_
                    refine gr_elements hx hb hg hown hK hP (hg _ q5_60) dX12_people_195 ?_
                    refine lv_iload hx hb dX12_people_198 (lv_at hl 0 rfl) ?_
                    refine lv_iconst (v := 2) hx hb dX12_people_200 (by decide) ?_
                    refine lv_iadd hx hb dX12_people_201 ?_
                    refine lv_topi (fun x_36 ex_36 => ?_)
                    have fx_36 : x_36.toInt = x_16.toInt + (2 : Int) := by rw [ex_36]; exact i_add (by first | omega | (show (_ : Int) ≤ x_16.toInt + (2 : Int); omega)) (by first | omega | (show x_16.toInt + (2 : Int) ≤ (_ : Int); omega))
                    refine lr_elements hx hb hK hP (i_in (by omega) (by omega)) dX12_people_202 ?_
                    refine lv_topl (fun x_37 ex_37 => ?_)
                    have ex_37 : x_37 = (bw 68) x_36.toNatClampNeg := ex_37
                    refine lv_l2i hx hb dX12_people_203 rfl ?_
                    refine lv_topi (fun x_38 ex_38 => ?_)
                    refine cV_i (As := [.int x_32, .int x_35, .int x_38]) (rest := []) ⟨hx, hb, hml, hown, hg⟩ (k_X12_addOne l D cs A bd (va_up u 1 c58_u1) (va_up (va_up (va_up (va_up b 2 c58_b2) 3 c58_b3) 4 c58_b4) 5 c58_b5) bw  x_32 x_35 x_38 (show c58_u1.toInt ≤ 7 by first | omega | decide) (show 0 ≤ c58_u1.toInt by first | omega | decide) (show c58_u1.toInt ≤ 8 by first | omega | decide)) ca_X12_addOne q5_215 ⟨rfl, rfl⟩ ⟨Nat.le_of_ble_eq_true rfl, Nat.le_of_ble_eq_true rfl⟩ (rc_model hK hP) hK hP hD hS hZ rfl hl.1 rfl (Nat.le_of_ble_eq_true rfl) ⟨Nat.zero_le _, Nat.zero_le _⟩ dX12_people_204 (fun r_39 z_45 H locs wr_39 hP hD hS => ?_)
                    obtain ⟨o_u1_40, o_b2_41, o_b3_42, o_b4_43, o_b5_44⟩ := z_45
                    have hP : va_P D vwCl (RW cs bd (va_up u 1 o_u1_40) (va_up (va_up (va_up (va_up b 2 o_b2_41) 3 o_b3_42) 4 o_b4_43) 5 o_b5_44) bw) H := hP
                    have hD : va_D A (RW cs bd (va_up u 1 o_u1_40) (va_up (va_up (va_up (va_up b 2 o_b2_41) 3 o_b3_42) 4 o_b4_43) 5 o_b5_44) bw) := hD
                    obtain ⟨wr_39_0, wr_39_1, wr_39_2, wr_39_3⟩ : (r_39.toInt = c58_u1.toInt) ∧ (o_u1_40.toInt = c58_u1.toInt + 1) ∧ (0 ≤ o_u1_40.toInt) ∧ (o_u1_40.toInt ≤ 8) := wr_39
                    refine lv_pop hx hb dX12_people_207 rfl ?_
                    obtain ⟨x_46, ex_46⟩ : ∃ y : Int32, y = x4 + 1 := ⟨_, rfl⟩
                    have fx_46 : x_46.toInt = x4.toInt + 1 := by rw [ex_46]; exact i_add (by first | omega | (show (_ : Int) ≤ x4.toInt + 1; omega)) (by first | omega | (show x4.toInt + 1 ≤ (_ : Int); omega))
                    refine lv_iinc (v := x_46) (lv' := [(4, .int x_46), (7, .int x_16), (5, .long x_5), (0, .ref (bd 0)), (1, .int p1), (2, .int p2), (3, .int p3)]) hx hb dX12_people_208 hl (k := 6) rfl (by rw [ex_46]; rfl) (by decide) rfl (fun ls hl => ?_)
                    refine lv_goto (tgt := 58) hx hb dX12_people_211 (by decide) ?_
                    exact ih x_46 o_u1_40 o_b2_41 o_b3_42 o_b4_43 o_b5_44 _ _ (by omega) (by omega) (by omega) (by omega) (by omega) (by omega) (by omega) (by omega) (by omega) (fun t ht => (Classical.em (t = x4.toInt.toNat)).elim (fun q => by rw [q]; exact kc1) (fun q => hc t (by omega))) (show 0 ≤ o_u1_40.toInt by first | omega | assumption) (show o_u1_40.toInt ≤ 8 by first | omega | assumption) (by omega) hP hD hS ls (lv_sub hl [3, 4, 5, 6, 0] rfl)
                  ·
                    have kc_30 : r_29.toInt = (0 : Int) := i_eq c_30
                    refine lv_iload hx hb dX12_people_172 (lv_at hl 6 rfl) ?_
                    exact W.iret (v := x4) hx hb hr (fun tt ht hW => ⟨⟨x4, ⟨c58_u1, c58_b2, c58_b3, c58_b4, c58_b5⟩, rfl, ⟨(by first | rfl | omega | trivial | assumption | (dsimp only; first | omega | assumption)), (by (try dsimp only); exact Or.inr ⟨by omega, Or.inr (Or.inr ⟨by omega, ⟨by omega, by omega, fun t ht => hc t (by omega), Or.inr (fun h => by have h4 := h.2.2.2; rw [← ek] at h4; unfold IS3 at h4; omega)⟩, by omega⟩)⟩), (show 0 ≤ c58_u1.toInt by first | omega | assumption), (show c58_u1.toInt ≤ 8 by first | omega | assumption)⟩, by rw [ht]; exact hP, hD⟩, hS.F ht⟩) hS.2.2 dX12_people_174
            ·
              have kc_13 : c58_u1.toInt = (8 : Int) := i_eq c_13
              refine lv_iload hx hb dX12_people_107 (lv_at hl 5 rfl) ?_
              exact W.iret (v := x4) hx hb hr (fun tt ht hW => ⟨⟨x4, ⟨c58_u1, c58_b2, c58_b3, c58_b4, c58_b5⟩, rfl, ⟨(by first | rfl | omega | trivial | assumption | (dsimp only; first | omega | assumption)), (by (try dsimp only); exact Or.inr ⟨by omega, Or.inr (Or.inr ⟨by omega, ⟨by omega, by omega, fun t ht => hc t (by omega), Or.inr (fun h => by have h1 := h.1; have h2 := h.2.1; have h3 := h.2.2.1; omega)⟩, by omega⟩)⟩), (show 0 ≤ c58_u1.toInt by first | omega | assumption), (show c58_u1.toInt ≤ 8 by first | omega | assumption)⟩, by rw [ht]; exact hP, hD⟩, hS.F ht⟩) hS.2.2 dX12_people_109
  refine lv_iload_n hx hb dX12_people_0 rfl (lv_at hl 1 rfl) ?_
  refine cS_p (As := [.int p1]) (rest := []) ⟨hx, hb, hml, hown, hg⟩ (k_X12_isShelf l   p1 ) ca_X12_isShelf q5_223 ⟨rfl, rfl⟩ ⟨Nat.le_of_ble_eq_true rfl, Nat.le_of_ble_eq_true rfl⟩ rfl hl.1 rfl (Nat.le_of_ble_eq_true rfl) ⟨Nat.zero_le _, Nat.zero_le _⟩ dX12_people_1 (fun r_47 wr_47 => ?_)
  have wr_47 : (r_47.toInt = 1 ∧ 0 ≤ p1.toInt ∧ p1.toInt < 6) ∨ (r_47.toInt = 0 ∧ ¬ (0 ≤ p1.toInt ∧ p1.toInt < 6)) := wr_47
  refine lv_if_eq (tgt := 17) hx hb dX12_people_4 (by decide) (fun c_48 => ?_) (fun c_48 => ?_)
  ·
    have kc_48 : r_47.toInt = (0 : Int) := i_eq c_48
    refine lv_iconst (v := (-1)) hx hb dX12_people_17 (by decide) ?_
    have q0_m1 : ((-1) : Int32).toInt = (-1) := rfl
    have hP : va_P D vwCl (RW cs bd (va_up u 1 (u 1)) (va_up (va_up (va_up (va_up b 2 (b 2)) 3 (b 3)) 4 (b 4)) 5 (b 5)) bw) _ := hP
    have hD : va_D A (RW cs bd (va_up u 1 (u 1)) (va_up (va_up (va_up (va_up b 2 (b 2)) 3 (b 3)) 4 (b 4)) 5 (b 5)) bw) := hD
    exact W.iret (v := (-1)) hx hb hr (fun tt ht hW => ⟨⟨(-1), ⟨(u 1), (b 2), (b 3), (b 4), (b 5)⟩, rfl, ⟨(by first | rfl | omega | trivial | assumption | (dsimp only; first | omega | assumption)), (by (try dsimp only); first | exact Or.inl (by omega) | exact Or.inr ⟨by omega, Or.inl (by omega)⟩ | exact Or.inr ⟨by omega, Or.inr (Or.inl (by omega))⟩), (show 0 ≤ (u 1).toInt by first | omega | assumption), (show (u 1).toInt ≤ 8 by first | omega | assumption)⟩, by rw [ht]; exact hP, hD⟩, hS.F ht⟩) hS.2.2 dX12_people_18
  ·
    have kc_48 : r_47.toInt ≠ (0 : Int) := i_ne c_48
    refine lv_iload_n hx hb dX12_people_7 rfl (lv_at hl 3 rfl) ?_
    refine lv_iconst (v := 1) hx hb dX12_people_8 (by decide) ?_
    refine lv_bipush (v := 8) hx hb dX12_people_9 (by decide) ?_
    refine cS_p (As := [.int p3, .int 1, .int 8]) (rest := []) ⟨hx, hb, hml, hown, hg⟩ (k_X12_in l   p3 1 8 ) ca_X12_in q5_212 ⟨rfl, rfl⟩ ⟨Nat.le_of_ble_eq_true rfl, Nat.le_of_ble_eq_true rfl⟩ rfl hl.1 rfl (Nat.le_of_ble_eq_true rfl) ⟨Nat.zero_le _, Nat.zero_le _⟩ dX12_people_11 (fun r_49 wr_49 => ?_)
    have wr_49 : (r_49.toInt = 1 ∧ (1 : Int) ≤ p3.toInt ∧ p3.toInt ≤ (8 : Int)) ∨ (r_49.toInt = 0 ∧ ¬ ((1 : Int) ≤ p3.toInt ∧ p3.toInt ≤ (8 : Int))) := wr_49
    refine lv_if_ne (tgt := 19) hx hb dX12_people_14 (by decide) (fun c_50 => ?_) (fun c_50 => ?_)
    ·
      have kc_50 : r_49.toInt ≠ (0 : Int) := i_ne c_50
      refine lv_aload_n hx hb dX12_people_19 rfl (lv_at hl 0 rfl) ?_
      refine gr_holds hx hb hg hown hK hP (hg _ q5_58) dX12_people_20 ?_
      refine lv_iload_n hx hb dX12_people_23 rfl (lv_at hl 1 rfl) ?_
      refine lr_holds hx hb hK hP (i_in (by omega) (by omega)) dX12_people_24 ?_
      refine lv_topi (fun x_51 ex_51 => ?_)
      have ex_51 : x_51 = (b 66) p1.toNatClampNeg := ex_51
      have hx_51 : x_51.toInt = ((b 66) p1.toNatClampNeg).toInt := by rw [ex_51]
      have bx_51 := ib66_0 p1.toNatClampNeg
      rw [← ex_51] at bx_51
      refine lv_iconst (v := (-1)) hx hb dX12_people_25 (by decide) ?_
      refine lv_icmp_eq (tgt := 43) hx hb dX12_people_26 (by decide) (fun c_52 => ?_) (fun c_52 => ?_)
      ·
        have kc_52 : x_51.toInt = (-1 : Int) := i_eq c_52
        refine lv_aload_n hx hb dX12_people_43 rfl (lv_at hl 0 rfl) ?_
        refine gr_holds hx hb hg hown hK hP (hg _ q5_58) dX12_people_44 ?_
        refine lv_iload_n hx hb dX12_people_47 rfl (lv_at hl 1 rfl) ?_
        refine lr_holds hx hb hK hP (i_in (by omega) (by omega)) dX12_people_48 ?_
        refine lv_topi (fun x_53 ex_53 => ?_)
        have ex_53 : x_53 = (b 66) p1.toNatClampNeg := ex_53
        have hx_53 : x_53.toInt = ((b 66) p1.toNatClampNeg).toInt := by rw [ex_53]
        have bx_53 := ib66_0 p1.toNatClampNeg
        rw [← ex_53] at bx_53
        refine lv_iconst (v := (-1)) hx hb dX12_people_49 (by decide) ?_
        refine lv_icmp_ne (tgt := 55) hx hb dX12_people_50 (by decide) (fun c_54 => ?_) (fun c_54 => ?_)
        ·
          have kc_54 : x_53.toInt ≠ (-1 : Int) := i_ne c_54
          refine lv_iconst (v := 0) hx hb dX12_people_55 (by decide) ?_
          refine lv_istore (lv' := [(4, .int 0), (0, .ref (bd 0)), (1, .int p1), (2, .int p2), (3, .int p3)]) hx hb dX12_people_56 hl (by decide) rfl (fun ls hl => ?_)
          have q0_0 : (0 : Int32).toInt = 0 := rfl
          exact (hcut (((p3.toInt - (0 : Int32).toInt).toNat) + 1)) 0 (u 1) (b 2) (b 3) (b 4) (b 5) _ _ (by omega) (by omega) (by omega) (by omega) (by omega) (by omega) (by omega) (by omega) (by omega) (fun t ht => absurd ht (by have q : (0 : Int32).toInt = 0 := rfl; omega)) (show 0 ≤ (u 1).toInt by first | omega | assumption) (show (u 1).toInt ≤ 8 by first | omega | assumption) (Nat.lt_succ_self _) hP hD hS ls (lv_sub hl [1, 2, 3, 4, 0] rfl)
        ·
          have kc_54 : x_53.toInt = (-1 : Int) := i_eq c_54
          refine lv_iconst (v := 0) hx hb dX12_people_53 (by decide) ?_
          have q0_0 : (0 : Int32).toInt = 0 := rfl
          have hP : va_P D vwCl (RW cs bd (va_up u 1 (u 1)) (va_up (va_up (va_up (va_up b 2 (b 2)) 3 (b 3)) 4 (b 4)) 5 (b 5)) bw) _ := hP
          have hD : va_D A (RW cs bd (va_up u 1 (u 1)) (va_up (va_up (va_up (va_up b 2 (b 2)) 3 (b 3)) 4 (b 4)) 5 (b 5)) bw) := hD
          exact W.iret (v := 0) hx hb hr (fun tt ht hW => ⟨⟨0, ⟨(u 1), (b 2), (b 3), (b 4), (b 5)⟩, rfl, ⟨(by first | rfl | omega | trivial | assumption | (dsimp only; first | omega | assumption)), (by (try dsimp only); first | exact Or.inl (by omega) | exact Or.inr ⟨by omega, Or.inl (by omega)⟩ | exact Or.inr ⟨by omega, Or.inr (Or.inl (by omega))⟩), (show 0 ≤ (u 1).toInt by first | omega | assumption), (show (u 1).toInt ≤ 8 by first | omega | assumption)⟩, by rw [ht]; exact hP, hD⟩, hS.F ht⟩) hS.2.2 dX12_people_54
      ·
        have kc_52 : x_51.toInt ≠ (-1 : Int) := i_ne c_52
        refine lv_aload_n hx hb dX12_people_29 rfl (lv_at hl 0 rfl) ?_
        refine gr_holds hx hb hg hown hK hP (hg _ q5_58) dX12_people_30 ?_
        refine lv_iload_n hx hb dX12_people_33 rfl (lv_at hl 1 rfl) ?_
        refine lr_holds hx hb hK hP (i_in (by omega) (by omega)) dX12_people_34 ?_
        refine lv_topi (fun x_55 ex_55 => ?_)
        have ex_55 : x_55 = (b 66) p1.toNatClampNeg := ex_55
        have hx_55 : x_55.toInt = ((b 66) p1.toNatClampNeg).toInt := by rw [ex_55]
        have bx_55 := ib66_0 p1.toNatClampNeg
        rw [← ex_55] at bx_55
        refine lv_bipush (v := (-3)) hx hb dX12_people_35 (by decide) ?_
        refine lv_icmp_eq (tgt := 43) hx hb dX12_people_37 (by decide) (fun c_56 => ?_) (fun c_56 => ?_)
        ·
          have kc_56 : x_55.toInt = (-3 : Int) := i_eq c_56
          refine lv_aload_n hx hb dX12_people_43 rfl (lv_at hl 0 rfl) ?_
          refine gr_holds hx hb hg hown hK hP (hg _ q5_58) dX12_people_44 ?_
          refine lv_iload_n hx hb dX12_people_47 rfl (lv_at hl 1 rfl) ?_
          refine lr_holds hx hb hK hP (i_in (by omega) (by omega)) dX12_people_48 ?_
          refine lv_topi (fun x_57 ex_57 => ?_)
          have ex_57 : x_57 = (b 66) p1.toNatClampNeg := ex_57
          have hx_57 : x_57.toInt = ((b 66) p1.toNatClampNeg).toInt := by rw [ex_57]
          have bx_57 := ib66_0 p1.toNatClampNeg
          rw [← ex_57] at bx_57
          refine lv_iconst (v := (-1)) hx hb dX12_people_49 (by decide) ?_
          refine lv_icmp_ne (tgt := 55) hx hb dX12_people_50 (by decide) (fun c_58 => ?_) (fun c_58 => ?_)
          ·
            have kc_58 : x_57.toInt ≠ (-1 : Int) := i_ne c_58
            refine lv_iconst (v := 0) hx hb dX12_people_55 (by decide) ?_
            refine lv_istore (lv' := [(4, .int 0), (0, .ref (bd 0)), (1, .int p1), (2, .int p2), (3, .int p3)]) hx hb dX12_people_56 hl (by decide) rfl (fun ls hl => ?_)
            have q0_0 : (0 : Int32).toInt = 0 := rfl
            exact (hcut (((p3.toInt - (0 : Int32).toInt).toNat) + 1)) 0 (u 1) (b 2) (b 3) (b 4) (b 5) _ _ (by omega) (by omega) (by omega) (by omega) (by omega) (by omega) (by omega) (by omega) (by omega) (fun t ht => absurd ht (by have q : (0 : Int32).toInt = 0 := rfl; omega)) (show 0 ≤ (u 1).toInt by first | omega | assumption) (show (u 1).toInt ≤ 8 by first | omega | assumption) (Nat.lt_succ_self _) hP hD hS ls (lv_sub hl [1, 2, 3, 4, 0] rfl)
          ·
            have kc_58 : x_57.toInt = (-1 : Int) := i_eq c_58
            refine lv_iconst (v := 0) hx hb dX12_people_53 (by decide) ?_
            have q0_0 : (0 : Int32).toInt = 0 := rfl
            have hP : va_P D vwCl (RW cs bd (va_up u 1 (u 1)) (va_up (va_up (va_up (va_up b 2 (b 2)) 3 (b 3)) 4 (b 4)) 5 (b 5)) bw) _ := hP
            have hD : va_D A (RW cs bd (va_up u 1 (u 1)) (va_up (va_up (va_up (va_up b 2 (b 2)) 3 (b 3)) 4 (b 4)) 5 (b 5)) bw) := hD
            exact W.iret (v := 0) hx hb hr (fun tt ht hW => ⟨⟨0, ⟨(u 1), (b 2), (b 3), (b 4), (b 5)⟩, rfl, ⟨(by first | rfl | omega | trivial | assumption | (dsimp only; first | omega | assumption)), (by (try dsimp only); first | exact Or.inl (by omega) | exact Or.inr ⟨by omega, Or.inl (by omega)⟩ | exact Or.inr ⟨by omega, Or.inr (Or.inl (by omega))⟩), (show 0 ≤ (u 1).toInt by first | omega | assumption), (show (u 1).toInt ≤ 8 by first | omega | assumption)⟩, by rw [ht]; exact hP, hD⟩, hS.F ht⟩) hS.2.2 dX12_people_54
        ·
          have kc_56 : x_55.toInt ≠ (-3 : Int) := i_ne c_56
          refine lv_bipush (v := (-12)) hx hb dX12_people_40 (by decide) ?_
          have q0_m12 : ((-12) : Int32).toInt = (-12) := rfl
          have hP : va_P D vwCl (RW cs bd (va_up u 1 (u 1)) (va_up (va_up (va_up (va_up b 2 (b 2)) 3 (b 3)) 4 (b 4)) 5 (b 5)) bw) _ := hP
          have hD : va_D A (RW cs bd (va_up u 1 (u 1)) (va_up (va_up (va_up (va_up b 2 (b 2)) 3 (b 3)) 4 (b 4)) 5 (b 5)) bw) := hD
          exact W.iret (v := (-12)) hx hb hr (fun tt ht hW => ⟨⟨(-12), ⟨(u 1), (b 2), (b 3), (b 4), (b 5)⟩, rfl, ⟨(by first | rfl | omega | trivial | assumption | (dsimp only; first | omega | assumption)), (by (try dsimp only); first | exact Or.inl (by omega) | exact Or.inr ⟨by omega, Or.inl (by omega)⟩ | exact Or.inr ⟨by omega, Or.inr (Or.inl (by omega))⟩), (show 0 ≤ (u 1).toInt by first | omega | assumption), (show (u 1).toInt ≤ 8 by first | omega | assumption)⟩, by rw [ht]; exact hP, hD⟩, hS.F ht⟩) hS.2.2 dX12_people_42
    ·
      have kc_50 : r_49.toInt = (0 : Int) := i_eq c_50
      refine lv_iconst (v := (-1)) hx hb dX12_people_17 (by decide) ?_
      have q0_m1 : ((-1) : Int32).toInt = (-1) := rfl
      have hP : va_P D vwCl (RW cs bd (va_up u 1 (u 1)) (va_up (va_up (va_up (va_up b 2 (b 2)) 3 (b 3)) 4 (b 4)) 5 (b 5)) bw) _ := hP
      have hD : va_D A (RW cs bd (va_up u 1 (u 1)) (va_up (va_up (va_up (va_up b 2 (b 2)) 3 (b 3)) 4 (b 4)) 5 (b 5)) bw) := hD
      exact W.iret (v := (-1)) hx hb hr (fun tt ht hW => ⟨⟨(-1), ⟨(u 1), (b 2), (b 3), (b 4), (b 5)⟩, rfl, ⟨(by first | rfl | omega | trivial | assumption | (dsimp only; first | omega | assumption)), (by (try dsimp only); first | exact Or.inl (by omega) | exact Or.inr ⟨by omega, Or.inl (by omega)⟩ | exact Or.inr ⟨by omega, Or.inr (Or.inl (by omega))⟩), (show 0 ≤ (u 1).toInt by first | omega | assumption), (show (u 1).toInt ≤ 8 by first | omega | assumption)⟩, by rw [ht]; exact hP, hD⟩, hS.F ht⟩) hS.2.2 dX12_people_18
set_option maxHeartbeats 4000000 in
set_option maxRecDepth 100000 in
theorem k_X12_valueAt (l : Launch) (D : va_G) (cs : Nat → ClassId) (A : Nat → Prop) (bd : Nat → Nat) (u : Nat → Int32) (b : Nat → Nat → Int32) (bw : Nat → Nat → Int64)  (p1 : Int32) (p2 : Int32) (h1 : 0 ≤ p2.toInt) (h2 : p2.toInt < 8) (h3 : 0 ≤ p1.toInt) (h4 : p1.toInt ≤ 7) : Met l yX12_valueAt (Cond.code yX12_valueAt cX12_valueAt 3 (some .int) :: gw) ({ frames := 0, cells := 0, slots := 0, locals := 0 }) (va_Pc [.ref (bd 0), .int p1, .int p2] (XPre D (TY cs) (RW cs bd u b bw) A)) (vp_Si (fun (r : Int32) => True)) 0 0 (fun _ => False) := by
  refine Met.ofW (cc := cX12_valueAt) (maxL := 3) (ret := (some .int)) (by decide) rfl ?_
  intro p e s m args below meth c s₁ B hml hv
  obtain ⟨rfl, hP, hK, hD, hZ⟩ := hv
  have hx := B.exec
  have hb := B.bytes
  have hr := B.returns
  have hts := atoms_spec (ws := (Cond.code yX12_valueAt cX12_valueAt 3 (some .int) :: gw)) B.pre
  have hg : ∀ w ∈ gw, w.before ([.ref (bd 0), .int p1, .int p2] : List Value).toArray s = true := fun w h => hts w (List.mem_cons_of_mem _ h)
  have hown : s.vm.findClass RX12 = some m.cls := findClass_of_methodNamed B.named
  have hlocks := B.notSynchronized
  have hS : va_S A s.heap s.heap [] := va_S.rf
  have hl := lv_entry ([.ref (bd 0), .int p1, .int p2]) (n := 3) (Nat.le_of_ble_eq_true rfl)
  rw [lg_entry_eq]
  generalize (lg_sl ([.ref (bd 0), .int p1, .int p2]) ++ List.replicate (3 - (lg_sl ([.ref (bd 0), .int p1, .int p2])).length) Slot.unset).toArray = ls at hl ⊢
  have hl : lv_has ls 3 [(0, .ref (bd 0)), (1, .int p1), (2, .int p2)] := hl
  refine lv_iload_n hx hb dX12_valueAt_0 rfl (lv_at hl 1 rfl) ?_
  rcases (show p1.toInt = 0 ∨ p1.toInt = 1 ∨ p1.toInt = 2 ∨ p1.toInt = 3 ∨ (p1.toInt < 0 ∨ 3 < p1.toInt) by omega) with kc_1 | kc_1 | kc_1 | kc_1 | kc_1
  ·
    refine lv_tableIn (tgt := 32) hx hb dX12_valueAt_1 (by omega) (by omega) (off := 31) (by rw [kc_1]; rfl) (by decide) ?_
    refine lv_aload_n hx hb dX12_valueAt_32 rfl (lv_at hl 0 rfl) ?_
    refine gr_cellOf hx hb hg hown hK hP (hg _ q4_234) dX12_valueAt_33 ?_
    refine lv_iload_n hx hb dX12_valueAt_36 rfl (lv_at hl 2 rfl) ?_
    refine lr_cellOf hx hb hK hP (i_in (by omega) (by omega)) dX12_valueAt_37 ?_
    refine lv_topi (fun x_2 ex_2 => ?_)
    have ex_2 : x_2 = (b 2) p2.toNatClampNeg := ex_2
    have hx_2 : x_2.toInt = ((b 2) p2.toNatClampNeg).toInt := by rw [ex_2]
    exact W.iret (v := x_2) hx hb hr (fun tt ht hW => ⟨x_2, rfl, trivial, ht⟩) (fun _ h => by cases h) dX12_valueAt_38
  ·
    refine lv_tableIn (tgt := 39) hx hb dX12_valueAt_1 (by omega) (by omega) (off := 38) (by rw [kc_1]; rfl) (by decide) ?_
    refine lv_aload_n hx hb dX12_valueAt_39 rfl (lv_at hl 0 rfl) ?_
    refine gr_cheek hx hb hg hown hK hP (hg _ q4_235) dX12_valueAt_40 ?_
    refine lv_iload_n hx hb dX12_valueAt_43 rfl (lv_at hl 2 rfl) ?_
    refine lr_cheek hx hb hK hP (i_in (by omega) (by omega)) dX12_valueAt_44 ?_
    refine lv_topi (fun x_3 ex_3 => ?_)
    have ex_3 : x_3 = (b 3) p2.toNatClampNeg := ex_3
    have hx_3 : x_3.toInt = ((b 3) p2.toNatClampNeg).toInt := by rw [ex_3]
    exact W.iret (v := x_3) hx hb hr (fun tt ht hW => ⟨x_3, rfl, trivial, ht⟩) (fun _ h => by cases h) dX12_valueAt_45
  ·
    refine lv_tableIn (tgt := 46) hx hb dX12_valueAt_1 (by omega) (by omega) (off := 45) (by rw [kc_1]; rfl) (by decide) ?_
    refine lv_aload_n hx hb dX12_valueAt_46 rfl (lv_at hl 0 rfl) ?_
    refine gr_pads hx hb hg hown hK hP (hg _ q4_236) dX12_valueAt_47 ?_
    refine lv_iload_n hx hb dX12_valueAt_50 rfl (lv_at hl 2 rfl) ?_
    refine lr_pads hx hb hK hP (i_in (by omega) (by omega)) dX12_valueAt_51 ?_
    refine lv_topi (fun x_4 ex_4 => ?_)
    have ex_4 : x_4 = (b 4) p2.toNatClampNeg := ex_4
    have hx_4 : x_4.toInt = ((b 4) p2.toNatClampNeg).toInt := by rw [ex_4]
    exact W.iret (v := x_4) hx hb hr (fun tt ht hW => ⟨x_4, rfl, trivial, ht⟩) (fun _ h => by cases h) dX12_valueAt_52
  ·
    refine lv_tableIn (tgt := 53) hx hb dX12_valueAt_1 (by omega) (by omega) (off := 52) (by rw [kc_1]; rfl) (by decide) ?_
    refine lv_aload_n hx hb dX12_valueAt_53 rfl (lv_at hl 0 rfl) ?_
    refine gr_pay hx hb hg hown hK hP (hg _ q4_237) dX12_valueAt_54 ?_
    refine lv_iload_n hx hb dX12_valueAt_57 rfl (lv_at hl 2 rfl) ?_
    refine lr_pay hx hb hK hP (i_in (by omega) (by omega)) dX12_valueAt_58 ?_
    refine lv_topi (fun x_5 ex_5 => ?_)
    have ex_5 : x_5 = (b 5) p2.toNatClampNeg := ex_5
    have hx_5 : x_5.toInt = ((b 5) p2.toNatClampNeg).toInt := by rw [ex_5]
    exact W.iret (v := x_5) hx hb hr (fun tt ht hW => ⟨x_5, rfl, trivial, ht⟩) (fun _ h => by cases h) dX12_valueAt_59
  ·
    refine lv_tableOut (tgt := 60) hx hb dX12_valueAt_1 kc_1 (by decide) ?_
    refine lv_aload_n hx hb dX12_valueAt_60 rfl (lv_at hl 0 rfl) ?_
    refine gr_told hx hb hg hown hK hP (hg _ q4_238) dX12_valueAt_61 ?_
    refine lv_iload_n hx hb dX12_valueAt_64 rfl (lv_at hl 1 rfl) ?_
    refine lv_iconst (v := 4) hx hb dX12_valueAt_65 (by decide) ?_
    refine lv_isub hx hb dX12_valueAt_66 ?_
    refine lv_topi (fun x_6 ex_6 => ?_)
    have fx_6 : x_6.toInt = p1.toInt - (4 : Int) := by rw [ex_6]; exact i_sub (by first | omega | (show (_ : Int) ≤ p1.toInt - (4 : Int); omega)) (by first | omega | (show p1.toInt - (4 : Int) ≤ (_ : Int); omega))
    refine lr_told hx hb hK hP (i_in (by omega) (by omega)) dX12_valueAt_67 ?_
    refine lv_topi (fun x_7 ex_7 => ?_)
    have ex_7 : x_7 = (b 6) x_6.toNatClampNeg := ex_7
    have hx_7 : x_7.toInt = ((b 6) x_6.toNatClampNeg).toInt := by rw [ex_7]
    exact W.iret (v := x_7) hx hb hr (fun tt ht hW => ⟨x_7, rfl, trivial, ht⟩) (fun _ h => by cases h) dX12_valueAt_68
set_option maxHeartbeats 4000000 in
set_option maxRecDepth 100000 in
theorem k_X12_lays (l : Launch) (D : va_G) (cs : Nat → ClassId) (A : Nat → Prop) (bd : Nat → Nat) (u : Nat → Int32) (b : Nat → Nat → Int32) (bw : Nat → Nat → Int64)  (p1 : Int32) (p2 : Int32) (p3 : Int32) (h1 : 0 ≤ p2.toInt) (h2 : p2.toInt < 8) (h3 : 0 ≤ p1.toInt) (h4 : p1.toInt ≤ 7) : Met l yX12_lays (Cond.code yX12_lays cX12_lays 4 none :: gw) ({ frames := 0, cells := 0, slots := 0, locals := 0 }) (va_Pc [.ref (bd 0), .int p1, .int p2, .int p3] (XPre D (TY cs) (RW cs bd u b bw) A)) (va_Qv (fun (z : (Nat → Int32) × (Nat → Int32) × (Nat → Int32) × (Nat → Int32) × (Nat → Int32)) => True) (XPo D (fun (z : (Nat → Int32) × (Nat → Int32) × (Nat → Int32) × (Nat → Int32) × (Nat → Int32)) => RW cs bd u (va_up (va_up (va_up (va_up (va_up b 2 z.1) 3 z.2.1) 4 z.2.2.1) 5 z.2.2.2.1) 6 z.2.2.2.2) bw) A) A) 0 0 A := by
  refine Met.ofW (cc := cX12_lays) (maxL := 4) (ret := none) (by decide) rfl ?_
  intro p e s m args below meth c s₁ B hml hv
  obtain ⟨rfl, hP, hK, hD, hZ⟩ := hv
  have hx := B.exec
  have hb := B.bytes
  have hr := B.returns
  have hts := atoms_spec (ws := (Cond.code yX12_lays cX12_lays 4 none :: gw)) B.pre
  have hg : ∀ w ∈ gw, w.before ([.ref (bd 0), .int p1, .int p2, .int p3] : List Value).toArray s = true := fun w h => hts w (List.mem_cons_of_mem _ h)
  have hown : s.vm.findClass RX12 = some m.cls := findClass_of_methodNamed B.named
  have hlocks := B.notSynchronized
  have hS : va_S A s.heap s.heap [] := va_S.rf
  have hP : va_P D vwCl (RW cs bd u b bw) s.heap := hP
  have hl := lv_entry ([.ref (bd 0), .int p1, .int p2, .int p3]) (n := 4) (Nat.le_of_ble_eq_true rfl)
  rw [lg_entry_eq]
  generalize (lg_sl ([.ref (bd 0), .int p1, .int p2, .int p3]) ++ List.replicate (4 - (lg_sl ([.ref (bd 0), .int p1, .int p2, .int p3])).length) Slot.unset).toArray = ls at hl ⊢
  have hl : lv_has ls 4 [(0, .ref (bd 0)), (1, .int p1), (2, .int p2), (3, .int p3)] := hl
  refine lv_iload_n hx hb dX12_lays_0 rfl (lv_at hl 1 rfl) ?_
  rcases (show p1.toInt = 0 ∨ p1.toInt = 1 ∨ p1.toInt = 2 ∨ p1.toInt = 3 ∨ (p1.toInt < 0 ∨ 3 < p1.toInt) by omega) with kc_1 | kc_1 | kc_1 | kc_1 | kc_1
  ·
    refine lv_tableIn (tgt := 32) hx hb dX12_lays_1 (by omega) (by omega) (off := 31) (by rw [kc_1]; rfl) (by decide) ?_
    refine lv_aload_n hx hb dX12_lays_32 rfl (lv_at hl 0 rfl) ?_
    refine gr_cellOf hx hb hg hown hK hP (hg _ q4_234) dX12_lays_33 ?_
    refine lv_iload_n hx hb dX12_lays_36 rfl (lv_at hl 2 rfl) ?_
    refine lv_iload_n hx hb dX12_lays_37 rfl (lv_at hl 3 rfl) ?_
    refine sr_cellOf hx hb hK hP hD hS (i_in (by omega) (by omega)) dX12_lays_38 (fun H locs hP hD hS => ?_)
    refine lv_goto (tgt := 81) hx hb dX12_lays_39 (by decide) ?_
    have hP : va_P D vwCl (RW cs bd u (va_up (va_up (va_up (va_up (va_up b 2 (upd (b 2) p2.toNatClampNeg p3)) 3 (b 3)) 4 (b 4)) 5 (b 5)) 6 (b 6)) bw) _ := hP
    have hD : va_D A (RW cs bd u (va_up (va_up (va_up (va_up (va_up b 2 (upd (b 2) p2.toNatClampNeg p3)) 3 (b 3)) 4 (b 4)) 5 (b 5)) 6 (b 6)) bw) := hD
    exact W.vret hx hb hr (fun tt ht hW => ⟨⟨⟨(upd (b 2) p2.toNatClampNeg p3), (b 3), (b 4), (b 5), (b 6)⟩, rfl, trivial, by rw [ht]; exact hP, hD⟩, hS.F ht⟩) hS.2.2 dX12_lays_81
  ·
    refine lv_tableIn (tgt := 42) hx hb dX12_lays_1 (by omega) (by omega) (off := 41) (by rw [kc_1]; rfl) (by decide) ?_
    refine lv_aload_n hx hb dX12_lays_42 rfl (lv_at hl 0 rfl) ?_
    refine gr_cheek hx hb hg hown hK hP (hg _ q4_235) dX12_lays_43 ?_
    refine lv_iload_n hx hb dX12_lays_46 rfl (lv_at hl 2 rfl) ?_
    refine lv_iload_n hx hb dX12_lays_47 rfl (lv_at hl 3 rfl) ?_
    refine sr_cheek hx hb hK hP hD hS (i_in (by omega) (by omega)) dX12_lays_48 (fun H locs hP hD hS => ?_)
    refine lv_goto (tgt := 81) hx hb dX12_lays_49 (by decide) ?_
    have hP : va_P D vwCl (RW cs bd u (va_up (va_up (va_up (va_up (va_up b 2 (b 2)) 3 (upd (b 3) p2.toNatClampNeg p3)) 4 (b 4)) 5 (b 5)) 6 (b 6)) bw) _ := hP
    have hD : va_D A (RW cs bd u (va_up (va_up (va_up (va_up (va_up b 2 (b 2)) 3 (upd (b 3) p2.toNatClampNeg p3)) 4 (b 4)) 5 (b 5)) 6 (b 6)) bw) := hD
    exact W.vret hx hb hr (fun tt ht hW => ⟨⟨⟨(b 2), (upd (b 3) p2.toNatClampNeg p3), (b 4), (b 5), (b 6)⟩, rfl, trivial, by rw [ht]; exact hP, hD⟩, hS.F ht⟩) hS.2.2 dX12_lays_81
  ·
    refine lv_tableIn (tgt := 52) hx hb dX12_lays_1 (by omega) (by omega) (off := 51) (by rw [kc_1]; rfl) (by decide) ?_
    refine lv_aload_n hx hb dX12_lays_52 rfl (lv_at hl 0 rfl) ?_
    refine gr_pads hx hb hg hown hK hP (hg _ q4_236) dX12_lays_53 ?_
    refine lv_iload_n hx hb dX12_lays_56 rfl (lv_at hl 2 rfl) ?_
    refine lv_iload_n hx hb dX12_lays_57 rfl (lv_at hl 3 rfl) ?_
    refine sr_pads hx hb hK hP hD hS (i_in (by omega) (by omega)) dX12_lays_58 (fun H locs hP hD hS => ?_)
    refine lv_goto (tgt := 81) hx hb dX12_lays_59 (by decide) ?_
    have hP : va_P D vwCl (RW cs bd u (va_up (va_up (va_up (va_up (va_up b 2 (b 2)) 3 (b 3)) 4 (upd (b 4) p2.toNatClampNeg p3)) 5 (b 5)) 6 (b 6)) bw) _ := hP
    have hD : va_D A (RW cs bd u (va_up (va_up (va_up (va_up (va_up b 2 (b 2)) 3 (b 3)) 4 (upd (b 4) p2.toNatClampNeg p3)) 5 (b 5)) 6 (b 6)) bw) := hD
    exact W.vret hx hb hr (fun tt ht hW => ⟨⟨⟨(b 2), (b 3), (upd (b 4) p2.toNatClampNeg p3), (b 5), (b 6)⟩, rfl, trivial, by rw [ht]; exact hP, hD⟩, hS.F ht⟩) hS.2.2 dX12_lays_81
  ·
    refine lv_tableIn (tgt := 62) hx hb dX12_lays_1 (by omega) (by omega) (off := 61) (by rw [kc_1]; rfl) (by decide) ?_
    refine lv_aload_n hx hb dX12_lays_62 rfl (lv_at hl 0 rfl) ?_
    refine gr_pay hx hb hg hown hK hP (hg _ q4_237) dX12_lays_63 ?_
    refine lv_iload_n hx hb dX12_lays_66 rfl (lv_at hl 2 rfl) ?_
    refine lv_iload_n hx hb dX12_lays_67 rfl (lv_at hl 3 rfl) ?_
    refine sr_pay hx hb hK hP hD hS (i_in (by omega) (by omega)) dX12_lays_68 (fun H locs hP hD hS => ?_)
    refine lv_goto (tgt := 81) hx hb dX12_lays_69 (by decide) ?_
    have hP : va_P D vwCl (RW cs bd u (va_up (va_up (va_up (va_up (va_up b 2 (b 2)) 3 (b 3)) 4 (b 4)) 5 (upd (b 5) p2.toNatClampNeg p3)) 6 (b 6)) bw) _ := hP
    have hD : va_D A (RW cs bd u (va_up (va_up (va_up (va_up (va_up b 2 (b 2)) 3 (b 3)) 4 (b 4)) 5 (upd (b 5) p2.toNatClampNeg p3)) 6 (b 6)) bw) := hD
    exact W.vret hx hb hr (fun tt ht hW => ⟨⟨⟨(b 2), (b 3), (b 4), (upd (b 5) p2.toNatClampNeg p3), (b 6)⟩, rfl, trivial, by rw [ht]; exact hP, hD⟩, hS.F ht⟩) hS.2.2 dX12_lays_81
  ·
    refine lv_tableOut (tgt := 72) hx hb dX12_lays_1 kc_1 (by decide) ?_
    refine lv_aload_n hx hb dX12_lays_72 rfl (lv_at hl 0 rfl) ?_
    refine gr_told hx hb hg hown hK hP (hg _ q4_238) dX12_lays_73 ?_
    refine lv_iload_n hx hb dX12_lays_76 rfl (lv_at hl 1 rfl) ?_
    refine lv_iconst (v := 4) hx hb dX12_lays_77 (by decide) ?_
    refine lv_isub hx hb dX12_lays_78 ?_
    refine lv_topi (fun x_2 ex_2 => ?_)
    have fx_2 : x_2.toInt = p1.toInt - (4 : Int) := by rw [ex_2]; exact i_sub (by first | omega | (show (_ : Int) ≤ p1.toInt - (4 : Int); omega)) (by first | omega | (show p1.toInt - (4 : Int) ≤ (_ : Int); omega))
    refine lv_iload_n hx hb dX12_lays_79 rfl (lv_at hl 3 rfl) ?_
    refine sr_told hx hb hK hP hD hS (i_in (by omega) (by omega)) dX12_lays_80 (fun H locs hP hD hS => ?_)
    have hP : va_P D vwCl (RW cs bd u (va_up (va_up (va_up (va_up (va_up b 2 (b 2)) 3 (b 3)) 4 (b 4)) 5 (b 5)) 6 (upd (b 6) x_2.toNatClampNeg p3)) bw) _ := hP
    have hD : va_D A (RW cs bd u (va_up (va_up (va_up (va_up (va_up b 2 (b 2)) 3 (b 3)) 4 (b 4)) 5 (b 5)) 6 (upd (b 6) x_2.toNatClampNeg p3)) bw) := hD
    exact W.vret hx hb hr (fun tt ht hW => ⟨⟨⟨(b 2), (b 3), (b 4), (b 5), (upd (b 6) x_2.toNatClampNeg p3)⟩, rfl, trivial, by rw [ht]; exact hP, hD⟩, hS.F ht⟩) hS.2.2 dX12_lays_81
set_option maxHeartbeats 4000000 in
set_option maxRecDepth 100000 in
theorem k_X12_changes (l : Launch) (D : va_G) (cs : Nat → ClassId) (A : Nat → Prop) (bd : Nat → Nat) (u : Nat → Int32) (b : Nat → Nat → Int32) (bw : Nat → Nat → Int64)  (p1 : Int32) (p2 : Int32) (p3 : Int32) (h1 : 0 ≤ p2.toInt) (h2 : p2.toInt < 8) (h3 : 0 ≤ p1.toInt) (h4 : p1.toInt ≤ 7) (iu8_0 : 0 ≤ (u 8).toInt) (iu8_1 : (u 8).toInt ≤ 40) (ib10_0 : AB 0 7 (b 10)) (ib11_0 : AB 0 7 (b 11)) (iu9_0 : 0 ≤ (u 9).toInt) (iu9_1 : (u 9).toInt ≤ 40) (iu9_2 : (u 8).toInt + (u 9).toInt ≤ 40) : Met l yX12_changes (Cond.code yX12_changes cX12_changes 6 (some .int) :: gw) ({ frames := 1, cells := 0, slots := 0, locals := 23 }) (va_Pc [.ref (bd 0), .int p1, .int p2, .int p3] (XPre D (TY cs) (RW cs bd u b bw) A)) (va_Qi (fun (r : Int32) (z : Int32 × (Nat → Int32) × (Nat → Int32) × (Nat → Int32) × (Nat → Int32) × (Nat → Int32) × (Nat → Int32) × (Nat → Int32) × (Nat → Int32) × (Nat → Int32) × Int32) => (0 ≤ z.1.toInt) ∧ (z.1.toInt ≤ 40) ∧ (AB 0 7 z.2.1) ∧ (AB 0 7 z.2.2.1) ∧ (0 ≤ z.2.2.2.2.2.2.2.2.2.2.toInt) ∧ (z.2.2.2.2.2.2.2.2.2.2.toInt ≤ 40) ∧ (z.1.toInt + z.2.2.2.2.2.2.2.2.2.2.toInt ≤ 40)) (XPo D (fun (z : Int32 × (Nat → Int32) × (Nat → Int32) × (Nat → Int32) × (Nat → Int32) × (Nat → Int32) × (Nat → Int32) × (Nat → Int32) × (Nat → Int32) × (Nat → Int32) × Int32) => RW cs bd (va_up (va_up u 8 z.1) 9 z.2.2.2.2.2.2.2.2.2.2) (va_up (va_up (va_up (va_up (va_up (va_up (va_up (va_up (va_up b 10 z.2.1) 11 z.2.2.1) 12 z.2.2.2.1) 13 z.2.2.2.2.1) 2 z.2.2.2.2.2.1) 3 z.2.2.2.2.2.2.1) 4 z.2.2.2.2.2.2.2.1) 5 z.2.2.2.2.2.2.2.2.1) 6 z.2.2.2.2.2.2.2.2.2.1) bw) A) A) 0 0 A := by
  refine Met.ofW (cc := cX12_changes) (maxL := 6) (ret := (some .int)) (by decide) rfl ?_
  intro p e s m args below meth c s₁ B hml hv
  obtain ⟨rfl, hP, hK, hD, hZ⟩ := hv
  have hx := B.exec
  have hb := B.bytes
  have hr := B.returns
  have hts := atoms_spec (ws := (Cond.code yX12_changes cX12_changes 6 (some .int) :: gw)) B.pre
  have hg : ∀ w ∈ gw, w.before ([.ref (bd 0), .int p1, .int p2, .int p3] : List Value).toArray s = true := fun w h => hts w (List.mem_cons_of_mem _ h)
  have hown : s.vm.findClass RX12 = some m.cls := findClass_of_methodNamed B.named
  have hlocks := B.notSynchronized
  have hS : va_S A s.heap s.heap [] := va_S.rf
  have hP : va_P D vwCl (RW cs bd u b bw) s.heap := hP
  have hl := lv_entry ([.ref (bd 0), .int p1, .int p2, .int p3]) (n := 6) (Nat.le_of_ble_eq_true rfl)
  rw [lg_entry_eq]
  generalize (lg_sl ([.ref (bd 0), .int p1, .int p2, .int p3]) ++ List.replicate (6 - (lg_sl ([.ref (bd 0), .int p1, .int p2, .int p3])).length) Slot.unset).toArray = ls at hl ⊢
  have hl : lv_has ls 6 [(0, .ref (bd 0)), (1, .int p1), (2, .int p2), (3, .int p3)] := hl
  have hcut : ∀ nk : Nat, (∀ (x4 : Int32) (x5 : Int32) (c34_b10 : Nat → Int32) (c34_b11 : Nat → Int32) (c34_b12 : Nat → Int32) (c34_b13 : Nat → Int32) (c34_u9 : Int32) (H : Heap) (locs : List Loc) (i5 : 1 ≤ x5.toInt) (hd40 : (u 8).toInt = 40) (jb10_0 : AB 0 7 c34_b10) (jb11_0 : AB 0 7 c34_b11) (ju9_0 : 0 ≤ c34_u9.toInt) (ju9_1 : c34_u9.toInt ≤ 40) (ju9_2 : (u 8).toInt + c34_u9.toInt ≤ 40) (hmu : (40 - x5.toInt).toNat < nk) (hP : va_P D vwCl (RW cs bd (va_up u 9 c34_u9) (va_up (va_up (va_up (va_up b 10 c34_b10) 11 c34_b11) 12 c34_b12) 13 c34_b13) bw) H) (hD : va_D A (RW cs bd (va_up u 9 c34_u9) (va_up (va_up (va_up (va_up b 10 c34_b10) 11 c34_b11) 12 c34_b12) 13 c34_b13) bw)) (hS : va_S A s.heap H locs) (ls : Array Slot) (hl : lv_has ls 6 [(0, .ref (bd 0)), (1, .int p1), (2, .int p2), (3, .int p3), (4, .int x4), (5, .int x5)]), W p l e (headSpec (Cond.code yX12_changes cX12_changes 6 (some .int) :: gw) ({ frames := 1, cells := 0, slots := 0, locals := 23 })).room s m ([.ref (bd 0), .int p1, .int p2, .int p3] : List Value).toArray below meth c H locs 0 0 (MQ below (va_Qi (fun (r : Int32) (z : Int32 × (Nat → Int32) × (Nat → Int32) × (Nat → Int32) × (Nat → Int32) × (Nat → Int32) × (Nat → Int32) × (Nat → Int32) × (Nat → Int32) × (Nat → Int32) × Int32) => (0 ≤ z.1.toInt) ∧ (z.1.toInt ≤ 40) ∧ (AB 0 7 z.2.1) ∧ (AB 0 7 z.2.2.1) ∧ (0 ≤ z.2.2.2.2.2.2.2.2.2.2.toInt) ∧ (z.2.2.2.2.2.2.2.2.2.2.toInt ≤ 40) ∧ (z.1.toInt + z.2.2.2.2.2.2.2.2.2.2.toInt ≤ 40)) (XPo D (fun (z : Int32 × (Nat → Int32) × (Nat → Int32) × (Nat → Int32) × (Nat → Int32) × (Nat → Int32) × (Nat → Int32) × (Nat → Int32) × (Nat → Int32) × (Nat → Int32) × Int32) => RW cs bd (va_up (va_up u 8 z.1) 9 z.2.2.2.2.2.2.2.2.2.2) (va_up (va_up (va_up (va_up (va_up (va_up (va_up (va_up (va_up b 10 z.2.1) 11 z.2.2.1) 12 z.2.2.2.1) 13 z.2.2.2.2.1) 2 z.2.2.2.2.2.1) 3 z.2.2.2.2.2.2.1) 4 z.2.2.2.2.2.2.2.1) 5 z.2.2.2.2.2.2.2.2.1) 6 z.2.2.2.2.2.2.2.2.2.1) bw) A) A) ([.ref (bd 0), .int p1, .int p2, .int p3] : List Value).toArray s 0 0 A) (F0 m 34 ls [])) := by
    intro nk
    induction nk with
    | zero => exact (fun x4 x5 c34_b10 c34_b11 c34_b12 c34_b13 c34_u9 H locs i5 hd40 jb10_0 jb11_0 ju9_0 ju9_1 ju9_2 hmu hP hD hS ls hl => absurd hmu (Nat.not_lt_zero _))
    | succ nk ih =>
      intro x4 x5 c34_b10 c34_b11 c34_b12 c34_b13 c34_u9 H locs i5 hd40 jb10_0 jb11_0 ju9_0 ju9_1 ju9_2 hmu hP hD hS ls hl
      refine lv_iload hx hb dX12_changes_34 (lv_at hl 5 rfl) ?_
      refine lv_bipush (v := 40) hx hb dX12_changes_36 (by decide) ?_
      refine lv_icmp_ge (tgt := 111) hx hb dX12_changes_38 (by decide) (fun c_1 => ?_) (fun c_1 => ?_)
      ·
        have kc_1 : (40 : Int) ≤ x5.toInt := i_le c_1
        refine lv_aload_n hx hb dX12_changes_111 rfl (lv_at hl 0 rfl) ?_
        refine lv_dup hx hb dX12_changes_112 rfl ?_
        refine gr_doneMany hx hb hg hown hK hP (x := (u 8)) rfl (hg _ q5_0) dX12_changes_113 ?_
        refine lv_iconst (v := 1) hx hb dX12_changes_116 (by decide) ?_
        refine lv_isub hx hb dX12_changes_117 ?_
        refine lv_topi (fun x_2 ex_2 => ?_)
        have fx_2 : x_2.toInt = (u 8).toInt - (1 : Int) := by rw [ex_2]; exact i_sub (by first | omega | (show (_ : Int) ≤ (u 8).toInt - (1 : Int); omega)) (by first | omega | (show (u 8).toInt - (1 : Int) ≤ (_ : Int); omega))
        refine pr_doneMany hx hb hg hown hK hP hD hS (hg _ q5_0) dX12_changes_118 (fun H locs hP hD hS => ?_)
        refine lv_aload_n hx hb dX12_changes_121 rfl (lv_at hl 0 rfl) ?_
        refine gr_changeOf hx hb hg hown hK hP (hg _ q5_2) dX12_changes_122 ?_
        refine lv_aload_n hx hb dX12_changes_125 rfl (lv_at hl 0 rfl) ?_
        refine gr_doneMany hx hb hg hown hK hP (x := x_2) rfl (hg _ q5_0) dX12_changes_126 ?_
        refine lv_iload_n hx hb dX12_changes_129 rfl (lv_at hl 1 rfl) ?_
        refine sr_changeOf hx hb hK hP hD hS (i_in (by omega) (by omega)) dX12_changes_130 (fun H locs hP hD hS => ?_)
        have hab_3 : AB 0 7 (upd c34_b10 x_2.toNatClampNeg p1) := AB_upd jb10_0 (by omega) (by omega)
        refine lv_aload_n hx hb dX12_changes_131 rfl (lv_at hl 0 rfl) ?_
        refine gr_changeAt hx hb hg hown hK hP (hg _ q5_3) dX12_changes_132 ?_
        refine lv_aload_n hx hb dX12_changes_135 rfl (lv_at hl 0 rfl) ?_
        refine gr_doneMany hx hb hg hown hK hP (x := x_2) rfl (hg _ q5_0) dX12_changes_136 ?_
        refine lv_iload_n hx hb dX12_changes_139 rfl (lv_at hl 2 rfl) ?_
        refine sr_changeAt hx hb hK hP hD hS (i_in (by omega) (by omega)) dX12_changes_140 (fun H locs hP hD hS => ?_)
        have hab_4 : AB 0 7 (upd c34_b11 x_2.toNatClampNeg p2) := AB_upd jb11_0 (by omega) (by omega)
        refine lv_aload_n hx hb dX12_changes_141 rfl (lv_at hl 0 rfl) ?_
        refine gr_before hx hb hg hown hK hP (hg _ q5_4) dX12_changes_142 ?_
        refine lv_aload_n hx hb dX12_changes_145 rfl (lv_at hl 0 rfl) ?_
        refine gr_doneMany hx hb hg hown hK hP (x := x_2) rfl (hg _ q5_0) dX12_changes_146 ?_
        refine lv_iload hx hb dX12_changes_149 (lv_at hl 4 rfl) ?_
        refine sr_before hx hb hK hP hD hS (i_in (by omega) (by omega)) dX12_changes_151 (fun H locs hP hD hS => ?_)
        refine lv_aload_n hx hb dX12_changes_152 rfl (lv_at hl 0 rfl) ?_
        refine gr_behind hx hb hg hown hK hP (hg _ q5_5) dX12_changes_153 ?_
        refine lv_aload_n hx hb dX12_changes_156 rfl (lv_at hl 0 rfl) ?_
        refine gr_doneMany hx hb hg hown hK hP (x := x_2) rfl (hg _ q5_0) dX12_changes_157 ?_
        refine lv_iload_n hx hb dX12_changes_160 rfl (lv_at hl 3 rfl) ?_
        refine sr_behind hx hb hK hP hD hS (i_in (by omega) (by omega)) dX12_changes_161 (fun H locs hP hD hS => ?_)
        refine lv_aload_n hx hb dX12_changes_162 rfl (lv_at hl 0 rfl) ?_
        refine lv_dup hx hb dX12_changes_163 rfl ?_
        refine gr_doneMany hx hb hg hown hK hP (x := x_2) rfl (hg _ q5_0) dX12_changes_164 ?_
        refine lv_iconst (v := 1) hx hb dX12_changes_167 (by decide) ?_
        refine lv_iadd hx hb dX12_changes_168 ?_
        refine lv_topi (fun x_5 ex_5 => ?_)
        have fx_5 : x_5.toInt = x_2.toInt + (1 : Int) := by rw [ex_5]; exact i_add (by first | omega | (show (_ : Int) ≤ x_2.toInt + (1 : Int); omega)) (by first | omega | (show x_2.toInt + (1 : Int) ≤ (_ : Int); omega))
        refine pr_doneMany hx hb hg hown hK hP hD hS (hg _ q5_0) dX12_changes_169 (fun H locs hP hD hS => ?_)
        refine lv_aload_n hx hb dX12_changes_172 rfl (lv_at hl 0 rfl) ?_
        refine lv_iload_n hx hb dX12_changes_173 rfl (lv_at hl 1 rfl) ?_
        refine lv_iload_n hx hb dX12_changes_174 rfl (lv_at hl 2 rfl) ?_
        refine lv_iload_n hx hb dX12_changes_175 rfl (lv_at hl 3 rfl) ?_
        refine cV_v (As := [.int p1, .int p2, .int p3]) (rest := []) ⟨hx, hb, hml, hown, hg⟩ (k_X12_lays l D cs A bd (va_up (va_up u 9 c34_u9) 8 x_5) (va_up (va_up (va_up (va_up b 10 (upd c34_b10 x_2.toNatClampNeg p1)) 11 (upd c34_b11 x_2.toNatClampNeg p2)) 12 (upd c34_b12 x_2.toNatClampNeg x4)) 13 (upd c34_b13 x_2.toNatClampNeg p3)) bw  p1 p2 p3 (show 0 ≤ p2.toInt by first | omega | decide) (show p2.toInt < 8 by first | omega | decide) (show 0 ≤ p1.toInt by first | omega | decide) (show p1.toInt ≤ 7 by first | omega | decide)) ca_X12_lays q5_231 ⟨rfl, rfl⟩ ⟨Nat.le_of_ble_eq_true rfl, Nat.le_of_ble_eq_true rfl⟩ (rc_model hK hP) hK hP hD hS hZ rfl hl.1 rfl (Nat.le_of_ble_eq_true rfl) ⟨Nat.zero_le _, Nat.zero_le _⟩ dX12_changes_176 (fun z_12 H locs wr_6 hP hD hS => ?_)
        obtain ⟨o_b2_7, o_b3_8, o_b4_9, o_b5_10, o_b6_11⟩ := z_12
        have hP : va_P D vwCl (RW cs bd (va_up (va_up u 9 c34_u9) 8 x_5) (va_up (va_up (va_up (va_up (va_up (va_up (va_up (va_up (va_up b 10 (upd c34_b10 x_2.toNatClampNeg p1)) 11 (upd c34_b11 x_2.toNatClampNeg p2)) 12 (upd c34_b12 x_2.toNatClampNeg x4)) 13 (upd c34_b13 x_2.toNatClampNeg p3)) 2 o_b2_7) 3 o_b3_8) 4 o_b4_9) 5 o_b5_10) 6 o_b6_11) bw) H := hP
        have hD : va_D A (RW cs bd (va_up (va_up u 9 c34_u9) 8 x_5) (va_up (va_up (va_up (va_up (va_up (va_up (va_up (va_up (va_up b 10 (upd c34_b10 x_2.toNatClampNeg p1)) 11 (upd c34_b11 x_2.toNatClampNeg p2)) 12 (upd c34_b12 x_2.toNatClampNeg x4)) 13 (upd c34_b13 x_2.toNatClampNeg p3)) 2 o_b2_7) 3 o_b3_8) 4 o_b4_9) 5 o_b5_10) 6 o_b6_11) bw) := hD
        have wr_6_0 : True := wr_6
        refine lv_iload hx hb dX12_changes_179 (lv_at hl 4 rfl) ?_
        have hP : va_P D vwCl (RW cs bd (va_up (va_up u 8 x_5) 9 c34_u9) (va_up (va_up (va_up (va_up (va_up (va_up (va_up (va_up (va_up b 10 (upd c34_b10 x_2.toNatClampNeg p1)) 11 (upd c34_b11 x_2.toNatClampNeg p2)) 12 (upd c34_b12 x_2.toNatClampNeg x4)) 13 (upd c34_b13 x_2.toNatClampNeg p3)) 2 o_b2_7) 3 o_b3_8) 4 o_b4_9) 5 o_b5_10) 6 o_b6_11) bw) _ := hP
        have hD : va_D A (RW cs bd (va_up (va_up u 8 x_5) 9 c34_u9) (va_up (va_up (va_up (va_up (va_up (va_up (va_up (va_up (va_up b 10 (upd c34_b10 x_2.toNatClampNeg p1)) 11 (upd c34_b11 x_2.toNatClampNeg p2)) 12 (upd c34_b12 x_2.toNatClampNeg x4)) 13 (upd c34_b13 x_2.toNatClampNeg p3)) 2 o_b2_7) 3 o_b3_8) 4 o_b4_9) 5 o_b5_10) 6 o_b6_11) bw) := hD
        exact W.iret (v := x4) hx hb hr (fun tt ht hW => ⟨⟨x4, ⟨x_5, (upd c34_b10 x_2.toNatClampNeg p1), (upd c34_b11 x_2.toNatClampNeg p2), (upd c34_b12 x_2.toNatClampNeg x4), (upd c34_b13 x_2.toNatClampNeg p3), o_b2_7, o_b3_8, o_b4_9, o_b5_10, o_b6_11, c34_u9⟩, rfl, ⟨(show 0 ≤ x_5.toInt by first | omega | assumption), (show x_5.toInt ≤ 40 by first | omega | assumption), hab_3, hab_4, (show 0 ≤ c34_u9.toInt by first | omega | assumption), (show c34_u9.toInt ≤ 40 by first | omega | assumption), (show x_5.toInt + c34_u9.toInt ≤ 40 by first | omega | assumption)⟩, by rw [ht]; exact hP, hD⟩, hS.F ht⟩) hS.2.2 dX12_changes_181
      ·
        have kc_1 : x5.toInt < (40 : Int) := i_nle c_1
        refine lv_aload_n hx hb dX12_changes_41 rfl (lv_at hl 0 rfl) ?_
        refine gr_changeOf hx hb hg hown hK hP (hg _ q5_2) dX12_changes_42 ?_
        refine lv_iload hx hb dX12_changes_45 (lv_at hl 5 rfl) ?_
        refine lv_iconst (v := 1) hx hb dX12_changes_47 (by decide) ?_
        refine lv_isub hx hb dX12_changes_48 ?_
        refine lv_topi (fun x_13 ex_13 => ?_)
        have fx_13 : x_13.toInt = x5.toInt - (1 : Int) := by rw [ex_13]; exact i_sub (by first | omega | (show (_ : Int) ≤ x5.toInt - (1 : Int); omega)) (by first | omega | (show x5.toInt - (1 : Int) ≤ (_ : Int); omega))
        refine lv_aload_n hx hb dX12_changes_49 rfl (lv_at hl 0 rfl) ?_
        refine gr_changeOf hx hb hg hown hK hP (hg _ q5_2) dX12_changes_50 ?_
        refine lv_iload hx hb dX12_changes_53 (lv_at hl 5 rfl) ?_
        refine lr_changeOf hx hb hK hP (i_in (by omega) (by omega)) dX12_changes_55 ?_
        refine lv_topi (fun x_14 ex_14 => ?_)
        have ex_14 : x_14 = c34_b10 x5.toNatClampNeg := ex_14
        have hx_14 : x_14.toInt = (c34_b10 x5.toNatClampNeg).toInt := by rw [ex_14]
        have bx_14 := jb10_0 x5.toNatClampNeg
        rw [← ex_14] at bx_14
        refine sr_changeOf hx hb hK hP hD hS (i_in (by omega) (by omega)) dX12_changes_56 (fun H locs hP hD hS => ?_)
        have hab_15 : AB 0 7 (upd c34_b10 x_13.toNatClampNeg x_14) := AB_upd jb10_0 (by omega) (by omega)
        refine lv_aload_n hx hb dX12_changes_57 rfl (lv_at hl 0 rfl) ?_
        refine gr_changeAt hx hb hg hown hK hP (hg _ q5_3) dX12_changes_58 ?_
        refine lv_iload hx hb dX12_changes_61 (lv_at hl 5 rfl) ?_
        refine lv_iconst (v := 1) hx hb dX12_changes_63 (by decide) ?_
        refine lv_isub hx hb dX12_changes_64 ?_
        refine lv_topi (fun x_16 ex_16 => ?_)
        have fx_16 : x_16.toInt = x5.toInt - (1 : Int) := by rw [ex_16]; exact i_sub (by first | omega | (show (_ : Int) ≤ x5.toInt - (1 : Int); omega)) (by first | omega | (show x5.toInt - (1 : Int) ≤ (_ : Int); omega))
        refine lv_aload_n hx hb dX12_changes_65 rfl (lv_at hl 0 rfl) ?_
        refine gr_changeAt hx hb hg hown hK hP (hg _ q5_3) dX12_changes_66 ?_
        refine lv_iload hx hb dX12_changes_69 (lv_at hl 5 rfl) ?_
        refine lr_changeAt hx hb hK hP (i_in (by omega) (by omega)) dX12_changes_71 ?_
        refine lv_topi (fun x_17 ex_17 => ?_)
        have ex_17 : x_17 = c34_b11 x5.toNatClampNeg := ex_17
        have hx_17 : x_17.toInt = (c34_b11 x5.toNatClampNeg).toInt := by rw [ex_17]
        have bx_17 := jb11_0 x5.toNatClampNeg
        rw [← ex_17] at bx_17
        refine sr_changeAt hx hb hK hP hD hS (i_in (by omega) (by omega)) dX12_changes_72 (fun H locs hP hD hS => ?_)
        have hab_18 : AB 0 7 (upd c34_b11 x_16.toNatClampNeg x_17) := AB_upd jb11_0 (by omega) (by omega)
        refine lv_aload_n hx hb dX12_changes_73 rfl (lv_at hl 0 rfl) ?_
        refine gr_before hx hb hg hown hK hP (hg _ q5_4) dX12_changes_74 ?_
        refine lv_iload hx hb dX12_changes_77 (lv_at hl 5 rfl) ?_
        refine lv_iconst (v := 1) hx hb dX12_changes_79 (by decide) ?_
        refine lv_isub hx hb dX12_changes_80 ?_
        refine lv_topi (fun x_19 ex_19 => ?_)
        have fx_19 : x_19.toInt = x5.toInt - (1 : Int) := by rw [ex_19]; exact i_sub (by first | omega | (show (_ : Int) ≤ x5.toInt - (1 : Int); omega)) (by first | omega | (show x5.toInt - (1 : Int) ≤ (_ : Int); omega))
        refine lv_aload_n hx hb dX12_changes_81 rfl (lv_at hl 0 rfl) ?_
        refine gr_before hx hb hg hown hK hP (hg _ q5_4) dX12_changes_82 ?_
        refine lv_iload hx hb dX12_changes_85 (lv_at hl 5 rfl) ?_
        refine lr_before hx hb hK hP (i_in (by omega) (by omega)) dX12_changes_87 ?_
        refine lv_topi (fun x_20 ex_20 => ?_)
        have ex_20 : x_20 = c34_b12 x5.toNatClampNeg := ex_20
        have hx_20 : x_20.toInt = (c34_b12 x5.toNatClampNeg).toInt := by rw [ex_20]
        refine sr_before hx hb hK hP hD hS (i_in (by omega) (by omega)) dX12_changes_88 (fun H locs hP hD hS => ?_)
        refine lv_aload_n hx hb dX12_changes_89 rfl (lv_at hl 0 rfl) ?_
        refine gr_behind hx hb hg hown hK hP (hg _ q5_5) dX12_changes_90 ?_
        refine lv_iload hx hb dX12_changes_93 (lv_at hl 5 rfl) ?_
        refine lv_iconst (v := 1) hx hb dX12_changes_95 (by decide) ?_
        refine lv_isub hx hb dX12_changes_96 ?_
        refine lv_topi (fun x_21 ex_21 => ?_)
        have fx_21 : x_21.toInt = x5.toInt - (1 : Int) := by rw [ex_21]; exact i_sub (by first | omega | (show (_ : Int) ≤ x5.toInt - (1 : Int); omega)) (by first | omega | (show x5.toInt - (1 : Int) ≤ (_ : Int); omega))
        refine lv_aload_n hx hb dX12_changes_97 rfl (lv_at hl 0 rfl) ?_
        refine gr_behind hx hb hg hown hK hP (hg _ q5_5) dX12_changes_98 ?_
        refine lv_iload hx hb dX12_changes_101 (lv_at hl 5 rfl) ?_
        refine lr_behind hx hb hK hP (i_in (by omega) (by omega)) dX12_changes_103 ?_
        refine lv_topi (fun x_22 ex_22 => ?_)
        have ex_22 : x_22 = c34_b13 x5.toNatClampNeg := ex_22
        have hx_22 : x_22.toInt = (c34_b13 x5.toNatClampNeg).toInt := by rw [ex_22]
        refine sr_behind hx hb hK hP hD hS (i_in (by omega) (by omega)) dX12_changes_104 (fun H locs hP hD hS => ?_)
        obtain ⟨x_23, ex_23⟩ : ∃ y : Int32, y = x5 + 1 := ⟨_, rfl⟩
        have fx_23 : x_23.toInt = x5.toInt + 1 := by rw [ex_23]; exact i_add (by first | omega | (show (_ : Int) ≤ x5.toInt + 1; omega)) (by first | omega | (show x5.toInt + 1 ≤ (_ : Int); omega))
        refine lv_iinc (v := x_23) (lv' := [(5, .int x_23), (0, .ref (bd 0)), (1, .int p1), (2, .int p2), (3, .int p3), (4, .int x4)]) hx hb dX12_changes_105 hl (k := 5) rfl (by rw [ex_23]; rfl) (by decide) rfl (fun ls hl => ?_)
        refine lv_goto (tgt := 34) hx hb dX12_changes_108 (by decide) ?_
        exact ih x4 x_23 (upd c34_b10 x_13.toNatClampNeg x_14) (upd c34_b11 x_16.toNatClampNeg x_17) (upd c34_b12 x_19.toNatClampNeg x_20) (upd c34_b13 x_21.toNatClampNeg x_22) c34_u9 _ _ (by omega) (by omega) hab_15 hab_18 (show 0 ≤ c34_u9.toInt by first | omega | assumption) (show c34_u9.toInt ≤ 40 by first | omega | assumption) (show (u 8).toInt + c34_u9.toInt ≤ 40 by first | omega | assumption) (by omega) hP hD hS ls (lv_sub hl [1, 2, 3, 4, 5, 0] rfl)
  refine lv_aload_n hx hb dX12_changes_0 rfl (lv_at hl 0 rfl) ?_
  refine lv_iload_n hx hb dX12_changes_1 rfl (lv_at hl 1 rfl) ?_
  refine lv_iload_n hx hb dX12_changes_2 rfl (lv_at hl 2 rfl) ?_
  refine cV_ro (As := [.int p1, .int p2]) (rest := []) ⟨hx, hb, hml, hown, hg⟩ (k_X12_valueAt l D cs A bd u b bw  p1 p2 (show 0 ≤ p2.toInt by first | omega | decide) (show p2.toInt < 8 by first | omega | decide) (show 0 ≤ p1.toInt by first | omega | decide) (show p1.toInt ≤ 7 by first | omega | decide)) ca_X12_valueAt q6_18 ⟨rfl, rfl⟩ ⟨Nat.le_of_ble_eq_true rfl, Nat.le_of_ble_eq_true rfl⟩ (rc_model hK hP) hK hP hD hS hZ rfl hl.1 rfl (Nat.le_of_ble_eq_true rfl) ⟨Nat.zero_le _, Nat.zero_le _⟩ dX12_changes_3 (fun r_24 wr_24 => ?_)
  have wr_24_0 : True := wr_24
  refine lv_istore (lv' := [(4, .int r_24), (0, .ref (bd 0)), (1, .int p1), (2, .int p2), (3, .int p3)]) hx hb dX12_changes_6 hl (by decide) rfl (fun ls hl => ?_)
  refine lv_iload hx hb dX12_changes_8 (lv_at hl 0 rfl) ?_
  refine lv_iload_n hx hb dX12_changes_10 rfl (lv_at hl 4 rfl) ?_
  refine lv_icmp_ne (tgt := 17) hx hb dX12_changes_11 (by decide) (fun c_25 => ?_) (fun c_25 => ?_)
  ·
    have kc_25 : r_24.toInt ≠ p3.toInt := i_ne c_25
    refine lv_aload_n hx hb dX12_changes_17 rfl (lv_at hl 1 rfl) ?_
    refine lv_iconst (v := 0) hx hb dX12_changes_18 (by decide) ?_
    refine pr_undoneMany hx hb hg hown hK hP hD hS (hg _ q5_1) dX12_changes_19 (fun H locs hP hD hS => ?_)
    refine lv_aload_n hx hb dX12_changes_22 rfl (lv_at hl 1 rfl) ?_
    refine gr_doneMany hx hb hg hown hK hP (x := (u 8)) rfl (hg _ q5_0) dX12_changes_23 ?_
    refine lv_bipush (v := 40) hx hb dX12_changes_26 (by decide) ?_
    refine lv_icmp_ne (tgt := 121) hx hb dX12_changes_28 (by decide) (fun c_26 => ?_) (fun c_26 => ?_)
    ·
      have kc_26 : (u 8).toInt ≠ (40 : Int) := i_ne c_26
      refine lv_aload_n hx hb dX12_changes_121 rfl (lv_at hl 1 rfl) ?_
      refine gr_changeOf hx hb hg hown hK hP (hg _ q5_2) dX12_changes_122 ?_
      refine lv_aload_n hx hb dX12_changes_125 rfl (lv_at hl 1 rfl) ?_
      refine gr_doneMany hx hb hg hown hK hP (x := (u 8)) rfl (hg _ q5_0) dX12_changes_126 ?_
      refine lv_iload_n hx hb dX12_changes_129 rfl (lv_at hl 2 rfl) ?_
      refine sr_changeOf hx hb hK hP hD hS (i_in (by omega) (by omega)) dX12_changes_130 (fun H locs hP hD hS => ?_)
      have hab_27 : AB 0 7 (upd (b 10) (u 8).toNatClampNeg p1) := AB_upd ib10_0 (by omega) (by omega)
      refine lv_aload_n hx hb dX12_changes_131 rfl (lv_at hl 1 rfl) ?_
      refine gr_changeAt hx hb hg hown hK hP (hg _ q5_3) dX12_changes_132 ?_
      refine lv_aload_n hx hb dX12_changes_135 rfl (lv_at hl 1 rfl) ?_
      refine gr_doneMany hx hb hg hown hK hP (x := (u 8)) rfl (hg _ q5_0) dX12_changes_136 ?_
      refine lv_iload_n hx hb dX12_changes_139 rfl (lv_at hl 3 rfl) ?_
      refine sr_changeAt hx hb hK hP hD hS (i_in (by omega) (by omega)) dX12_changes_140 (fun H locs hP hD hS => ?_)
      have hab_28 : AB 0 7 (upd (b 11) (u 8).toNatClampNeg p2) := AB_upd ib11_0 (by omega) (by omega)
      refine lv_aload_n hx hb dX12_changes_141 rfl (lv_at hl 1 rfl) ?_
      refine gr_before hx hb hg hown hK hP (hg _ q5_4) dX12_changes_142 ?_
      refine lv_aload_n hx hb dX12_changes_145 rfl (lv_at hl 1 rfl) ?_
      refine gr_doneMany hx hb hg hown hK hP (x := (u 8)) rfl (hg _ q5_0) dX12_changes_146 ?_
      refine lv_iload hx hb dX12_changes_149 (lv_at hl 0 rfl) ?_
      refine sr_before hx hb hK hP hD hS (i_in (by omega) (by omega)) dX12_changes_151 (fun H locs hP hD hS => ?_)
      refine lv_aload_n hx hb dX12_changes_152 rfl (lv_at hl 1 rfl) ?_
      refine gr_behind hx hb hg hown hK hP (hg _ q5_5) dX12_changes_153 ?_
      refine lv_aload_n hx hb dX12_changes_156 rfl (lv_at hl 1 rfl) ?_
      refine gr_doneMany hx hb hg hown hK hP (x := (u 8)) rfl (hg _ q5_0) dX12_changes_157 ?_
      refine lv_iload_n hx hb dX12_changes_160 rfl (lv_at hl 4 rfl) ?_
      refine sr_behind hx hb hK hP hD hS (i_in (by omega) (by omega)) dX12_changes_161 (fun H locs hP hD hS => ?_)
      refine lv_aload_n hx hb dX12_changes_162 rfl (lv_at hl 1 rfl) ?_
      refine lv_dup hx hb dX12_changes_163 rfl ?_
      refine gr_doneMany hx hb hg hown hK hP (x := (u 8)) rfl (hg _ q5_0) dX12_changes_164 ?_
      refine lv_iconst (v := 1) hx hb dX12_changes_167 (by decide) ?_
      refine lv_iadd hx hb dX12_changes_168 ?_
      refine lv_topi (fun x_29 ex_29 => ?_)
      have fx_29 : x_29.toInt = (u 8).toInt + (1 : Int) := by rw [ex_29]; exact i_add (by first | omega | (show (_ : Int) ≤ (u 8).toInt + (1 : Int); omega)) (by first | omega | (show (u 8).toInt + (1 : Int) ≤ (_ : Int); omega))
      refine pr_doneMany hx hb hg hown hK hP hD hS (hg _ q5_0) dX12_changes_169 (fun H locs hP hD hS => ?_)
      refine lv_aload_n hx hb dX12_changes_172 rfl (lv_at hl 1 rfl) ?_
      refine lv_iload_n hx hb dX12_changes_173 rfl (lv_at hl 2 rfl) ?_
      refine lv_iload_n hx hb dX12_changes_174 rfl (lv_at hl 3 rfl) ?_
      refine lv_iload_n hx hb dX12_changes_175 rfl (lv_at hl 4 rfl) ?_
      refine cV_v (As := [.int p1, .int p2, .int p3]) (rest := []) ⟨hx, hb, hml, hown, hg⟩ (k_X12_lays l D cs A bd (va_up (va_up u 9 0) 8 x_29) (va_up (va_up (va_up (va_up b 10 (upd (b 10) (u 8).toNatClampNeg p1)) 11 (upd (b 11) (u 8).toNatClampNeg p2)) 12 (upd (b 12) (u 8).toNatClampNeg r_24)) 13 (upd (b 13) (u 8).toNatClampNeg p3)) bw  p1 p2 p3 (show 0 ≤ p2.toInt by first | omega | decide) (show p2.toInt < 8 by first | omega | decide) (show 0 ≤ p1.toInt by first | omega | decide) (show p1.toInt ≤ 7 by first | omega | decide)) ca_X12_lays q5_231 ⟨rfl, rfl⟩ ⟨Nat.le_of_ble_eq_true rfl, Nat.le_of_ble_eq_true rfl⟩ (rc_model hK hP) hK hP hD hS hZ rfl hl.1 rfl (Nat.le_of_ble_eq_true rfl) ⟨Nat.zero_le _, Nat.zero_le _⟩ dX12_changes_176 (fun z_36 H locs wr_30 hP hD hS => ?_)
      obtain ⟨o_b2_31, o_b3_32, o_b4_33, o_b5_34, o_b6_35⟩ := z_36
      have hP : va_P D vwCl (RW cs bd (va_up (va_up u 9 0) 8 x_29) (va_up (va_up (va_up (va_up (va_up (va_up (va_up (va_up (va_up b 10 (upd (b 10) (u 8).toNatClampNeg p1)) 11 (upd (b 11) (u 8).toNatClampNeg p2)) 12 (upd (b 12) (u 8).toNatClampNeg r_24)) 13 (upd (b 13) (u 8).toNatClampNeg p3)) 2 o_b2_31) 3 o_b3_32) 4 o_b4_33) 5 o_b5_34) 6 o_b6_35) bw) H := hP
      have hD : va_D A (RW cs bd (va_up (va_up u 9 0) 8 x_29) (va_up (va_up (va_up (va_up (va_up (va_up (va_up (va_up (va_up b 10 (upd (b 10) (u 8).toNatClampNeg p1)) 11 (upd (b 11) (u 8).toNatClampNeg p2)) 12 (upd (b 12) (u 8).toNatClampNeg r_24)) 13 (upd (b 13) (u 8).toNatClampNeg p3)) 2 o_b2_31) 3 o_b3_32) 4 o_b4_33) 5 o_b5_34) 6 o_b6_35) bw) := hD
      have wr_30_0 : True := wr_30
      refine lv_iload hx hb dX12_changes_179 (lv_at hl 0 rfl) ?_
      have q0_0 : (0 : Int32).toInt = 0 := rfl
      have hP : va_P D vwCl (RW cs bd (va_up (va_up u 8 x_29) 9 0) (va_up (va_up (va_up (va_up (va_up (va_up (va_up (va_up (va_up b 10 (upd (b 10) (u 8).toNatClampNeg p1)) 11 (upd (b 11) (u 8).toNatClampNeg p2)) 12 (upd (b 12) (u 8).toNatClampNeg r_24)) 13 (upd (b 13) (u 8).toNatClampNeg p3)) 2 o_b2_31) 3 o_b3_32) 4 o_b4_33) 5 o_b5_34) 6 o_b6_35) bw) _ := hP
      have hD : va_D A (RW cs bd (va_up (va_up u 8 x_29) 9 0) (va_up (va_up (va_up (va_up (va_up (va_up (va_up (va_up (va_up b 10 (upd (b 10) (u 8).toNatClampNeg p1)) 11 (upd (b 11) (u 8).toNatClampNeg p2)) 12 (upd (b 12) (u 8).toNatClampNeg r_24)) 13 (upd (b 13) (u 8).toNatClampNeg p3)) 2 o_b2_31) 3 o_b3_32) 4 o_b4_33) 5 o_b5_34) 6 o_b6_35) bw) := hD
      exact W.iret (v := r_24) hx hb hr (fun tt ht hW => ⟨⟨r_24, ⟨x_29, (upd (b 10) (u 8).toNatClampNeg p1), (upd (b 11) (u 8).toNatClampNeg p2), (upd (b 12) (u 8).toNatClampNeg r_24), (upd (b 13) (u 8).toNatClampNeg p3), o_b2_31, o_b3_32, o_b4_33, o_b5_34, o_b6_35, 0⟩, rfl, ⟨(show 0 ≤ x_29.toInt by first | omega | assumption), (show x_29.toInt ≤ 40 by first | omega | assumption), hab_27, hab_28, (show 0 ≤ (0 : Int) by first | omega | assumption), (show (0 : Int) ≤ 40 by first | omega | assumption), (show x_29.toInt + (0 : Int) ≤ 40 by first | omega | assumption)⟩, by rw [ht]; exact hP, hD⟩, hS.F ht⟩) hS.2.2 dX12_changes_181
    ·
      have kc_26 : (u 8).toInt = (40 : Int) := i_eq c_26
      refine lv_iconst (v := 1) hx hb dX12_changes_31 (by decide) ?_
      refine lv_istore (lv' := [(5, .int 1), (4, .int r_24), (0, .ref (bd 0)), (1, .int p1), (2, .int p2), (3, .int p3)]) hx hb dX12_changes_32 hl (by decide) rfl (fun ls hl => ?_)
      have q0_1 : (1 : Int32).toInt = 1 := rfl
      have q0_0 : (0 : Int32).toInt = 0 := rfl
      exact (hcut (((40 - (1 : Int32).toInt).toNat) + 1)) r_24 1 (b 10) (b 11) (b 12) (b 13) 0 _ _ (by omega) (by omega) ib10_0 ib11_0 (show 0 ≤ (0 : Int) by first | omega | assumption) (show (0 : Int) ≤ 40 by first | omega | assumption) (show (u 8).toInt + (0 : Int) ≤ 40 by first | omega | assumption) (Nat.lt_succ_self _) hP hD hS ls (lv_sub hl [2, 3, 4, 5, 1, 0] rfl)
  ·
    have kc_25 : r_24.toInt = p3.toInt := i_eq c_25
    refine lv_iload hx hb dX12_changes_14 (lv_at hl 0 rfl) ?_
    have hP : va_P D vwCl (RW cs bd (va_up (va_up u 8 (u 8)) 9 (u 9)) (va_up (va_up (va_up (va_up (va_up (va_up (va_up (va_up (va_up b 10 (b 10)) 11 (b 11)) 12 (b 12)) 13 (b 13)) 2 (b 2)) 3 (b 3)) 4 (b 4)) 5 (b 5)) 6 (b 6)) bw) _ := hP
    have hD : va_D A (RW cs bd (va_up (va_up u 8 (u 8)) 9 (u 9)) (va_up (va_up (va_up (va_up (va_up (va_up (va_up (va_up (va_up b 10 (b 10)) 11 (b 11)) 12 (b 12)) 13 (b 13)) 2 (b 2)) 3 (b 3)) 4 (b 4)) 5 (b 5)) 6 (b 6)) bw) := hD
    exact W.iret (v := r_24) hx hb hr (fun tt ht hW => ⟨⟨r_24, ⟨(u 8), (b 10), (b 11), (b 12), (b 13), (b 2), (b 3), (b 4), (b 5), (b 6), (u 9)⟩, rfl, ⟨(show 0 ≤ (u 8).toInt by first | omega | assumption), (show (u 8).toInt ≤ 40 by first | omega | assumption), ib10_0, ib11_0, (show 0 ≤ (u 9).toInt by first | omega | assumption), (show (u 9).toInt ≤ 40 by first | omega | assumption), (show (u 8).toInt + (u 9).toInt ≤ 40 by first | omega | assumption)⟩, by rw [ht]; exact hP, hD⟩, hS.F ht⟩) hS.2.2 dX12_changes_16
set_option maxHeartbeats 4000000 in
set_option maxRecDepth 100000 in
theorem k_X12_mend (l : Launch) (D : va_G) (cs : Nat → ClassId) (A : Nat → Prop) (bd : Nat → Nat) (u : Nat → Int32) (b : Nat → Nat → Int32) (bw : Nat → Nat → Int64)  (p1 : Int32) (p2 : Int32) (p3 : Int32) (iu1_0 : 0 ≤ (u 1).toInt) (iu1_1 : (u 1).toInt ≤ 8) (iu8_0 : 0 ≤ (u 8).toInt) (iu8_1 : (u 8).toInt ≤ 40) (ib10_0 : AB 0 7 (b 10)) (ib11_0 : AB 0 7 (b 11)) (iu9_0 : 0 ≤ (u 9).toInt) (iu9_1 : (u 9).toInt ≤ 40) (iu9_2 : (u 8).toInt + (u 9).toInt ≤ 40) : Met l yX12_mend (Cond.code yX12_mend cX12_mend 4 (some .int) :: gw) ({ frames := 3, cells := 0, slots := 0, locals := 65 }) (va_Pc [.ref (bd 0), .int p1, .int p2, .int p3] (XPre D (TY cs) (RW cs bd u b bw) A)) (va_Qi (fun (r : Int32) (z : Int32 × Int32 × (Nat → Int32) × (Nat → Int32) × (Nat → Int32) × (Nat → Int32) × (Nat → Int32) × (Nat → Int32) × (Nat → Int32) × (Nat → Int32) × (Nat → Int32)) => (0 ≤ z.1.toInt) ∧ (z.1.toInt ≤ 40) ∧ (0 ≤ z.2.1.toInt) ∧ (z.2.1.toInt ≤ 40) ∧ (z.1.toInt + z.2.1.toInt ≤ 40) ∧ (AB 0 7 z.2.2.1) ∧ (AB 0 7 z.2.2.2.1)) (XPo D (fun (z : Int32 × Int32 × (Nat → Int32) × (Nat → Int32) × (Nat → Int32) × (Nat → Int32) × (Nat → Int32) × (Nat → Int32) × (Nat → Int32) × (Nat → Int32) × (Nat → Int32)) => RW cs bd (va_up (va_up u 8 z.1) 9 z.2.1) (va_up (va_up (va_up (va_up (va_up (va_up (va_up (va_up (va_up b 10 z.2.2.1) 11 z.2.2.2.1) 12 z.2.2.2.2.1) 13 z.2.2.2.2.2.1) 2 z.2.2.2.2.2.2.1) 3 z.2.2.2.2.2.2.2.1) 4 z.2.2.2.2.2.2.2.2.1) 5 z.2.2.2.2.2.2.2.2.2.1) 6 z.2.2.2.2.2.2.2.2.2.2) bw) A) A) 0 0 A := by
  refine Met.ofW (cc := cX12_mend) (maxL := 4) (ret := (some .int)) (by decide) rfl ?_
  intro p e s m args below meth c s₁ B hml hv
  obtain ⟨rfl, hP, hK, hD, hZ⟩ := hv
  have hx := B.exec
  have hb := B.bytes
  have hr := B.returns
  have hts := atoms_spec (ws := (Cond.code yX12_mend cX12_mend 4 (some .int) :: gw)) B.pre
  have hg : ∀ w ∈ gw, w.before ([.ref (bd 0), .int p1, .int p2, .int p3] : List Value).toArray s = true := fun w h => hts w (List.mem_cons_of_mem _ h)
  have hown : s.vm.findClass RX12 = some m.cls := findClass_of_methodNamed B.named
  have hlocks := B.notSynchronized
  have hS : va_S A s.heap s.heap [] := va_S.rf
  have hP : va_P D vwCl (RW cs bd u b bw) s.heap := hP
  have hl := lv_entry ([.ref (bd 0), .int p1, .int p2, .int p3]) (n := 4) (Nat.le_of_ble_eq_true rfl)
  rw [lg_entry_eq]
  generalize (lg_sl ([.ref (bd 0), .int p1, .int p2, .int p3]) ++ List.replicate (4 - (lg_sl ([.ref (bd 0), .int p1, .int p2, .int p3])).length) Slot.unset).toArray = ls at hl ⊢
  have hl : lv_has ls 4 [(0, .ref (bd 0)), (1, .int p1), (2, .int p2), (3, .int p3)] := hl
  refine lv_aload_n hx hb dX12_mend_0 rfl (lv_at hl 0 rfl) ?_
  refine lv_iload_n hx hb dX12_mend_1 rfl (lv_at hl 1 rfl) ?_
  refine lv_iload_n hx hb dX12_mend_2 rfl (lv_at hl 2 rfl) ?_
  refine cV_ro (As := [.int p1, .int p2]) (rest := []) ⟨hx, hb, hml, hown, hg⟩ (k_X12_isPlace l D cs A bd u b bw  p1 p2 (show 0 ≤ (u 1).toInt by first | omega | decide) (show (u 1).toInt ≤ 8 by first | omega | decide)) ca_X12_isPlace q6_3 ⟨rfl, rfl⟩ ⟨Nat.le_of_ble_eq_true rfl, Nat.le_of_ble_eq_true rfl⟩ (rc_model hK hP) hK hP hD hS hZ rfl hl.1 rfl (Nat.le_of_ble_eq_true rfl) ⟨Nat.zero_le _, Nat.zero_le _⟩ dX12_mend_3 (fun r_1 wr_1 => ?_)
  have wr_1_0 : (r_1.toInt = 1 ∧ ((0 ≤ p2.toInt ∧ p2.toInt ≤ 3 ∧ 0 ≤ p1.toInt ∧ p1.toInt < (u 1).toInt) ∨ (4 ≤ p2.toInt ∧ p2.toInt ≤ 7 ∧ p1.toInt = 0))) ∨ (r_1.toInt = 0 ∧ ¬ (((0 ≤ p2.toInt ∧ p2.toInt ≤ 3 ∧ 0 ≤ p1.toInt ∧ p1.toInt < (u 1).toInt) ∨ (4 ≤ p2.toInt ∧ p2.toInt ≤ 7 ∧ p1.toInt = 0)))) := wr_1
  refine lv_if_eq (tgt := 27) hx hb dX12_mend_6 (by decide) (fun c_2 => ?_) (fun c_2 => ?_)
  ·
    have kc_2 : r_1.toInt = (0 : Int) := i_eq c_2
    refine lv_iconst (v := (-1)) hx hb dX12_mend_27 (by decide) ?_
    have q0_m1 : ((-1) : Int32).toInt = (-1) := rfl
    have hP : va_P D vwCl (RW cs bd (va_up (va_up u 8 (u 8)) 9 (u 9)) (va_up (va_up (va_up (va_up (va_up (va_up (va_up (va_up (va_up b 10 (b 10)) 11 (b 11)) 12 (b 12)) 13 (b 13)) 2 (b 2)) 3 (b 3)) 4 (b 4)) 5 (b 5)) 6 (b 6)) bw) _ := hP
    have hD : va_D A (RW cs bd (va_up (va_up u 8 (u 8)) 9 (u 9)) (va_up (va_up (va_up (va_up (va_up (va_up (va_up (va_up (va_up b 10 (b 10)) 11 (b 11)) 12 (b 12)) 13 (b 13)) 2 (b 2)) 3 (b 3)) 4 (b 4)) 5 (b 5)) 6 (b 6)) bw) := hD
    exact W.iret (v := (-1)) hx hb hr (fun tt ht hW => ⟨⟨(-1), ⟨(u 8), (u 9), (b 10), (b 11), (b 12), (b 13), (b 2), (b 3), (b 4), (b 5), (b 6)⟩, rfl, ⟨(show 0 ≤ (u 8).toInt by first | omega | assumption), (show (u 8).toInt ≤ 40 by first | omega | assumption), (show 0 ≤ (u 9).toInt by first | omega | assumption), (show (u 9).toInt ≤ 40 by first | omega | assumption), (show (u 8).toInt + (u 9).toInt ≤ 40 by first | omega | assumption), ib10_0, ib11_0⟩, by rw [ht]; exact hP, hD⟩, hS.F ht⟩) hS.2.2 dX12_mend_28
  ·
    have kc_2 : r_1.toInt ≠ (0 : Int) := i_ne c_2
    refine lv_iload_n hx hb dX12_mend_9 rfl (lv_at hl 2 rfl) ?_
    refine lv_iload_n hx hb dX12_mend_10 rfl (lv_at hl 3 rfl) ?_
    refine cS_p (As := [.int p2, .int p3]) (rest := []) ⟨hx, hb, hml, hown, hg⟩ (k_X12_mayHave l   p2 p3 ) ca_X12_mayHave q6_11 ⟨rfl, rfl⟩ ⟨Nat.le_of_ble_eq_true rfl, Nat.le_of_ble_eq_true rfl⟩ rfl hl.1 rfl (Nat.le_of_ble_eq_true rfl) ⟨Nat.zero_le _, Nat.zero_le _⟩ dX12_mend_11 (fun r_3 wr_3 => ?_)
    have wr_3 : (r_3.toInt = 1 ∧ ((p2.toInt = 1 ∧ 0 ≤ p3.toInt ∧ p3.toInt ≤ 12) ∨ (p2.toInt = 2 ∧ 0 ≤ p3.toInt ∧ p3.toInt ≤ 9) ∨ (p2.toInt = 3 ∧ 0 ≤ p3.toInt ∧ p3.toInt ≤ 99) ∨ (p2.toInt = 5 ∧ 1 ≤ p3.toInt ∧ p3.toInt ≤ 20) ∨ (p2.toInt = 6 ∧ 0 ≤ p3.toInt ∧ p3.toInt ≤ 23) ∨ (p2.toInt = 7 ∧ 1 ≤ p3.toInt ∧ p3.toInt ≤ 9) ∨ ((p2.toInt < 1 ∨ p2.toInt = 4 ∨ 7 < p2.toInt) ∧ 0 ≤ p3.toInt ∧ p3.toInt < 256))) ∨ (r_3.toInt = 0 ∧ ¬ (((p2.toInt = 1 ∧ 0 ≤ p3.toInt ∧ p3.toInt ≤ 12) ∨ (p2.toInt = 2 ∧ 0 ≤ p3.toInt ∧ p3.toInt ≤ 9) ∨ (p2.toInt = 3 ∧ 0 ≤ p3.toInt ∧ p3.toInt ≤ 99) ∨ (p2.toInt = 5 ∧ 1 ≤ p3.toInt ∧ p3.toInt ≤ 20) ∨ (p2.toInt = 6 ∧ 0 ≤ p3.toInt ∧ p3.toInt ≤ 23) ∨ (p2.toInt = 7 ∧ 1 ≤ p3.toInt ∧ p3.toInt ≤ 9) ∨ ((p2.toInt < 1 ∨ p2.toInt = 4 ∨ 7 < p2.toInt) ∧ 0 ≤ p3.toInt ∧ p3.toInt < 256)))) := wr_3
    refine lv_if_eq (tgt := 27) hx hb dX12_mend_14 (by decide) (fun c_4 => ?_) (fun c_4 => ?_)
    ·
      have kc_4 : r_3.toInt = (0 : Int) := i_eq c_4
      refine lv_iconst (v := (-1)) hx hb dX12_mend_27 (by decide) ?_
      have q0_m1 : ((-1) : Int32).toInt = (-1) := rfl
      have hP : va_P D vwCl (RW cs bd (va_up (va_up u 8 (u 8)) 9 (u 9)) (va_up (va_up (va_up (va_up (va_up (va_up (va_up (va_up (va_up b 10 (b 10)) 11 (b 11)) 12 (b 12)) 13 (b 13)) 2 (b 2)) 3 (b 3)) 4 (b 4)) 5 (b 5)) 6 (b 6)) bw) _ := hP
      have hD : va_D A (RW cs bd (va_up (va_up u 8 (u 8)) 9 (u 9)) (va_up (va_up (va_up (va_up (va_up (va_up (va_up (va_up (va_up b 10 (b 10)) 11 (b 11)) 12 (b 12)) 13 (b 13)) 2 (b 2)) 3 (b 3)) 4 (b 4)) 5 (b 5)) 6 (b 6)) bw) := hD
      exact W.iret (v := (-1)) hx hb hr (fun tt ht hW => ⟨⟨(-1), ⟨(u 8), (u 9), (b 10), (b 11), (b 12), (b 13), (b 2), (b 3), (b 4), (b 5), (b 6)⟩, rfl, ⟨(show 0 ≤ (u 8).toInt by first | omega | assumption), (show (u 8).toInt ≤ 40 by first | omega | assumption), (show 0 ≤ (u 9).toInt by first | omega | assumption), (show (u 9).toInt ≤ 40 by first | omega | assumption), (show (u 8).toInt + (u 9).toInt ≤ 40 by first | omega | assumption), ib10_0, ib11_0⟩, by rw [ht]; exact hP, hD⟩, hS.F ht⟩) hS.2.2 dX12_mend_28
    ·
      have kc_4 : r_3.toInt ≠ (0 : Int) := i_ne c_4
      refine lv_aload_n hx hb dX12_mend_17 rfl (lv_at hl 0 rfl) ?_
      refine lv_iload_n hx hb dX12_mend_18 rfl (lv_at hl 2 rfl) ?_
      refine lv_iload_n hx hb dX12_mend_19 rfl (lv_at hl 1 rfl) ?_
      refine lv_iload_n hx hb dX12_mend_20 rfl (lv_at hl 3 rfl) ?_
      refine cV_i (As := [.int p2, .int p1, .int p3]) (rest := []) ⟨hx, hb, hml, hown, hg⟩ (k_X12_changes l D cs A bd u b bw  p2 p1 p3 (show 0 ≤ p1.toInt by first | omega | decide) (show p1.toInt < 8 by first | omega | decide) (show 0 ≤ p2.toInt by first | omega | decide) (show p2.toInt ≤ 7 by first | omega | decide) (show 0 ≤ (u 8).toInt by first | omega | decide) (show (u 8).toInt ≤ 40 by first | omega | decide) ib10_0 ib11_0 (show 0 ≤ (u 9).toInt by first | omega | decide) (show (u 9).toInt ≤ 40 by first | omega | decide) (show (u 8).toInt + (u 9).toInt ≤ 40 by first | omega | decide)) ca_X12_changes q6_14 ⟨rfl, rfl⟩ ⟨Nat.le_of_ble_eq_true rfl, Nat.le_of_ble_eq_true rfl⟩ (rc_model hK hP) hK hP hD hS hZ rfl hl.1 rfl (Nat.le_of_ble_eq_true rfl) ⟨Nat.zero_le _, Nat.zero_le _⟩ dX12_mend_21 (fun r_5 z_17 H locs wr_5 hP hD hS => ?_)
      obtain ⟨o_u8_6, o_b10_7, o_b11_8, o_b12_9, o_b13_10, o_b2_11, o_b3_12, o_b4_13, o_b5_14, o_b6_15, o_u9_16⟩ := z_17
      have hP : va_P D vwCl (RW cs bd (va_up (va_up u 8 o_u8_6) 9 o_u9_16) (va_up (va_up (va_up (va_up (va_up (va_up (va_up (va_up (va_up b 10 o_b10_7) 11 o_b11_8) 12 o_b12_9) 13 o_b13_10) 2 o_b2_11) 3 o_b3_12) 4 o_b4_13) 5 o_b5_14) 6 o_b6_15) bw) H := hP
      have hD : va_D A (RW cs bd (va_up (va_up u 8 o_u8_6) 9 o_u9_16) (va_up (va_up (va_up (va_up (va_up (va_up (va_up (va_up (va_up b 10 o_b10_7) 11 o_b11_8) 12 o_b12_9) 13 o_b13_10) 2 o_b2_11) 3 o_b3_12) 4 o_b4_13) 5 o_b5_14) 6 o_b6_15) bw) := hD
      obtain ⟨wr_5_0, wr_5_1, wr_5_2, wr_5_3, wr_5_4, wr_5_5, wr_5_6⟩ : (0 ≤ o_u8_6.toInt) ∧ (o_u8_6.toInt ≤ 40) ∧ (AB 0 7 o_b10_7) ∧ (AB 0 7 o_b11_8) ∧ (0 ≤ o_u9_16.toInt) ∧ (o_u9_16.toInt ≤ 40) ∧ (o_u8_6.toInt + o_u9_16.toInt ≤ 40) := wr_5
      refine lv_goto (tgt := 28) hx hb dX12_mend_24 (by decide) ?_
      exact W.iret (v := r_5) hx hb hr (fun tt ht hW => ⟨⟨r_5, ⟨o_u8_6, o_u9_16, o_b10_7, o_b11_8, o_b12_9, o_b13_10, o_b2_11, o_b3_12, o_b4_13, o_b5_14, o_b6_15⟩, rfl, ⟨(show 0 ≤ o_u8_6.toInt by first | omega | assumption), (show o_u8_6.toInt ≤ 40 by first | omega | assumption), (show 0 ≤ o_u9_16.toInt by first | omega | assumption), (show o_u9_16.toInt ≤ 40 by first | omega | assumption), (show o_u8_6.toInt + o_u9_16.toInt ≤ 40 by first | omega | assumption), wr_5_2, wr_5_3⟩, by rw [ht]; exact hP, hD⟩, hS.F ht⟩) hS.2.2 dX12_mend_28
set_option maxHeartbeats 4000000 in
set_option maxRecDepth 100000 in
theorem k_X12_of (l : Launch) (D : va_G) (cs : Nat → ClassId) (A : Nat → Prop) (bd : Nat → Nat) (u : Nat → Int32) (b : Nat → Nat → Int32) (bw : Nat → Nat → Int64)  (p1 : Int32) (p2 : Int32) (iu1_0 : 0 ≤ (u 1).toInt) (iu1_1 : (u 1).toInt ≤ 8) : Met l yX12_of (Cond.code yX12_of cX12_of 3 (some .int) :: gw) ({ frames := 3, cells := 0, slots := 0, locals := 65 }) (va_Pc [.ref (bd 0), .int p1, .int p2] (XPre D (TY cs) (RW cs bd u b bw) A)) (vp_Si (fun (r : Int32) => True)) 0 0 (fun _ => False) := by
  refine Met.ofW (cc := cX12_of) (maxL := 3) (ret := (some .int)) (by decide) rfl ?_
  intro p e s m args below meth c s₁ B hml hv
  obtain ⟨rfl, hP, hK, hD, hZ⟩ := hv
  have hx := B.exec
  have hb := B.bytes
  have hr := B.returns
  have hts := atoms_spec (ws := (Cond.code yX12_of cX12_of 3 (some .int) :: gw)) B.pre
  have hg : ∀ w ∈ gw, w.before ([.ref (bd 0), .int p1, .int p2] : List Value).toArray s = true := fun w h => hts w (List.mem_cons_of_mem _ h)
  have hown : s.vm.findClass RX12 = some m.cls := findClass_of_methodNamed B.named
  have hlocks := B.notSynchronized
  have hS : va_S A s.heap s.heap [] := va_S.rf
  have hl := lv_entry ([.ref (bd 0), .int p1, .int p2]) (n := 3) (Nat.le_of_ble_eq_true rfl)
  rw [lg_entry_eq]
  generalize (lg_sl ([.ref (bd 0), .int p1, .int p2]) ++ List.replicate (3 - (lg_sl ([.ref (bd 0), .int p1, .int p2])).length) Slot.unset).toArray = ls at hl ⊢
  have hl : lv_has ls 3 [(0, .ref (bd 0)), (1, .int p1), (2, .int p2)] := hl
  refine lv_aload_n hx hb dX12_of_0 rfl (lv_at hl 0 rfl) ?_
  refine lv_iload_n hx hb dX12_of_1 rfl (lv_at hl 1 rfl) ?_
  refine lv_iload_n hx hb dX12_of_2 rfl (lv_at hl 2 rfl) ?_
  refine cV_ro (As := [.int p1, .int p2]) (rest := []) ⟨hx, hb, hml, hown, hg⟩ (k_X12_isPlace l D cs A bd u b bw  p1 p2 (show 0 ≤ (u 1).toInt by first | omega | decide) (show (u 1).toInt ≤ 8 by first | omega | decide)) ca_X12_isPlace q6_3 ⟨rfl, rfl⟩ ⟨Nat.le_of_ble_eq_true rfl, Nat.le_of_ble_eq_true rfl⟩ (rc_model hK hP) hK hP hD hS hZ rfl hl.1 rfl (Nat.le_of_ble_eq_true rfl) ⟨Nat.zero_le _, Nat.zero_le _⟩ dX12_of_3 (fun r_1 wr_1 => ?_)
  have wr_1_0 : (r_1.toInt = 1 ∧ ((0 ≤ p2.toInt ∧ p2.toInt ≤ 3 ∧ 0 ≤ p1.toInt ∧ p1.toInt < (u 1).toInt) ∨ (4 ≤ p2.toInt ∧ p2.toInt ≤ 7 ∧ p1.toInt = 0))) ∨ (r_1.toInt = 0 ∧ ¬ (((0 ≤ p2.toInt ∧ p2.toInt ≤ 3 ∧ 0 ≤ p1.toInt ∧ p1.toInt < (u 1).toInt) ∨ (4 ≤ p2.toInt ∧ p2.toInt ≤ 7 ∧ p1.toInt = 0)))) := wr_1
  refine lv_if_eq (tgt := 18) hx hb dX12_of_6 (by decide) (fun c_2 => ?_) (fun c_2 => ?_)
  ·
    have kc_2 : r_1.toInt = (0 : Int) := i_eq c_2
    refine lv_iconst (v := (-1)) hx hb dX12_of_18 (by decide) ?_
    have q0_m1 : ((-1) : Int32).toInt = (-1) := rfl
    exact W.iret (v := (-1)) hx hb hr (fun tt ht hW => ⟨(-1), rfl, trivial, ht⟩) (fun _ h => by cases h) dX12_of_19
  ·
    have kc_2 : r_1.toInt ≠ (0 : Int) := i_ne c_2
    refine lv_aload_n hx hb dX12_of_9 rfl (lv_at hl 0 rfl) ?_
    refine lv_iload_n hx hb dX12_of_10 rfl (lv_at hl 2 rfl) ?_
    refine lv_iload_n hx hb dX12_of_11 rfl (lv_at hl 1 rfl) ?_
    refine cV_ro (As := [.int p2, .int p1]) (rest := []) ⟨hx, hb, hml, hown, hg⟩ (k_X12_valueAt l D cs A bd u b bw  p2 p1 (show 0 ≤ p1.toInt by first | omega | decide) (show p1.toInt < 8 by first | omega | decide) (show 0 ≤ p2.toInt by first | omega | decide) (show p2.toInt ≤ 7 by first | omega | decide)) ca_X12_valueAt q6_18 ⟨rfl, rfl⟩ ⟨Nat.le_of_ble_eq_true rfl, Nat.le_of_ble_eq_true rfl⟩ (rc_model hK hP) hK hP hD hS hZ rfl hl.1 rfl (Nat.le_of_ble_eq_true rfl) ⟨Nat.zero_le _, Nat.zero_le _⟩ dX12_of_12 (fun r_3 wr_3 => ?_)
    have wr_3_0 : True := wr_3
    refine lv_goto (tgt := 19) hx hb dX12_of_15 (by decide) ?_
    exact W.iret (v := r_3) hx hb hr (fun tt ht hW => ⟨r_3, rfl, trivial, ht⟩) (fun _ h => by cases h) dX12_of_19
set_option maxHeartbeats 4000000 in
set_option maxRecDepth 100000 in
theorem k_X12_undo (l : Launch) (D : va_G) (cs : Nat → ClassId) (A : Nat → Prop) (bd : Nat → Nat) (u : Nat → Int32) (b : Nat → Nat → Int32) (bw : Nat → Nat → Int64)   (iu8_0 : 0 ≤ (u 8).toInt) (iu8_1 : (u 8).toInt ≤ 40) (iu9_0 : 0 ≤ (u 9).toInt) (iu9_1 : (u 9).toInt ≤ 40) (iu9_2 : (u 8).toInt + (u 9).toInt ≤ 40) (ib10_0 : AB 0 7 (b 10)) (ib11_0 : AB 0 7 (b 11)) : Met l yX12_undo (Cond.code yX12_undo cX12_undo 1 (some .int) :: gw) ({ frames := 1, cells := 0, slots := 0, locals := 23 }) (va_Pc [.ref (bd 0)] (XPre D (TY cs) (RW cs bd u b bw) A)) (va_Qi (fun (r : Int32) (z : Int32 × Int32 × (Nat → Int32) × (Nat → Int32) × (Nat → Int32) × (Nat → Int32) × (Nat → Int32)) => (0 ≤ z.1.toInt) ∧ (z.1.toInt ≤ 40) ∧ (0 ≤ z.2.1.toInt) ∧ (z.2.1.toInt ≤ 40) ∧ (z.1.toInt + z.2.1.toInt ≤ 40)) (XPo D (fun (z : Int32 × Int32 × (Nat → Int32) × (Nat → Int32) × (Nat → Int32) × (Nat → Int32) × (Nat → Int32)) => RW cs bd (va_up (va_up u 8 z.1) 9 z.2.1) (va_up (va_up (va_up (va_up (va_up b 2 z.2.2.1) 3 z.2.2.2.1) 4 z.2.2.2.2.1) 5 z.2.2.2.2.2.1) 6 z.2.2.2.2.2.2) bw) A) A) 0 0 A := by
  refine Met.ofW (cc := cX12_undo) (maxL := 1) (ret := (some .int)) (by decide) rfl ?_
  intro p e s m args below meth c s₁ B hml hv
  obtain ⟨rfl, hP, hK, hD, hZ⟩ := hv
  have hx := B.exec
  have hb := B.bytes
  have hr := B.returns
  have hts := atoms_spec (ws := (Cond.code yX12_undo cX12_undo 1 (some .int) :: gw)) B.pre
  have hg : ∀ w ∈ gw, w.before ([.ref (bd 0)] : List Value).toArray s = true := fun w h => hts w (List.mem_cons_of_mem _ h)
  have hown : s.vm.findClass RX12 = some m.cls := findClass_of_methodNamed B.named
  have hlocks := B.notSynchronized
  have hS : va_S A s.heap s.heap [] := va_S.rf
  have hP : va_P D vwCl (RW cs bd u b bw) s.heap := hP
  have hl := lv_entry ([.ref (bd 0)]) (n := 1) (Nat.le_of_ble_eq_true rfl)
  rw [lg_entry_eq]
  generalize (lg_sl ([.ref (bd 0)]) ++ List.replicate (1 - (lg_sl ([.ref (bd 0)])).length) Slot.unset).toArray = ls at hl ⊢
  have hl : lv_has ls 1 [(0, .ref (bd 0))] := hl
  refine lv_aload_n hx hb dX12_undo_0 rfl (lv_at hl 0 rfl) ?_
  refine gr_doneMany hx hb hg hown hK hP (x := (u 8)) rfl (hg _ q5_0) dX12_undo_1 ?_
  refine lv_if_ne (tgt := 10) hx hb dX12_undo_4 (by decide) (fun c_1 => ?_) (fun c_1 => ?_)
  ·
    have kc_1 : (u 8).toInt ≠ (0 : Int) := i_ne c_1
    refine lv_aload_n hx hb dX12_undo_10 rfl (lv_at hl 0 rfl) ?_
    refine lv_dup hx hb dX12_undo_11 rfl ?_
    refine gr_doneMany hx hb hg hown hK hP (x := (u 8)) rfl (hg _ q5_0) dX12_undo_12 ?_
    refine lv_iconst (v := 1) hx hb dX12_undo_15 (by decide) ?_
    refine lv_isub hx hb dX12_undo_16 ?_
    refine lv_topi (fun x_2 ex_2 => ?_)
    have fx_2 : x_2.toInt = (u 8).toInt - (1 : Int) := by rw [ex_2]; exact i_sub (by first | omega | (show (_ : Int) ≤ (u 8).toInt - (1 : Int); omega)) (by first | omega | (show (u 8).toInt - (1 : Int) ≤ (_ : Int); omega))
    refine pr_doneMany hx hb hg hown hK hP hD hS (hg _ q5_0) dX12_undo_17 (fun H locs hP hD hS => ?_)
    refine lv_aload_n hx hb dX12_undo_20 rfl (lv_at hl 0 rfl) ?_
    refine lv_dup hx hb dX12_undo_21 rfl ?_
    refine gr_undoneMany hx hb hg hown hK hP (x := (u 9)) rfl (hg _ q5_1) dX12_undo_22 ?_
    refine lv_iconst (v := 1) hx hb dX12_undo_25 (by decide) ?_
    refine lv_iadd hx hb dX12_undo_26 ?_
    refine lv_topi (fun x_3 ex_3 => ?_)
    have fx_3 : x_3.toInt = (u 9).toInt + (1 : Int) := by rw [ex_3]; exact i_add (by first | omega | (show (_ : Int) ≤ (u 9).toInt + (1 : Int); omega)) (by first | omega | (show (u 9).toInt + (1 : Int) ≤ (_ : Int); omega))
    refine pr_undoneMany hx hb hg hown hK hP hD hS (hg _ q5_1) dX12_undo_27 (fun H locs hP hD hS => ?_)
    refine lv_aload_n hx hb dX12_undo_30 rfl (lv_at hl 0 rfl) ?_
    refine lv_aload_n hx hb dX12_undo_31 rfl (lv_at hl 0 rfl) ?_
    refine gr_changeOf hx hb hg hown hK hP (hg _ q5_2) dX12_undo_32 ?_
    refine lv_aload_n hx hb dX12_undo_35 rfl (lv_at hl 0 rfl) ?_
    refine gr_doneMany hx hb hg hown hK hP (x := x_2) rfl (hg _ q5_0) dX12_undo_36 ?_
    refine lr_changeOf hx hb hK hP (i_in (by omega) (by omega)) dX12_undo_39 ?_
    refine lv_topi (fun x_4 ex_4 => ?_)
    have ex_4 : x_4 = (b 10) x_2.toNatClampNeg := ex_4
    have hx_4 : x_4.toInt = ((b 10) x_2.toNatClampNeg).toInt := by rw [ex_4]
    have bx_4 := ib10_0 x_2.toNatClampNeg
    rw [← ex_4] at bx_4
    refine lv_aload_n hx hb dX12_undo_40 rfl (lv_at hl 0 rfl) ?_
    refine gr_changeAt hx hb hg hown hK hP (hg _ q5_3) dX12_undo_41 ?_
    refine lv_aload_n hx hb dX12_undo_44 rfl (lv_at hl 0 rfl) ?_
    refine gr_doneMany hx hb hg hown hK hP (x := x_2) rfl (hg _ q5_0) dX12_undo_45 ?_
    refine lr_changeAt hx hb hK hP (i_in (by omega) (by omega)) dX12_undo_48 ?_
    refine lv_topi (fun x_5 ex_5 => ?_)
    have ex_5 : x_5 = (b 11) x_2.toNatClampNeg := ex_5
    have hx_5 : x_5.toInt = ((b 11) x_2.toNatClampNeg).toInt := by rw [ex_5]
    have bx_5 := ib11_0 x_2.toNatClampNeg
    rw [← ex_5] at bx_5
    refine lv_aload_n hx hb dX12_undo_49 rfl (lv_at hl 0 rfl) ?_
    refine gr_before hx hb hg hown hK hP (hg _ q5_4) dX12_undo_50 ?_
    refine lv_aload_n hx hb dX12_undo_53 rfl (lv_at hl 0 rfl) ?_
    refine gr_doneMany hx hb hg hown hK hP (x := x_2) rfl (hg _ q5_0) dX12_undo_54 ?_
    refine lr_before hx hb hK hP (i_in (by omega) (by omega)) dX12_undo_57 ?_
    refine lv_topi (fun x_6 ex_6 => ?_)
    have ex_6 : x_6 = (b 12) x_2.toNatClampNeg := ex_6
    have hx_6 : x_6.toInt = ((b 12) x_2.toNatClampNeg).toInt := by rw [ex_6]
    refine cV_v (As := [.int x_4, .int x_5, .int x_6]) (rest := []) ⟨hx, hb, hml, hown, hg⟩ (k_X12_lays l D cs A bd (va_up (va_up u 8 x_2) 9 x_3) b bw  x_4 x_5 x_6 (show 0 ≤ x_5.toInt by first | omega | decide) (show x_5.toInt < 8 by first | omega | decide) (show 0 ≤ x_4.toInt by first | omega | decide) (show x_4.toInt ≤ 7 by first | omega | decide)) ca_X12_lays q5_231 ⟨rfl, rfl⟩ ⟨Nat.le_of_ble_eq_true rfl, Nat.le_of_ble_eq_true rfl⟩ (rc_model hK hP) hK hP hD hS hZ rfl hl.1 rfl (Nat.le_of_ble_eq_true rfl) ⟨Nat.zero_le _, Nat.zero_le _⟩ dX12_undo_58 (fun z_13 H locs wr_7 hP hD hS => ?_)
    obtain ⟨o_b2_8, o_b3_9, o_b4_10, o_b5_11, o_b6_12⟩ := z_13
    have hP : va_P D vwCl (RW cs bd (va_up (va_up u 8 x_2) 9 x_3) (va_up (va_up (va_up (va_up (va_up b 2 o_b2_8) 3 o_b3_9) 4 o_b4_10) 5 o_b5_11) 6 o_b6_12) bw) H := hP
    have hD : va_D A (RW cs bd (va_up (va_up u 8 x_2) 9 x_3) (va_up (va_up (va_up (va_up (va_up b 2 o_b2_8) 3 o_b3_9) 4 o_b4_10) 5 o_b5_11) 6 o_b6_12) bw) := hD
    have wr_7_0 : True := wr_7
    refine lv_aload_n hx hb dX12_undo_61 rfl (lv_at hl 0 rfl) ?_
    refine gr_doneMany hx hb hg hown hK hP (x := x_2) rfl (hg _ q5_0) dX12_undo_62 ?_
    exact W.iret (v := x_2) hx hb hr (fun tt ht hW => ⟨⟨x_2, ⟨x_2, x_3, o_b2_8, o_b3_9, o_b4_10, o_b5_11, o_b6_12⟩, rfl, ⟨(show 0 ≤ x_2.toInt by first | omega | assumption), (show x_2.toInt ≤ 40 by first | omega | assumption), (show 0 ≤ x_3.toInt by first | omega | assumption), (show x_3.toInt ≤ 40 by first | omega | assumption), (show x_2.toInt + x_3.toInt ≤ 40 by first | omega | assumption)⟩, by rw [ht]; exact hP, hD⟩, hS.F ht⟩) hS.2.2 dX12_undo_65
  ·
    have kc_1 : (u 8).toInt = (0 : Int) := i_eq c_1
    refine lv_bipush (v := (-5)) hx hb dX12_undo_7 (by decide) ?_
    have q0_m5 : ((-5) : Int32).toInt = (-5) := rfl
    have hP : va_P D vwCl (RW cs bd (va_up (va_up u 8 (u 8)) 9 (u 9)) (va_up (va_up (va_up (va_up (va_up b 2 (b 2)) 3 (b 3)) 4 (b 4)) 5 (b 5)) 6 (b 6)) bw) _ := hP
    have hD : va_D A (RW cs bd (va_up (va_up u 8 (u 8)) 9 (u 9)) (va_up (va_up (va_up (va_up (va_up b 2 (b 2)) 3 (b 3)) 4 (b 4)) 5 (b 5)) 6 (b 6)) bw) := hD
    exact W.iret (v := (-5)) hx hb hr (fun tt ht hW => ⟨⟨(-5), ⟨(u 8), (u 9), (b 2), (b 3), (b 4), (b 5), (b 6)⟩, rfl, ⟨(show 0 ≤ (u 8).toInt by first | omega | assumption), (show (u 8).toInt ≤ 40 by first | omega | assumption), (show 0 ≤ (u 9).toInt by first | omega | assumption), (show (u 9).toInt ≤ 40 by first | omega | assumption), (show (u 8).toInt + (u 9).toInt ≤ 40 by first | omega | assumption)⟩, by rw [ht]; exact hP, hD⟩, hS.F ht⟩) hS.2.2 dX12_undo_9
set_option maxHeartbeats 4000000 in
set_option maxRecDepth 100000 in
theorem k_X12_redo (l : Launch) (D : va_G) (cs : Nat → ClassId) (A : Nat → Prop) (bd : Nat → Nat) (u : Nat → Int32) (b : Nat → Nat → Int32) (bw : Nat → Nat → Int64)   (iu8_0 : 0 ≤ (u 8).toInt) (iu8_1 : (u 8).toInt ≤ 40) (iu9_0 : 0 ≤ (u 9).toInt) (iu9_1 : (u 9).toInt ≤ 40) (iu9_2 : (u 8).toInt + (u 9).toInt ≤ 40) (ib10_0 : AB 0 7 (b 10)) (ib11_0 : AB 0 7 (b 11)) : Met l yX12_redo (Cond.code yX12_redo cX12_redo 1 (some .int) :: gw) ({ frames := 1, cells := 0, slots := 0, locals := 23 }) (va_Pc [.ref (bd 0)] (XPre D (TY cs) (RW cs bd u b bw) A)) (va_Qi (fun (r : Int32) (z : Int32 × Int32 × (Nat → Int32) × (Nat → Int32) × (Nat → Int32) × (Nat → Int32) × (Nat → Int32)) => (0 ≤ z.1.toInt) ∧ (z.1.toInt ≤ 40) ∧ (0 ≤ z.2.1.toInt) ∧ (z.2.1.toInt ≤ 40) ∧ (z.1.toInt + z.2.1.toInt ≤ 40)) (XPo D (fun (z : Int32 × Int32 × (Nat → Int32) × (Nat → Int32) × (Nat → Int32) × (Nat → Int32) × (Nat → Int32)) => RW cs bd (va_up (va_up u 8 z.1) 9 z.2.1) (va_up (va_up (va_up (va_up (va_up b 2 z.2.2.1) 3 z.2.2.2.1) 4 z.2.2.2.2.1) 5 z.2.2.2.2.2.1) 6 z.2.2.2.2.2.2) bw) A) A) 0 0 A := by
  refine Met.ofW (cc := cX12_redo) (maxL := 1) (ret := (some .int)) (by decide) rfl ?_
  intro p e s m args below meth c s₁ B hml hv
  obtain ⟨rfl, hP, hK, hD, hZ⟩ := hv
  have hx := B.exec
  have hb := B.bytes
  have hr := B.returns
  have hts := atoms_spec (ws := (Cond.code yX12_redo cX12_redo 1 (some .int) :: gw)) B.pre
  have hg : ∀ w ∈ gw, w.before ([.ref (bd 0)] : List Value).toArray s = true := fun w h => hts w (List.mem_cons_of_mem _ h)
  have hown : s.vm.findClass RX12 = some m.cls := findClass_of_methodNamed B.named
  have hlocks := B.notSynchronized
  have hS : va_S A s.heap s.heap [] := va_S.rf
  have hP : va_P D vwCl (RW cs bd u b bw) s.heap := hP
  have hl := lv_entry ([.ref (bd 0)]) (n := 1) (Nat.le_of_ble_eq_true rfl)
  rw [lg_entry_eq]
  generalize (lg_sl ([.ref (bd 0)]) ++ List.replicate (1 - (lg_sl ([.ref (bd 0)])).length) Slot.unset).toArray = ls at hl ⊢
  have hl : lv_has ls 1 [(0, .ref (bd 0))] := hl
  refine lv_aload_n hx hb dX12_redo_0 rfl (lv_at hl 0 rfl) ?_
  refine gr_undoneMany hx hb hg hown hK hP (x := (u 9)) rfl (hg _ q5_1) dX12_redo_1 ?_
  refine lv_if_ne (tgt := 10) hx hb dX12_redo_4 (by decide) (fun c_1 => ?_) (fun c_1 => ?_)
  ·
    have kc_1 : (u 9).toInt ≠ (0 : Int) := i_ne c_1
    refine lv_aload_n hx hb dX12_redo_10 rfl (lv_at hl 0 rfl) ?_
    refine lv_aload_n hx hb dX12_redo_11 rfl (lv_at hl 0 rfl) ?_
    refine gr_changeOf hx hb hg hown hK hP (hg _ q5_2) dX12_redo_12 ?_
    refine lv_aload_n hx hb dX12_redo_15 rfl (lv_at hl 0 rfl) ?_
    refine gr_doneMany hx hb hg hown hK hP (x := (u 8)) rfl (hg _ q5_0) dX12_redo_16 ?_
    refine lr_changeOf hx hb hK hP (i_in (by omega) (by omega)) dX12_redo_19 ?_
    refine lv_topi (fun x_2 ex_2 => ?_)
    have ex_2 : x_2 = (b 10) (u 8).toNatClampNeg := ex_2
    have hx_2 : x_2.toInt = ((b 10) (u 8).toNatClampNeg).toInt := by rw [ex_2]
    have bx_2 := ib10_0 (u 8).toNatClampNeg
    rw [← ex_2] at bx_2
    refine lv_aload_n hx hb dX12_redo_20 rfl (lv_at hl 0 rfl) ?_
    refine gr_changeAt hx hb hg hown hK hP (hg _ q5_3) dX12_redo_21 ?_
    refine lv_aload_n hx hb dX12_redo_24 rfl (lv_at hl 0 rfl) ?_
    refine gr_doneMany hx hb hg hown hK hP (x := (u 8)) rfl (hg _ q5_0) dX12_redo_25 ?_
    refine lr_changeAt hx hb hK hP (i_in (by omega) (by omega)) dX12_redo_28 ?_
    refine lv_topi (fun x_3 ex_3 => ?_)
    have ex_3 : x_3 = (b 11) (u 8).toNatClampNeg := ex_3
    have hx_3 : x_3.toInt = ((b 11) (u 8).toNatClampNeg).toInt := by rw [ex_3]
    have bx_3 := ib11_0 (u 8).toNatClampNeg
    rw [← ex_3] at bx_3
    refine lv_aload_n hx hb dX12_redo_29 rfl (lv_at hl 0 rfl) ?_
    refine gr_behind hx hb hg hown hK hP (hg _ q5_5) dX12_redo_30 ?_
    refine lv_aload_n hx hb dX12_redo_33 rfl (lv_at hl 0 rfl) ?_
    refine gr_doneMany hx hb hg hown hK hP (x := (u 8)) rfl (hg _ q5_0) dX12_redo_34 ?_
    refine lr_behind hx hb hK hP (i_in (by omega) (by omega)) dX12_redo_37 ?_
    refine lv_topi (fun x_4 ex_4 => ?_)
    have ex_4 : x_4 = (b 13) (u 8).toNatClampNeg := ex_4
    have hx_4 : x_4.toInt = ((b 13) (u 8).toNatClampNeg).toInt := by rw [ex_4]
    refine cV_v (As := [.int x_2, .int x_3, .int x_4]) (rest := []) ⟨hx, hb, hml, hown, hg⟩ (k_X12_lays l D cs A bd u b bw  x_2 x_3 x_4 (show 0 ≤ x_3.toInt by first | omega | decide) (show x_3.toInt < 8 by first | omega | decide) (show 0 ≤ x_2.toInt by first | omega | decide) (show x_2.toInt ≤ 7 by first | omega | decide)) ca_X12_lays q5_231 ⟨rfl, rfl⟩ ⟨Nat.le_of_ble_eq_true rfl, Nat.le_of_ble_eq_true rfl⟩ (rc_model hK hP) hK hP hD hS hZ rfl hl.1 rfl (Nat.le_of_ble_eq_true rfl) ⟨Nat.zero_le _, Nat.zero_le _⟩ dX12_redo_38 (fun z_11 H locs wr_5 hP hD hS => ?_)
    obtain ⟨o_b2_6, o_b3_7, o_b4_8, o_b5_9, o_b6_10⟩ := z_11
    have hP : va_P D vwCl (RW cs bd u (va_up (va_up (va_up (va_up (va_up b 2 o_b2_6) 3 o_b3_7) 4 o_b4_8) 5 o_b5_9) 6 o_b6_10) bw) H := hP
    have hD : va_D A (RW cs bd u (va_up (va_up (va_up (va_up (va_up b 2 o_b2_6) 3 o_b3_7) 4 o_b4_8) 5 o_b5_9) 6 o_b6_10) bw) := hD
    have wr_5_0 : True := wr_5
    refine lv_aload_n hx hb dX12_redo_41 rfl (lv_at hl 0 rfl) ?_
    refine lv_dup hx hb dX12_redo_42 rfl ?_
    refine gr_doneMany hx hb hg hown hK hP (x := (u 8)) rfl (hg _ q5_0) dX12_redo_43 ?_
    refine lv_iconst (v := 1) hx hb dX12_redo_46 (by decide) ?_
    refine lv_iadd hx hb dX12_redo_47 ?_
    refine lv_topi (fun x_12 ex_12 => ?_)
    have fx_12 : x_12.toInt = (u 8).toInt + (1 : Int) := by rw [ex_12]; exact i_add (by first | omega | (show (_ : Int) ≤ (u 8).toInt + (1 : Int); omega)) (by first | omega | (show (u 8).toInt + (1 : Int) ≤ (_ : Int); omega))
    refine pr_doneMany hx hb hg hown hK hP hD hS (hg _ q5_0) dX12_redo_48 (fun H locs hP hD hS => ?_)
    refine lv_aload_n hx hb dX12_redo_51 rfl (lv_at hl 0 rfl) ?_
    refine lv_dup hx hb dX12_redo_52 rfl ?_
    refine gr_undoneMany hx hb hg hown hK hP (x := (u 9)) rfl (hg _ q5_1) dX12_redo_53 ?_
    refine lv_iconst (v := 1) hx hb dX12_redo_56 (by decide) ?_
    refine lv_isub hx hb dX12_redo_57 ?_
    refine lv_topi (fun x_13 ex_13 => ?_)
    have fx_13 : x_13.toInt = (u 9).toInt - (1 : Int) := by rw [ex_13]; exact i_sub (by first | omega | (show (_ : Int) ≤ (u 9).toInt - (1 : Int); omega)) (by first | omega | (show (u 9).toInt - (1 : Int) ≤ (_ : Int); omega))
    refine pr_undoneMany hx hb hg hown hK hP hD hS (hg _ q5_1) dX12_redo_58 (fun H locs hP hD hS => ?_)
    refine lv_aload_n hx hb dX12_redo_61 rfl (lv_at hl 0 rfl) ?_
    refine gr_undoneMany hx hb hg hown hK hP (x := x_13) rfl (hg _ q5_1) dX12_redo_62 ?_
    exact W.iret (v := x_13) hx hb hr (fun tt ht hW => ⟨⟨x_13, ⟨x_12, x_13, o_b2_6, o_b3_7, o_b4_8, o_b5_9, o_b6_10⟩, rfl, ⟨(show 0 ≤ x_12.toInt by first | omega | assumption), (show x_12.toInt ≤ 40 by first | omega | assumption), (show 0 ≤ x_13.toInt by first | omega | assumption), (show x_13.toInt ≤ 40 by first | omega | assumption), (show x_12.toInt + x_13.toInt ≤ 40 by first | omega | assumption)⟩, by rw [ht]; exact hP, hD⟩, hS.F ht⟩) hS.2.2 dX12_redo_65
  ·
    have kc_1 : (u 9).toInt = (0 : Int) := i_eq c_1
    refine lv_bipush (v := (-5)) hx hb dX12_redo_7 (by decide) ?_
    have q0_m5 : ((-5) : Int32).toInt = (-5) := rfl
    have hP : va_P D vwCl (RW cs bd (va_up (va_up u 8 (u 8)) 9 (u 9)) (va_up (va_up (va_up (va_up (va_up b 2 (b 2)) 3 (b 3)) 4 (b 4)) 5 (b 5)) 6 (b 6)) bw) _ := hP
    have hD : va_D A (RW cs bd (va_up (va_up u 8 (u 8)) 9 (u 9)) (va_up (va_up (va_up (va_up (va_up b 2 (b 2)) 3 (b 3)) 4 (b 4)) 5 (b 5)) 6 (b 6)) bw) := hD
    exact W.iret (v := (-5)) hx hb hr (fun tt ht hW => ⟨⟨(-5), ⟨(u 8), (u 9), (b 2), (b 3), (b 4), (b 5), (b 6)⟩, rfl, ⟨(show 0 ≤ (u 8).toInt by first | omega | assumption), (show (u 8).toInt ≤ 40 by first | omega | assumption), (show 0 ≤ (u 9).toInt by first | omega | assumption), (show (u 9).toInt ≤ 40 by first | omega | assumption), (show (u 8).toInt + (u 9).toInt ≤ 40 by first | omega | assumption)⟩, by rw [ht]; exact hP, hD⟩, hS.F ht⟩) hS.2.2 dX12_redo_9
set_option maxHeartbeats 4000000 in
set_option maxRecDepth 100000 in
theorem k_X12_feed (l : Launch) (D : va_G) (cs : Nat → ClassId) (A : Nat → Prop) (bd : Nat → Nat) (u : Nat → Int32) (b : Nat → Nat → Int32) (bw : Nat → Nat → Int64)  (p1 : Int32) (iu15_0 : 0 ≤ (u 15).toInt) (iu15_1 : (u 15).toInt ≤ 120) : Met l yX12_feed (Cond.code yX12_feed cX12_feed 2 (some .int) :: gw) ({ frames := 1, cells := 0, slots := 0, locals := 22 }) (va_Pc [.ref (bd 0), .int p1] (XPre D (TY cs) (RW cs bd u b bw) A)) (va_Qi (fun (r : Int32) (z : Int32 × (Nat → Int32)) => (((0 ≤ p1.toInt ∧ p1.toInt ≤ 255) ∧ (u 15).toInt < 120 ∧ r.toInt = (u 15).toInt + 1 ∧ z.1.toInt = (u 15).toInt + 1) ∨ ((0 ≤ p1.toInt ∧ p1.toInt ≤ 255) ∧ (u 15).toInt = 120 ∧ r.toInt = -3 ∧ z.1.toInt = (u 15).toInt) ∨ (¬ (0 ≤ p1.toInt ∧ p1.toInt ≤ 255) ∧ r.toInt = -1 ∧ z.1.toInt = (u 15).toInt)) ∧ (0 ≤ z.1.toInt) ∧ (z.1.toInt ≤ 120)) (XPo D (fun (z : Int32 × (Nat → Int32)) => RW cs bd (va_up u 15 z.1) (va_up b 14 z.2) bw) A) A) 0 0 A := by
  refine Met.ofW (cc := cX12_feed) (maxL := 2) (ret := (some .int)) (by decide) rfl ?_
  intro p e s m args below meth c s₁ B hml hv
  obtain ⟨rfl, hP, hK, hD, hZ⟩ := hv
  have hx := B.exec
  have hb := B.bytes
  have hr := B.returns
  have hts := atoms_spec (ws := (Cond.code yX12_feed cX12_feed 2 (some .int) :: gw)) B.pre
  have hg : ∀ w ∈ gw, w.before ([.ref (bd 0), .int p1] : List Value).toArray s = true := fun w h => hts w (List.mem_cons_of_mem _ h)
  have hown : s.vm.findClass RX12 = some m.cls := findClass_of_methodNamed B.named
  have hlocks := B.notSynchronized
  have hS : va_S A s.heap s.heap [] := va_S.rf
  have hP : va_P D vwCl (RW cs bd u b bw) s.heap := hP
  have hl := lv_entry ([.ref (bd 0), .int p1]) (n := 2) (Nat.le_of_ble_eq_true rfl)
  rw [lg_entry_eq]
  generalize (lg_sl ([.ref (bd 0), .int p1]) ++ List.replicate (2 - (lg_sl ([.ref (bd 0), .int p1])).length) Slot.unset).toArray = ls at hl ⊢
  have hl : lv_has ls 2 [(0, .ref (bd 0)), (1, .int p1)] := hl
  refine lv_iload_n hx hb dX12_feed_0 rfl (lv_at hl 1 rfl) ?_
  refine lv_iconst (v := 0) hx hb dX12_feed_1 (by decide) ?_
  refine lv_sipush (v := 255) hx hb dX12_feed_2 (by decide) ?_
  refine cS_p (As := [.int p1, .int 0, .int 255]) (rest := []) ⟨hx, hb, hml, hown, hg⟩ (k_X12_in l   p1 0 255 ) ca_X12_in q5_212 ⟨rfl, rfl⟩ ⟨Nat.le_of_ble_eq_true rfl, Nat.le_of_ble_eq_true rfl⟩ rfl hl.1 rfl (Nat.le_of_ble_eq_true rfl) ⟨Nat.zero_le _, Nat.zero_le _⟩ dX12_feed_5 (fun r_1 wr_1 => ?_)
  have wr_1 : (r_1.toInt = 1 ∧ (0 : Int) ≤ p1.toInt ∧ p1.toInt ≤ (255 : Int)) ∨ (r_1.toInt = 0 ∧ ¬ ((0 : Int) ≤ p1.toInt ∧ p1.toInt ≤ (255 : Int))) := wr_1
  refine lv_if_ne (tgt := 13) hx hb dX12_feed_8 (by decide) (fun c_2 => ?_) (fun c_2 => ?_)
  ·
    have kc_2 : r_1.toInt ≠ (0 : Int) := i_ne c_2
    refine lv_aload_n hx hb dX12_feed_13 rfl (lv_at hl 0 rfl) ?_
    refine gr_taped hx hb hg hown hK hP (x := (u 15)) rfl (hg _ q5_7) dX12_feed_14 ?_
    refine lv_bipush (v := 120) hx hb dX12_feed_17 (by decide) ?_
    refine lv_icmp_ne (tgt := 25) hx hb dX12_feed_19 (by decide) (fun c_3 => ?_) (fun c_3 => ?_)
    ·
      have kc_3 : (u 15).toInt ≠ (120 : Int) := i_ne c_3
      refine lv_aload_n hx hb dX12_feed_25 rfl (lv_at hl 0 rfl) ?_
      refine gr_tape hx hb hg hown hK hP (hg _ q5_6) dX12_feed_26 ?_
      refine lv_aload_n hx hb dX12_feed_29 rfl (lv_at hl 0 rfl) ?_
      refine gr_taped hx hb hg hown hK hP (x := (u 15)) rfl (hg _ q5_7) dX12_feed_30 ?_
      refine lv_iload_n hx hb dX12_feed_33 rfl (lv_at hl 1 rfl) ?_
      refine lv_i2b hx hb dX12_feed_34 rfl ?_
      refine lv_topi (fun x_4 ex_4 => ?_)
      refine sr_tape hx hb hK hP hD hS (i_in (by omega) (by omega)) dX12_feed_35 (fun H locs hP hD hS => ?_)
      refine lv_aload_n hx hb dX12_feed_36 rfl (lv_at hl 0 rfl) ?_
      refine lv_dup hx hb dX12_feed_37 rfl ?_
      refine gr_taped hx hb hg hown hK hP (x := (u 15)) rfl (hg _ q5_7) dX12_feed_38 ?_
      refine lv_iconst (v := 1) hx hb dX12_feed_41 (by decide) ?_
      refine lv_iadd hx hb dX12_feed_42 ?_
      refine lv_topi (fun x_5 ex_5 => ?_)
      have fx_5 : x_5.toInt = (u 15).toInt + (1 : Int) := by rw [ex_5]; exact i_add (by first | omega | (show (_ : Int) ≤ (u 15).toInt + (1 : Int); omega)) (by first | omega | (show (u 15).toInt + (1 : Int) ≤ (_ : Int); omega))
      refine pr_taped hx hb hg hown hK hP hD hS (hg _ q5_7) dX12_feed_43 (fun H locs hP hD hS => ?_)
      refine lv_aload_n hx hb dX12_feed_46 rfl (lv_at hl 0 rfl) ?_
      refine gr_taped hx hb hg hown hK hP (x := x_5) rfl (hg _ q5_7) dX12_feed_47 ?_
      exact W.iret (v := x_5) hx hb hr (fun tt ht hW => ⟨⟨x_5, ⟨x_5, (upd (b 14) (u 15).toNatClampNeg (vp_nar .byte x_4))⟩, rfl, ⟨(by first | rfl | omega | trivial | assumption | (dsimp only; first | omega | assumption)), (show 0 ≤ x_5.toInt by first | omega | assumption), (show x_5.toInt ≤ 120 by first | omega | assumption)⟩, by rw [ht]; exact hP, hD⟩, hS.F ht⟩) hS.2.2 dX12_feed_50
    ·
      have kc_3 : (u 15).toInt = (120 : Int) := i_eq c_3
      refine lv_bipush (v := (-3)) hx hb dX12_feed_22 (by decide) ?_
      have q0_m3 : ((-3) : Int32).toInt = (-3) := rfl
      have hP : va_P D vwCl (RW cs bd (va_up u 15 (u 15)) (va_up b 14 (b 14)) bw) _ := hP
      have hD : va_D A (RW cs bd (va_up u 15 (u 15)) (va_up b 14 (b 14)) bw) := hD
      exact W.iret (v := (-3)) hx hb hr (fun tt ht hW => ⟨⟨(-3), ⟨(u 15), (b 14)⟩, rfl, ⟨(by first | rfl | omega | trivial | assumption | (dsimp only; first | omega | assumption)), (show 0 ≤ (u 15).toInt by first | omega | assumption), (show (u 15).toInt ≤ 120 by first | omega | assumption)⟩, by rw [ht]; exact hP, hD⟩, hS.F ht⟩) hS.2.2 dX12_feed_24
  ·
    have kc_2 : r_1.toInt = (0 : Int) := i_eq c_2
    refine lv_iconst (v := (-1)) hx hb dX12_feed_11 (by decide) ?_
    have q0_m1 : ((-1) : Int32).toInt = (-1) := rfl
    have hP : va_P D vwCl (RW cs bd (va_up u 15 (u 15)) (va_up b 14 (b 14)) bw) _ := hP
    have hD : va_D A (RW cs bd (va_up u 15 (u 15)) (va_up b 14 (b 14)) bw) := hD
    exact W.iret (v := (-1)) hx hb hr (fun tt ht hW => ⟨⟨(-1), ⟨(u 15), (b 14)⟩, rfl, ⟨(by first | rfl | omega | trivial | assumption | (dsimp only; first | omega | assumption)), (show 0 ≤ (u 15).toInt by first | omega | assumption), (show (u 15).toInt ≤ 120 by first | omega | assumption)⟩, by rw [ht]; exact hP, hD⟩, hS.F ht⟩) hS.2.2 dX12_feed_12
