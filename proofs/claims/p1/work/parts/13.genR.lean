def FrR (u : Nat → Int32) (b : Nat → Nat → Int32) : Prop := u 1 = 0 ∧ u 7 = -1 ∧ u 8 = 0 ∧ u 9 = 0 ∧ u 15 = 0 ∧ u 27 = 0 ∧ u 54 = 0 ∧ u 62 = 0 ∧ u 64 = 0 ∧ (∀ j, j < 6 → b 66 j = -1) ∧ (∀ j, b 53 j = 0) ∧ b 6 0 = 0 ∧ b 6 1 = 8 ∧ b 6 2 = 8 ∧ b 6 3 = 4
theorem told4 {f : Nat → Int32} (h0 : f 0 = 0) (h1 : f 1 = 8) (h2 : f 2 = 8) (h3 : f 3 = 4) (x : Int32) : (x.toInt = 0 ∧ (f x.toNatClampNeg).toInt = 0) ∨ (x.toInt = 1 ∧ (f x.toNatClampNeg).toInt = 8) ∨ (x.toInt = 2 ∧ (f x.toNatClampNeg).toInt = 8) ∨ (x.toInt = 3 ∧ (f x.toNatClampNeg).toInt = 4) ∨ x.toInt < 0 ∨ 3 < x.toInt := by
  have q : x.toNatClampNeg = x.toInt.toNat := rfl
  rcases (show x.toInt = 0 ∨ x.toInt = 1 ∨ x.toInt = 2 ∨ x.toInt = 3 ∨ x.toInt < 0 ∨ 3 < x.toInt by omega) with k | k | k | k | k | k
  · exact Or.inl ⟨k, by rw [q, k]; show (f 0).toInt = 0; rw [h0]; rfl⟩
  · exact Or.inr (Or.inl ⟨k, by rw [q, k]; show (f 1).toInt = 8; rw [h1]; rfl⟩)
  · exact Or.inr (Or.inr (Or.inl ⟨k, by rw [q, k]; show (f 2).toInt = 8; rw [h2]; rfl⟩))
  · exact Or.inr (Or.inr (Or.inr (Or.inl ⟨k, by rw [q, k]; show (f 3).toInt = 4; rw [h3]; rfl⟩)))
  · exact Or.inr (Or.inr (Or.inr (Or.inr (Or.inl k))))
  · exact Or.inr (Or.inr (Or.inr (Or.inr (Or.inr k))))
set_option maxHeartbeats 4000000 in
set_option maxRecDepth 100000 in
theorem k_X12_in (l : Launch)   (p1 : Int32) (p2 : Int32) (p3 : Int32)  : Met l yX12_in (Cond.code yX12_in cX12_in 3 (some .boolean) :: gw) ({ frames := 0, cells := 0, slots := 0, locals := 0 }) (fun v _ => v = ([.int p1, .int p2, .int p3] : List Value).toArray) (vp_Si (fun (r : Int32) => (r.toInt = 1 ∧ p2.toInt ≤ p1.toInt ∧ p1.toInt ≤ p3.toInt) ∨ (r.toInt = 0 ∧ ¬ (p2.toInt ≤ p1.toInt ∧ p1.toInt ≤ p3.toInt)))) 0 0 (fun _ => False) := by
  refine Met.ofW (cc := cX12_in) (maxL := 3) (ret := (some .boolean)) (by decide) rfl ?_
  intro p e s m args below meth c s₁ B hml hv
  subst hv
  have hx := B.exec
  have hb := B.bytes
  have hr := B.returns
  have hts := atoms_spec (ws := (Cond.code yX12_in cX12_in 3 (some .boolean) :: gw)) B.pre
  have hg : ∀ w ∈ gw, w.before ([.int p1, .int p2, .int p3] : List Value).toArray s = true := fun w h => hts w (List.mem_cons_of_mem _ h)
  have hown : s.vm.findClass RX12 = some m.cls := findClass_of_methodNamed B.named
  have hlocks := B.notSynchronized
  have hl := lv_entry ([.int p1, .int p2, .int p3]) (n := 3) (Nat.le_of_ble_eq_true rfl)
  rw [lg_entry_eq]
  generalize (lg_sl ([.int p1, .int p2, .int p3]) ++ List.replicate (3 - (lg_sl ([.int p1, .int p2, .int p3])).length) Slot.unset).toArray = ls at hl ⊢
  have hl : lv_has ls 3 [(0, .int p1), (1, .int p2), (2, .int p3)] := hl
  refine lv_iload_n hx hb dX12_in_0 rfl (lv_at hl 0 rfl) ?_
  refine lv_iload_n hx hb dX12_in_1 rfl (lv_at hl 1 rfl) ?_
  refine lv_icmp_lt (tgt := 14) hx hb dX12_in_2 (by decide) (fun c_1 => ?_) (fun c_1 => ?_)
  ·
    have kc_1 : p1.toInt < p2.toInt := i_lt c_1
    refine lv_iconst (v := 0) hx hb dX12_in_14 (by decide) ?_
    have q0_0 : (0 : Int32).toInt = 0 := rfl
    exact W.zret (v := 0) hx hb hr rfl (fun tt ht hW => ⟨0, rfl, (by first | rfl | omega | trivial | assumption), ht⟩) (fun _ h => by cases h) dX12_in_15
  ·
    have kc_1 : p2.toInt ≤ p1.toInt := i_nlt c_1
    refine lv_iload_n hx hb dX12_in_5 rfl (lv_at hl 0 rfl) ?_
    refine lv_iload_n hx hb dX12_in_6 rfl (lv_at hl 2 rfl) ?_
    refine lv_icmp_gt (tgt := 14) hx hb dX12_in_7 (by decide) (fun c_2 => ?_) (fun c_2 => ?_)
    ·
      have kc_2 : p3.toInt < p1.toInt := i_lt c_2
      refine lv_iconst (v := 0) hx hb dX12_in_14 (by decide) ?_
      have q0_0 : (0 : Int32).toInt = 0 := rfl
      exact W.zret (v := 0) hx hb hr rfl (fun tt ht hW => ⟨0, rfl, (by first | rfl | omega | trivial | assumption), ht⟩) (fun _ h => by cases h) dX12_in_15
    ·
      have kc_2 : p1.toInt ≤ p3.toInt := i_nlt c_2
      refine lv_iconst (v := 1) hx hb dX12_in_10 (by decide) ?_
      refine lv_goto (tgt := 15) hx hb dX12_in_11 (by decide) ?_
      have q0_1 : (1 : Int32).toInt = 1 := rfl
      exact W.zret (v := 1) hx hb hr rfl (fun tt ht hW => ⟨1, rfl, (by first | rfl | omega | trivial | assumption), ht⟩) (fun _ h => by cases h) dX12_in_15
set_option maxHeartbeats 4000000 in
set_option maxRecDepth 100000 in
theorem k_X12_isCell (l : Launch)   (p1 : Int32)  : Met l yX12_isCell (Cond.code yX12_isCell cX12_isCell 1 (some .boolean) :: gw) ({ frames := 1, cells := 0, slots := 0, locals := 22 }) (fun v _ => v = ([.int p1] : List Value).toArray) (vp_Si (fun (r : Int32) => (r.toInt = 1 ∧ 0 ≤ p1.toInt ∧ p1.toInt < 256) ∨ (r.toInt = 0 ∧ ¬ (0 ≤ p1.toInt ∧ p1.toInt < 256)))) 0 0 (fun _ => False) := by
  refine Met.ofW (cc := cX12_isCell) (maxL := 1) (ret := (some .boolean)) (by decide) rfl ?_
  intro p e s m args below meth c s₁ B hml hv
  subst hv
  have hx := B.exec
  have hb := B.bytes
  have hr := B.returns
  have hts := atoms_spec (ws := (Cond.code yX12_isCell cX12_isCell 1 (some .boolean) :: gw)) B.pre
  have hg : ∀ w ∈ gw, w.before ([.int p1] : List Value).toArray s = true := fun w h => hts w (List.mem_cons_of_mem _ h)
  have hown : s.vm.findClass RX12 = some m.cls := findClass_of_methodNamed B.named
  have hlocks := B.notSynchronized
  have hl := lv_entry ([.int p1]) (n := 1) (Nat.le_of_ble_eq_true rfl)
  rw [lg_entry_eq]
  generalize (lg_sl ([.int p1]) ++ List.replicate (1 - (lg_sl ([.int p1])).length) Slot.unset).toArray = ls at hl ⊢
  have hl : lv_has ls 1 [(0, .int p1)] := hl
  refine lv_iload_n hx hb dX12_isCell_0 rfl (lv_at hl 0 rfl) ?_
  refine lv_iconst (v := 0) hx hb dX12_isCell_1 (by decide) ?_
  refine lv_sipush (v := 255) hx hb dX12_isCell_2 (by decide) ?_
  refine cS_p (As := [.int p1, .int 0, .int 255]) (rest := []) ⟨hx, hb, hml, hown, hg⟩ (k_X12_in l   p1 0 255 ) ca_X12_in q5_212 ⟨rfl, rfl⟩ ⟨Nat.le_of_ble_eq_true rfl, Nat.le_of_ble_eq_true rfl⟩ rfl hl.1 rfl (Nat.le_of_ble_eq_true rfl) ⟨Nat.zero_le _, Nat.zero_le _⟩ dX12_isCell_5 (fun r_1 wr_1 => ?_)
  have wr_1 : (r_1.toInt = 1 ∧ (0 : Int) ≤ p1.toInt ∧ p1.toInt ≤ (255 : Int)) ∨ (r_1.toInt = 0 ∧ ¬ ((0 : Int) ≤ p1.toInt ∧ p1.toInt ≤ (255 : Int))) := wr_1
  exact W.zret (v := r_1) hx hb hr (i_nb (by omega) (by omega)) (fun tt ht hW => ⟨r_1, rfl, (by first | rfl | omega | trivial | assumption), ht⟩) (fun _ h => by cases h) dX12_isCell_8
set_option maxHeartbeats 4000000 in
set_option maxRecDepth 100000 in
theorem k_X12_isShelf (l : Launch)   (p1 : Int32)  : Met l yX12_isShelf (Cond.code yX12_isShelf cX12_isShelf 1 (some .boolean) :: gw) ({ frames := 1, cells := 0, slots := 0, locals := 22 }) (fun v _ => v = ([.int p1] : List Value).toArray) (vp_Si (fun (r : Int32) => (r.toInt = 1 ∧ 0 ≤ p1.toInt ∧ p1.toInt < 6) ∨ (r.toInt = 0 ∧ ¬ (0 ≤ p1.toInt ∧ p1.toInt < 6)))) 0 0 (fun _ => False) := by
  refine Met.ofW (cc := cX12_isShelf) (maxL := 1) (ret := (some .boolean)) (by decide) rfl ?_
  intro p e s m args below meth c s₁ B hml hv
  subst hv
  have hx := B.exec
  have hb := B.bytes
  have hr := B.returns
  have hts := atoms_spec (ws := (Cond.code yX12_isShelf cX12_isShelf 1 (some .boolean) :: gw)) B.pre
  have hg : ∀ w ∈ gw, w.before ([.int p1] : List Value).toArray s = true := fun w h => hts w (List.mem_cons_of_mem _ h)
  have hown : s.vm.findClass RX12 = some m.cls := findClass_of_methodNamed B.named
  have hlocks := B.notSynchronized
  have hl := lv_entry ([.int p1]) (n := 1) (Nat.le_of_ble_eq_true rfl)
  rw [lg_entry_eq]
  generalize (lg_sl ([.int p1]) ++ List.replicate (1 - (lg_sl ([.int p1])).length) Slot.unset).toArray = ls at hl ⊢
  have hl : lv_has ls 1 [(0, .int p1)] := hl
  refine lv_iload_n hx hb dX12_isShelf_0 rfl (lv_at hl 0 rfl) ?_
  refine lv_iconst (v := 0) hx hb dX12_isShelf_1 (by decide) ?_
  refine lv_iconst (v := 5) hx hb dX12_isShelf_2 (by decide) ?_
  refine cS_p (As := [.int p1, .int 0, .int 5]) (rest := []) ⟨hx, hb, hml, hown, hg⟩ (k_X12_in l   p1 0 5 ) ca_X12_in q5_212 ⟨rfl, rfl⟩ ⟨Nat.le_of_ble_eq_true rfl, Nat.le_of_ble_eq_true rfl⟩ rfl hl.1 rfl (Nat.le_of_ble_eq_true rfl) ⟨Nat.zero_le _, Nat.zero_le _⟩ dX12_isShelf_3 (fun r_1 wr_1 => ?_)
  have wr_1 : (r_1.toInt = 1 ∧ (0 : Int) ≤ p1.toInt ∧ p1.toInt ≤ (5 : Int)) ∨ (r_1.toInt = 0 ∧ ¬ ((0 : Int) ≤ p1.toInt ∧ p1.toInt ≤ (5 : Int))) := wr_1
  exact W.zret (v := r_1) hx hb hr (i_nb (by omega) (by omega)) (fun tt ht hW => ⟨r_1, rfl, (by first | rfl | omega | trivial | assumption), ht⟩) (fun _ h => by cases h) dX12_isShelf_6
set_option maxHeartbeats 4000000 in
set_option maxRecDepth 100000 in
theorem k_X12_areMany (l : Launch)   (p1 : Int32)  : Met l yX12_areMany (Cond.code yX12_areMany cX12_areMany 1 (some .boolean) :: gw) ({ frames := 1, cells := 0, slots := 0, locals := 22 }) (fun v _ => v = ([.int p1] : List Value).toArray) (vp_Si (fun (r : Int32) => (r.toInt = 1 ∧ 0 ≤ p1.toInt ∧ p1.toInt ≤ 24) ∨ (r.toInt = 0 ∧ ¬ (0 ≤ p1.toInt ∧ p1.toInt ≤ 24)))) 0 0 (fun _ => False) := by
  refine Met.ofW (cc := cX12_areMany) (maxL := 1) (ret := (some .boolean)) (by decide) rfl ?_
  intro p e s m args below meth c s₁ B hml hv
  subst hv
  have hx := B.exec
  have hb := B.bytes
  have hr := B.returns
  have hts := atoms_spec (ws := (Cond.code yX12_areMany cX12_areMany 1 (some .boolean) :: gw)) B.pre
  have hg : ∀ w ∈ gw, w.before ([.int p1] : List Value).toArray s = true := fun w h => hts w (List.mem_cons_of_mem _ h)
  have hown : s.vm.findClass RX12 = some m.cls := findClass_of_methodNamed B.named
  have hlocks := B.notSynchronized
  have hl := lv_entry ([.int p1]) (n := 1) (Nat.le_of_ble_eq_true rfl)
  rw [lg_entry_eq]
  generalize (lg_sl ([.int p1]) ++ List.replicate (1 - (lg_sl ([.int p1])).length) Slot.unset).toArray = ls at hl ⊢
  have hl : lv_has ls 1 [(0, .int p1)] := hl
  refine lv_iload_n hx hb dX12_areMany_0 rfl (lv_at hl 0 rfl) ?_
  refine lv_iconst (v := 0) hx hb dX12_areMany_1 (by decide) ?_
  refine lv_bipush (v := 24) hx hb dX12_areMany_2 (by decide) ?_
  refine cS_p (As := [.int p1, .int 0, .int 24]) (rest := []) ⟨hx, hb, hml, hown, hg⟩ (k_X12_in l   p1 0 24 ) ca_X12_in q5_212 ⟨rfl, rfl⟩ ⟨Nat.le_of_ble_eq_true rfl, Nat.le_of_ble_eq_true rfl⟩ rfl hl.1 rfl (Nat.le_of_ble_eq_true rfl) ⟨Nat.zero_le _, Nat.zero_le _⟩ dX12_areMany_4 (fun r_1 wr_1 => ?_)
  have wr_1 : (r_1.toInt = 1 ∧ (0 : Int) ≤ p1.toInt ∧ p1.toInt ≤ (24 : Int)) ∨ (r_1.toInt = 0 ∧ ¬ ((0 : Int) ≤ p1.toInt ∧ p1.toInt ≤ (24 : Int))) := wr_1
  exact W.zret (v := r_1) hx hb hr (i_nb (by omega) (by omega)) (fun tt ht hW => ⟨r_1, rfl, (by first | rfl | omega | trivial | assumption), ht⟩) (fun _ h => by cases h) dX12_areMany_7
set_option maxHeartbeats 4000000 in
set_option maxRecDepth 100000 in
theorem k_X12_mayHave (l : Launch)   (p1 : Int32) (p2 : Int32)  : Met l yX12_mayHave (Cond.code yX12_mayHave cX12_mayHave 2 (some .boolean) :: gw) ({ frames := 2, cells := 0, slots := 0, locals := 42 }) (fun v _ => v = ([.int p1, .int p2] : List Value).toArray) (vp_Si (fun (r : Int32) => (r.toInt = 1 ∧ ((p1.toInt = 1 ∧ 0 ≤ p2.toInt ∧ p2.toInt ≤ 12) ∨ (p1.toInt = 2 ∧ 0 ≤ p2.toInt ∧ p2.toInt ≤ 9) ∨ (p1.toInt = 3 ∧ 0 ≤ p2.toInt ∧ p2.toInt ≤ 99) ∨ (p1.toInt = 5 ∧ 1 ≤ p2.toInt ∧ p2.toInt ≤ 20) ∨ (p1.toInt = 6 ∧ 0 ≤ p2.toInt ∧ p2.toInt ≤ 23) ∨ (p1.toInt = 7 ∧ 1 ≤ p2.toInt ∧ p2.toInt ≤ 9) ∨ ((p1.toInt < 1 ∨ p1.toInt = 4 ∨ 7 < p1.toInt) ∧ 0 ≤ p2.toInt ∧ p2.toInt < 256))) ∨ (r.toInt = 0 ∧ ¬ (((p1.toInt = 1 ∧ 0 ≤ p2.toInt ∧ p2.toInt ≤ 12) ∨ (p1.toInt = 2 ∧ 0 ≤ p2.toInt ∧ p2.toInt ≤ 9) ∨ (p1.toInt = 3 ∧ 0 ≤ p2.toInt ∧ p2.toInt ≤ 99) ∨ (p1.toInt = 5 ∧ 1 ≤ p2.toInt ∧ p2.toInt ≤ 20) ∨ (p1.toInt = 6 ∧ 0 ≤ p2.toInt ∧ p2.toInt ≤ 23) ∨ (p1.toInt = 7 ∧ 1 ≤ p2.toInt ∧ p2.toInt ≤ 9) ∨ ((p1.toInt < 1 ∨ p1.toInt = 4 ∨ 7 < p1.toInt) ∧ 0 ≤ p2.toInt ∧ p2.toInt < 256)))))) 0 0 (fun _ => False) := by
  refine Met.ofW (cc := cX12_mayHave) (maxL := 2) (ret := (some .boolean)) (by decide) rfl ?_
  intro p e s m args below meth c s₁ B hml hv
  subst hv
  have hx := B.exec
  have hb := B.bytes
  have hr := B.returns
  have hts := atoms_spec (ws := (Cond.code yX12_mayHave cX12_mayHave 2 (some .boolean) :: gw)) B.pre
  have hg : ∀ w ∈ gw, w.before ([.int p1, .int p2] : List Value).toArray s = true := fun w h => hts w (List.mem_cons_of_mem _ h)
  have hown : s.vm.findClass RX12 = some m.cls := findClass_of_methodNamed B.named
  have hlocks := B.notSynchronized
  have hl := lv_entry ([.int p1, .int p2]) (n := 2) (Nat.le_of_ble_eq_true rfl)
  rw [lg_entry_eq]
  generalize (lg_sl ([.int p1, .int p2]) ++ List.replicate (2 - (lg_sl ([.int p1, .int p2])).length) Slot.unset).toArray = ls at hl ⊢
  have hl : lv_has ls 2 [(0, .int p1), (1, .int p2)] := hl
  refine lv_iload_n hx hb dX12_mayHave_0 rfl (lv_at hl 0 rfl) ?_
  rcases (show p1.toInt = 1 ∨ p1.toInt = 2 ∨ p1.toInt = 3 ∨ p1.toInt = 4 ∨ p1.toInt = 5 ∨ p1.toInt = 6 ∨ p1.toInt = 7 ∨ (p1.toInt < 1 ∨ 7 < p1.toInt) by omega) with kc_1 | kc_1 | kc_1 | kc_1 | kc_1 | kc_1 | kc_1 | kc_1
  ·
    refine lv_tableIn (tgt := 44) hx hb dX12_mayHave_1 (by omega) (by omega) (off := 43) (by rw [kc_1]; rfl) (by decide) ?_
    refine lv_iload_n hx hb dX12_mayHave_44 rfl (lv_at hl 1 rfl) ?_
    refine lv_iconst (v := 0) hx hb dX12_mayHave_45 (by decide) ?_
    refine lv_bipush (v := 12) hx hb dX12_mayHave_46 (by decide) ?_
    refine cS_p (As := [.int p2, .int 0, .int 12]) (rest := []) ⟨hx, hb, hml, hown, hg⟩ (k_X12_in l   p2 0 12 ) ca_X12_in q5_212 ⟨rfl, rfl⟩ ⟨Nat.le_of_ble_eq_true rfl, Nat.le_of_ble_eq_true rfl⟩ rfl hl.1 rfl (Nat.le_of_ble_eq_true rfl) ⟨Nat.zero_le _, Nat.zero_le _⟩ dX12_mayHave_48 (fun r_2 wr_2 => ?_)
    have wr_2 : (r_2.toInt = 1 ∧ (0 : Int) ≤ p2.toInt ∧ p2.toInt ≤ (12 : Int)) ∨ (r_2.toInt = 0 ∧ ¬ ((0 : Int) ≤ p2.toInt ∧ p2.toInt ≤ (12 : Int))) := wr_2
    exact W.zret (v := r_2) hx hb hr (i_nb (by omega) (by omega)) (fun tt ht hW => ⟨r_2, rfl, (by first | rfl | omega | trivial | assumption), ht⟩) (fun _ h => by cases h) dX12_mayHave_51
  ·
    refine lv_tableIn (tgt := 52) hx hb dX12_mayHave_1 (by omega) (by omega) (off := 51) (by rw [kc_1]; rfl) (by decide) ?_
    refine lv_iload_n hx hb dX12_mayHave_52 rfl (lv_at hl 1 rfl) ?_
    refine lv_iconst (v := 0) hx hb dX12_mayHave_53 (by decide) ?_
    refine lv_bipush (v := 9) hx hb dX12_mayHave_54 (by decide) ?_
    refine cS_p (As := [.int p2, .int 0, .int 9]) (rest := []) ⟨hx, hb, hml, hown, hg⟩ (k_X12_in l   p2 0 9 ) ca_X12_in q5_212 ⟨rfl, rfl⟩ ⟨Nat.le_of_ble_eq_true rfl, Nat.le_of_ble_eq_true rfl⟩ rfl hl.1 rfl (Nat.le_of_ble_eq_true rfl) ⟨Nat.zero_le _, Nat.zero_le _⟩ dX12_mayHave_56 (fun r_3 wr_3 => ?_)
    have wr_3 : (r_3.toInt = 1 ∧ (0 : Int) ≤ p2.toInt ∧ p2.toInt ≤ (9 : Int)) ∨ (r_3.toInt = 0 ∧ ¬ ((0 : Int) ≤ p2.toInt ∧ p2.toInt ≤ (9 : Int))) := wr_3
    exact W.zret (v := r_3) hx hb hr (i_nb (by omega) (by omega)) (fun tt ht hW => ⟨r_3, rfl, (by first | rfl | omega | trivial | assumption), ht⟩) (fun _ h => by cases h) dX12_mayHave_59
  ·
    refine lv_tableIn (tgt := 60) hx hb dX12_mayHave_1 (by omega) (by omega) (off := 59) (by rw [kc_1]; rfl) (by decide) ?_
    refine lv_iload_n hx hb dX12_mayHave_60 rfl (lv_at hl 1 rfl) ?_
    refine lv_iconst (v := 0) hx hb dX12_mayHave_61 (by decide) ?_
    refine lv_bipush (v := 99) hx hb dX12_mayHave_62 (by decide) ?_
    refine cS_p (As := [.int p2, .int 0, .int 99]) (rest := []) ⟨hx, hb, hml, hown, hg⟩ (k_X12_in l   p2 0 99 ) ca_X12_in q5_212 ⟨rfl, rfl⟩ ⟨Nat.le_of_ble_eq_true rfl, Nat.le_of_ble_eq_true rfl⟩ rfl hl.1 rfl (Nat.le_of_ble_eq_true rfl) ⟨Nat.zero_le _, Nat.zero_le _⟩ dX12_mayHave_64 (fun r_4 wr_4 => ?_)
    have wr_4 : (r_4.toInt = 1 ∧ (0 : Int) ≤ p2.toInt ∧ p2.toInt ≤ (99 : Int)) ∨ (r_4.toInt = 0 ∧ ¬ ((0 : Int) ≤ p2.toInt ∧ p2.toInt ≤ (99 : Int))) := wr_4
    exact W.zret (v := r_4) hx hb hr (i_nb (by omega) (by omega)) (fun tt ht hW => ⟨r_4, rfl, (by first | rfl | omega | trivial | assumption), ht⟩) (fun _ h => by cases h) dX12_mayHave_67
  ·
    refine lv_tableIn (tgt := 92) hx hb dX12_mayHave_1 (by omega) (by omega) (off := 91) (by rw [kc_1]; rfl) (by decide) ?_
    refine lv_iload_n hx hb dX12_mayHave_92 rfl (lv_at hl 1 rfl) ?_
    refine cS_p (As := [.int p2]) (rest := []) ⟨hx, hb, hml, hown, hg⟩ (k_X12_isCell l   p2 ) ca_X12_isCell q5_209 ⟨rfl, rfl⟩ ⟨Nat.le_of_ble_eq_true rfl, Nat.le_of_ble_eq_true rfl⟩ rfl hl.1 rfl (Nat.le_of_ble_eq_true rfl) ⟨Nat.zero_le _, Nat.zero_le _⟩ dX12_mayHave_93 (fun r_5 wr_5 => ?_)
    have wr_5 : (r_5.toInt = 1 ∧ 0 ≤ p2.toInt ∧ p2.toInt < 256) ∨ (r_5.toInt = 0 ∧ ¬ (0 ≤ p2.toInt ∧ p2.toInt < 256)) := wr_5
    exact W.zret (v := r_5) hx hb hr (i_nb (by omega) (by omega)) (fun tt ht hW => ⟨r_5, rfl, (by first | rfl | omega | trivial | assumption), ht⟩) (fun _ h => by cases h) dX12_mayHave_96
  ·
    refine lv_tableIn (tgt := 68) hx hb dX12_mayHave_1 (by omega) (by omega) (off := 67) (by rw [kc_1]; rfl) (by decide) ?_
    refine lv_iload_n hx hb dX12_mayHave_68 rfl (lv_at hl 1 rfl) ?_
    refine lv_iconst (v := 1) hx hb dX12_mayHave_69 (by decide) ?_
    refine lv_bipush (v := 20) hx hb dX12_mayHave_70 (by decide) ?_
    refine cS_p (As := [.int p2, .int 1, .int 20]) (rest := []) ⟨hx, hb, hml, hown, hg⟩ (k_X12_in l   p2 1 20 ) ca_X12_in q5_212 ⟨rfl, rfl⟩ ⟨Nat.le_of_ble_eq_true rfl, Nat.le_of_ble_eq_true rfl⟩ rfl hl.1 rfl (Nat.le_of_ble_eq_true rfl) ⟨Nat.zero_le _, Nat.zero_le _⟩ dX12_mayHave_72 (fun r_6 wr_6 => ?_)
    have wr_6 : (r_6.toInt = 1 ∧ (1 : Int) ≤ p2.toInt ∧ p2.toInt ≤ (20 : Int)) ∨ (r_6.toInt = 0 ∧ ¬ ((1 : Int) ≤ p2.toInt ∧ p2.toInt ≤ (20 : Int))) := wr_6
    exact W.zret (v := r_6) hx hb hr (i_nb (by omega) (by omega)) (fun tt ht hW => ⟨r_6, rfl, (by first | rfl | omega | trivial | assumption), ht⟩) (fun _ h => by cases h) dX12_mayHave_75
  ·
    refine lv_tableIn (tgt := 76) hx hb dX12_mayHave_1 (by omega) (by omega) (off := 75) (by rw [kc_1]; rfl) (by decide) ?_
    refine lv_iload_n hx hb dX12_mayHave_76 rfl (lv_at hl 1 rfl) ?_
    refine lv_iconst (v := 0) hx hb dX12_mayHave_77 (by decide) ?_
    refine lv_bipush (v := 23) hx hb dX12_mayHave_78 (by decide) ?_
    refine cS_p (As := [.int p2, .int 0, .int 23]) (rest := []) ⟨hx, hb, hml, hown, hg⟩ (k_X12_in l   p2 0 23 ) ca_X12_in q5_212 ⟨rfl, rfl⟩ ⟨Nat.le_of_ble_eq_true rfl, Nat.le_of_ble_eq_true rfl⟩ rfl hl.1 rfl (Nat.le_of_ble_eq_true rfl) ⟨Nat.zero_le _, Nat.zero_le _⟩ dX12_mayHave_80 (fun r_7 wr_7 => ?_)
    have wr_7 : (r_7.toInt = 1 ∧ (0 : Int) ≤ p2.toInt ∧ p2.toInt ≤ (23 : Int)) ∨ (r_7.toInt = 0 ∧ ¬ ((0 : Int) ≤ p2.toInt ∧ p2.toInt ≤ (23 : Int))) := wr_7
    exact W.zret (v := r_7) hx hb hr (i_nb (by omega) (by omega)) (fun tt ht hW => ⟨r_7, rfl, (by first | rfl | omega | trivial | assumption), ht⟩) (fun _ h => by cases h) dX12_mayHave_83
  ·
    refine lv_tableIn (tgt := 84) hx hb dX12_mayHave_1 (by omega) (by omega) (off := 83) (by rw [kc_1]; rfl) (by decide) ?_
    refine lv_iload_n hx hb dX12_mayHave_84 rfl (lv_at hl 1 rfl) ?_
    refine lv_iconst (v := 1) hx hb dX12_mayHave_85 (by decide) ?_
    refine lv_bipush (v := 9) hx hb dX12_mayHave_86 (by decide) ?_
    refine cS_p (As := [.int p2, .int 1, .int 9]) (rest := []) ⟨hx, hb, hml, hown, hg⟩ (k_X12_in l   p2 1 9 ) ca_X12_in q5_212 ⟨rfl, rfl⟩ ⟨Nat.le_of_ble_eq_true rfl, Nat.le_of_ble_eq_true rfl⟩ rfl hl.1 rfl (Nat.le_of_ble_eq_true rfl) ⟨Nat.zero_le _, Nat.zero_le _⟩ dX12_mayHave_88 (fun r_8 wr_8 => ?_)
    have wr_8 : (r_8.toInt = 1 ∧ (1 : Int) ≤ p2.toInt ∧ p2.toInt ≤ (9 : Int)) ∨ (r_8.toInt = 0 ∧ ¬ ((1 : Int) ≤ p2.toInt ∧ p2.toInt ≤ (9 : Int))) := wr_8
    exact W.zret (v := r_8) hx hb hr (i_nb (by omega) (by omega)) (fun tt ht hW => ⟨r_8, rfl, (by first | rfl | omega | trivial | assumption), ht⟩) (fun _ h => by cases h) dX12_mayHave_91
  ·
    refine lv_tableOut (tgt := 92) hx hb dX12_mayHave_1 kc_1 (by decide) ?_
    refine lv_iload_n hx hb dX12_mayHave_92 rfl (lv_at hl 1 rfl) ?_
    refine cS_p (As := [.int p2]) (rest := []) ⟨hx, hb, hml, hown, hg⟩ (k_X12_isCell l   p2 ) ca_X12_isCell q5_209 ⟨rfl, rfl⟩ ⟨Nat.le_of_ble_eq_true rfl, Nat.le_of_ble_eq_true rfl⟩ rfl hl.1 rfl (Nat.le_of_ble_eq_true rfl) ⟨Nat.zero_le _, Nat.zero_le _⟩ dX12_mayHave_93 (fun r_9 wr_9 => ?_)
    have wr_9 : (r_9.toInt = 1 ∧ 0 ≤ p2.toInt ∧ p2.toInt < 256) ∨ (r_9.toInt = 0 ∧ ¬ (0 ≤ p2.toInt ∧ p2.toInt < 256)) := wr_9
    exact W.zret (v := r_9) hx hb hr (i_nb (by omega) (by omega)) (fun tt ht hW => ⟨r_9, rfl, (by first | rfl | omega | trivial | assumption), ht⟩) (fun _ h => by cases h) dX12_mayHave_96
set_option maxHeartbeats 4000000 in
set_option maxRecDepth 100000 in
theorem k_X12_isOne (l : Launch) (D : va_G) (cs : Nat → ClassId) (A : Nat → Prop) (bd : Nat → Nat) (u : Nat → Int32) (b : Nat → Nat → Int32) (bw : Nat → Nat → Int64)  (p1 : Int32) (hp0 : 0 ≤ (u 1).toInt) (hp8 : (u 1).toInt ≤ 8) : Met l yX12_isOne (Cond.code yX12_isOne cX12_isOne 2 (some .boolean) :: gw) ({ frames := 1, cells := 0, slots := 0, locals := 22 }) (va_Pc [.ref (bd 0), .int p1] (XPre D (TY cs) (RW cs bd u b bw) A)) (vp_Si (fun (r : Int32) => (r.toInt = 1 ∧ 0 ≤ p1.toInt ∧ p1.toInt < (u 1).toInt) ∨ (r.toInt = 0 ∧ ¬ (0 ≤ p1.toInt ∧ p1.toInt < (u 1).toInt)))) 0 0 (fun _ => False) := by
  refine Met.ofW (cc := cX12_isOne) (maxL := 2) (ret := (some .boolean)) (by decide) rfl ?_
  intro p e s m args below meth c s₁ B hml hv
  obtain ⟨rfl, hP, hK, hD, hZ⟩ := hv
  have hx := B.exec
  have hb := B.bytes
  have hr := B.returns
  have hts := atoms_spec (ws := (Cond.code yX12_isOne cX12_isOne 2 (some .boolean) :: gw)) B.pre
  have hg : ∀ w ∈ gw, w.before ([.ref (bd 0), .int p1] : List Value).toArray s = true := fun w h => hts w (List.mem_cons_of_mem _ h)
  have hown : s.vm.findClass RX12 = some m.cls := findClass_of_methodNamed B.named
  have hlocks := B.notSynchronized
  have hS : va_S A s.heap s.heap [] := va_S.rf
  have hl := lv_entry ([.ref (bd 0), .int p1]) (n := 2) (Nat.le_of_ble_eq_true rfl)
  rw [lg_entry_eq]
  generalize (lg_sl ([.ref (bd 0), .int p1]) ++ List.replicate (2 - (lg_sl ([.ref (bd 0), .int p1])).length) Slot.unset).toArray = ls at hl ⊢
  have hl : lv_has ls 2 [(0, .ref (bd 0)), (1, .int p1)] := hl
  refine lv_iload_n hx hb dX12_isOne_0 rfl (lv_at hl 1 rfl) ?_
  refine lv_iconst (v := 0) hx hb dX12_isOne_1 (by decide) ?_
  refine lv_aload_n hx hb dX12_isOne_2 rfl (lv_at hl 0 rfl) ?_
  refine gr_people1 hx hb hg hown hK hP (x := (u 1)) rfl (hg _ q4_233) dX12_isOne_3 ?_
  refine lv_iconst (v := 1) hx hb dX12_isOne_6 (by decide) ?_
  refine lv_isub hx hb dX12_isOne_7 ?_
  refine lv_topi (fun x_1 ex_1 => ?_)
  have fx_1 : x_1.toInt = (u 1).toInt - (1 : Int) := by rw [ex_1]; exact i_sub (by first | omega | (show (_ : Int) ≤ (u 1).toInt - (1 : Int); omega)) (by first | omega | (show (u 1).toInt - (1 : Int) ≤ (_ : Int); omega))
  refine cS_p (As := [.int p1, .int 0, .int x_1]) (rest := []) ⟨hx, hb, hml, hown, hg⟩ (k_X12_in l   p1 0 x_1 ) ca_X12_in q5_212 ⟨rfl, rfl⟩ ⟨Nat.le_of_ble_eq_true rfl, Nat.le_of_ble_eq_true rfl⟩ rfl hl.1 rfl (Nat.le_of_ble_eq_true rfl) ⟨Nat.zero_le _, Nat.zero_le _⟩ dX12_isOne_8 (fun r_2 wr_2 => ?_)
  have wr_2 : (r_2.toInt = 1 ∧ (0 : Int) ≤ p1.toInt ∧ p1.toInt ≤ x_1.toInt) ∨ (r_2.toInt = 0 ∧ ¬ ((0 : Int) ≤ p1.toInt ∧ p1.toInt ≤ x_1.toInt)) := wr_2
  exact W.zret (v := r_2) hx hb hr (i_nb (by omega) (by omega)) (fun tt ht hW => ⟨r_2, rfl, (by first | rfl | omega | trivial | assumption), ht⟩) (fun _ h => by cases h) dX12_isOne_11
set_option maxHeartbeats 4000000 in
set_option maxRecDepth 100000 in
theorem k_X12_isPlace (l : Launch) (D : va_G) (cs : Nat → ClassId) (A : Nat → Prop) (bd : Nat → Nat) (u : Nat → Int32) (b : Nat → Nat → Int32) (bw : Nat → Nat → Int64)  (p1 : Int32) (p2 : Int32) (hp0 : 0 ≤ (u 1).toInt) (hp8 : (u 1).toInt ≤ 8) : Met l yX12_isPlace (Cond.code yX12_isPlace cX12_isPlace 3 (some .boolean) :: gw) ({ frames := 2, cells := 0, slots := 0, locals := 43 }) (va_Pc [.ref (bd 0), .int p1, .int p2] (XPre D (TY cs) (RW cs bd u b bw) A)) (vp_Si (fun (r : Int32) => (r.toInt = 1 ∧ ((0 ≤ p2.toInt ∧ p2.toInt ≤ 3 ∧ 0 ≤ p1.toInt ∧ p1.toInt < (u 1).toInt) ∨ (4 ≤ p2.toInt ∧ p2.toInt ≤ 7 ∧ p1.toInt = 0))) ∨ (r.toInt = 0 ∧ ¬ (((0 ≤ p2.toInt ∧ p2.toInt ≤ 3 ∧ 0 ≤ p1.toInt ∧ p1.toInt < (u 1).toInt) ∨ (4 ≤ p2.toInt ∧ p2.toInt ≤ 7 ∧ p1.toInt = 0)))))) 0 0 (fun _ => False) := by
  refine Met.ofW (cc := cX12_isPlace) (maxL := 3) (ret := (some .boolean)) (by decide) rfl ?_
  intro p e s m args below meth c s₁ B hml hv
  obtain ⟨rfl, hP, hK, hD, hZ⟩ := hv
  have hx := B.exec
  have hb := B.bytes
  have hr := B.returns
  have hts := atoms_spec (ws := (Cond.code yX12_isPlace cX12_isPlace 3 (some .boolean) :: gw)) B.pre
  have hg : ∀ w ∈ gw, w.before ([.ref (bd 0), .int p1, .int p2] : List Value).toArray s = true := fun w h => hts w (List.mem_cons_of_mem _ h)
  have hown : s.vm.findClass RX12 = some m.cls := findClass_of_methodNamed B.named
  have hlocks := B.notSynchronized
  have hS : va_S A s.heap s.heap [] := va_S.rf
  have hl := lv_entry ([.ref (bd 0), .int p1, .int p2]) (n := 3) (Nat.le_of_ble_eq_true rfl)
  rw [lg_entry_eq]
  generalize (lg_sl ([.ref (bd 0), .int p1, .int p2]) ++ List.replicate (3 - (lg_sl ([.ref (bd 0), .int p1, .int p2])).length) Slot.unset).toArray = ls at hl ⊢
  have hl : lv_has ls 3 [(0, .ref (bd 0)), (1, .int p1), (2, .int p2)] := hl
  refine lv_iload_n hx hb dX12_isPlace_0 rfl (lv_at hl 2 rfl) ?_
  refine lv_iconst (v := 0) hx hb dX12_isPlace_1 (by decide) ?_
  refine lv_iconst (v := 3) hx hb dX12_isPlace_2 (by decide) ?_
  refine cS_p (As := [.int p2, .int 0, .int 3]) (rest := []) ⟨hx, hb, hml, hown, hg⟩ (k_X12_in l   p2 0 3 ) ca_X12_in q5_212 ⟨rfl, rfl⟩ ⟨Nat.le_of_ble_eq_true rfl, Nat.le_of_ble_eq_true rfl⟩ rfl hl.1 rfl (Nat.le_of_ble_eq_true rfl) ⟨Nat.zero_le _, Nat.zero_le _⟩ dX12_isPlace_3 (fun r_1 wr_1 => ?_)
  have wr_1 : (r_1.toInt = 1 ∧ (0 : Int) ≤ p2.toInt ∧ p2.toInt ≤ (3 : Int)) ∨ (r_1.toInt = 0 ∧ ¬ ((0 : Int) ≤ p2.toInt ∧ p2.toInt ≤ (3 : Int))) := wr_1
  refine lv_if_eq (tgt := 17) hx hb dX12_isPlace_6 (by decide) (fun c_2 => ?_) (fun c_2 => ?_)
  ·
    have kc_2 : r_1.toInt = (0 : Int) := i_eq c_2
    refine lv_iload_n hx hb dX12_isPlace_17 rfl (lv_at hl 2 rfl) ?_
    refine lv_iconst (v := 4) hx hb dX12_isPlace_18 (by decide) ?_
    refine lv_bipush (v := 7) hx hb dX12_isPlace_19 (by decide) ?_
    refine cS_p (As := [.int p2, .int 4, .int 7]) (rest := []) ⟨hx, hb, hml, hown, hg⟩ (k_X12_in l   p2 4 7 ) ca_X12_in q5_212 ⟨rfl, rfl⟩ ⟨Nat.le_of_ble_eq_true rfl, Nat.le_of_ble_eq_true rfl⟩ rfl hl.1 rfl (Nat.le_of_ble_eq_true rfl) ⟨Nat.zero_le _, Nat.zero_le _⟩ dX12_isPlace_21 (fun r_3 wr_3 => ?_)
    have wr_3 : (r_3.toInt = 1 ∧ (4 : Int) ≤ p2.toInt ∧ p2.toInt ≤ (7 : Int)) ∨ (r_3.toInt = 0 ∧ ¬ ((4 : Int) ≤ p2.toInt ∧ p2.toInt ≤ (7 : Int))) := wr_3
    refine lv_if_eq (tgt := 35) hx hb dX12_isPlace_24 (by decide) (fun c_4 => ?_) (fun c_4 => ?_)
    ·
      have kc_4 : r_3.toInt = (0 : Int) := i_eq c_4
      refine lv_iconst (v := 0) hx hb dX12_isPlace_35 (by decide) ?_
      have q0_0 : (0 : Int32).toInt = 0 := rfl
      exact W.zret (v := 0) hx hb hr rfl (fun tt ht hW => ⟨0, rfl, (by first | rfl | omega | trivial | assumption), ht⟩) (fun _ h => by cases h) dX12_isPlace_36
    ·
      have kc_4 : r_3.toInt ≠ (0 : Int) := i_ne c_4
      refine lv_iload_n hx hb dX12_isPlace_27 rfl (lv_at hl 1 rfl) ?_
      refine lv_if_ne (tgt := 35) hx hb dX12_isPlace_28 (by decide) (fun c_5 => ?_) (fun c_5 => ?_)
      ·
        have kc_5 : p1.toInt ≠ (0 : Int) := i_ne c_5
        refine lv_iconst (v := 0) hx hb dX12_isPlace_35 (by decide) ?_
        have q0_0 : (0 : Int32).toInt = 0 := rfl
        exact W.zret (v := 0) hx hb hr rfl (fun tt ht hW => ⟨0, rfl, (by first | rfl | omega | trivial | assumption), ht⟩) (fun _ h => by cases h) dX12_isPlace_36
      ·
        have kc_5 : p1.toInt = (0 : Int) := i_eq c_5
        refine lv_iconst (v := 1) hx hb dX12_isPlace_31 (by decide) ?_
        refine lv_goto (tgt := 36) hx hb dX12_isPlace_32 (by decide) ?_
        have q0_1 : (1 : Int32).toInt = 1 := rfl
        exact W.zret (v := 1) hx hb hr rfl (fun tt ht hW => ⟨1, rfl, (by first | rfl | omega | trivial | assumption), ht⟩) (fun _ h => by cases h) dX12_isPlace_36
  ·
    have kc_2 : r_1.toInt ≠ (0 : Int) := i_ne c_2
    refine lv_aload_n hx hb dX12_isPlace_9 rfl (lv_at hl 0 rfl) ?_
    refine lv_iload_n hx hb dX12_isPlace_10 rfl (lv_at hl 1 rfl) ?_
    refine cV_ro (As := [.int p1]) (rest := []) ⟨hx, hb, hml, hown, hg⟩ (k_X12_isOne l D cs A bd u b bw  p1 (show 0 ≤ (u 1).toInt by first | omega | decide) (show (u 1).toInt ≤ 8 by first | omega | decide)) ca_X12_isOne q6_7 ⟨rfl, rfl⟩ ⟨Nat.le_of_ble_eq_true rfl, Nat.le_of_ble_eq_true rfl⟩ (rc_model hK hP) hK hP hD hS hZ rfl hl.1 rfl (Nat.le_of_ble_eq_true rfl) ⟨Nat.zero_le _, Nat.zero_le _⟩ dX12_isPlace_11 (fun r_6 wr_6 => ?_)
    have wr_6 : (r_6.toInt = 1 ∧ 0 ≤ p1.toInt ∧ p1.toInt < (u 1).toInt) ∨ (r_6.toInt = 0 ∧ ¬ (0 ≤ p1.toInt ∧ p1.toInt < (u 1).toInt)) := wr_6
    refine lv_goto (tgt := 36) hx hb dX12_isPlace_14 (by decide) ?_
    exact W.zret (v := r_6) hx hb hr (i_nb (by omega) (by omega)) (fun tt ht hW => ⟨r_6, rfl, (by first | rfl | omega | trivial | assumption), ht⟩) (fun _ h => by cases h) dX12_isPlace_36
set_option maxHeartbeats 4000000 in
set_option maxRecDepth 100000 in
theorem k_X12_addOne (l : Launch) (D : va_G) (cs : Nat → ClassId) (A : Nat → Prop) (bd : Nat → Nat) (u : Nat → Int32) (b : Nat → Nat → Int32) (bw : Nat → Nat → Int64)  (p1 : Int32) (p2 : Int32) (p3 : Int32) (hp0 : 0 ≤ (u 1).toInt) (hp7 : (u 1).toInt ≤ 7) : Met l yX12_addOne (Cond.code yX12_addOne cX12_addOne 4 (some .int) :: gw) ({ frames := 0, cells := 0, slots := 0, locals := 0 }) (va_Pc [.ref (bd 0), .int p1, .int p2, .int p3] (XPre D (TY cs) (RW cs bd u b bw) A)) (va_Qi (fun (r : Int32) (z : Int32 × (Nat → Int32) × (Nat → Int32) × (Nat → Int32) × (Nat → Int32)) => (r.toInt = (u 1).toInt) ∧ (z.1.toInt = (u 1).toInt + 1)) (XPo D (fun (z : Int32 × (Nat → Int32) × (Nat → Int32) × (Nat → Int32) × (Nat → Int32)) => RW cs bd (va_up u 1 z.1) (va_up (va_up (va_up (va_up b 2 z.2.1) 3 z.2.2.1) 4 z.2.2.2.1) 5 z.2.2.2.2) bw) A) A) 0 0 A := by
  refine Met.ofW (cc := cX12_addOne) (maxL := 4) (ret := (some .int)) (by decide) rfl ?_
  intro p e s m args below meth c s₁ B hml hv
  obtain ⟨rfl, hP, hK, hD, hZ⟩ := hv
  have hx := B.exec
  have hb := B.bytes
  have hr := B.returns
  have hts := atoms_spec (ws := (Cond.code yX12_addOne cX12_addOne 4 (some .int) :: gw)) B.pre
  have hg : ∀ w ∈ gw, w.before ([.ref (bd 0), .int p1, .int p2, .int p3] : List Value).toArray s = true := fun w h => hts w (List.mem_cons_of_mem _ h)
  have hown : s.vm.findClass RX12 = some m.cls := findClass_of_methodNamed B.named
  have hlocks := B.notSynchronized
  have hS : va_S A s.heap s.heap [] := va_S.rf
  have hP : va_P D vwCl (RW cs bd u b bw) s.heap := hP
  have hl := lv_entry ([.ref (bd 0), .int p1, .int p2, .int p3]) (n := 4) (Nat.le_of_ble_eq_true rfl)
  rw [lg_entry_eq]
  generalize (lg_sl ([.ref (bd 0), .int p1, .int p2, .int p3]) ++ List.replicate (4 - (lg_sl ([.ref (bd 0), .int p1, .int p2, .int p3])).length) Slot.unset).toArray = ls at hl ⊢
  have hl : lv_has ls 4 [(0, .ref (bd 0)), (1, .int p1), (2, .int p2), (3, .int p3)] := hl
  refine lv_aload_n hx hb dX12_addOne_0 rfl (lv_at hl 0 rfl) ?_
  refine gr_cellOf hx hb hg hown hK hP (hg _ q4_234) dX12_addOne_1 ?_
  refine lv_aload_n hx hb dX12_addOne_4 rfl (lv_at hl 0 rfl) ?_
  refine gr_people1 hx hb hg hown hK hP (x := (u 1)) rfl (hg _ q4_233) dX12_addOne_5 ?_
  refine lv_iload_n hx hb dX12_addOne_8 rfl (lv_at hl 1 rfl) ?_
  refine sr_cellOf hx hb hK hP hD hS (i_in (by omega) (by omega)) dX12_addOne_9 (fun H locs hP hD hS => ?_)
  refine lv_aload_n hx hb dX12_addOne_10 rfl (lv_at hl 0 rfl) ?_
  refine gr_cheek hx hb hg hown hK hP (hg _ q4_235) dX12_addOne_11 ?_
  refine lv_aload_n hx hb dX12_addOne_14 rfl (lv_at hl 0 rfl) ?_
  refine gr_people1 hx hb hg hown hK hP (x := (u 1)) rfl (hg _ q4_233) dX12_addOne_15 ?_
  refine lv_iload_n hx hb dX12_addOne_18 rfl (lv_at hl 2 rfl) ?_
  refine sr_cheek hx hb hK hP hD hS (i_in (by omega) (by omega)) dX12_addOne_19 (fun H locs hP hD hS => ?_)
  refine lv_aload_n hx hb dX12_addOne_20 rfl (lv_at hl 0 rfl) ?_
  refine gr_pads hx hb hg hown hK hP (hg _ q4_236) dX12_addOne_21 ?_
  refine lv_aload_n hx hb dX12_addOne_24 rfl (lv_at hl 0 rfl) ?_
  refine gr_people1 hx hb hg hown hK hP (x := (u 1)) rfl (hg _ q4_233) dX12_addOne_25 ?_
  refine lv_iload_n hx hb dX12_addOne_28 rfl (lv_at hl 3 rfl) ?_
  refine sr_pads hx hb hK hP hD hS (i_in (by omega) (by omega)) dX12_addOne_29 (fun H locs hP hD hS => ?_)
  refine lv_aload_n hx hb dX12_addOne_30 rfl (lv_at hl 0 rfl) ?_
  refine gr_pay hx hb hg hown hK hP (hg _ q4_237) dX12_addOne_31 ?_
  refine lv_aload_n hx hb dX12_addOne_34 rfl (lv_at hl 0 rfl) ?_
  refine gr_people1 hx hb hg hown hK hP (x := (u 1)) rfl (hg _ q4_233) dX12_addOne_35 ?_
  refine lv_bipush (v := 10) hx hb dX12_addOne_38 (by decide) ?_
  refine sr_pay hx hb hK hP hD hS (i_in (by omega) (by omega)) dX12_addOne_40 (fun H locs hP hD hS => ?_)
  refine lv_aload_n hx hb dX12_addOne_41 rfl (lv_at hl 0 rfl) ?_
  refine lv_dup hx hb dX12_addOne_42 rfl ?_
  refine gr_people1 hx hb hg hown hK hP (x := (u 1)) rfl (hg _ q4_233) dX12_addOne_43 ?_
  refine lv_iconst (v := 1) hx hb dX12_addOne_46 (by decide) ?_
  refine lv_iadd hx hb dX12_addOne_47 ?_
  refine lv_topi (fun x_1 ex_1 => ?_)
  have fx_1 : x_1.toInt = (u 1).toInt + (1 : Int) := by rw [ex_1]; exact i_add (by first | omega | (show (_ : Int) ≤ (u 1).toInt + (1 : Int); omega)) (by first | omega | (show (u 1).toInt + (1 : Int) ≤ (_ : Int); omega))
  refine pr_people1 hx hb hg hown hK hP hD hS (hg _ q4_233) dX12_addOne_48 (fun H locs hP hD hS => ?_)
  refine lv_aload_n hx hb dX12_addOne_51 rfl (lv_at hl 0 rfl) ?_
  refine gr_people1 hx hb hg hown hK hP (x := x_1) rfl (hg _ q4_233) dX12_addOne_52 ?_
  refine lv_iconst (v := 1) hx hb dX12_addOne_55 (by decide) ?_
  refine lv_isub hx hb dX12_addOne_56 ?_
  refine lv_topi (fun x_2 ex_2 => ?_)
  have fx_2 : x_2.toInt = x_1.toInt - (1 : Int) := by rw [ex_2]; exact i_sub (by first | omega | (show (_ : Int) ≤ x_1.toInt - (1 : Int); omega)) (by first | omega | (show x_1.toInt - (1 : Int) ≤ (_ : Int); omega))
  exact W.iret (v := x_2) hx hb hr (fun tt ht hW => ⟨⟨x_2, ⟨x_1, (upd (b 2) (u 1).toNatClampNeg p1), (upd (b 3) (u 1).toNatClampNeg p2), (upd (b 4) (u 1).toNatClampNeg p3), (upd (b 5) (u 1).toNatClampNeg 10)⟩, rfl, ⟨(by first | rfl | omega | trivial | assumption), (by first | rfl | omega | trivial | assumption)⟩, by rw [ht]; exact hP, hD⟩, hS.F ht⟩) hS.2.2 dX12_addOne_57
set_option maxHeartbeats 4000000 in
set_option maxRecDepth 100000 in
theorem k_X12_apart (l : Launch)   (p1 : Int32) (p2 : Int32)  : Met l yX12_apart (Cond.code yX12_apart cX12_apart 2 (some .int) :: gw) ({ frames := 0, cells := 0, slots := 0, locals := 0 }) (fun v _ => v = ([.int p1, .int p2] : List Value).toArray) (vp_Si (fun (r : Int32) => True)) 0 0 (fun _ => False) := by
  refine Met.ofW (cc := cX12_apart) (maxL := 2) (ret := (some .int)) (by decide) rfl ?_
  intro p e s m args below meth c s₁ B hml hv
  subst hv
  have hx := B.exec
  have hb := B.bytes
  have hr := B.returns
  have hts := atoms_spec (ws := (Cond.code yX12_apart cX12_apart 2 (some .int) :: gw)) B.pre
  have hg : ∀ w ∈ gw, w.before ([.int p1, .int p2] : List Value).toArray s = true := fun w h => hts w (List.mem_cons_of_mem _ h)
  have hown : s.vm.findClass RX12 = some m.cls := findClass_of_methodNamed B.named
  have hlocks := B.notSynchronized
  have hl := lv_entry ([.int p1, .int p2]) (n := 2) (Nat.le_of_ble_eq_true rfl)
  rw [lg_entry_eq]
  generalize (lg_sl ([.int p1, .int p2]) ++ List.replicate (2 - (lg_sl ([.int p1, .int p2])).length) Slot.unset).toArray = ls at hl ⊢
  have hl : lv_has ls 2 [(0, .int p1), (1, .int p2)] := hl
  refine lv_iload_n hx hb dX12_apart_0 rfl (lv_at hl 0 rfl) ?_
  refine lv_iload_n hx hb dX12_apart_1 rfl (lv_at hl 1 rfl) ?_
  refine lv_icmp_ge (tgt := 11) hx hb dX12_apart_2 (by decide) (fun c_1 => ?_) (fun c_1 => ?_)
  ·
    have kc_1 : p2.toInt ≤ p1.toInt := i_le c_1
    refine lv_iload_n hx hb dX12_apart_11 rfl (lv_at hl 0 rfl) ?_
    refine lv_iload_n hx hb dX12_apart_12 rfl (lv_at hl 1 rfl) ?_
    refine lv_isub hx hb dX12_apart_13 ?_
    refine lv_topi (fun x_2 ex_2 => ?_)
    exact W.iret (v := x_2) hx hb hr (fun tt ht hW => ⟨x_2, rfl, trivial, ht⟩) (fun _ h => by cases h) dX12_apart_14
  ·
    have kc_1 : p1.toInt < p2.toInt := i_nle c_1
    refine lv_iload_n hx hb dX12_apart_5 rfl (lv_at hl 1 rfl) ?_
    refine lv_iload_n hx hb dX12_apart_6 rfl (lv_at hl 0 rfl) ?_
    refine lv_isub hx hb dX12_apart_7 ?_
    refine lv_topi (fun x_3 ex_3 => ?_)
    refine lv_goto (tgt := 14) hx hb dX12_apart_8 (by decide) ?_
    exact W.iret (v := x_3) hx hb hr (fun tt ht hW => ⟨x_3, rfl, trivial, ht⟩) (fun _ h => by cases h) dX12_apart_14
set_option maxHeartbeats 4000000 in
set_option maxRecDepth 100000 in
theorem k_X12_isBody (l : Launch) (D : va_G) (cs : Nat → ClassId) (A : Nat → Prop) (bd : Nat → Nat) (u : Nat → Int32) (b : Nat → Nat → Int32) (bw : Nat → Nat → Int64)  (p1 : Int32) (hb0 : 0 ≤ (u 62).toInt) (hb50 : (u 62).toInt ≤ 50) : Met l yX12_isBody (Cond.code yX12_isBody cX12_isBody 2 (some .boolean) :: gw) ({ frames := 1, cells := 0, slots := 0, locals := 22 }) (va_Pc [.ref (bd 0), .int p1] (XPre D (TY cs) (RW cs bd u b bw) A)) (vp_Si (fun (r : Int32) => (r.toInt = 1 ∧ 0 ≤ p1.toInt ∧ p1.toInt < (u 62).toInt) ∨ (r.toInt = 0 ∧ ¬ (0 ≤ p1.toInt ∧ p1.toInt < (u 62).toInt)))) 0 0 (fun _ => False) := by
  refine Met.ofW (cc := cX12_isBody) (maxL := 2) (ret := (some .boolean)) (by decide) rfl ?_
  intro p e s m args below meth c s₁ B hml hv
  obtain ⟨rfl, hP, hK, hD, hZ⟩ := hv
  have hx := B.exec
  have hb := B.bytes
  have hr := B.returns
  have hts := atoms_spec (ws := (Cond.code yX12_isBody cX12_isBody 2 (some .boolean) :: gw)) B.pre
  have hg : ∀ w ∈ gw, w.before ([.ref (bd 0), .int p1] : List Value).toArray s = true := fun w h => hts w (List.mem_cons_of_mem _ h)
  have hown : s.vm.findClass RX12 = some m.cls := findClass_of_methodNamed B.named
  have hlocks := B.notSynchronized
  have hS : va_S A s.heap s.heap [] := va_S.rf
  have hl := lv_entry ([.ref (bd 0), .int p1]) (n := 2) (Nat.le_of_ble_eq_true rfl)
  rw [lg_entry_eq]
  generalize (lg_sl ([.ref (bd 0), .int p1]) ++ List.replicate (2 - (lg_sl ([.ref (bd 0), .int p1])).length) Slot.unset).toArray = ls at hl ⊢
  have hl : lv_has ls 2 [(0, .ref (bd 0)), (1, .int p1)] := hl
  refine lv_iload_n hx hb dX12_isBody_0 rfl (lv_at hl 1 rfl) ?_
  refine lv_iconst (v := 0) hx hb dX12_isBody_1 (by decide) ?_
  refine lv_aload_n hx hb dX12_isBody_2 rfl (lv_at hl 0 rfl) ?_
  refine gr_bodies hx hb hg hown hK hP (x := (u 62)) rfl (hg _ q5_54) dX12_isBody_3 ?_
  refine lv_iconst (v := 1) hx hb dX12_isBody_6 (by decide) ?_
  refine lv_isub hx hb dX12_isBody_7 ?_
  refine lv_topi (fun x_1 ex_1 => ?_)
  have fx_1 : x_1.toInt = (u 62).toInt - (1 : Int) := by rw [ex_1]; exact i_sub (by first | omega | (show (_ : Int) ≤ (u 62).toInt - (1 : Int); omega)) (by first | omega | (show (u 62).toInt - (1 : Int) ≤ (_ : Int); omega))
  refine cS_p (As := [.int p1, .int 0, .int x_1]) (rest := []) ⟨hx, hb, hml, hown, hg⟩ (k_X12_in l   p1 0 x_1 ) ca_X12_in q5_212 ⟨rfl, rfl⟩ ⟨Nat.le_of_ble_eq_true rfl, Nat.le_of_ble_eq_true rfl⟩ rfl hl.1 rfl (Nat.le_of_ble_eq_true rfl) ⟨Nat.zero_le _, Nat.zero_le _⟩ dX12_isBody_8 (fun r_2 wr_2 => ?_)
  have wr_2 : (r_2.toInt = 1 ∧ (0 : Int) ≤ p1.toInt ∧ p1.toInt ≤ x_1.toInt) ∨ (r_2.toInt = 0 ∧ ¬ ((0 : Int) ≤ p1.toInt ∧ p1.toInt ≤ x_1.toInt)) := wr_2
  exact W.zret (v := r_2) hx hb hr (i_nb (by omega) (by omega)) (fun tt ht hW => ⟨r_2, rfl, (by first | rfl | omega | trivial | assumption), ht⟩) (fun _ h => by cases h) dX12_isBody_11
