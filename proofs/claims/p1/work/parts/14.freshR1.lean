set_option maxHeartbeats 4000000 in
set_option maxRecDepth 100000 in
theorem k_F_X12_isOne (l : Launch) (D : va_G) (cs : Nat → ClassId) (A : Nat → Prop) (bd : Nat → Nat) (u : Nat → Int32) (b : Nat → Nat → Int32) (bw : Nat → Nat → Int64)  (p1 : Int32) (h1z : u 1 = 0) : Met l yX12_isOne (Cond.code yX12_isOne cX12_isOne 2 (some .boolean) :: gw) ({ frames := 1, cells := 0, slots := 0, locals := 22 }) (va_Pc [.ref (bd 0), .int p1] (XPre D (TY cs) (RW cs bd u b bw) A)) (vp_Si (fun (r : Int32) => r.toInt = 0)) 0 0 (fun _ => False) := by
  refine Met.ofW (cc := cX12_isOne) (maxL := 2) (ret := (some .boolean)) (by decide) rfl ?_
  intro p e s m args below meth c s₁ B hml hv
  obtain ⟨rfl, hP, hK, hD, hZ⟩ := hv
  have hx := B.exec
  have hb := B.bytes
  have hr := B.returns
  have hts := atoms_spec (ws := (Cond.code yX12_isOne cX12_isOne 2 (some .boolean) :: gw)) B.pre
  have hg : ∀ w ∈ gw, w.before ([.ref (bd 0), .int p1] : List Value).toArray s = true := fun w h => hts w (List.mem_cons_of_mem _ h)
  have hown : s.vm.findClass RX12 = some m.cls := findClass_of_methodNamed B.named
  have hlocks := B.notSynchronized
  have hS : va_S A s.heap s.heap [] := va_S.rf
  have hl := lv_entry ([.ref (bd 0), .int p1]) (n := 2) (Nat.le_of_ble_eq_true rfl)
  rw [lg_entry_eq]
  generalize (lg_sl ([.ref (bd 0), .int p1]) ++ List.replicate (2 - (lg_sl ([.ref (bd 0), .int p1])).length) Slot.unset).toArray = ls at hl ⊢
  have hl : lv_has ls 2 [(0, .ref (bd 0)), (1, .int p1)] := hl
  refine lv_iload_n hx hb dX12_isOne_0 rfl (lv_at hl 1 rfl) ?_
  refine lv_iconst (v := 0) hx hb dX12_isOne_1 (by decide) ?_
  refine lv_aload_n hx hb dX12_isOne_2 rfl (lv_at hl 0 rfl) ?_
  refine gr_people1 hx hb hg hown hK hP (x := 0) h1z (hg _ q4_233) dX12_isOne_3 ?_
  refine lv_iconst (v := 1) hx hb dX12_isOne_6 (by decide) ?_
  refine lv_isub hx hb dX12_isOne_7 ?_
  refine lv_topi (fun x_1 ex_1 => ?_)
  have fx_1 : x_1 = (-1) := by rw [ex_1]; rfl
  subst fx_1
  refine cS_p (As := [.int p1, .int 0, .int (-1)]) (rest := []) ⟨hx, hb, hml, hown, hg⟩ (k_X12_in l   p1 0 (-1) ) ca_X12_in q5_212 ⟨rfl, rfl⟩ ⟨Nat.le_of_ble_eq_true rfl, Nat.le_of_ble_eq_true rfl⟩ rfl hl.1 rfl (Nat.le_of_ble_eq_true rfl) ⟨Nat.zero_le _, Nat.zero_le _⟩ dX12_isOne_8 (fun r_2 wr_2 => ?_)
  have wr_2 : (r_2.toInt = 1 ∧ (0 : Int) ≤ p1.toInt ∧ p1.toInt ≤ (-1 : Int)) ∨ (r_2.toInt = 0 ∧ ¬ ((0 : Int) ≤ p1.toInt ∧ p1.toInt ≤ (-1 : Int))) := wr_2
  exact W.zret (v := r_2) hx hb hr (i_nb (by omega) (by omega)) (fun tt ht hW => ⟨r_2, rfl, (by first | rfl | omega | trivial | assumption), ht⟩) (fun _ h => by cases h) dX12_isOne_11
set_option maxHeartbeats 4000000 in
set_option maxRecDepth 100000 in
theorem k_F_X12_isBody (l : Launch) (D : va_G) (cs : Nat → ClassId) (A : Nat → Prop) (bd : Nat → Nat) (u : Nat → Int32) (b : Nat → Nat → Int32) (bw : Nat → Nat → Int64)  (p1 : Int32) (h62 : u 62 = 0) : Met l yX12_isBody (Cond.code yX12_isBody cX12_isBody 2 (some .boolean) :: gw) ({ frames := 1, cells := 0, slots := 0, locals := 22 }) (va_Pc [.ref (bd 0), .int p1] (XPre D (TY cs) (RW cs bd u b bw) A)) (vp_Si (fun (r : Int32) => r.toInt = 0)) 0 0 (fun _ => False) := by
  refine Met.ofW (cc := cX12_isBody) (maxL := 2) (ret := (some .boolean)) (by decide) rfl ?_
  intro p e s m args below meth c s₁ B hml hv
  obtain ⟨rfl, hP, hK, hD, hZ⟩ := hv
  have hx := B.exec
  have hb := B.bytes
  have hr := B.returns
  have hts := atoms_spec (ws := (Cond.code yX12_isBody cX12_isBody 2 (some .boolean) :: gw)) B.pre
  have hg : ∀ w ∈ gw, w.before ([.ref (bd 0), .int p1] : List Value).toArray s = true := fun w h => hts w (List.mem_cons_of_mem _ h)
  have hown : s.vm.findClass RX12 = some m.cls := findClass_of_methodNamed B.named
  have hlocks := B.notSynchronized
  have hS : va_S A s.heap s.heap [] := va_S.rf
  have hl := lv_entry ([.ref (bd 0), .int p1]) (n := 2) (Nat.le_of_ble_eq_true rfl)
  rw [lg_entry_eq]
  generalize (lg_sl ([.ref (bd 0), .int p1]) ++ List.replicate (2 - (lg_sl ([.ref (bd 0), .int p1])).length) Slot.unset).toArray = ls at hl ⊢
  have hl : lv_has ls 2 [(0, .ref (bd 0)), (1, .int p1)] := hl
  refine lv_iload_n hx hb dX12_isBody_0 rfl (lv_at hl 1 rfl) ?_
  refine lv_iconst (v := 0) hx hb dX12_isBody_1 (by decide) ?_
  refine lv_aload_n hx hb dX12_isBody_2 rfl (lv_at hl 0 rfl) ?_
  refine gr_bodies hx hb hg hown hK hP (x := 0) h62 (hg _ q5_54) dX12_isBody_3 ?_
  refine lv_iconst (v := 1) hx hb dX12_isBody_6 (by decide) ?_
  refine lv_isub hx hb dX12_isBody_7 ?_
  refine lv_topi (fun x_1 ex_1 => ?_)
  have fx_1 : x_1 = (-1) := by rw [ex_1]; rfl
  subst fx_1
  refine cS_p (As := [.int p1, .int 0, .int (-1)]) (rest := []) ⟨hx, hb, hml, hown, hg⟩ (k_X12_in l   p1 0 (-1) ) ca_X12_in q5_212 ⟨rfl, rfl⟩ ⟨Nat.le_of_ble_eq_true rfl, Nat.le_of_ble_eq_true rfl⟩ rfl hl.1 rfl (Nat.le_of_ble_eq_true rfl) ⟨Nat.zero_le _, Nat.zero_le _⟩ dX12_isBody_8 (fun r_2 wr_2 => ?_)
  have wr_2 : (r_2.toInt = 1 ∧ (0 : Int) ≤ p1.toInt ∧ p1.toInt ≤ (-1 : Int)) ∨ (r_2.toInt = 0 ∧ ¬ ((0 : Int) ≤ p1.toInt ∧ p1.toInt ≤ (-1 : Int))) := wr_2
  exact W.zret (v := r_2) hx hb hr (i_nb (by omega) (by omega)) (fun tt ht hW => ⟨r_2, rfl, (by first | rfl | omega | trivial | assumption), ht⟩) (fun _ h => by cases h) dX12_isBody_11
set_option maxHeartbeats 4000000 in
set_option maxRecDepth 100000 in
theorem k_F_X12_areTwo (l : Launch) (D : va_G) (cs : Nat → ClassId) (A : Nat → Prop) (bd : Nat → Nat) (u : Nat → Int32) (b : Nat → Nat → Int32) (bw : Nat → Nat → Int64)  (p1 : Int32) (hR : FrR u b) : Met l yX12_areTwo (Cond.code yX12_areTwo cX12_areTwo 2 (some .boolean) :: gw) ({ frames := 2, cells := 0, slots := 0, locals := 43 }) (va_Pc [.ref (bd 0), .int p1] (XPre D (TY cs) (RW cs bd u b bw) A)) (vp_Si (fun (r : Int32) => r.toInt = 0)) 0 0 (fun _ => False) := by
  refine Met.ofW (cc := cX12_areTwo) (maxL := 2) (ret := (some .boolean)) (by decide) rfl ?_
  intro p e s m args below meth c s₁ B hml hv
  obtain ⟨rfl, hP, hK, hD, hZ⟩ := hv
  have hx := B.exec
  have hb := B.bytes
  have hr := B.returns
  have hts := atoms_spec (ws := (Cond.code yX12_areTwo cX12_areTwo 2 (some .boolean) :: gw)) B.pre
  have hg : ∀ w ∈ gw, w.before ([.ref (bd 0), .int p1] : List Value).toArray s = true := fun w h => hts w (List.mem_cons_of_mem _ h)
  have hown : s.vm.findClass RX12 = some m.cls := findClass_of_methodNamed B.named
  have hlocks := B.notSynchronized
  have hS : va_S A s.heap s.heap [] := va_S.rf
  have hu1 : (u 1).toInt = 0 := by rw [hR.1]; rfl
  have q6_0 : (0 : Int32).toInt = 0 := rfl
  have q6_2 : (2 : Int32).toInt = 2 := rfl
  have hl := lv_entry ([.ref (bd 0), .int p1]) (n := 2) (Nat.le_of_ble_eq_true rfl)
  rw [lg_entry_eq]
  generalize (lg_sl ([.ref (bd 0), .int p1]) ++ List.replicate (2 - (lg_sl ([.ref (bd 0), .int p1])).length) Slot.unset).toArray = ls at hl ⊢
  have hl : lv_has ls 2 [(0, .ref (bd 0)), (1, .int p1)] := hl
  refine lv_iload_n hx hb dX12_areTwo_0 rfl (lv_at hl 1 rfl) ?_
  refine lv_if_lt (tgt := 41) hx hb dX12_areTwo_1 (by decide) (fun c_1 => ?_) (fun c_1 => ?_)
  ·
    have kc_1 : p1.toInt < (0 : Int) := i_lt c_1
    refine lv_iconst (v := 0) hx hb dX12_areTwo_41 (by decide) ?_
    have q0_0 : (0 : Int32).toInt = 0 := rfl
    exact W.zret (v := 0) hx hb hr rfl (fun tt ht hW => ⟨0, rfl, (by first | rfl | omega | trivial | assumption), ht⟩) (fun _ h => by cases h) dX12_areTwo_42
  ·
    have kc_1 : (0 : Int) ≤ p1.toInt := i_nlt c_1
    refine lv_aload_n hx hb dX12_areTwo_4 rfl (lv_at hl 0 rfl) ?_
    refine lv_iload_n hx hb dX12_areTwo_5 rfl (lv_at hl 1 rfl) ?_
    refine lv_bipush (v := 10) hx hb dX12_areTwo_6 (by decide) ?_
    refine lv_idiv hx hb dX12_areTwo_8 (by decide) ?_
    refine lv_topi (fun x_2 ex_2 => ?_)
    have fx_2 : x_2.toInt = p1.toInt / (10 : Int) := by rw [ex_2]; exact i_div (by omega) (by first | omega | decide)
    refine cV_ro (As := [.int x_2]) (rest := []) ⟨hx, hb, hml, hown, hg⟩ (k_F_X12_isOne l D cs A bd u b bw  x_2 hR.1) ca_X12_isOne q6_7 ⟨rfl, rfl⟩ ⟨Nat.le_of_ble_eq_true rfl, Nat.le_of_ble_eq_true rfl⟩ (rc_model hK hP) hK hP hD hS hZ rfl hl.1 rfl (Nat.le_of_ble_eq_true rfl) ⟨Nat.zero_le _, Nat.zero_le _⟩ dX12_areTwo_9 (fun r_3 wr_3 => ?_)
    have wr_3 : r_3.toInt = 0 := wr_3
    refine lv_if_eq (tgt := 41) hx hb dX12_areTwo_12 (by decide) (fun c_4 => ?_) (fun c_4 => ?_)
    ·
      have kc_4 : r_3.toInt = (0 : Int) := i_eq c_4
      refine lv_iconst (v := 0) hx hb dX12_areTwo_41 (by decide) ?_
      have q0_0 : (0 : Int32).toInt = 0 := rfl
      exact W.zret (v := 0) hx hb hr rfl (fun tt ht hW => ⟨0, rfl, (by first | rfl | omega | trivial | assumption), ht⟩) (fun _ h => by cases h) dX12_areTwo_42
    ·
      have kc_4 : r_3.toInt ≠ (0 : Int) := i_ne c_4
      exfalso; omega
set_option maxHeartbeats 4000000 in
set_option maxRecDepth 100000 in
theorem k_F_X12_valueAt (l : Launch) (D : va_G) (cs : Nat → ClassId) (A : Nat → Prop) (bd : Nat → Nat) (u : Nat → Int32) (b : Nat → Nat → Int32) (bw : Nat → Nat → Int64)  (p1 : Int32) (p2 : Int32) (hR : FrR u b) (h4 : 4 ≤ p1.toInt) (h7 : p1.toInt ≤ 7) : Met l yX12_valueAt (Cond.code yX12_valueAt cX12_valueAt 3 (some .int) :: gw) ({ frames := 0, cells := 0, slots := 0, locals := 0 }) (va_Pc [.ref (bd 0), .int p1, .int p2] (XPre D (TY cs) (RW cs bd u b bw) A)) (vp_Si (fun (r : Int32) => ((p1.toInt = 4 ∧ r.toInt = 0) ∨ (p1.toInt = 5 ∧ r.toInt = 8) ∨ (p1.toInt = 6 ∧ r.toInt = 8) ∨ (p1.toInt = 7 ∧ r.toInt = 4)))) 0 0 (fun _ => False) := by
  refine Met.ofW (cc := cX12_valueAt) (maxL := 3) (ret := (some .int)) (by decide) rfl ?_
  intro p e s m args below meth c s₁ B hml hv
  obtain ⟨rfl, hP, hK, hD, hZ⟩ := hv
  have hx := B.exec
  have hb := B.bytes
  have hr := B.returns
  have hts := atoms_spec (ws := (Cond.code yX12_valueAt cX12_valueAt 3 (some .int) :: gw)) B.pre
  have hg : ∀ w ∈ gw, w.before ([.ref (bd 0), .int p1, .int p2] : List Value).toArray s = true := fun w h => hts w (List.mem_cons_of_mem _ h)
  have hown : s.vm.findClass RX12 = some m.cls := findClass_of_methodNamed B.named
  have hlocks := B.notSynchronized
  have hS : va_S A s.heap s.heap [] := va_S.rf
  have hu1 : (u 1).toInt = 0 := by rw [hR.1]; rfl
  have q6_0 : (0 : Int32).toInt = 0 := rfl
  have q6_2 : (2 : Int32).toInt = 2 := rfl
  have hl := lv_entry ([.ref (bd 0), .int p1, .int p2]) (n := 3) (Nat.le_of_ble_eq_true rfl)
  rw [lg_entry_eq]
  generalize (lg_sl ([.ref (bd 0), .int p1, .int p2]) ++ List.replicate (3 - (lg_sl ([.ref (bd 0), .int p1, .int p2])).length) Slot.unset).toArray = ls at hl ⊢
  have hl : lv_has ls 3 [(0, .ref (bd 0)), (1, .int p1), (2, .int p2)] := hl
  refine lv_iload_n hx hb dX12_valueAt_0 rfl (lv_at hl 1 rfl) ?_
  have kc_1 : p1.toInt < 0 ∨ 3 < p1.toInt := by omega
  ·
    refine lv_tableOut (tgt := 60) hx hb dX12_valueAt_1 kc_1 (by decide) ?_
    refine lv_aload_n hx hb dX12_valueAt_60 rfl (lv_at hl 0 rfl) ?_
    refine gr_told hx hb hg hown hK hP (hg _ q4_238) dX12_valueAt_61 ?_
    refine lv_iload_n hx hb dX12_valueAt_64 rfl (lv_at hl 1 rfl) ?_
    refine lv_iconst (v := 4) hx hb dX12_valueAt_65 (by decide) ?_
    refine lv_isub hx hb dX12_valueAt_66 ?_
    refine lv_topi (fun x_2 ex_2 => ?_)
    have fx_2 : x_2.toInt = p1.toInt - (4 : Int) := by rw [ex_2]; exact i_sub (by first | omega | (show (_ : Int) ≤ p1.toInt - (4 : Int); omega)) (by first | omega | (show p1.toInt - (4 : Int) ≤ (_ : Int); omega))
    refine lr_told hx hb hK hP (i_in (by omega) (by omega)) dX12_valueAt_67 ?_
    refine lv_topi (fun x_3 ex_3 => ?_)
    have ex_3 : x_3 = (b 6) x_2.toNatClampNeg := ex_3
    have hx_3 : x_3.toInt = ((b 6) x_2.toNatClampNeg).toInt := by rw [ex_3]
    have ftx_3 := told4 hR.2.2.2.2.2.2.2.2.2.2.2.1 hR.2.2.2.2.2.2.2.2.2.2.2.2.1 hR.2.2.2.2.2.2.2.2.2.2.2.2.2.1 hR.2.2.2.2.2.2.2.2.2.2.2.2.2.2 x_2
    rw [← ex_3] at ftx_3
    exact W.iret (v := x_3) hx hb hr (fun tt ht hW => ⟨x_3, rfl, (by first | rfl | omega | trivial | assumption), ht⟩) (fun _ h => by cases h) dX12_valueAt_68
set_option maxHeartbeats 4000000 in
set_option maxRecDepth 100000 in
theorem k_F_X12_lays (l : Launch) (D : va_G) (cs : Nat → ClassId) (A : Nat → Prop) (bd : Nat → Nat) (u : Nat → Int32) (b : Nat → Nat → Int32) (bw : Nat → Nat → Int64)  (p1 : Int32) (p2 : Int32) (p3 : Int32) (h4 : 4 ≤ p1.toInt) (h7 : p1.toInt ≤ 7) : Met l yX12_lays (Cond.code yX12_lays cX12_lays 4 none :: gw) ({ frames := 0, cells := 0, slots := 0, locals := 0 }) (va_Pc [.ref (bd 0), .int p1, .int p2, .int p3] (XPre D (TY cs) (RW cs bd u b bw) A)) (va_Qv (fun (z : Nat → Int32) => True) (XPo D (fun (z : Nat → Int32) => RW cs bd u (va_up b 6 z) bw) A) A) 0 0 A := by
  refine Met.ofW (cc := cX12_lays) (maxL := 4) (ret := none) (by decide) rfl ?_
  intro p e s m args below meth c s₁ B hml hv
  obtain ⟨rfl, hP, hK, hD, hZ⟩ := hv
  have hx := B.exec
  have hb := B.bytes
  have hr := B.returns
  have hts := atoms_spec (ws := (Cond.code yX12_lays cX12_lays 4 none :: gw)) B.pre
  have hg : ∀ w ∈ gw, w.before ([.ref (bd 0), .int p1, .int p2, .int p3] : List Value).toArray s = true := fun w h => hts w (List.mem_cons_of_mem _ h)
  have hown : s.vm.findClass RX12 = some m.cls := findClass_of_methodNamed B.named
  have hlocks := B.notSynchronized
  have hS : va_S A s.heap s.heap [] := va_S.rf
  have hP : va_P D vwCl (RW cs bd u b bw) s.heap := hP
  have hl := lv_entry ([.ref (bd 0), .int p1, .int p2, .int p3]) (n := 4) (Nat.le_of_ble_eq_true rfl)
  rw [lg_entry_eq]
  generalize (lg_sl ([.ref (bd 0), .int p1, .int p2, .int p3]) ++ List.replicate (4 - (lg_sl ([.ref (bd 0), .int p1, .int p2, .int p3])).length) Slot.unset).toArray = ls at hl ⊢
  have hl : lv_has ls 4 [(0, .ref (bd 0)), (1, .int p1), (2, .int p2), (3, .int p3)] := hl
  refine lv_iload_n hx hb dX12_lays_0 rfl (lv_at hl 1 rfl) ?_
  have kc_1 : p1.toInt < 0 ∨ 3 < p1.toInt := by omega
  ·
    refine lv_tableOut (tgt := 72) hx hb dX12_lays_1 kc_1 (by decide) ?_
    refine lv_aload_n hx hb dX12_lays_72 rfl (lv_at hl 0 rfl) ?_
    refine gr_told hx hb hg hown hK hP (hg _ q4_238) dX12_lays_73 ?_
    refine lv_iload_n hx hb dX12_lays_76 rfl (lv_at hl 1 rfl) ?_
    refine lv_iconst (v := 4) hx hb dX12_lays_77 (by decide) ?_
    refine lv_isub hx hb dX12_lays_78 ?_
    refine lv_topi (fun x_2 ex_2 => ?_)
    have fx_2 : x_2.toInt = p1.toInt - (4 : Int) := by rw [ex_2]; exact i_sub (by first | omega | (show (_ : Int) ≤ p1.toInt - (4 : Int); omega)) (by first | omega | (show p1.toInt - (4 : Int) ≤ (_ : Int); omega))
    refine lv_iload_n hx hb dX12_lays_79 rfl (lv_at hl 3 rfl) ?_
    refine sr_told hx hb hK hP hD hS (i_in (by omega) (by omega)) dX12_lays_80 (fun H locs hP hD hS => ?_)
    exact W.vret hx hb hr (fun tt ht hW => ⟨⟨(upd (b 6) x_2.toNatClampNeg p3), rfl, trivial, by rw [ht]; exact hP, hD⟩, hS.F ht⟩) hS.2.2 dX12_lays_81
set_option maxHeartbeats 4000000 in
set_option maxRecDepth 100000 in
theorem k_F_X12_changes (l : Launch) (D : va_G) (cs : Nat → ClassId) (A : Nat → Prop) (bd : Nat → Nat) (u : Nat → Int32) (b : Nat → Nat → Int32) (bw : Nat → Nat → Int64)  (p1 : Int32) (p2 : Int32) (p3 : Int32) (hR : FrR u b) (h4 : 4 ≤ p1.toInt) (h7 : p1.toInt ≤ 7) : Met l yX12_changes (Cond.code yX12_changes cX12_changes 6 (some .int) :: gw) ({ frames := 1, cells := 0, slots := 0, locals := 23 }) (va_Pc [.ref (bd 0), .int p1, .int p2, .int p3] (XPre D (TY cs) (RW cs bd u b bw) A)) (va_Qi (fun (r : Int32) (z : Int32 × Int32 × (Nat → Int32) × (Nat → Int32) × (Nat → Int32) × (Nat → Int32) × (Nat → Int32)) => ((p1.toInt = 4 ∧ r.toInt = 0) ∨ (p1.toInt = 5 ∧ r.toInt = 8) ∨ (p1.toInt = 6 ∧ r.toInt = 8) ∨ (p1.toInt = 7 ∧ r.toInt = 4))) (XPo D (fun (z : Int32 × Int32 × (Nat → Int32) × (Nat → Int32) × (Nat → Int32) × (Nat → Int32) × (Nat → Int32)) => RW cs bd (va_up (va_up u 8 z.1) 9 z.2.1) (va_up (va_up (va_up (va_up (va_up b 6 z.2.2.1) 10 z.2.2.2.1) 11 z.2.2.2.2.1) 12 z.2.2.2.2.2.1) 13 z.2.2.2.2.2.2) bw) A) A) 0 0 A := by
  refine Met.ofW (cc := cX12_changes) (maxL := 6) (ret := (some .int)) (by decide) rfl ?_
  intro p e s m args below meth c s₁ B hml hv
  obtain ⟨rfl, hP, hK, hD, hZ⟩ := hv
  have hx := B.exec
  have hb := B.bytes
  have hr := B.returns
  have hts := atoms_spec (ws := (Cond.code yX12_changes cX12_changes 6 (some .int) :: gw)) B.pre
  have hg : ∀ w ∈ gw, w.before ([.ref (bd 0), .int p1, .int p2, .int p3] : List Value).toArray s = true := fun w h => hts w (List.mem_cons_of_mem _ h)
  have hown : s.vm.findClass RX12 = some m.cls := findClass_of_methodNamed B.named
  have hlocks := B.notSynchronized
  have hS : va_S A s.heap s.heap [] := va_S.rf
  have hP : va_P D vwCl (RW cs bd u b bw) s.heap := hP
  have hu1 : (u 1).toInt = 0 := by rw [hR.1]; rfl
  have q6_0 : (0 : Int32).toInt = 0 := rfl
  have q6_2 : (2 : Int32).toInt = 2 := rfl
  have hl := lv_entry ([.ref (bd 0), .int p1, .int p2, .int p3]) (n := 6) (Nat.le_of_ble_eq_true rfl)
  rw [lg_entry_eq]
  generalize (lg_sl ([.ref (bd 0), .int p1, .int p2, .int p3]) ++ List.replicate (6 - (lg_sl ([.ref (bd 0), .int p1, .int p2, .int p3])).length) Slot.unset).toArray = ls at hl ⊢
  have hl : lv_has ls 6 [(0, .ref (bd 0)), (1, .int p1), (2, .int p2), (3, .int p3)] := hl
  refine lv_aload_n hx hb dX12_changes_0 rfl (lv_at hl 0 rfl) ?_
  refine lv_iload_n hx hb dX12_changes_1 rfl (lv_at hl 1 rfl) ?_
  refine lv_iload_n hx hb dX12_changes_2 rfl (lv_at hl 2 rfl) ?_
  refine cV_ro (As := [.int p1, .int p2]) (rest := []) ⟨hx, hb, hml, hown, hg⟩ (k_F_X12_valueAt l D cs A bd u b bw  p1 p2 hR (show 4 ≤ p1.toInt by first | omega | decide) (show p1.toInt ≤ 7 by first | omega | decide)) ca_X12_valueAt q6_18 ⟨rfl, rfl⟩ ⟨Nat.le_of_ble_eq_true rfl, Nat.le_of_ble_eq_true rfl⟩ (rc_model hK hP) hK hP hD hS hZ rfl hl.1 rfl (Nat.le_of_ble_eq_true rfl) ⟨Nat.zero_le _, Nat.zero_le _⟩ dX12_changes_3 (fun r_1 wr_1 => ?_)
  have wr_1 : ((p1.toInt = 4 ∧ r_1.toInt = 0) ∨ (p1.toInt = 5 ∧ r_1.toInt = 8) ∨ (p1.toInt = 6 ∧ r_1.toInt = 8) ∨ (p1.toInt = 7 ∧ r_1.toInt = 4)) := wr_1
  refine lv_istore (lv' := [(4, .int r_1), (0, .ref (bd 0)), (1, .int p1), (2, .int p2), (3, .int p3)]) hx hb dX12_changes_6 hl (by decide) rfl (fun ls hl => ?_)
  refine lv_iload hx hb dX12_changes_8 (lv_at hl 0 rfl) ?_
  refine lv_iload_n hx hb dX12_changes_10 rfl (lv_at hl 4 rfl) ?_
  refine lv_icmp_ne (tgt := 17) hx hb dX12_changes_11 (by decide) (fun c_2 => ?_) (fun c_2 => ?_)
  ·
    have kc_2 : r_1.toInt ≠ p3.toInt := i_ne c_2
    refine lv_aload_n hx hb dX12_changes_17 rfl (lv_at hl 1 rfl) ?_
    refine lv_iconst (v := 0) hx hb dX12_changes_18 (by decide) ?_
    refine pr_undoneMany hx hb hg hown hK hP hD hS (hg _ q5_1) dX12_changes_19 (fun H locs hP hD hS => ?_)
    refine lv_aload_n hx hb dX12_changes_22 rfl (lv_at hl 1 rfl) ?_
    refine gr_doneMany hx hb hg hown hK hP (x := 0) hR.2.2.1 (hg _ q5_0) dX12_changes_23 ?_
    refine lv_bipush (v := 40) hx hb dX12_changes_26 (by decide) ?_
    refine lv_icmp_ne (tgt := 121) hx hb dX12_changes_28 (by decide) (fun c_3 => ?_) (fun c_3 => absurd c_3 (by decide))
    refine lv_aload_n hx hb dX12_changes_121 rfl (lv_at hl 1 rfl) ?_
    refine gr_changeOf hx hb hg hown hK hP (hg _ q5_2) dX12_changes_122 ?_
    refine lv_aload_n hx hb dX12_changes_125 rfl (lv_at hl 1 rfl) ?_
    refine gr_doneMany hx hb hg hown hK hP (x := 0) hR.2.2.1 (hg _ q5_0) dX12_changes_126 ?_
    refine lv_iload_n hx hb dX12_changes_129 rfl (lv_at hl 2 rfl) ?_
    refine sr_changeOf hx hb hK hP hD hS (i_in (by decide) (by decide)) dX12_changes_130 (fun H locs hP hD hS => ?_)
    refine lv_aload_n hx hb dX12_changes_131 rfl (lv_at hl 1 rfl) ?_
    refine gr_changeAt hx hb hg hown hK hP (hg _ q5_3) dX12_changes_132 ?_
    refine lv_aload_n hx hb dX12_changes_135 rfl (lv_at hl 1 rfl) ?_
    refine gr_doneMany hx hb hg hown hK hP (x := 0) hR.2.2.1 (hg _ q5_0) dX12_changes_136 ?_
    refine lv_iload_n hx hb dX12_changes_139 rfl (lv_at hl 3 rfl) ?_
    refine sr_changeAt hx hb hK hP hD hS (i_in (by decide) (by decide)) dX12_changes_140 (fun H locs hP hD hS => ?_)
    refine lv_aload_n hx hb dX12_changes_141 rfl (lv_at hl 1 rfl) ?_
    refine gr_before hx hb hg hown hK hP (hg _ q5_4) dX12_changes_142 ?_
    refine lv_aload_n hx hb dX12_changes_145 rfl (lv_at hl 1 rfl) ?_
    refine gr_doneMany hx hb hg hown hK hP (x := 0) hR.2.2.1 (hg _ q5_0) dX12_changes_146 ?_
    refine lv_iload hx hb dX12_changes_149 (lv_at hl 0 rfl) ?_
    refine sr_before hx hb hK hP hD hS (i_in (by decide) (by decide)) dX12_changes_151 (fun H locs hP hD hS => ?_)
    refine lv_aload_n hx hb dX12_changes_152 rfl (lv_at hl 1 rfl) ?_
    refine gr_behind hx hb hg hown hK hP (hg _ q5_5) dX12_changes_153 ?_
    refine lv_aload_n hx hb dX12_changes_156 rfl (lv_at hl 1 rfl) ?_
    refine gr_doneMany hx hb hg hown hK hP (x := 0) hR.2.2.1 (hg _ q5_0) dX12_changes_157 ?_
    refine lv_iload_n hx hb dX12_changes_160 rfl (lv_at hl 4 rfl) ?_
    refine sr_behind hx hb hK hP hD hS (i_in (by decide) (by decide)) dX12_changes_161 (fun H locs hP hD hS => ?_)
    refine lv_aload_n hx hb dX12_changes_162 rfl (lv_at hl 1 rfl) ?_
    refine lv_dup hx hb dX12_changes_163 rfl ?_
    refine gr_doneMany hx hb hg hown hK hP (x := 0) hR.2.2.1 (hg _ q5_0) dX12_changes_164 ?_
    refine lv_iconst (v := 1) hx hb dX12_changes_167 (by decide) ?_
    refine lv_iadd hx hb dX12_changes_168 ?_
    refine lv_topi (fun x_4 ex_4 => ?_)
    have fx_4 : x_4 = 1 := by rw [ex_4]; rfl
    subst fx_4
    refine pr_doneMany hx hb hg hown hK hP hD hS (hg _ q5_0) dX12_changes_169 (fun H locs hP hD hS => ?_)
    refine lv_aload_n hx hb dX12_changes_172 rfl (lv_at hl 1 rfl) ?_
    refine lv_iload_n hx hb dX12_changes_173 rfl (lv_at hl 2 rfl) ?_
    refine lv_iload_n hx hb dX12_changes_174 rfl (lv_at hl 3 rfl) ?_
    refine lv_iload_n hx hb dX12_changes_175 rfl (lv_at hl 4 rfl) ?_
    refine cV_v (As := [.int p1, .int p2, .int p3]) (rest := []) ⟨hx, hb, hml, hown, hg⟩ (k_F_X12_lays l D cs A bd (va_up (va_up u 9 0) 8 1) (va_up (va_up (va_up (va_up b 10 (upd (b 10) (0 : Int32).toNatClampNeg p1)) 11 (upd (b 11) (0 : Int32).toNatClampNeg p2)) 12 (upd (b 12) (0 : Int32).toNatClampNeg r_1)) 13 (upd (b 13) (0 : Int32).toNatClampNeg p3)) bw  p1 p2 p3 (show 4 ≤ p1.toInt by first | omega | decide) (show p1.toInt ≤ 7 by first | omega | decide)) ca_X12_lays q5_231 ⟨rfl, rfl⟩ ⟨Nat.le_of_ble_eq_true rfl, Nat.le_of_ble_eq_true rfl⟩ (rc_model hK hP) hK hP hD hS hZ rfl hl.1 rfl (Nat.le_of_ble_eq_true rfl) ⟨Nat.zero_le _, Nat.zero_le _⟩ dX12_changes_176 (fun gt_6 H locs wr_5 hP hD hS => ?_)
    have hP : va_P D vwCl (RW cs bd (va_up (va_up u 9 0) 8 1) (va_up (va_up (va_up (va_up (va_up b 10 (upd (b 10) (0 : Int32).toNatClampNeg p1)) 11 (upd (b 11) (0 : Int32).toNatClampNeg p2)) 12 (upd (b 12) (0 : Int32).toNatClampNeg r_1)) 13 (upd (b 13) (0 : Int32).toNatClampNeg p3)) 6 gt_6) bw) H := hP
    have hD : va_D A (RW cs bd (va_up (va_up u 9 0) 8 1) (va_up (va_up (va_up (va_up (va_up b 10 (upd (b 10) (0 : Int32).toNatClampNeg p1)) 11 (upd (b 11) (0 : Int32).toNatClampNeg p2)) 12 (upd (b 12) (0 : Int32).toNatClampNeg r_1)) 13 (upd (b 13) (0 : Int32).toNatClampNeg p3)) 6 gt_6) bw) := hD
    refine lv_iload hx hb dX12_changes_179 (lv_at hl 0 rfl) ?_
    have q0_1 : (1 : Int32).toInt = 1 := rfl
    have q0_0 : (0 : Int32).toInt = 0 := rfl
    have hP : va_P D vwCl (RW cs bd (va_up (va_up u 8 1) 9 0) (va_up (va_up (va_up (va_up (va_up b 6 gt_6) 10 (upd (b 10) (0 : Int32).toNatClampNeg p1)) 11 (upd (b 11) (0 : Int32).toNatClampNeg p2)) 12 (upd (b 12) (0 : Int32).toNatClampNeg r_1)) 13 (upd (b 13) (0 : Int32).toNatClampNeg p3)) bw) _ := hP
    have hD : va_D A (RW cs bd (va_up (va_up u 8 1) 9 0) (va_up (va_up (va_up (va_up (va_up b 6 gt_6) 10 (upd (b 10) (0 : Int32).toNatClampNeg p1)) 11 (upd (b 11) (0 : Int32).toNatClampNeg p2)) 12 (upd (b 12) (0 : Int32).toNatClampNeg r_1)) 13 (upd (b 13) (0 : Int32).toNatClampNeg p3)) bw) := hD
    exact W.iret (v := r_1) hx hb hr (fun tt ht hW => ⟨⟨r_1, ⟨1, 0, gt_6, (upd (b 10) (0 : Int32).toNatClampNeg p1), (upd (b 11) (0 : Int32).toNatClampNeg p2), (upd (b 12) (0 : Int32).toNatClampNeg r_1), (upd (b 13) (0 : Int32).toNatClampNeg p3)⟩, rfl, (by first | rfl | omega | trivial | assumption), by rw [ht]; exact hP, hD⟩, hS.F ht⟩) hS.2.2 dX12_changes_181
  ·
    have kc_2 : r_1.toInt = p3.toInt := i_eq c_2
    refine lv_iload hx hb dX12_changes_14 (lv_at hl 0 rfl) ?_
    have hP : va_P D vwCl (RW cs bd (va_up (va_up u 8 (u 8)) 9 (u 9)) (va_up (va_up (va_up (va_up (va_up b 6 (b 6)) 10 (b 10)) 11 (b 11)) 12 (b 12)) 13 (b 13)) bw) _ := hP
    have hD : va_D A (RW cs bd (va_up (va_up u 8 (u 8)) 9 (u 9)) (va_up (va_up (va_up (va_up (va_up b 6 (b 6)) 10 (b 10)) 11 (b 11)) 12 (b 12)) 13 (b 13)) bw) := hD
    exact W.iret (v := r_1) hx hb hr (fun tt ht hW => ⟨⟨r_1, ⟨(u 8), (u 9), (b 6), (b 10), (b 11), (b 12), (b 13)⟩, rfl, (by first | rfl | omega | trivial | assumption), by rw [ht]; exact hP, hD⟩, hS.F ht⟩) hS.2.2 dX12_changes_16
set_option maxHeartbeats 4000000 in
set_option maxRecDepth 100000 in
theorem k_F_X12_look (l : Launch) (D : va_G) (cs : Nat → ClassId) (A : Nat → Prop) (bd : Nat → Nat) (u : Nat → Int32) (b : Nat → Nat → Int32) (bw : Nat → Nat → Int64)   (h15 : u 15 = 0) (h16 : u 16 = 0) : Met l yX12_look (Cond.code yX12_look cX12_look 1 (some .int) :: gw) ({ frames := 0, cells := 0, slots := 0, locals := 0 }) (va_Pc [.ref (bd 0)] (XPre D (TY cs) (RW cs bd u b bw) A)) (vp_Si (fun (r : Int32) => r.toInt = -1)) 0 0 (fun _ => False) := by
  refine Met.ofW (cc := cX12_look) (maxL := 1) (ret := (some .int)) (by decide) rfl ?_
  intro p e s m args below meth c s₁ B hml hv
  obtain ⟨rfl, hP, hK, hD, hZ⟩ := hv
  have hx := B.exec
  have hb := B.bytes
  have hr := B.returns
  have hts := atoms_spec (ws := (Cond.code yX12_look cX12_look 1 (some .int) :: gw)) B.pre
  have hg : ∀ w ∈ gw, w.before ([.ref (bd 0)] : List Value).toArray s = true := fun w h => hts w (List.mem_cons_of_mem _ h)
  have hown : s.vm.findClass RX12 = some m.cls := findClass_of_methodNamed B.named
  have hlocks := B.notSynchronized
  have hS : va_S A s.heap s.heap [] := va_S.rf
  have hl := lv_entry ([.ref (bd 0)]) (n := 1) (Nat.le_of_ble_eq_true rfl)
  rw [lg_entry_eq]
  generalize (lg_sl ([.ref (bd 0)]) ++ List.replicate (1 - (lg_sl ([.ref (bd 0)])).length) Slot.unset).toArray = ls at hl ⊢
  have hl : lv_has ls 1 [(0, .ref (bd 0))] := hl
  refine lv_aload_n hx hb dX12_look_0 rfl (lv_at hl 0 rfl) ?_
  refine gr_here hx hb hg hown hK hP (x := 0) h16 (hg _ q5_8) dX12_look_1 ?_
  refine lv_aload_n hx hb dX12_look_4 rfl (lv_at hl 0 rfl) ?_
  refine gr_taped hx hb hg hown hK hP (x := 0) h15 (hg _ q5_7) dX12_look_5 ?_
  refine lv_icmp_ge (tgt := 23) hx hb dX12_look_8 (by decide) (fun c_1 => ?_) (fun c_1 => absurd c_1 (by decide))
  refine lv_iconst (v := (-1)) hx hb dX12_look_23 (by decide) ?_
  have q0_m1 : ((-1) : Int32).toInt = (-1) := rfl
  exact W.iret (v := (-1)) hx hb hr (fun tt ht hW => ⟨(-1), rfl, (by first | rfl | omega | trivial | assumption), ht⟩) (fun _ h => by cases h) dX12_look_24
set_option maxHeartbeats 4000000 in
set_option maxRecDepth 100000 in
theorem k_F_X12_wrong (l : Launch) (D : va_G) (cs : Nat → ClassId) (A : Nat → Prop) (bd : Nat → Nat) (u : Nat → Int32) (b : Nat → Nat → Int32) (bw : Nat → Nat → Int64)   (h15 : u 15 = 0) (h16 : u 16 = 0) (h17 : u 17 = -1) : Met l yX12_wrong (Cond.code yX12_wrong cX12_wrong 1 none :: gw) ({ frames := 0, cells := 0, slots := 0, locals := 0 }) (va_Pc [.ref (bd 0)] (XPre D (TY cs) (RW cs bd u b bw) A)) (va_Qv (fun (z : Int32) => (z.toInt = 0)) (XPo D (fun (z : Int32) => RW cs bd (va_up u 17 z) b bw) A) A) 0 0 A := by
  refine Met.ofW (cc := cX12_wrong) (maxL := 1) (ret := none) (by decide) rfl ?_
  intro p e s m args below meth c s₁ B hml hv
  obtain ⟨rfl, hP, hK, hD, hZ⟩ := hv
  have hx := B.exec
  have hb := B.bytes
  have hr := B.returns
  have hts := atoms_spec (ws := (Cond.code yX12_wrong cX12_wrong 1 none :: gw)) B.pre
  have hg : ∀ w ∈ gw, w.before ([.ref (bd 0)] : List Value).toArray s = true := fun w h => hts w (List.mem_cons_of_mem _ h)
  have hown : s.vm.findClass RX12 = some m.cls := findClass_of_methodNamed B.named
  have hlocks := B.notSynchronized
  have hS : va_S A s.heap s.heap [] := va_S.rf
  have hP : va_P D vwCl (RW cs bd u b bw) s.heap := hP
  have hl := lv_entry ([.ref (bd 0)]) (n := 1) (Nat.le_of_ble_eq_true rfl)
  rw [lg_entry_eq]
  generalize (lg_sl ([.ref (bd 0)]) ++ List.replicate (1 - (lg_sl ([.ref (bd 0)])).length) Slot.unset).toArray = ls at hl ⊢
  have hl : lv_has ls 1 [(0, .ref (bd 0))] := hl
  refine lv_aload_n hx hb dX12_wrong_0 rfl (lv_at hl 0 rfl) ?_
  refine gr_fault hx hb hg hown hK hP (x := -1) h17 (hg _ q5_9) dX12_wrong_1 ?_
  refine lv_if_ge (tgt := 15) hx hb dX12_wrong_4 (by decide) (fun c_1 => absurd c_1 (by decide)) (fun c_1 => ?_)
  refine lv_aload_n hx hb dX12_wrong_7 rfl (lv_at hl 0 rfl) ?_
  refine lv_aload_n hx hb dX12_wrong_8 rfl (lv_at hl 0 rfl) ?_
  refine gr_here hx hb hg hown hK hP (x := 0) h16 (hg _ q5_8) dX12_wrong_9 ?_
  refine pr_fault hx hb hg hown hK hP hD hS (hg _ q5_9) dX12_wrong_12 (fun H locs hP hD hS => ?_)
  have q0_0 : (0 : Int32).toInt = 0 := rfl
  exact W.vret hx hb hr (fun tt ht hW => ⟨⟨0, rfl, (by first | rfl | omega | trivial | assumption), by rw [ht]; exact hP, hD⟩, hS.F ht⟩) hS.2.2 dX12_wrong_15
set_option maxHeartbeats 4000000 in
set_option maxRecDepth 100000 in
theorem k_F_X12_addStep (l : Launch) (D : va_G) (cs : Nat → ClassId) (A : Nat → Prop) (bd : Nat → Nat) (u : Nat → Int32) (b : Nat → Nat → Int32) (bw : Nat → Nat → Int64)  (p1 : Int32) (p2 : Int32) (h15 : u 15 = 0) (h16 : u 16 = 0) (h19 : u 19 = 0) : Met l yX12_addStep (Cond.code yX12_addStep cX12_addStep 3 none :: gw) ({ frames := 0, cells := 0, slots := 0, locals := 0 }) (va_Pc [.ref (bd 0), .int p1, .int p2] (XPre D (TY cs) (RW cs bd u b bw) A)) (va_Qv (fun (z : Int32 × (Nat → Int32) × (Nat → Int32)) => (z.1.toInt = 1)) (XPo D (fun (z : Int32 × (Nat → Int32) × (Nat → Int32)) => RW cs bd (va_up u 19 z.1) (va_up (va_up b 20 z.2.1) 21 z.2.2) bw) A) A) 0 0 A := by
  refine Met.ofW (cc := cX12_addStep) (maxL := 3) (ret := none) (by decide) rfl ?_
  intro p e s m args below meth c s₁ B hml hv
  obtain ⟨rfl, hP, hK, hD, hZ⟩ := hv
  have hx := B.exec
  have hb := B.bytes
  have hr := B.returns
  have hts := atoms_spec (ws := (Cond.code yX12_addStep cX12_addStep 3 none :: gw)) B.pre
  have hg : ∀ w ∈ gw, w.before ([.ref (bd 0), .int p1, .int p2] : List Value).toArray s = true := fun w h => hts w (List.mem_cons_of_mem _ h)
  have hown : s.vm.findClass RX12 = some m.cls := findClass_of_methodNamed B.named
  have hlocks := B.notSynchronized
  have hS : va_S A s.heap s.heap [] := va_S.rf
  have hP : va_P D vwCl (RW cs bd u b bw) s.heap := hP
  have hl := lv_entry ([.ref (bd 0), .int p1, .int p2]) (n := 3) (Nat.le_of_ble_eq_true rfl)
  rw [lg_entry_eq]
  generalize (lg_sl ([.ref (bd 0), .int p1, .int p2]) ++ List.replicate (3 - (lg_sl ([.ref (bd 0), .int p1, .int p2])).length) Slot.unset).toArray = ls at hl ⊢
  have hl : lv_has ls 3 [(0, .ref (bd 0)), (1, .int p1), (2, .int p2)] := hl
  refine lv_aload_n hx hb dX12_addStep_0 rfl (lv_at hl 0 rfl) ?_
  refine gr_act hx hb hg hown hK hP (hg _ q5_12) dX12_addStep_1 ?_
  refine lv_sipush (v := 130) hx hb dX12_addStep_4 (by decide) ?_
  refine lv_aload_n hx hb dX12_addStep_7 rfl (lv_at hl 0 rfl) ?_
  refine gr_laid hx hb hg hown hK hP (x := 0) h19 (hg _ q5_11) dX12_addStep_8 ?_
  refine lv_iadd hx hb dX12_addStep_11 ?_
  refine lv_topi (fun x_1 ex_1 => ?_)
  have fx_1 : x_1.toInt = (130 : Int) := by rw [ex_1]; rfl
  refine lv_iload_n hx hb dX12_addStep_12 rfl (lv_at hl 1 rfl) ?_
  refine lv_i2b hx hb dX12_addStep_13 rfl ?_
  refine lv_topi (fun x_2 ex_2 => ?_)
  refine sr_act hx hb hK hP hD hS (i_in (by omega) (by omega)) dX12_addStep_14 (fun H locs hP hD hS => ?_)
  refine lv_aload_n hx hb dX12_addStep_15 rfl (lv_at hl 0 rfl) ?_
  refine gr_with hx hb hg hown hK hP (hg _ q5_13) dX12_addStep_16 ?_
  refine lv_sipush (v := 130) hx hb dX12_addStep_19 (by decide) ?_
  refine lv_aload_n hx hb dX12_addStep_22 rfl (lv_at hl 0 rfl) ?_
  refine gr_laid hx hb hg hown hK hP (x := 0) h19 (hg _ q5_11) dX12_addStep_23 ?_
  refine lv_iadd hx hb dX12_addStep_26 ?_
  refine lv_topi (fun x_3 ex_3 => ?_)
  have fx_3 : x_3.toInt = (130 : Int) := by rw [ex_3]; rfl
  refine lv_iload_n hx hb dX12_addStep_27 rfl (lv_at hl 2 rfl) ?_
  refine sr_with hx hb hK hP hD hS (i_in (by omega) (by omega)) dX12_addStep_28 (fun H locs hP hD hS => ?_)
  refine lv_aload_n hx hb dX12_addStep_29 rfl (lv_at hl 0 rfl) ?_
  refine lv_dup hx hb dX12_addStep_30 rfl ?_
  refine gr_laid hx hb hg hown hK hP (x := 0) h19 (hg _ q5_11) dX12_addStep_31 ?_
  refine lv_iconst (v := 1) hx hb dX12_addStep_34 (by decide) ?_
  refine lv_iadd hx hb dX12_addStep_35 ?_
  refine lv_topi (fun x_4 ex_4 => ?_)
  have fx_4 : x_4 = 1 := by rw [ex_4]; rfl
  subst fx_4
  refine pr_laid hx hb hg hown hK hP hD hS (hg _ q5_11) dX12_addStep_36 (fun H locs hP hD hS => ?_)
  have q0_1 : (1 : Int32).toInt = 1 := rfl
  exact W.vret hx hb hr (fun tt ht hW => ⟨⟨⟨1, (upd (b 20) x_1.toNatClampNeg (vp_nar .byte x_2)), (upd (b 21) x_3.toNatClampNeg p2)⟩, rfl, (by first | rfl | omega | trivial | assumption), by rw [ht]; exact hP, hD⟩, hS.F ht⟩) hS.2.2 dX12_addStep_39
set_option maxHeartbeats 4000000 in
set_option maxRecDepth 100000 in
theorem k_F_X12_nameOf (l : Launch)   (p1 : Int32) (h1 : p1.toInt = -1) : Met l yX12_nameOf (Cond.code yX12_nameOf cX12_nameOf 1 (some .int) :: gw) ({ frames := 0, cells := 0, slots := 0, locals := 0 }) (fun v _ => v = ([.int p1] : List Value).toArray) (vp_Si (fun (r : Int32) => r.toInt = -1)) 0 0 (fun _ => False) := by
  refine Met.ofW (cc := cX12_nameOf) (maxL := 1) (ret := (some .int)) (by decide) rfl ?_
  intro p e s m args below meth c s₁ B hml hv
  subst hv
  have hx := B.exec
  have hb := B.bytes
  have hr := B.returns
  have hts := atoms_spec (ws := (Cond.code yX12_nameOf cX12_nameOf 1 (some .int) :: gw)) B.pre
  have hg : ∀ w ∈ gw, w.before ([.int p1] : List Value).toArray s = true := fun w h => hts w (List.mem_cons_of_mem _ h)
  have hown : s.vm.findClass RX12 = some m.cls := findClass_of_methodNamed B.named
  have hlocks := B.notSynchronized
  have hl := lv_entry ([.int p1]) (n := 1) (Nat.le_of_ble_eq_true rfl)
  rw [lg_entry_eq]
  generalize (lg_sl ([.int p1]) ++ List.replicate (1 - (lg_sl ([.int p1])).length) Slot.unset).toArray = ls at hl ⊢
  have hl : lv_has ls 1 [(0, .int p1)] := hl
  refine lv_iload_n hx hb dX12_nameOf_0 rfl (lv_at hl 0 rfl) ?_
  have kc_1 : p1.toInt < 99 ∨ 110 < p1.toInt := by omega
  ·
    refine lv_tableOut (tgt := 76) hx hb dX12_nameOf_1 kc_1 (by decide) ?_
    refine lv_iconst (v := (-1)) hx hb dX12_nameOf_76 (by decide) ?_
    have q0_m1 : ((-1) : Int32).toInt = (-1) := rfl
    exact W.iret (v := (-1)) hx hb hr (fun tt ht hW => ⟨(-1), rfl, (by first | rfl | omega | trivial | assumption), ht⟩) (fun _ h => by cases h) dX12_nameOf_77
set_option maxHeartbeats 4000000 in
set_option maxRecDepth 100000 in
theorem k_F_X12_in (l : Launch)   (p1 : Int32) (p2 : Int32) (p3 : Int32) (h1 : p1.toInt < p2.toInt) : Met l yX12_in (Cond.code yX12_in cX12_in 3 (some .boolean) :: gw) ({ frames := 0, cells := 0, slots := 0, locals := 0 }) (fun v _ => v = ([.int p1, .int p2, .int p3] : List Value).toArray) (vp_Si (fun (r : Int32) => r.toInt = 0)) 0 0 (fun _ => False) := by
  refine Met.ofW (cc := cX12_in) (maxL := 3) (ret := (some .boolean)) (by decide) rfl ?_
  intro p e s m args below meth c s₁ B hml hv
  subst hv
  have hx := B.exec
  have hb := B.bytes
  have hr := B.returns
  have hts := atoms_spec (ws := (Cond.code yX12_in cX12_in 3 (some .boolean) :: gw)) B.pre
  have hg : ∀ w ∈ gw, w.before ([.int p1, .int p2, .int p3] : List Value).toArray s = true := fun w h => hts w (List.mem_cons_of_mem _ h)
  have hown : s.vm.findClass RX12 = some m.cls := findClass_of_methodNamed B.named
  have hlocks := B.notSynchronized
  have hl := lv_entry ([.int p1, .int p2, .int p3]) (n := 3) (Nat.le_of_ble_eq_true rfl)
  rw [lg_entry_eq]
  generalize (lg_sl ([.int p1, .int p2, .int p3]) ++ List.replicate (3 - (lg_sl ([.int p1, .int p2, .int p3])).length) Slot.unset).toArray = ls at hl ⊢
  have hl : lv_has ls 3 [(0, .int p1), (1, .int p2), (2, .int p3)] := hl
  refine lv_iload_n hx hb dX12_in_0 rfl (lv_at hl 0 rfl) ?_
  refine lv_iload_n hx hb dX12_in_1 rfl (lv_at hl 1 rfl) ?_
  refine lv_icmp_lt (tgt := 14) hx hb dX12_in_2 (by decide) (fun c_1 => ?_) (fun c_1 => ?_)
  ·
    have kc_1 : p1.toInt < p2.toInt := i_lt c_1
    refine lv_iconst (v := 0) hx hb dX12_in_14 (by decide) ?_
    have q0_0 : (0 : Int32).toInt = 0 := rfl
    exact W.zret (v := 0) hx hb hr rfl (fun tt ht hW => ⟨0, rfl, (by first | rfl | omega | trivial | assumption), ht⟩) (fun _ h => by cases h) dX12_in_15
  ·
    have kc_1 : p2.toInt ≤ p1.toInt := i_nlt c_1
    refine lv_iload_n hx hb dX12_in_5 rfl (lv_at hl 0 rfl) ?_
    refine lv_iload_n hx hb dX12_in_6 rfl (lv_at hl 2 rfl) ?_
    refine lv_icmp_gt (tgt := 14) hx hb dX12_in_7 (by decide) (fun c_2 => ?_) (fun c_2 => ?_)
    ·
      have kc_2 : p3.toInt < p1.toInt := i_lt c_2
      refine lv_iconst (v := 0) hx hb dX12_in_14 (by decide) ?_
      have q0_0 : (0 : Int32).toInt = 0 := rfl
      exact W.zret (v := 0) hx hb hr rfl (fun tt ht hW => ⟨0, rfl, (by first | rfl | omega | trivial | assumption), ht⟩) (fun _ h => by cases h) dX12_in_15
    ·
      have kc_2 : p1.toInt ≤ p3.toInt := i_nlt c_2
      refine lv_iconst (v := 1) hx hb dX12_in_10 (by decide) ?_
      refine lv_goto (tgt := 15) hx hb dX12_in_11 (by decide) ?_
      have q0_1 : (1 : Int32).toInt = 1 := rfl
      exact W.zret (v := 1) hx hb hr rfl (fun tt ht hW => ⟨1, rfl, (by first | rfl | omega | trivial | assumption), ht⟩) (fun _ h => by cases h) dX12_in_15
set_option maxHeartbeats 4000000 in
set_option maxRecDepth 100000 in
theorem k_F_X12_figure (l : Launch) (D : va_G) (cs : Nat → ClassId) (A : Nat → Prop) (bd : Nat → Nat) (u : Nat → Int32) (b : Nat → Nat → Int32) (bw : Nat → Nat → Int64)   (h15 : u 15 = 0) (h16 : u 16 = 0) (h17 : u 17 = -1) (h18 : u 18 = 0) (h19 : u 19 = 0) : Met l yX12_figure (Cond.code yX12_figure cX12_figure 3 none :: gw) ({ frames := 1, cells := 0, slots := 0, locals := 22 }) (va_Pc [.ref (bd 0)] (XPre D (TY cs) (RW cs bd u b bw) A)) (va_Qv (fun (z : Int32 × Int32 × (Nat → Int32) × (Nat → Int32)) => (z.1.toInt = 0) ∧ (z.2.1.toInt = 1)) (XPo D (fun (z : Int32 × Int32 × (Nat → Int32) × (Nat → Int32)) => RW cs bd (va_up (va_up u 17 z.1) 19 z.2.1) (va_up (va_up b 20 z.2.2.1) 21 z.2.2.2) bw) A) A) 0 0 A := by
  refine Met.ofW (cc := cX12_figure) (maxL := 3) (ret := none) (by decide) rfl ?_
  intro p e s m args below meth c s₁ B hml hv
  obtain ⟨rfl, hP, hK, hD, hZ⟩ := hv
  have hx := B.exec
  have hb := B.bytes
  have hr := B.returns
  have hts := atoms_spec (ws := (Cond.code yX12_figure cX12_figure 3 none :: gw)) B.pre
  have hg : ∀ w ∈ gw, w.before ([.ref (bd 0)] : List Value).toArray s = true := fun w h => hts w (List.mem_cons_of_mem _ h)
  have hown : s.vm.findClass RX12 = some m.cls := findClass_of_methodNamed B.named
  have hlocks := B.notSynchronized
  have hS : va_S A s.heap s.heap [] := va_S.rf
  have hP : va_P D vwCl (RW cs bd u b bw) s.heap := hP
  have hl := lv_entry ([.ref (bd 0)]) (n := 3) (Nat.le_of_ble_eq_true rfl)
  rw [lg_entry_eq]
  generalize (lg_sl ([.ref (bd 0)]) ++ List.replicate (3 - (lg_sl ([.ref (bd 0)])).length) Slot.unset).toArray = ls at hl ⊢
  have hl : lv_has ls 3 [(0, .ref (bd 0))] := hl
  refine lv_iconst (v := 0) hx hb dX12_figure_0 (by decide) ?_
  refine lv_istore_n (lv' := [(1, .int 0), (0, .ref (bd 0))]) hx hb dX12_figure_1 rfl hl (by decide) rfl (fun ls hl => ?_)
  refine lv_iconst (v := 0) hx hb dX12_figure_2 (by decide) ?_
  refine lv_istore_n (lv' := [(2, .int 0), (1, .int 0), (0, .ref (bd 0))]) hx hb dX12_figure_3 rfl hl (by decide) rfl (fun ls hl => ?_)
  refine lv_iload_n hx hb dX12_figure_4 rfl (lv_at hl 0 rfl) ?_
  refine lv_iconst (v := 4) hx hb dX12_figure_5 (by decide) ?_
  refine lv_icmp_ge (tgt := 52) hx hb dX12_figure_6 (by decide) (fun c_1 => absurd c_1 (by decide)) (fun c_1 => ?_)
  refine lv_aload_n hx hb dX12_figure_9 rfl (lv_at hl 2 rfl) ?_
  refine cV_ro (As := []) (rest := []) ⟨hx, hb, hml, hown, hg⟩ (k_F_X12_look l D cs A bd u b bw   h15 h16) ca_X12_look q6_66 ⟨rfl, rfl⟩ ⟨Nat.le_of_ble_eq_true rfl, Nat.le_of_ble_eq_true rfl⟩ (rc_model hK hP) hK hP hD hS hZ rfl hl.1 rfl (Nat.le_of_ble_eq_true rfl) ⟨Nat.zero_le _, Nat.zero_le _⟩ dX12_figure_10 (fun r_2 wr_2 => ?_)
  have wr_2 : r_2.toInt = -1 := wr_2
  refine lv_bipush (v := 48) hx hb dX12_figure_13 (by decide) ?_
  refine lv_bipush (v := 57) hx hb dX12_figure_15 (by decide) ?_
  refine cS_p (As := [.int r_2, .int 48, .int 57]) (rest := []) ⟨hx, hb, hml, hown, hg⟩ (k_F_X12_in l   r_2 48 57 (show r_2.toInt < (48 : Int) by first | omega | decide)) ca_X12_in q5_212 ⟨rfl, rfl⟩ ⟨Nat.le_of_ble_eq_true rfl, Nat.le_of_ble_eq_true rfl⟩ rfl hl.1 rfl (Nat.le_of_ble_eq_true rfl) ⟨Nat.zero_le _, Nat.zero_le _⟩ dX12_figure_17 (fun r_3 wr_3 => ?_)
  have wr_3 : r_3.toInt = 0 := wr_3
  refine lv_if_eq (tgt := 52) hx hb dX12_figure_20 (by decide) (fun c_4 => ?_) (fun c_4 => ?_)
  ·
    have kc_4 : r_3.toInt = (0 : Int) := i_eq c_4
    refine lv_iload_n hx hb dX12_figure_52 rfl (lv_at hl 0 rfl) ?_
    refine lv_if_eq (tgt := 70) hx hb dX12_figure_53 (by decide) (fun c_5 => ?_) (fun c_5 => absurd c_5 (by decide))
    refine lv_aload_n hx hb dX12_figure_70 rfl (lv_at hl 2 rfl) ?_
    refine cV_v (As := []) (rest := []) ⟨hx, hb, hml, hown, hg⟩ (k_F_X12_wrong l D cs A bd u b bw   h15 h16 h17) ca_X12_wrong q6_81 ⟨rfl, rfl⟩ ⟨Nat.le_of_ble_eq_true rfl, Nat.le_of_ble_eq_true rfl⟩ (rc_model hK hP) hK hP hD hS hZ rfl hl.1 rfl (Nat.le_of_ble_eq_true rfl) ⟨Nat.zero_le _, Nat.zero_le _⟩ dX12_figure_71 (fun fl_7 H locs wr_6 hP hD hS => ?_)
    have hP : va_P D vwCl (RW cs bd (va_up u 17 fl_7) b bw) H := hP
    have hD : va_D A (RW cs bd (va_up u 17 fl_7) b bw) := hD
    have wr_6_0 : fl_7.toInt = 0 := wr_6
    refine lv_aload_n hx hb dX12_figure_74 rfl (lv_at hl 2 rfl) ?_
    refine lv_iconst (v := 1) hx hb dX12_figure_75 (by decide) ?_
    refine lv_iload_n hx hb dX12_figure_76 rfl (lv_at hl 1 rfl) ?_
    refine cV_v (As := [.int 1, .int 0]) (rest := []) ⟨hx, hb, hml, hown, hg⟩ (k_F_X12_addStep l D cs A bd (va_up u 17 fl_7) b bw  1 0 h15 h16 h19) ca_X12_addStep q6_73 ⟨rfl, rfl⟩ ⟨Nat.le_of_ble_eq_true rfl, Nat.le_of_ble_eq_true rfl⟩ (rc_model hK hP) hK hP hD hS hZ rfl hl.1 rfl (Nat.le_of_ble_eq_true rfl) ⟨Nat.zero_le _, Nat.zero_le _⟩ dX12_figure_77 (fun z_12 H locs wr_8 hP hD hS => ?_)
    obtain ⟨ld_9, g20_10, g21_11⟩ := z_12
    have hP : va_P D vwCl (RW cs bd (va_up (va_up u 17 fl_7) 19 ld_9) (va_up (va_up b 20 g20_10) 21 g21_11) bw) H := hP
    have hD : va_D A (RW cs bd (va_up (va_up u 17 fl_7) 19 ld_9) (va_up (va_up b 20 g20_10) 21 g21_11) bw) := hD
    have wr_8_0 : ld_9.toInt = 1 := wr_8
    exact W.vret hx hb hr (fun tt ht hW => ⟨⟨⟨fl_7, ld_9, g20_10, g21_11⟩, rfl, ⟨(by first | rfl | omega | trivial | assumption), (by first | rfl | omega | trivial | assumption)⟩, by rw [ht]; exact hP, hD⟩, hS.F ht⟩) hS.2.2 dX12_figure_80
  ·
    have kc_4 : r_3.toInt ≠ (0 : Int) := i_ne c_4
    exfalso; omega
set_option maxHeartbeats 4000000 in
set_option maxRecDepth 100000 in
theorem k_F_X12_operand (l : Launch) (D : va_G) (cs : Nat → ClassId) (A : Nat → Prop) (bd : Nat → Nat) (u : Nat → Int32) (b : Nat → Nat → Int32) (bw : Nat → Nat → Int64)   (h15 : u 15 = 0) (h16 : u 16 = 0) (h17 : u 17 = -1) (h18 : u 18 = 0) (h19 : u 19 = 0) : Met l yX12_operand (Cond.code yX12_operand cX12_operand 2 none :: gw) ({ frames := 2, cells := 0, slots := 0, locals := 44 }) (va_Pc [.ref (bd 0)] (XPre D (TY cs) (RW cs bd u b bw) A)) (va_Qv (fun (z : Int32 × Int32 × (Nat → Int32) × (Nat → Int32)) => (z.1.toInt = 0) ∧ (z.2.1.toInt = 1)) (XPo D (fun (z : Int32 × Int32 × (Nat → Int32) × (Nat → Int32)) => RW cs bd (va_up (va_up u 17 z.1) 19 z.2.1) (va_up (va_up b 20 z.2.2.1) 21 z.2.2.2) bw) A) A) 0 0 A := by
  refine Met.ofW (cc := cX12_operand) (maxL := 2) (ret := none) (by decide) rfl ?_
  intro p e s m args below meth c s₁ B hml hv
  obtain ⟨rfl, hP, hK, hD, hZ⟩ := hv
  have hx := B.exec
  have hb := B.bytes
  have hr := B.returns
  have hts := atoms_spec (ws := (Cond.code yX12_operand cX12_operand 2 none :: gw)) B.pre
  have hg : ∀ w ∈ gw, w.before ([.ref (bd 0)] : List Value).toArray s = true := fun w h => hts w (List.mem_cons_of_mem _ h)
  have hown : s.vm.findClass RX12 = some m.cls := findClass_of_methodNamed B.named
  have hlocks := B.notSynchronized
  have hS : va_S A s.heap s.heap [] := va_S.rf
  have hP : va_P D vwCl (RW cs bd u b bw) s.heap := hP
  have hl := lv_entry ([.ref (bd 0)]) (n := 2) (Nat.le_of_ble_eq_true rfl)
  rw [lg_entry_eq]
  generalize (lg_sl ([.ref (bd 0)]) ++ List.replicate (2 - (lg_sl ([.ref (bd 0)])).length) Slot.unset).toArray = ls at hl ⊢
  have hl : lv_has ls 2 [(0, .ref (bd 0))] := hl
  refine lv_aload_n hx hb dX12_operand_0 rfl (lv_at hl 0 rfl) ?_
  refine cV_ro (As := []) (rest := []) ⟨hx, hb, hml, hown, hg⟩ (k_F_X12_look l D cs A bd u b bw   h15 h16) ca_X12_look q6_66 ⟨rfl, rfl⟩ ⟨Nat.le_of_ble_eq_true rfl, Nat.le_of_ble_eq_true rfl⟩ (rc_model hK hP) hK hP hD hS hZ rfl hl.1 rfl (Nat.le_of_ble_eq_true rfl) ⟨Nat.zero_le _, Nat.zero_le _⟩ dX12_operand_1 (fun r_1 wr_1 => ?_)
  have wr_1 : r_1.toInt = -1 := wr_1
  refine lv_istore_n (lv' := [(1, .int r_1), (0, .ref (bd 0))]) hx hb dX12_operand_4 rfl hl (by decide) rfl (fun ls hl => ?_)
  refine lv_iload_n hx hb dX12_operand_5 rfl (lv_at hl 0 rfl) ?_
  refine cS_p (As := [.int r_1]) (rest := []) ⟨hx, hb, hml, hown, hg⟩ (k_F_X12_nameOf l   r_1 (show r_1.toInt = -1 by first | omega | decide)) ca_X12_nameOf q6_70 ⟨rfl, rfl⟩ ⟨Nat.le_of_ble_eq_true rfl, Nat.le_of_ble_eq_true rfl⟩ rfl hl.1 rfl (Nat.le_of_ble_eq_true rfl) ⟨Nat.zero_le _, Nat.zero_le _⟩ dX12_operand_6 (fun r_2 wr_2 => ?_)
  have wr_2 : r_2.toInt = -1 := wr_2
  refine lv_if_lt (tgt := 34) hx hb dX12_operand_9 (by decide) (fun c_3 => ?_) (fun c_3 => ?_)
  ·
    have kc_3 : r_2.toInt < (0 : Int) := i_lt c_3
    refine lv_iload_n hx hb dX12_operand_34 rfl (lv_at hl 0 rfl) ?_
    refine lv_bipush (v := 33) hx hb dX12_operand_35 (by decide) ?_
    refine lv_icmp_eq (tgt := 46) hx hb dX12_operand_37 (by decide) (fun c_4 => ?_) (fun c_4 => ?_)
    ·
      have kc_4 : r_1.toInt = (33 : Int) := i_eq c_4
      exfalso; omega
    ·
      have kc_4 : r_1.toInt ≠ (33 : Int) := i_ne c_4
      refine lv_iload_n hx hb dX12_operand_40 rfl (lv_at hl 0 rfl) ?_
      refine lv_bipush (v := 45) hx hb dX12_operand_41 (by decide) ?_
      refine lv_icmp_ne (tgt := 87) hx hb dX12_operand_43 (by decide) (fun c_5 => ?_) (fun c_5 => ?_)
      ·
        have kc_5 : r_1.toInt ≠ (45 : Int) := i_ne c_5
        refine lv_iload_n hx hb dX12_operand_87 rfl (lv_at hl 0 rfl) ?_
        refine lv_bipush (v := 40) hx hb dX12_operand_88 (by decide) ?_
        refine lv_icmp_ne (tgt := 150) hx hb dX12_operand_90 (by decide) (fun c_6 => ?_) (fun c_6 => ?_)
        ·
          have kc_6 : r_1.toInt ≠ (40 : Int) := i_ne c_6
          refine lv_aload_n hx hb dX12_operand_150 rfl (lv_at hl 1 rfl) ?_
          refine cV_v (As := []) (rest := []) ⟨hx, hb, hml, hown, hg⟩ (k_F_X12_figure l D cs A bd u b bw   h15 h16 h17 h18 h19) ca_X12_figure q6_85 ⟨rfl, rfl⟩ ⟨Nat.le_of_ble_eq_true rfl, Nat.le_of_ble_eq_true rfl⟩ (rc_model hK hP) hK hP hD hS hZ rfl hl.1 rfl (Nat.le_of_ble_eq_true rfl) ⟨Nat.zero_le _, Nat.zero_le _⟩ dX12_operand_151 (fun z_12 H locs wr_7 hP hD hS => ?_)
          obtain ⟨fl_8, ld_9, g20_10, g21_11⟩ := z_12
          have hP : va_P D vwCl (RW cs bd (va_up (va_up u 17 fl_8) 19 ld_9) (va_up (va_up b 20 g20_10) 21 g21_11) bw) H := hP
          have hD : va_D A (RW cs bd (va_up (va_up u 17 fl_8) 19 ld_9) (va_up (va_up b 20 g20_10) 21 g21_11) bw) := hD
          obtain ⟨wr_7_0, wr_7_1⟩ : (fl_8.toInt = 0) ∧ (ld_9.toInt = 1) := wr_7
          exact W.vret hx hb hr (fun tt ht hW => ⟨⟨⟨fl_8, ld_9, g20_10, g21_11⟩, rfl, ⟨(by first | rfl | omega | trivial | assumption), (by first | rfl | omega | trivial | assumption)⟩, by rw [ht]; exact hP, hD⟩, hS.F ht⟩) hS.2.2 dX12_operand_154
        ·
          have kc_6 : r_1.toInt = (40 : Int) := i_eq c_6
          exfalso; omega
      ·
        have kc_5 : r_1.toInt = (45 : Int) := i_eq c_5
        exfalso; omega
  ·
    have kc_3 : (0 : Int) ≤ r_2.toInt := i_nlt c_3
    exfalso; omega
set_option maxHeartbeats 4000000 in
set_option maxRecDepth 100000 in
theorem k_F_X12_product (l : Launch) (D : va_G) (cs : Nat → ClassId) (A : Nat → Prop) (bd : Nat → Nat) (u : Nat → Int32) (b : Nat → Nat → Int32) (bw : Nat → Nat → Int64)   (h15 : u 15 = 0) (h16 : u 16 = 0) (h17 : u 17 = -1) (h18 : u 18 = 0) (h19 : u 19 = 0) : Met l yX12_product (Cond.code yX12_product cX12_product 2 none :: gw) ({ frames := 3, cells := 0, slots := 0, locals := 65 }) (va_Pc [.ref (bd 0)] (XPre D (TY cs) (RW cs bd u b bw) A)) (va_Qv (fun (z : Int32 × Int32 × (Nat → Int32) × (Nat → Int32)) => (z.1.toInt = 0) ∧ (z.2.1.toInt = 1)) (XPo D (fun (z : Int32 × Int32 × (Nat → Int32) × (Nat → Int32)) => RW cs bd (va_up (va_up u 17 z.1) 19 z.2.1) (va_up (va_up b 20 z.2.2.1) 21 z.2.2.2) bw) A) A) 0 0 A := by
  refine Met.ofW (cc := cX12_product) (maxL := 2) (ret := none) (by decide) rfl ?_
  intro p e s m args below meth c s₁ B hml hv
  obtain ⟨rfl, hP, hK, hD, hZ⟩ := hv
  have hx := B.exec
  have hb := B.bytes
  have hr := B.returns
  have hts := atoms_spec (ws := (Cond.code yX12_product cX12_product 2 none :: gw)) B.pre
  have hg : ∀ w ∈ gw, w.before ([.ref (bd 0)] : List Value).toArray s = true := fun w h => hts w (List.mem_cons_of_mem _ h)
  have hown : s.vm.findClass RX12 = some m.cls := findClass_of_methodNamed B.named
  have hlocks := B.notSynchronized
  have hS : va_S A s.heap s.heap [] := va_S.rf
  have hP : va_P D vwCl (RW cs bd u b bw) s.heap := hP
  have hl := lv_entry ([.ref (bd 0)]) (n := 2) (Nat.le_of_ble_eq_true rfl)
  rw [lg_entry_eq]
  generalize (lg_sl ([.ref (bd 0)]) ++ List.replicate (2 - (lg_sl ([.ref (bd 0)])).length) Slot.unset).toArray = ls at hl ⊢
  have hl : lv_has ls 2 [(0, .ref (bd 0))] := hl
  refine lv_aload_n hx hb dX12_product_0 rfl (lv_at hl 0 rfl) ?_
  refine cV_v (As := []) (rest := []) ⟨hx, hb, hml, hown, hg⟩ (k_F_X12_operand l D cs A bd u b bw   h15 h16 h17 h18 h19) ca_X12_operand q6_62 ⟨rfl, rfl⟩ ⟨Nat.le_of_ble_eq_true rfl, Nat.le_of_ble_eq_true rfl⟩ (rc_model hK hP) hK hP hD hS hZ rfl hl.1 rfl (Nat.le_of_ble_eq_true rfl) ⟨Nat.zero_le _, Nat.zero_le _⟩ dX12_product_1 (fun z_6 H locs wr_1 hP hD hS => ?_)
  obtain ⟨fl_2, ld_3, g20_4, g21_5⟩ := z_6
  have hP : va_P D vwCl (RW cs bd (va_up (va_up u 17 fl_2) 19 ld_3) (va_up (va_up b 20 g20_4) 21 g21_5) bw) H := hP
  have hD : va_D A (RW cs bd (va_up (va_up u 17 fl_2) 19 ld_3) (va_up (va_up b 20 g20_4) 21 g21_5) bw) := hD
  obtain ⟨wr_1_0, wr_1_1⟩ : (fl_2.toInt = 0) ∧ (ld_3.toInt = 1) := wr_1
  refine lv_aload_n hx hb dX12_product_4 rfl (lv_at hl 0 rfl) ?_
  refine gr_fault hx hb hg hown hK hP (x := fl_2) rfl (hg _ q5_9) dX12_product_5 ?_
  refine lv_if_ge (tgt := 66) hx hb dX12_product_8 (by decide) (fun c_7 => ?_) (fun c_7 => ?_)
  ·
    have kc_7 : (0 : Int) ≤ fl_2.toInt := i_le c_7
    exact W.vret hx hb hr (fun tt ht hW => ⟨⟨⟨fl_2, ld_3, g20_4, g21_5⟩, rfl, ⟨(by first | rfl | omega | trivial | assumption), (by first | rfl | omega | trivial | assumption)⟩, by rw [ht]; exact hP, hD⟩, hS.F ht⟩) hS.2.2 dX12_product_66
  ·
    have kc_7 : fl_2.toInt < (0 : Int) := i_nle c_7
    exfalso; omega
set_option maxHeartbeats 4000000 in
set_option maxRecDepth 100000 in
theorem k_F_X12_sum (l : Launch) (D : va_G) (cs : Nat → ClassId) (A : Nat → Prop) (bd : Nat → Nat) (u : Nat → Int32) (b : Nat → Nat → Int32) (bw : Nat → Nat → Int64)   (h15 : u 15 = 0) (h16 : u 16 = 0) (h17 : u 17 = -1) (h18 : u 18 = 0) (h19 : u 19 = 0) : Met l yX12_sum (Cond.code yX12_sum cX12_sum 2 none :: gw) ({ frames := 4, cells := 0, slots := 0, locals := 86 }) (va_Pc [.ref (bd 0)] (XPre D (TY cs) (RW cs bd u b bw) A)) (va_Qv (fun (z : Int32 × Int32 × (Nat → Int32) × (Nat → Int32)) => (z.1.toInt = 0) ∧ (z.2.1.toInt = 1)) (XPo D (fun (z : Int32 × Int32 × (Nat → Int32) × (Nat → Int32)) => RW cs bd (va_up (va_up u 17 z.1) 19 z.2.1) (va_up (va_up b 20 z.2.2.1) 21 z.2.2.2) bw) A) A) 0 0 A := by
  refine Met.ofW (cc := cX12_sum) (maxL := 2) (ret := none) (by decide) rfl ?_
  intro p e s m args below meth c s₁ B hml hv
  obtain ⟨rfl, hP, hK, hD, hZ⟩ := hv
  have hx := B.exec
  have hb := B.bytes
  have hr := B.returns
  have hts := atoms_spec (ws := (Cond.code yX12_sum cX12_sum 2 none :: gw)) B.pre
  have hg : ∀ w ∈ gw, w.before ([.ref (bd 0)] : List Value).toArray s = true := fun w h => hts w (List.mem_cons_of_mem _ h)
  have hown : s.vm.findClass RX12 = some m.cls := findClass_of_methodNamed B.named
  have hlocks := B.notSynchronized
  have hS : va_S A s.heap s.heap [] := va_S.rf
  have hP : va_P D vwCl (RW cs bd u b bw) s.heap := hP
  have hl := lv_entry ([.ref (bd 0)]) (n := 2) (Nat.le_of_ble_eq_true rfl)
  rw [lg_entry_eq]
  generalize (lg_sl ([.ref (bd 0)]) ++ List.replicate (2 - (lg_sl ([.ref (bd 0)])).length) Slot.unset).toArray = ls at hl ⊢
  have hl : lv_has ls 2 [(0, .ref (bd 0))] := hl
  refine lv_aload_n hx hb dX12_sum_0 rfl (lv_at hl 0 rfl) ?_
  refine cV_v (As := []) (rest := []) ⟨hx, hb, hml, hown, hg⟩ (k_F_X12_product l D cs A bd u b bw   h15 h16 h17 h18 h19) ca_X12_product q6_58 ⟨rfl, rfl⟩ ⟨Nat.le_of_ble_eq_true rfl, Nat.le_of_ble_eq_true rfl⟩ (rc_model hK hP) hK hP hD hS hZ rfl hl.1 rfl (Nat.le_of_ble_eq_true rfl) ⟨Nat.zero_le _, Nat.zero_le _⟩ dX12_sum_1 (fun z_6 H locs wr_1 hP hD hS => ?_)
  obtain ⟨fl_2, ld_3, g20_4, g21_5⟩ := z_6
  have hP : va_P D vwCl (RW cs bd (va_up (va_up u 17 fl_2) 19 ld_3) (va_up (va_up b 20 g20_4) 21 g21_5) bw) H := hP
  have hD : va_D A (RW cs bd (va_up (va_up u 17 fl_2) 19 ld_3) (va_up (va_up b 20 g20_4) 21 g21_5) bw) := hD
  obtain ⟨wr_1_0, wr_1_1⟩ : (fl_2.toInt = 0) ∧ (ld_3.toInt = 1) := wr_1
  refine lv_aload_n hx hb dX12_sum_4 rfl (lv_at hl 0 rfl) ?_
  refine gr_fault hx hb hg hown hK hP (x := fl_2) rfl (hg _ q5_9) dX12_sum_5 ?_
  refine lv_if_ge (tgt := 57) hx hb dX12_sum_8 (by decide) (fun c_7 => ?_) (fun c_7 => ?_)
  ·
    have kc_7 : (0 : Int) ≤ fl_2.toInt := i_le c_7
    exact W.vret hx hb hr (fun tt ht hW => ⟨⟨⟨fl_2, ld_3, g20_4, g21_5⟩, rfl, ⟨(by first | rfl | omega | trivial | assumption), (by first | rfl | omega | trivial | assumption)⟩, by rw [ht]; exact hP, hD⟩, hS.F ht⟩) hS.2.2 dX12_sum_57
  ·
    have kc_7 : fl_2.toInt < (0 : Int) := i_nle c_7
    exfalso; omega
set_option maxHeartbeats 4000000 in
set_option maxRecDepth 100000 in
theorem k_F_X12_compared (l : Launch) (D : va_G) (cs : Nat → ClassId) (A : Nat → Prop) (bd : Nat → Nat) (u : Nat → Int32) (b : Nat → Nat → Int32) (bw : Nat → Nat → Int64)   (h15 : u 15 = 0) (h16 : u 16 = 0) (h17 : u 17 = -1) (h18 : u 18 = 0) (h19 : u 19 = 0) : Met l yX12_compared (Cond.code yX12_compared cX12_compared 2 none :: gw) ({ frames := 5, cells := 0, slots := 0, locals := 107 }) (va_Pc [.ref (bd 0)] (XPre D (TY cs) (RW cs bd u b bw) A)) (va_Qv (fun (z : Int32 × Int32 × (Nat → Int32) × (Nat → Int32)) => (z.1.toInt = 0) ∧ (z.2.1.toInt = 1)) (XPo D (fun (z : Int32 × Int32 × (Nat → Int32) × (Nat → Int32)) => RW cs bd (va_up (va_up u 17 z.1) 19 z.2.1) (va_up (va_up b 20 z.2.2.1) 21 z.2.2.2) bw) A) A) 0 0 A := by
  refine Met.ofW (cc := cX12_compared) (maxL := 2) (ret := none) (by decide) rfl ?_
  intro p e s m args below meth c s₁ B hml hv
  obtain ⟨rfl, hP, hK, hD, hZ⟩ := hv
  have hx := B.exec
  have hb := B.bytes
  have hr := B.returns
  have hts := atoms_spec (ws := (Cond.code yX12_compared cX12_compared 2 none :: gw)) B.pre
  have hg : ∀ w ∈ gw, w.before ([.ref (bd 0)] : List Value).toArray s = true := fun w h => hts w (List.mem_cons_of_mem _ h)
  have hown : s.vm.findClass RX12 = some m.cls := findClass_of_methodNamed B.named
  have hlocks := B.notSynchronized
  have hS : va_S A s.heap s.heap [] := va_S.rf
  have hP : va_P D vwCl (RW cs bd u b bw) s.heap := hP
  have hl := lv_entry ([.ref (bd 0)]) (n := 2) (Nat.le_of_ble_eq_true rfl)
  rw [lg_entry_eq]
  generalize (lg_sl ([.ref (bd 0)]) ++ List.replicate (2 - (lg_sl ([.ref (bd 0)])).length) Slot.unset).toArray = ls at hl ⊢
  have hl : lv_has ls 2 [(0, .ref (bd 0))] := hl
  refine lv_aload_n hx hb dX12_compared_0 rfl (lv_at hl 0 rfl) ?_
  refine cV_v (As := []) (rest := []) ⟨hx, hb, hml, hown, hg⟩ (k_F_X12_sum l D cs A bd u b bw   h15 h16 h17 h18 h19) ca_X12_sum q6_54 ⟨rfl, rfl⟩ ⟨Nat.le_of_ble_eq_true rfl, Nat.le_of_ble_eq_true rfl⟩ (rc_model hK hP) hK hP hD hS hZ rfl hl.1 rfl (Nat.le_of_ble_eq_true rfl) ⟨Nat.zero_le _, Nat.zero_le _⟩ dX12_compared_1 (fun z_6 H locs wr_1 hP hD hS => ?_)
  obtain ⟨fl_2, ld_3, g20_4, g21_5⟩ := z_6
  have hP : va_P D vwCl (RW cs bd (va_up (va_up u 17 fl_2) 19 ld_3) (va_up (va_up b 20 g20_4) 21 g21_5) bw) H := hP
  have hD : va_D A (RW cs bd (va_up (va_up u 17 fl_2) 19 ld_3) (va_up (va_up b 20 g20_4) 21 g21_5) bw) := hD
  obtain ⟨wr_1_0, wr_1_1⟩ : (fl_2.toInt = 0) ∧ (ld_3.toInt = 1) := wr_1
  refine lv_aload_n hx hb dX12_compared_4 rfl (lv_at hl 0 rfl) ?_
  refine cV_ro (As := []) (rest := []) ⟨hx, hb, hml, hown, hg⟩ (k_F_X12_look l D cs A bd (va_up (va_up u 17 fl_2) 19 ld_3) (va_up (va_up b 20 g20_4) 21 g21_5) bw   h15 h16) ca_X12_look q6_66 ⟨rfl, rfl⟩ ⟨Nat.le_of_ble_eq_true rfl, Nat.le_of_ble_eq_true rfl⟩ (rc_model hK hP) hK hP hD hS hZ rfl hl.1 rfl (Nat.le_of_ble_eq_true rfl) ⟨Nat.zero_le _, Nat.zero_le _⟩ dX12_compared_5 (fun r_7 wr_7 => ?_)
  have wr_7 : r_7.toInt = -1 := wr_7
  refine lv_istore_n (lv' := [(1, .int r_7), (0, .ref (bd 0))]) hx hb dX12_compared_8 rfl hl (by decide) rfl (fun ls hl => ?_)
  refine lv_aload_n hx hb dX12_compared_9 rfl (lv_at hl 1 rfl) ?_
  refine gr_fault hx hb hg hown hK hP (x := fl_2) rfl (hg _ q5_9) dX12_compared_10 ?_
  refine lv_if_ge (tgt := 34) hx hb dX12_compared_13 (by decide) (fun c_8 => ?_) (fun c_8 => ?_)
  ·
    have kc_8 : (0 : Int) ≤ fl_2.toInt := i_le c_8
    exact W.vret hx hb hr (fun tt ht hW => ⟨⟨⟨fl_2, ld_3, g20_4, g21_5⟩, rfl, ⟨(by first | rfl | omega | trivial | assumption), (by first | rfl | omega | trivial | assumption)⟩, by rw [ht]; exact hP, hD⟩, hS.F ht⟩) hS.2.2 dX12_compared_34
  ·
    have kc_8 : fl_2.toInt < (0 : Int) := i_nle c_8
    exfalso; omega
set_option maxHeartbeats 4000000 in
set_option maxRecDepth 100000 in
theorem k_F_X12_both (l : Launch) (D : va_G) (cs : Nat → ClassId) (A : Nat → Prop) (bd : Nat → Nat) (u : Nat → Int32) (b : Nat → Nat → Int32) (bw : Nat → Nat → Int64)   (h15 : u 15 = 0) (h16 : u 16 = 0) (h17 : u 17 = -1) (h18 : u 18 = 0) (h19 : u 19 = 0) : Met l yX12_both (Cond.code yX12_both cX12_both 1 none :: gw) ({ frames := 6, cells := 0, slots := 0, locals := 128 }) (va_Pc [.ref (bd 0)] (XPre D (TY cs) (RW cs bd u b bw) A)) (va_Qv (fun (z : Int32 × Int32 × (Nat → Int32) × (Nat → Int32)) => (z.1.toInt = 0) ∧ (z.2.1.toInt = 1)) (XPo D (fun (z : Int32 × Int32 × (Nat → Int32) × (Nat → Int32)) => RW cs bd (va_up (va_up u 17 z.1) 19 z.2.1) (va_up (va_up b 20 z.2.2.1) 21 z.2.2.2) bw) A) A) 0 0 A := by
  refine Met.ofW (cc := cX12_both) (maxL := 1) (ret := none) (by decide) rfl ?_
  intro p e s m args below meth c s₁ B hml hv
  obtain ⟨rfl, hP, hK, hD, hZ⟩ := hv
  have hx := B.exec
  have hb := B.bytes
  have hr := B.returns
  have hts := atoms_spec (ws := (Cond.code yX12_both cX12_both 1 none :: gw)) B.pre
  have hg : ∀ w ∈ gw, w.before ([.ref (bd 0)] : List Value).toArray s = true := fun w h => hts w (List.mem_cons_of_mem _ h)
  have hown : s.vm.findClass RX12 = some m.cls := findClass_of_methodNamed B.named
  have hlocks := B.notSynchronized
  have hS : va_S A s.heap s.heap [] := va_S.rf
  have hP : va_P D vwCl (RW cs bd u b bw) s.heap := hP
  have hl := lv_entry ([.ref (bd 0)]) (n := 1) (Nat.le_of_ble_eq_true rfl)
  rw [lg_entry_eq]
  generalize (lg_sl ([.ref (bd 0)]) ++ List.replicate (1 - (lg_sl ([.ref (bd 0)])).length) Slot.unset).toArray = ls at hl ⊢
  have hl : lv_has ls 1 [(0, .ref (bd 0))] := hl
  refine lv_aload_n hx hb dX12_both_0 rfl (lv_at hl 0 rfl) ?_
  refine cV_v (As := []) (rest := []) ⟨hx, hb, hml, hown, hg⟩ (k_F_X12_compared l D cs A bd u b bw   h15 h16 h17 h18 h19) ca_X12_compared q6_50 ⟨rfl, rfl⟩ ⟨Nat.le_of_ble_eq_true rfl, Nat.le_of_ble_eq_true rfl⟩ (rc_model hK hP) hK hP hD hS hZ rfl hl.1 rfl (Nat.le_of_ble_eq_true rfl) ⟨Nat.zero_le _, Nat.zero_le _⟩ dX12_both_1 (fun z_6 H locs wr_1 hP hD hS => ?_)
  obtain ⟨fl_2, ld_3, g20_4, g21_5⟩ := z_6
  have hP : va_P D vwCl (RW cs bd (va_up (va_up u 17 fl_2) 19 ld_3) (va_up (va_up b 20 g20_4) 21 g21_5) bw) H := hP
  have hD : va_D A (RW cs bd (va_up (va_up u 17 fl_2) 19 ld_3) (va_up (va_up b 20 g20_4) 21 g21_5) bw) := hD
  obtain ⟨wr_1_0, wr_1_1⟩ : (fl_2.toInt = 0) ∧ (ld_3.toInt = 1) := wr_1
  refine lv_aload_n hx hb dX12_both_4 rfl (lv_at hl 0 rfl) ?_
  refine gr_fault hx hb hg hown hK hP (x := fl_2) rfl (hg _ q5_9) dX12_both_5 ?_
  refine lv_if_ge (tgt := 44) hx hb dX12_both_8 (by decide) (fun c_7 => ?_) (fun c_7 => ?_)
  ·
    have kc_7 : (0 : Int) ≤ fl_2.toInt := i_le c_7
    exact W.vret hx hb hr (fun tt ht hW => ⟨⟨⟨fl_2, ld_3, g20_4, g21_5⟩, rfl, ⟨(by first | rfl | omega | trivial | assumption), (by first | rfl | omega | trivial | assumption)⟩, by rw [ht]; exact hP, hD⟩, hS.F ht⟩) hS.2.2 dX12_both_44
  ·
    have kc_7 : fl_2.toInt < (0 : Int) := i_nle c_7
    exfalso; omega
set_option maxHeartbeats 4000000 in
set_option maxRecDepth 100000 in
theorem k_F_X12_either (l : Launch) (D : va_G) (cs : Nat → ClassId) (A : Nat → Prop) (bd : Nat → Nat) (u : Nat → Int32) (b : Nat → Nat → Int32) (bw : Nat → Nat → Int64)   (h15 : u 15 = 0) (h16 : u 16 = 0) (h17 : u 17 = -1) (h18 : u 18 = 0) (h19 : u 19 = 0) : Met l yX12_either (Cond.code yX12_either cX12_either 1 none :: gw) ({ frames := 7, cells := 0, slots := 0, locals := 148 }) (va_Pc [.ref (bd 0)] (XPre D (TY cs) (RW cs bd u b bw) A)) (va_Qv (fun (z : Int32 × Int32 × (Nat → Int32) × (Nat → Int32)) => (z.1.toInt = 0) ∧ (z.2.1.toInt = 1)) (XPo D (fun (z : Int32 × Int32 × (Nat → Int32) × (Nat → Int32)) => RW cs bd (va_up (va_up u 17 z.1) 19 z.2.1) (va_up (va_up b 20 z.2.2.1) 21 z.2.2.2) bw) A) A) 0 0 A := by
  refine Met.ofW (cc := cX12_either) (maxL := 1) (ret := none) (by decide) rfl ?_
  intro p e s m args below meth c s₁ B hml hv
  obtain ⟨rfl, hP, hK, hD, hZ⟩ := hv
  have hx := B.exec
  have hb := B.bytes
  have hr := B.returns
  have hts := atoms_spec (ws := (Cond.code yX12_either cX12_either 1 none :: gw)) B.pre
  have hg : ∀ w ∈ gw, w.before ([.ref (bd 0)] : List Value).toArray s = true := fun w h => hts w (List.mem_cons_of_mem _ h)
  have hown : s.vm.findClass RX12 = some m.cls := findClass_of_methodNamed B.named
  have hlocks := B.notSynchronized
  have hS : va_S A s.heap s.heap [] := va_S.rf
  have hP : va_P D vwCl (RW cs bd u b bw) s.heap := hP
  have hl := lv_entry ([.ref (bd 0)]) (n := 1) (Nat.le_of_ble_eq_true rfl)
  rw [lg_entry_eq]
  generalize (lg_sl ([.ref (bd 0)]) ++ List.replicate (1 - (lg_sl ([.ref (bd 0)])).length) Slot.unset).toArray = ls at hl ⊢
  have hl : lv_has ls 1 [(0, .ref (bd 0))] := hl
  refine lv_aload_n hx hb dX12_either_0 rfl (lv_at hl 0 rfl) ?_
  refine cV_v (As := []) (rest := []) ⟨hx, hb, hml, hown, hg⟩ (k_F_X12_both l D cs A bd u b bw   h15 h16 h17 h18 h19) ca_X12_both q6_46 ⟨rfl, rfl⟩ ⟨Nat.le_of_ble_eq_true rfl, Nat.le_of_ble_eq_true rfl⟩ (rc_model hK hP) hK hP hD hS hZ rfl hl.1 rfl (Nat.le_of_ble_eq_true rfl) ⟨Nat.zero_le _, Nat.zero_le _⟩ dX12_either_1 (fun z_6 H locs wr_1 hP hD hS => ?_)
  obtain ⟨fl_2, ld_3, g20_4, g21_5⟩ := z_6
  have hP : va_P D vwCl (RW cs bd (va_up (va_up u 17 fl_2) 19 ld_3) (va_up (va_up b 20 g20_4) 21 g21_5) bw) H := hP
  have hD : va_D A (RW cs bd (va_up (va_up u 17 fl_2) 19 ld_3) (va_up (va_up b 20 g20_4) 21 g21_5) bw) := hD
  obtain ⟨wr_1_0, wr_1_1⟩ : (fl_2.toInt = 0) ∧ (ld_3.toInt = 1) := wr_1
  refine lv_aload_n hx hb dX12_either_4 rfl (lv_at hl 0 rfl) ?_
  refine gr_fault hx hb hg hown hK hP (x := fl_2) rfl (hg _ q5_9) dX12_either_5 ?_
  refine lv_if_ge (tgt := 44) hx hb dX12_either_8 (by decide) (fun c_7 => ?_) (fun c_7 => ?_)
  ·
    have kc_7 : (0 : Int) ≤ fl_2.toInt := i_le c_7
    exact W.vret hx hb hr (fun tt ht hW => ⟨⟨⟨fl_2, ld_3, g20_4, g21_5⟩, rfl, ⟨(by first | rfl | omega | trivial | assumption), (by first | rfl | omega | trivial | assumption)⟩, by rw [ht]; exact hP, hD⟩, hS.F ht⟩) hS.2.2 dX12_either_44
  ·
    have kc_7 : fl_2.toInt < (0 : Int) := i_nle c_7
    exfalso; omega
