set_option maxHeartbeats 4000000 in
set_option maxRecDepth 100000 in
theorem k_X7_nameOf (l : Launch)   (p1 : Int32)  : Met l yX7_nameOf (Cond.code yX7_nameOf cX7_nameOf 1 (some .int) :: gw) ({ frames := 0, cells := 0, slots := 0, locals := 0 }) (fun v _ => v = ([.int p1] : List Value).toArray) (vp_Si (fun (r : Int32) => (0 ≤ r.toInt ∧ r.toInt ≤ 5 ∧ p1.toInt ≠ -1) ∨ r.toInt = -1)) 0 0 (fun _ => False) := by
  refine Met.ofW (cc := cX7_nameOf) (maxL := 1) (ret := (some .int)) (by decide) rfl ?_
  intro p e s m args below meth c s₁ B hml hv
  subst hv
  have hx := B.exec
  have hb := B.bytes
  have hr := B.returns
  have hts := atoms_spec (ws := (Cond.code yX7_nameOf cX7_nameOf 1 (some .int) :: gw)) B.pre
  have hg : ∀ w ∈ gw, w.before ([.int p1] : List Value).toArray s = true := fun w h => hts w (List.mem_cons_of_mem _ h)
  have hown : s.vm.findClass RX7 = some m.cls := findClass_of_methodNamed B.named
  have hlocks := B.notSynchronized
  have hl := lv_entry ([.int p1]) (n := 1) (Nat.le_of_ble_eq_true rfl)
  rw [lg_entry_eq]
  generalize (lg_sl ([.int p1]) ++ List.replicate (1 - (lg_sl ([.int p1])).length) Slot.unset).toArray = ls at hl ⊢
  have hl : lv_has ls 1 [(0, .int p1)] := hl
  refine lv_iload_n hx hb dX7_nameOf_0 rfl (lv_at hl 0 rfl) ?_
  rcases (show p1.toInt = 99 ∨ p1.toInt = 100 ∨ p1.toInt = 101 ∨ p1.toInt = 102 ∨ p1.toInt = 103 ∨ p1.toInt = 104 ∨ p1.toInt = 105 ∨ p1.toInt = 106 ∨ p1.toInt = 107 ∨ p1.toInt = 108 ∨ p1.toInt = 109 ∨ p1.toInt = 110 ∨ (p1.toInt < 99 ∨ 110 < p1.toInt) by omega) with kc_1 | kc_1 | kc_1 | kc_1 | kc_1 | kc_1 | kc_1 | kc_1 | kc_1 | kc_1 | kc_1 | kc_1 | kc_1
  ·
    refine lv_tableIn (tgt := 64) hx hb dX7_nameOf_1 (by omega) (by omega) (off := 63) (by rw [kc_1]; rfl) (by decide) ?_
    refine lv_iconst (v := 0) hx hb dX7_nameOf_64 (by decide) ?_
    have q0_0 : (0 : Int32).toInt = 0 := rfl
    exact W.iret (v := 0) hx hb hr (fun tt ht hW => ⟨0, rfl, (by first | rfl | omega | trivial | assumption | (dsimp only; first | omega | assumption)), ht⟩) (fun _ h => by cases h) dX7_nameOf_65
  ·
    refine lv_tableIn (tgt := 68) hx hb dX7_nameOf_1 (by omega) (by omega) (off := 67) (by rw [kc_1]; rfl) (by decide) ?_
    refine lv_iconst (v := 2) hx hb dX7_nameOf_68 (by decide) ?_
    have q0_2 : (2 : Int32).toInt = 2 := rfl
    exact W.iret (v := 2) hx hb hr (fun tt ht hW => ⟨2, rfl, (by first | rfl | omega | trivial | assumption | (dsimp only; first | omega | assumption)), ht⟩) (fun _ h => by cases h) dX7_nameOf_69
  ·
    refine lv_tableIn (tgt := 76) hx hb dX7_nameOf_1 (by omega) (by omega) (off := 75) (by rw [kc_1]; rfl) (by decide) ?_
    refine lv_iconst (v := (-1)) hx hb dX7_nameOf_76 (by decide) ?_
    have q0_m1 : ((-1) : Int32).toInt = (-1) := rfl
    exact W.iret (v := (-1)) hx hb hr (fun tt ht hW => ⟨(-1), rfl, (by first | rfl | omega | trivial | assumption | (dsimp only; first | omega | assumption)), ht⟩) (fun _ h => by cases h) dX7_nameOf_77
  ·
    refine lv_tableIn (tgt := 76) hx hb dX7_nameOf_1 (by omega) (by omega) (off := 75) (by rw [kc_1]; rfl) (by decide) ?_
    refine lv_iconst (v := (-1)) hx hb dX7_nameOf_76 (by decide) ?_
    have q0_m1 : ((-1) : Int32).toInt = (-1) := rfl
    exact W.iret (v := (-1)) hx hb hr (fun tt ht hW => ⟨(-1), rfl, (by first | rfl | omega | trivial | assumption | (dsimp only; first | omega | assumption)), ht⟩) (fun _ h => by cases h) dX7_nameOf_77
  ·
    refine lv_tableIn (tgt := 66) hx hb dX7_nameOf_1 (by omega) (by omega) (off := 65) (by rw [kc_1]; rfl) (by decide) ?_
    refine lv_iconst (v := 1) hx hb dX7_nameOf_66 (by decide) ?_
    have q0_1 : (1 : Int32).toInt = 1 := rfl
    exact W.iret (v := 1) hx hb hr (fun tt ht hW => ⟨1, rfl, (by first | rfl | omega | trivial | assumption | (dsimp only; first | omega | assumption)), ht⟩) (fun _ h => by cases h) dX7_nameOf_67
  ·
    refine lv_tableIn (tgt := 70) hx hb dX7_nameOf_1 (by omega) (by omega) (off := 69) (by rw [kc_1]; rfl) (by decide) ?_
    refine lv_iconst (v := 3) hx hb dX7_nameOf_70 (by decide) ?_
    have q0_3 : (3 : Int32).toInt = 3 := rfl
    exact W.iret (v := 3) hx hb hr (fun tt ht hW => ⟨3, rfl, (by first | rfl | omega | trivial | assumption | (dsimp only; first | omega | assumption)), ht⟩) (fun _ h => by cases h) dX7_nameOf_71
  ·
    refine lv_tableIn (tgt := 76) hx hb dX7_nameOf_1 (by omega) (by omega) (off := 75) (by rw [kc_1]; rfl) (by decide) ?_
    refine lv_iconst (v := (-1)) hx hb dX7_nameOf_76 (by decide) ?_
    have q0_m1 : ((-1) : Int32).toInt = (-1) := rfl
    exact W.iret (v := (-1)) hx hb hr (fun tt ht hW => ⟨(-1), rfl, (by first | rfl | omega | trivial | assumption | (dsimp only; first | omega | assumption)), ht⟩) (fun _ h => by cases h) dX7_nameOf_77
  ·
    refine lv_tableIn (tgt := 76) hx hb dX7_nameOf_1 (by omega) (by omega) (off := 75) (by rw [kc_1]; rfl) (by decide) ?_
    refine lv_iconst (v := (-1)) hx hb dX7_nameOf_76 (by decide) ?_
    have q0_m1 : ((-1) : Int32).toInt = (-1) := rfl
    exact W.iret (v := (-1)) hx hb hr (fun tt ht hW => ⟨(-1), rfl, (by first | rfl | omega | trivial | assumption | (dsimp only; first | omega | assumption)), ht⟩) (fun _ h => by cases h) dX7_nameOf_77
  ·
    refine lv_tableIn (tgt := 74) hx hb dX7_nameOf_1 (by omega) (by omega) (off := 73) (by rw [kc_1]; rfl) (by decide) ?_
    refine lv_iconst (v := 5) hx hb dX7_nameOf_74 (by decide) ?_
    have q0_5 : (5 : Int32).toInt = 5 := rfl
    exact W.iret (v := 5) hx hb hr (fun tt ht hW => ⟨5, rfl, (by first | rfl | omega | trivial | assumption | (dsimp only; first | omega | assumption)), ht⟩) (fun _ h => by cases h) dX7_nameOf_75
  ·
    refine lv_tableIn (tgt := 76) hx hb dX7_nameOf_1 (by omega) (by omega) (off := 75) (by rw [kc_1]; rfl) (by decide) ?_
    refine lv_iconst (v := (-1)) hx hb dX7_nameOf_76 (by decide) ?_
    have q0_m1 : ((-1) : Int32).toInt = (-1) := rfl
    exact W.iret (v := (-1)) hx hb hr (fun tt ht hW => ⟨(-1), rfl, (by first | rfl | omega | trivial | assumption | (dsimp only; first | omega | assumption)), ht⟩) (fun _ h => by cases h) dX7_nameOf_77
  ·
    refine lv_tableIn (tgt := 76) hx hb dX7_nameOf_1 (by omega) (by omega) (off := 75) (by rw [kc_1]; rfl) (by decide) ?_
    refine lv_iconst (v := (-1)) hx hb dX7_nameOf_76 (by decide) ?_
    have q0_m1 : ((-1) : Int32).toInt = (-1) := rfl
    exact W.iret (v := (-1)) hx hb hr (fun tt ht hW => ⟨(-1), rfl, (by first | rfl | omega | trivial | assumption | (dsimp only; first | omega | assumption)), ht⟩) (fun _ h => by cases h) dX7_nameOf_77
  ·
    refine lv_tableIn (tgt := 72) hx hb dX7_nameOf_1 (by omega) (by omega) (off := 71) (by rw [kc_1]; rfl) (by decide) ?_
    refine lv_iconst (v := 4) hx hb dX7_nameOf_72 (by decide) ?_
    have q0_4 : (4 : Int32).toInt = 4 := rfl
    exact W.iret (v := 4) hx hb hr (fun tt ht hW => ⟨4, rfl, (by first | rfl | omega | trivial | assumption | (dsimp only; first | omega | assumption)), ht⟩) (fun _ h => by cases h) dX7_nameOf_73
  ·
    refine lv_tableOut (tgt := 76) hx hb dX7_nameOf_1 kc_1 (by decide) ?_
    refine lv_iconst (v := (-1)) hx hb dX7_nameOf_76 (by decide) ?_
    have q0_m1 : ((-1) : Int32).toInt = (-1) := rfl
    exact W.iret (v := (-1)) hx hb hr (fun tt ht hW => ⟨(-1), rfl, (by first | rfl | omega | trivial | assumption | (dsimp only; first | omega | assumption)), ht⟩) (fun _ h => by cases h) dX7_nameOf_77
set_option maxHeartbeats 4000000 in
set_option maxRecDepth 100000 in
theorem k_X7_isDigit (l : Launch)   (p1 : Int32)  : Met l yX7_isDigit (Cond.code yX7_isDigit cX7_isDigit 1 (some .boolean) :: gw) ({ frames := 0, cells := 0, slots := 0, locals := 0 }) (fun v _ => v = ([.int p1] : List Value).toArray) (vp_Si (fun (r : Int32) => (r.toInt = 1 ∧ 48 ≤ p1.toInt ∧ p1.toInt ≤ 57) ∨ (r.toInt = 0 ∧ ¬ (48 ≤ p1.toInt ∧ p1.toInt ≤ 57)))) 0 0 (fun _ => False) := by
  refine Met.ofW (cc := cX7_isDigit) (maxL := 1) (ret := (some .boolean)) (by decide) rfl ?_
  intro p e s m args below meth c s₁ B hml hv
  subst hv
  have hx := B.exec
  have hb := B.bytes
  have hr := B.returns
  have hts := atoms_spec (ws := (Cond.code yX7_isDigit cX7_isDigit 1 (some .boolean) :: gw)) B.pre
  have hg : ∀ w ∈ gw, w.before ([.int p1] : List Value).toArray s = true := fun w h => hts w (List.mem_cons_of_mem _ h)
  have hown : s.vm.findClass RX7 = some m.cls := findClass_of_methodNamed B.named
  have hlocks := B.notSynchronized
  have hl := lv_entry ([.int p1]) (n := 1) (Nat.le_of_ble_eq_true rfl)
  rw [lg_entry_eq]
  generalize (lg_sl ([.int p1]) ++ List.replicate (1 - (lg_sl ([.int p1])).length) Slot.unset).toArray = ls at hl ⊢
  have hl : lv_has ls 1 [(0, .int p1)] := hl
  refine lv_iload_n hx hb dX7_isDigit_0 rfl (lv_at hl 0 rfl) ?_
  refine lv_bipush (v := 48) hx hb dX7_isDigit_1 (by decide) ?_
  refine lv_icmp_lt (tgt := 16) hx hb dX7_isDigit_3 (by decide) (fun c_1 => ?_) (fun c_1 => ?_)
  ·
    have kc_1 : p1.toInt < (48 : Int) := i_lt c_1
    refine lv_iconst (v := 0) hx hb dX7_isDigit_16 (by decide) ?_
    have q0_0 : (0 : Int32).toInt = 0 := rfl
    exact W.zret (v := 0) hx hb hr rfl (fun tt ht hW => ⟨0, rfl, (by first | rfl | omega | trivial | assumption | (dsimp only; first | omega | assumption)), ht⟩) (fun _ h => by cases h) dX7_isDigit_17
  ·
    have kc_1 : (48 : Int) ≤ p1.toInt := i_nlt c_1
    refine lv_iload_n hx hb dX7_isDigit_6 rfl (lv_at hl 0 rfl) ?_
    refine lv_bipush (v := 57) hx hb dX7_isDigit_7 (by decide) ?_
    refine lv_icmp_gt (tgt := 16) hx hb dX7_isDigit_9 (by decide) (fun c_2 => ?_) (fun c_2 => ?_)
    ·
      have kc_2 : (57 : Int) < p1.toInt := i_lt c_2
      refine lv_iconst (v := 0) hx hb dX7_isDigit_16 (by decide) ?_
      have q0_0 : (0 : Int32).toInt = 0 := rfl
      exact W.zret (v := 0) hx hb hr rfl (fun tt ht hW => ⟨0, rfl, (by first | rfl | omega | trivial | assumption | (dsimp only; first | omega | assumption)), ht⟩) (fun _ h => by cases h) dX7_isDigit_17
    ·
      have kc_2 : p1.toInt ≤ (57 : Int) := i_nlt c_2
      refine lv_iconst (v := 1) hx hb dX7_isDigit_12 (by decide) ?_
      refine lv_goto (tgt := 17) hx hb dX7_isDigit_13 (by decide) ?_
      have q0_1 : (1 : Int32).toInt = 1 := rfl
      exact W.zret (v := 1) hx hb hr rfl (fun tt ht hW => ⟨1, rfl, (by first | rfl | omega | trivial | assumption | (dsimp only; first | omega | assumption)), ht⟩) (fun _ h => by cases h) dX7_isDigit_17
set_option maxHeartbeats 4000000 in
set_option maxRecDepth 100000 in
theorem k_X7_sign (l : Launch) (D : va_G) (cs : Nat → ClassId) (A : Nat → Prop) (ad fa fq rv : Nat → Nat) (v : Nat → Int32) (a : Nat → Nat → Int32) (w : Nat → Nat → Int64) (fv fp : Nat → Nat → Int32)   (hr0 : rv 0 = ad 15) (hr1 : rv 1 = ad 19) (iv24_0 : 0 ≤ (v 24).toInt) (iv24_1 : (v 24).toInt ≤ 120) (iv25_0 : 0 ≤ (v 25).toInt) (iv25_1 : (v 25).toInt ≤ 120) (iv25_2 : (v 25).toInt ≤ (v 24).toInt) : Met l yX7_sign (Cond.code yX7_sign cX7_sign 1 (some .int) :: gw) ({ frames := 0, cells := 0, slots := 0, locals := 0 }) (va_Pc [.ref (ad 10)] (XPre D (TY cs) (CW cs ad fa fq rv v a w fv fp) A)) (vp_Si (fun (r : Int32) => (((v 25).toInt < (v 24).toInt ∧ r.toInt = ((a 15) (v 25).toNatClampNeg).toInt) ∨ ((v 24).toInt ≤ (v 25).toInt ∧ r.toInt = -1)))) 0 0 (fun _ => False) := by
  refine Met.ofW (cc := cX7_sign) (maxL := 1) (ret := (some .int)) (by decide) rfl ?_
  intro p e s m args below meth c s₁ B hml hv
  obtain ⟨rfl, hP, hK, hD, hZ⟩ := hv
  have hx := B.exec
  have hb := B.bytes
  have hr := B.returns
  have hts := atoms_spec (ws := (Cond.code yX7_sign cX7_sign 1 (some .int) :: gw)) B.pre
  have hg : ∀ w ∈ gw, w.before ([.ref (ad 10)] : List Value).toArray s = true := fun w h => hts w (List.mem_cons_of_mem _ h)
  have hown : s.vm.findClass RX7 = some m.cls := findClass_of_methodNamed B.named
  have hlocks := B.notSynchronized
  have hS : va_S A s.heap s.heap [] := va_S.rf
  have hl := lv_entry ([.ref (ad 10)]) (n := 1) (Nat.le_of_ble_eq_true rfl)
  rw [lg_entry_eq]
  generalize (lg_sl ([.ref (ad 10)]) ++ List.replicate (1 - (lg_sl ([.ref (ad 10)])).length) Slot.unset).toArray = ls at hl ⊢
  have hl : lv_has ls 1 [(0, .ref (ad 10))] := hl
  refine lv_aload_n hx hb dX7_sign_0 rfl (lv_at hl 0 rfl) ?_
  refine gf_reader_at hx hb hg hown hK hP (x := (v 25)) rfl (hg _ q1_157) dX7_sign_1 ?_
  refine lv_aload_n hx hb dX7_sign_4 rfl (lv_at hl 0 rfl) ?_
  refine gf_reader_length hx hb hg hown hK hP (x := (v 24)) rfl (hg _ q1_156) dX7_sign_5 ?_
  refine lv_icmp_ge (tgt := 23) hx hb dX7_sign_8 (by decide) (fun c_1 => ?_) (fun c_1 => ?_)
  ·
    have kc_1 : (v 24).toInt ≤ (v 25).toInt := i_le c_1
    refine lv_iconst (v := (-1)) hx hb dX7_sign_23 (by decide) ?_
    have q0_m1 : ((-1) : Int32).toInt = (-1) := rfl
    exact W.iret (v := (-1)) hx hb hr (fun tt ht hW => ⟨(-1), rfl, (by first | rfl | omega | trivial | assumption | (dsimp only; first | omega | assumption)), ht⟩) (fun _ h => by cases h) dX7_sign_24
  ·
    have kc_1 : (v 25).toInt < (v 24).toInt := i_nle c_1
    refine lv_aload_n hx hb dX7_sign_11 rfl (lv_at hl 0 rfl) ?_
    refine gf_reader_text hx hb hg hown hK hP (x := (ad 15)) hr0 (hg _ q1_154) dX7_sign_12 ?_
    refine lv_aload_n hx hb dX7_sign_15 rfl (lv_at hl 0 rfl) ?_
    refine gf_reader_at hx hb hg hown hK hP (x := (v 25)) rfl (hg _ q1_157) dX7_sign_16 ?_
    refine ld_Ltape hx hb hK hP (i_in (by omega) (by omega)) dX7_sign_19 ?_
    refine lv_topi (fun x_2 ex_2 => ?_)
    have ex_2 : x_2 = (a 15) (v 25).toNatClampNeg := ex_2
    have hx_2 : x_2.toInt = ((a 15) (v 25).toNatClampNeg).toInt := by rw [ex_2]
    refine lv_goto (tgt := 24) hx hb dX7_sign_20 (by decide) ?_
    exact W.iret (v := x_2) hx hb hr (fun tt ht hW => ⟨x_2, rfl, (by first | rfl | omega | trivial | assumption | (dsimp only; first | omega | assumption)), ht⟩) (fun _ h => by cases h) dX7_sign_24
set_option maxHeartbeats 4000000 in
set_option maxRecDepth 100000 in
theorem k_X7_write (l : Launch) (D : va_G) (cs : Nat → ClassId) (A : Nat → Prop) (ad fa fq rv : Nat → Nat) (v : Nat → Int32) (a : Nat → Nat → Int32) (w : Nat → Nat → Int64) (fv fp : Nat → Nat → Int32)  (p1 : Int32) (hr0 : rv 0 = ad 15) (hr1 : rv 1 = ad 19) (h1 : -1000 ≤ p1.toInt) (h2 : p1.toInt ≤ 20000) (iv26_0 : 0 ≤ (v 26).toInt) (iv26_1 : (v 26).toInt ≤ 256) (ia19_0 : AB (-1000) 20000 (a 19)) : Met l yX7_write (Cond.code yX7_write cX7_write 2 (some .boolean) :: gw) ({ frames := 0, cells := 0, slots := 0, locals := 0 }) (va_Pc [.ref (ad 10), .int p1] (XPre D (TY cs) (CW cs ad fa fq rv v a w fv fp) A)) (va_Qi (fun (r : Int32) (z : Int32 × (Nat → Int32)) => (0 ≤ r.toInt) ∧ (r.toInt ≤ 1) ∧ (0 ≤ z.1.toInt) ∧ (z.1.toInt ≤ 256) ∧ (AB (-1000) 20000 z.2)) (XPo D (fun (z : Int32 × (Nat → Int32)) => CW cs ad fa fq rv (va_up v 26 z.1) (va_up a 19 z.2) w fv fp) A) A) 0 0 A := by
  refine Met.ofW (cc := cX7_write) (maxL := 2) (ret := (some .boolean)) (by decide) rfl ?_
  intro p e s m args below meth c s₁ B hml hv
  obtain ⟨rfl, hP, hK, hD, hZ⟩ := hv
  have hx := B.exec
  have hb := B.bytes
  have hr := B.returns
  have hts := atoms_spec (ws := (Cond.code yX7_write cX7_write 2 (some .boolean) :: gw)) B.pre
  have hg : ∀ w ∈ gw, w.before ([.ref (ad 10), .int p1] : List Value).toArray s = true := fun w h => hts w (List.mem_cons_of_mem _ h)
  have hown : s.vm.findClass RX7 = some m.cls := findClass_of_methodNamed B.named
  have hlocks := B.notSynchronized
  have hS : va_S A s.heap s.heap [] := va_S.rf
  have hP : va_P D vwCl (CW cs ad fa fq rv v a w fv fp) s.heap := hP
  have hl := lv_entry ([.ref (ad 10), .int p1]) (n := 2) (Nat.le_of_ble_eq_true rfl)
  rw [lg_entry_eq]
  generalize (lg_sl ([.ref (ad 10), .int p1]) ++ List.replicate (2 - (lg_sl ([.ref (ad 10), .int p1])).length) Slot.unset).toArray = ls at hl ⊢
  have hl : lv_has ls 2 [(0, .ref (ad 10)), (1, .int p1)] := hl
  refine lv_aload_n hx hb dX7_write_0 rfl (lv_at hl 0 rfl) ?_
  refine gf_reader_size hx hb hg hown hK hP (x := (v 26)) rfl (hg _ q1_159) dX7_write_1 ?_
  refine lv_aload_n hx hb dX7_write_4 rfl (lv_at hl 0 rfl) ?_
  refine gf_reader_code hx hb hg hown hK hP (x := (ad 19)) hr1 (hg _ q1_155) dX7_write_5 ?_
  refine al_Lspare hx hb hK hP dX7_write_8 ?_
  refine lv_icmp_lt (tgt := 14) hx hb dX7_write_9 (by decide) (fun c_1 => ?_) (fun c_1 => ?_)
  ·
    have kc_1 : (v 26).toInt < (256 : Int) := i_lt c_1
    refine lv_aload_n hx hb dX7_write_14 rfl (lv_at hl 0 rfl) ?_
    refine gf_reader_code hx hb hg hown hK hP (x := (ad 19)) hr1 (hg _ q1_155) dX7_write_15 ?_
    refine lv_aload_n hx hb dX7_write_18 rfl (lv_at hl 0 rfl) ?_
    refine gf_reader_size hx hb hg hown hK hP (x := (v 26)) rfl (hg _ q1_159) dX7_write_19 ?_
    refine lv_iload_n hx hb dX7_write_22 rfl (lv_at hl 1 rfl) ?_
    refine st_Lspare hx hb hK hP hD hS (i_in (by omega) (by omega)) dX7_write_23 (fun H locs hP hD hS => ?_)
    have hab_2 : AB (-1000) 20000 (upd (a 19) (v 26).toNatClampNeg p1) := AB_upd ia19_0 (by omega) (by omega)
    refine lv_aload_n hx hb dX7_write_24 rfl (lv_at hl 0 rfl) ?_
    refine lv_dup hx hb dX7_write_25 rfl ?_
    refine gf_reader_size hx hb hg hown hK hP (x := (v 26)) rfl (hg _ q1_159) dX7_write_26 ?_
    refine lv_iconst (v := 1) hx hb dX7_write_29 (by decide) ?_
    refine lv_iadd hx hb dX7_write_30 ?_
    refine lv_topi (fun x_3 ex_3 => ?_)
    have fx_3 : x_3.toInt = (v 26).toInt + (1 : Int) := by rw [ex_3]; exact i_add (by first | omega | (show (_ : Int) ≤ (v 26).toInt + (1 : Int); omega)) (by first | omega | (show (v 26).toInt + (1 : Int) ≤ (_ : Int); omega))
    refine pf_reader_size hx hb hg hown hK hP hD hS (hg _ q1_159) dX7_write_31 (fun H locs hP hD hS => ?_)
    refine lv_iconst (v := 1) hx hb dX7_write_34 (by decide) ?_
    have q0_1 : (1 : Int32).toInt = 1 := rfl
    exact W.zret (v := 1) hx hb hr rfl (fun tt ht hW => ⟨⟨1, ⟨x_3, (upd (a 19) (v 26).toNatClampNeg p1)⟩, rfl, ⟨(by first | rfl | omega | trivial | assumption | (dsimp only; first | omega | assumption)), (by first | rfl | omega | trivial | assumption | (dsimp only; first | omega | assumption)), (show 0 ≤ x_3.toInt by first | omega | assumption), (show x_3.toInt ≤ 256 by first | omega | assumption), hab_2⟩, by rw [ht]; exact hP, hD⟩, hS.F ht⟩) hS.2.2 dX7_write_35
  ·
    have kc_1 : (256 : Int) ≤ (v 26).toInt := i_nlt c_1
    refine lv_iconst (v := 0) hx hb dX7_write_12 (by decide) ?_
    have q0_0 : (0 : Int32).toInt = 0 := rfl
    have hP : va_P D vwCl (CW cs ad fa fq rv (va_up v 26 (v 26)) (va_up a 19 (a 19)) w fv fp) _ := hP
    have hD : va_D A (CW cs ad fa fq rv (va_up v 26 (v 26)) (va_up a 19 (a 19)) w fv fp) := hD
    exact W.zret (v := 0) hx hb hr rfl (fun tt ht hW => ⟨⟨0, ⟨(v 26), (a 19)⟩, rfl, ⟨(by first | rfl | omega | trivial | assumption | (dsimp only; first | omega | assumption)), (by first | rfl | omega | trivial | assumption | (dsimp only; first | omega | assumption)), (show 0 ≤ (v 26).toInt by first | omega | assumption), (show (v 26).toInt ≤ 256 by first | omega | assumption), ia19_0⟩, by rw [ht]; exact hP, hD⟩, hS.F ht⟩) hS.2.2 dX7_write_13
set_option maxHeartbeats 4000000 in
set_option maxRecDepth 100000 in
theorem k_X7_passes (l : Launch) (D : va_G) (cs : Nat → ClassId) (A : Nat → Prop) (ad fa fq rv : Nat → Nat) (v : Nat → Int32) (a : Nat → Nat → Int32) (w : Nat → Nat → Int64) (fv fp : Nat → Nat → Int32)  (p1 : Int32) (hr0 : rv 0 = ad 15) (hr1 : rv 1 = ad 19) (h1 : 0 ≤ p1.toInt) (iv24_0 : 0 ≤ (v 24).toInt) (iv24_1 : (v 24).toInt ≤ 120) (iv25_0 : 0 ≤ (v 25).toInt) (iv25_1 : (v 25).toInt ≤ 120) (iv25_2 : (v 25).toInt ≤ (v 24).toInt) : Met l yX7_passes (Cond.code yX7_passes cX7_passes 2 (some .boolean) :: gw) ({ frames := 1, cells := 0, slots := 0, locals := 20 }) (va_Pc [.ref (ad 10), .int p1] (XPre D (TY cs) (CW cs ad fa fq rv v a w fv fp) A)) (va_Qi (fun (r : Int32) (z : Int32) => ((r.toInt = 1 ∧ z.toInt = (v 25).toInt + 1) ∨ (r.toInt = 0 ∧ z.toInt = (v 25).toInt)) ∧ (0 ≤ z.toInt) ∧ (z.toInt ≤ 120) ∧ (z.toInt ≤ (v 24).toInt)) (XPo D (fun (z : Int32) => CW cs ad fa fq rv (va_up v 25 z) a w fv fp) A) A) 0 0 A := by
  refine Met.ofW (cc := cX7_passes) (maxL := 2) (ret := (some .boolean)) (by decide) rfl ?_
  intro p e s m args below meth c s₁ B hml hv
  obtain ⟨rfl, hP, hK, hD, hZ⟩ := hv
  have hx := B.exec
  have hb := B.bytes
  have hr := B.returns
  have hts := atoms_spec (ws := (Cond.code yX7_passes cX7_passes 2 (some .boolean) :: gw)) B.pre
  have hg : ∀ w ∈ gw, w.before ([.ref (ad 10), .int p1] : List Value).toArray s = true := fun w h => hts w (List.mem_cons_of_mem _ h)
  have hown : s.vm.findClass RX7 = some m.cls := findClass_of_methodNamed B.named
  have hlocks := B.notSynchronized
  have hS : va_S A s.heap s.heap [] := va_S.rf
  have hP : va_P D vwCl (CW cs ad fa fq rv v a w fv fp) s.heap := hP
  have hl := lv_entry ([.ref (ad 10), .int p1]) (n := 2) (Nat.le_of_ble_eq_true rfl)
  rw [lg_entry_eq]
  generalize (lg_sl ([.ref (ad 10), .int p1]) ++ List.replicate (2 - (lg_sl ([.ref (ad 10), .int p1])).length) Slot.unset).toArray = ls at hl ⊢
  have hl : lv_has ls 2 [(0, .ref (ad 10)), (1, .int p1)] := hl
  refine lv_aload_n hx hb dX7_passes_0 rfl (lv_at hl 0 rfl) ?_
  refine cV_ro (As := []) (rest := []) ⟨hx, hb, hml, hown, hg⟩ (k_X7_sign l D cs A ad fa fq rv v a w fv fp   hr0 hr1 (show 0 ≤ (v 24).toInt by first | omega | decide) (show (v 24).toInt ≤ 120 by first | omega | decide) (show 0 ≤ (v 25).toInt by first | omega | decide) (show (v 25).toInt ≤ 120 by first | omega | decide) (show (v 25).toInt ≤ (v 24).toInt by first | omega | decide)) ca_X7_sign q3_91 ⟨rfl, rfl⟩ ⟨Nat.le_of_ble_eq_true rfl, Nat.le_of_ble_eq_true rfl⟩ (rc_reader hK hP) hK hP hD hS hZ rfl hl.1 rfl (Nat.le_of_ble_eq_true rfl) ⟨Nat.zero_le _, Nat.zero_le _⟩ dX7_passes_1 (fun r_1 wr_1 => ?_)
  have wr_1_0 : ((v 25).toInt < (v 24).toInt ∧ r_1.toInt = ((a 15) (v 25).toNatClampNeg).toInt) ∨ ((v 24).toInt ≤ (v 25).toInt ∧ r_1.toInt = -1) := wr_1
  refine lv_iload_n hx hb dX7_passes_4 rfl (lv_at hl 1 rfl) ?_
  refine lv_icmp_eq (tgt := 10) hx hb dX7_passes_5 (by decide) (fun c_2 => ?_) (fun c_2 => ?_)
  ·
    have kc_2 : r_1.toInt = p1.toInt := i_eq c_2
    refine lv_aload_n hx hb dX7_passes_10 rfl (lv_at hl 0 rfl) ?_
    refine lv_dup hx hb dX7_passes_11 rfl ?_
    refine gf_reader_at hx hb hg hown hK hP (x := (v 25)) rfl (hg _ q1_157) dX7_passes_12 ?_
    refine lv_iconst (v := 1) hx hb dX7_passes_15 (by decide) ?_
    refine lv_iadd hx hb dX7_passes_16 ?_
    refine lv_topi (fun x_3 ex_3 => ?_)
    have fx_3 : x_3.toInt = (v 25).toInt + (1 : Int) := by rw [ex_3]; exact i_add (by first | omega | (show (_ : Int) ≤ (v 25).toInt + (1 : Int); omega)) (by first | omega | (show (v 25).toInt + (1 : Int) ≤ (_ : Int); omega))
    refine pf_reader_at hx hb hg hown hK hP hD hS (hg _ q1_157) dX7_passes_17 (fun H locs hP hD hS => ?_)
    refine lv_iconst (v := 1) hx hb dX7_passes_20 (by decide) ?_
    have q0_1 : (1 : Int32).toInt = 1 := rfl
    exact W.zret (v := 1) hx hb hr rfl (fun tt ht hW => ⟨⟨1, x_3, rfl, ⟨(by first | rfl | omega | trivial | assumption | (dsimp only; first | omega | assumption)), (show 0 ≤ x_3.toInt by first | omega | assumption), (show x_3.toInt ≤ 120 by first | omega | assumption), (show x_3.toInt ≤ (v 24).toInt by first | omega | assumption)⟩, by rw [ht]; exact hP, hD⟩, hS.F ht⟩) hS.2.2 dX7_passes_21
  ·
    have kc_2 : r_1.toInt ≠ p1.toInt := i_ne c_2
    refine lv_iconst (v := 0) hx hb dX7_passes_8 (by decide) ?_
    have q0_0 : (0 : Int32).toInt = 0 := rfl
    have hP : va_P D vwCl (CW cs ad fa fq rv (va_up v 25 (v 25)) a w fv fp) _ := hP
    have hD : va_D A (CW cs ad fa fq rv (va_up v 25 (v 25)) a w fv fp) := hD
    exact W.zret (v := 0) hx hb hr rfl (fun tt ht hW => ⟨⟨0, (v 25), rfl, ⟨(by first | rfl | omega | trivial | assumption | (dsimp only; first | omega | assumption)), (show 0 ≤ (v 25).toInt by first | omega | assumption), (show (v 25).toInt ≤ 120 by first | omega | assumption), (show (v 25).toInt ≤ (v 24).toInt by first | omega | assumption)⟩, by rw [ht]; exact hP, hD⟩, hS.F ht⟩) hS.2.2 dX7_passes_9
set_option maxHeartbeats 4000000 in
set_option maxRecDepth 100000 in
theorem k_X7_readNumber (l : Launch) (D : va_G) (cs : Nat → ClassId) (A : Nat → Prop) (ad fa fq rv : Nat → Nat) (v : Nat → Int32) (a : Nat → Nat → Int32) (w : Nat → Nat → Int64) (fv fp : Nat → Nat → Int32)   (hr0 : rv 0 = ad 15) (hr1 : rv 1 = ad 19) (iv26_0 : 0 ≤ (v 26).toInt) (iv26_1 : (v 26).toInt ≤ 256) (ia19_0 : AB (-1000) 20000 (a 19)) (iv24_0 : 0 ≤ (v 24).toInt) (iv24_1 : (v 24).toInt ≤ 120) (iv25_0 : 0 ≤ (v 25).toInt) (iv25_1 : (v 25).toInt ≤ 120) (iv25_2 : (v 25).toInt ≤ (v 24).toInt) : Met l yX7_readNumber (Cond.code yX7_readNumber cX7_readNumber 3 (some .boolean) :: gw) ({ frames := 1, cells := 0, slots := 0, locals := 21 }) (va_Pc [.ref (ad 10)] (XPre D (TY cs) (CW cs ad fa fq rv v a w fv fp) A)) (va_Qi (fun (r : Int32) (z : Int32 × Int32 × (Nat → Int32)) => (0 ≤ r.toInt) ∧ (r.toInt ≤ 1) ∧ ((v 25).toInt ≤ z.1.toInt) ∧ (0 ≤ z.1.toInt) ∧ (z.1.toInt ≤ 120) ∧ (z.1.toInt ≤ (v 24).toInt) ∧ (0 ≤ z.2.1.toInt) ∧ (z.2.1.toInt ≤ 256) ∧ (AB (-1000) 20000 z.2.2)) (XPo D (fun (z : Int32 × Int32 × (Nat → Int32)) => CW cs ad fa fq rv (va_up (va_up v 25 z.1) 26 z.2.1) (va_up a 19 z.2.2) w fv fp) A) A) 0 0 A := by
  refine Met.ofW (cc := cX7_readNumber) (maxL := 3) (ret := (some .boolean)) (by decide) rfl ?_
  intro p e s m args below meth c s₁ B hml hv
  obtain ⟨rfl, hP, hK, hD, hZ⟩ := hv
  have hx := B.exec
  have hb := B.bytes
  have hr := B.returns
  have hts := atoms_spec (ws := (Cond.code yX7_readNumber cX7_readNumber 3 (some .boolean) :: gw)) B.pre
  have hg : ∀ w ∈ gw, w.before ([.ref (ad 10)] : List Value).toArray s = true := fun w h => hts w (List.mem_cons_of_mem _ h)
  have hown : s.vm.findClass RX7 = some m.cls := findClass_of_methodNamed B.named
  have hlocks := B.notSynchronized
  have hS : va_S A s.heap s.heap [] := va_S.rf
  have hP : va_P D vwCl (CW cs ad fa fq rv v a w fv fp) s.heap := hP
  have hl := lv_entry ([.ref (ad 10)]) (n := 3) (Nat.le_of_ble_eq_true rfl)
  rw [lg_entry_eq]
  generalize (lg_sl ([.ref (ad 10)]) ++ List.replicate (3 - (lg_sl ([.ref (ad 10)])).length) Slot.unset).toArray = ls at hl ⊢
  have hl : lv_has ls 3 [(0, .ref (ad 10))] := hl
  have hcut : ∀ nk : Nat, (∀ (x1 : Int32) (x2 : Int32) (c4_v25 : Int32) (H : Heap) (locs : List Loc) (hnb : (x2.toInt = 0 ∧ x1.toInt = 0) ∨ (x2.toInt = 1 ∧ 0 ≤ x1.toInt ∧ x1.toInt ≤ 9) ∨ (x2.toInt = 2 ∧ 0 ≤ x1.toInt ∧ x1.toInt ≤ 99) ∨ (x2.toInt = 3 ∧ 0 ≤ x1.toInt ∧ x1.toInt ≤ 999) ∨ (x2.toInt = 4 ∧ 0 ≤ x1.toInt ∧ x1.toInt ≤ 9999)) (hat : (v 25).toInt ≤ c4_v25.toInt) (jv25_0 : 0 ≤ c4_v25.toInt) (jv25_1 : c4_v25.toInt ≤ 120) (jv25_2 : c4_v25.toInt ≤ (v 24).toInt) (hmu : (4 - x2.toInt).toNat < nk) (hP : va_P D vwCl (CW cs ad fa fq rv (va_up v 25 c4_v25) a w fv fp) H) (hD : va_D A (CW cs ad fa fq rv (va_up v 25 c4_v25) a w fv fp)) (hS : va_S A s.heap H locs) (ls : Array Slot) (hl : lv_has ls 3 [(0, .ref (ad 10)), (1, .int x1), (2, .int x2)]), W p l e (headSpec (Cond.code yX7_readNumber cX7_readNumber 3 (some .boolean) :: gw) ({ frames := 1, cells := 0, slots := 0, locals := 21 })).room s m ([.ref (ad 10)] : List Value).toArray below meth c H locs 0 0 (MQ below (va_Qi (fun (r : Int32) (z : Int32 × Int32 × (Nat → Int32)) => (0 ≤ r.toInt) ∧ (r.toInt ≤ 1) ∧ ((v 25).toInt ≤ z.1.toInt) ∧ (0 ≤ z.1.toInt) ∧ (z.1.toInt ≤ 120) ∧ (z.1.toInt ≤ (v 24).toInt) ∧ (0 ≤ z.2.1.toInt) ∧ (z.2.1.toInt ≤ 256) ∧ (AB (-1000) 20000 z.2.2)) (XPo D (fun (z : Int32 × Int32 × (Nat → Int32)) => CW cs ad fa fq rv (va_up (va_up v 25 z.1) 26 z.2.1) (va_up a 19 z.2.2) w fv fp) A) A) ([.ref (ad 10)] : List Value).toArray s 0 0 A) (F0 m 4 ls [])) := by
    intro nk
    induction nk with
    | zero => exact (fun x1 x2 c4_v25 H locs hnb hat jv25_0 jv25_1 jv25_2 hmu hP hD hS ls hl => absurd hmu (Nat.not_lt_zero _))
    | succ nk ih =>
      intro x1 x2 c4_v25 H locs hnb hat jv25_0 jv25_1 jv25_2 hmu hP hD hS ls hl
      refine lv_iload_n hx hb dX7_readNumber_4 rfl (lv_at hl 2 rfl) ?_
      refine lv_iconst (v := 4) hx hb dX7_readNumber_5 (by decide) ?_
      refine lv_icmp_ge (tgt := 48) hx hb dX7_readNumber_6 (by decide) (fun c_1 => ?_) (fun c_1 => ?_)
      ·
        have kc_1 : (4 : Int) ≤ x2.toInt := i_le c_1
        refine lv_aload_n hx hb dX7_readNumber_48 rfl (lv_at hl 0 rfl) ?_
        refine lv_iload_n hx hb dX7_readNumber_49 rfl (lv_at hl 1 rfl) ?_
        refine cV_i (As := [.int x1]) (rest := []) ⟨hx, hb, hml, hown, hg⟩ (k_X7_write l D cs A ad fa fq rv (va_up v 25 c4_v25) a w fv fp  x1 hr0 hr1 (show -1000 ≤ x1.toInt by first | omega | decide) (show x1.toInt ≤ 20000 by first | omega | decide) (show 0 ≤ (v 26).toInt by first | omega | decide) (show (v 26).toInt ≤ 256 by first | omega | decide) ia19_0) ca_X7_write q3_102 ⟨rfl, rfl⟩ ⟨Nat.le_of_ble_eq_true rfl, Nat.le_of_ble_eq_true rfl⟩ (rc_reader hK hP) hK hP hD hS hZ rfl hl.1 rfl (Nat.le_of_ble_eq_true rfl) ⟨Nat.zero_le _, Nat.zero_le _⟩ dX7_readNumber_50 (fun r_2 z_5 H locs wr_2 hP hD hS => ?_)
        obtain ⟨o_v26_3, o_a19_4⟩ := z_5
        have hP : va_P D vwCl (CW cs ad fa fq rv (va_up (va_up v 25 c4_v25) 26 o_v26_3) (va_up a 19 o_a19_4) w fv fp) H := hP
        have hD : va_D A (CW cs ad fa fq rv (va_up (va_up v 25 c4_v25) 26 o_v26_3) (va_up a 19 o_a19_4) w fv fp) := hD
        obtain ⟨wr_2_0, wr_2_1, wr_2_2, wr_2_3, wr_2_4⟩ : (0 ≤ r_2.toInt) ∧ (r_2.toInt ≤ 1) ∧ (0 ≤ o_v26_3.toInt) ∧ (o_v26_3.toInt ≤ 256) ∧ (AB (-1000) 20000 o_a19_4) := wr_2
        exact W.zret (v := r_2) hx hb hr (i_nb (by omega) (by omega)) (fun tt ht hW => ⟨⟨r_2, ⟨c4_v25, o_v26_3, o_a19_4⟩, rfl, ⟨(by first | rfl | omega | trivial | assumption | (dsimp only; first | omega | assumption)), (by first | rfl | omega | trivial | assumption | (dsimp only; first | omega | assumption)), (by first | rfl | omega | trivial | assumption | (dsimp only; first | omega | assumption)), (show 0 ≤ c4_v25.toInt by first | omega | assumption), (show c4_v25.toInt ≤ 120 by first | omega | assumption), (show c4_v25.toInt ≤ (v 24).toInt by first | omega | assumption), (show 0 ≤ o_v26_3.toInt by first | omega | assumption), (show o_v26_3.toInt ≤ 256 by first | omega | assumption), wr_2_4⟩, by rw [ht]; exact hP, hD⟩, hS.F ht⟩) hS.2.2 dX7_readNumber_53
      ·
        have kc_1 : x2.toInt < (4 : Int) := i_nle c_1
        refine lv_aload_n hx hb dX7_readNumber_9 rfl (lv_at hl 0 rfl) ?_
        refine cV_ro (As := []) (rest := []) ⟨hx, hb, hml, hown, hg⟩ (k_X7_sign l D cs A ad fa fq rv (va_up v 25 c4_v25) a w fv fp   hr0 hr1 (show 0 ≤ (v 24).toInt by first | omega | decide) (show (v 24).toInt ≤ 120 by first | omega | decide) (show 0 ≤ c4_v25.toInt by first | omega | decide) (show c4_v25.toInt ≤ 120 by first | omega | decide) (show c4_v25.toInt ≤ (v 24).toInt by first | omega | decide)) ca_X7_sign q3_91 ⟨rfl, rfl⟩ ⟨Nat.le_of_ble_eq_true rfl, Nat.le_of_ble_eq_true rfl⟩ (rc_reader hK hP) hK hP hD hS hZ rfl hl.1 rfl (Nat.le_of_ble_eq_true rfl) ⟨Nat.zero_le _, Nat.zero_le _⟩ dX7_readNumber_10 (fun r_6 wr_6 => ?_)
        have wr_6_0 : (c4_v25.toInt < (v 24).toInt ∧ r_6.toInt = ((a 15) c4_v25.toNatClampNeg).toInt) ∨ ((v 24).toInt ≤ c4_v25.toInt ∧ r_6.toInt = -1) := wr_6
        refine cS_p (As := [.int r_6]) (rest := []) ⟨hx, hb, hml, hown, hg⟩ (k_X7_isDigit l   r_6 ) ca_X7_isDigit q3_95 ⟨rfl, rfl⟩ ⟨Nat.le_of_ble_eq_true rfl, Nat.le_of_ble_eq_true rfl⟩ rfl hl.1 rfl (Nat.le_of_ble_eq_true rfl) ⟨Nat.zero_le _, Nat.zero_le _⟩ dX7_readNumber_13 (fun r_7 wr_7 => ?_)
        have wr_7 : (r_7.toInt = 1 ∧ 48 ≤ r_6.toInt ∧ r_6.toInt ≤ 57) ∨ (r_7.toInt = 0 ∧ ¬ (48 ≤ r_6.toInt ∧ r_6.toInt ≤ 57)) := wr_7
        refine lv_if_eq (tgt := 48) hx hb dX7_readNumber_16 (by decide) (fun c_8 => ?_) (fun c_8 => ?_)
        ·
          have kc_8 : r_7.toInt = (0 : Int) := i_eq c_8
          refine lv_aload_n hx hb dX7_readNumber_48 rfl (lv_at hl 0 rfl) ?_
          refine lv_iload_n hx hb dX7_readNumber_49 rfl (lv_at hl 1 rfl) ?_
          refine cV_i (As := [.int x1]) (rest := []) ⟨hx, hb, hml, hown, hg⟩ (k_X7_write l D cs A ad fa fq rv (va_up v 25 c4_v25) a w fv fp  x1 hr0 hr1 (show -1000 ≤ x1.toInt by first | omega | decide) (show x1.toInt ≤ 20000 by first | omega | decide) (show 0 ≤ (v 26).toInt by first | omega | decide) (show (v 26).toInt ≤ 256 by first | omega | decide) ia19_0) ca_X7_write q3_102 ⟨rfl, rfl⟩ ⟨Nat.le_of_ble_eq_true rfl, Nat.le_of_ble_eq_true rfl⟩ (rc_reader hK hP) hK hP hD hS hZ rfl hl.1 rfl (Nat.le_of_ble_eq_true rfl) ⟨Nat.zero_le _, Nat.zero_le _⟩ dX7_readNumber_50 (fun r_9 z_12 H locs wr_9 hP hD hS => ?_)
          obtain ⟨o_v26_10, o_a19_11⟩ := z_12
          have hP : va_P D vwCl (CW cs ad fa fq rv (va_up (va_up v 25 c4_v25) 26 o_v26_10) (va_up a 19 o_a19_11) w fv fp) H := hP
          have hD : va_D A (CW cs ad fa fq rv (va_up (va_up v 25 c4_v25) 26 o_v26_10) (va_up a 19 o_a19_11) w fv fp) := hD
          obtain ⟨wr_9_0, wr_9_1, wr_9_2, wr_9_3, wr_9_4⟩ : (0 ≤ r_9.toInt) ∧ (r_9.toInt ≤ 1) ∧ (0 ≤ o_v26_10.toInt) ∧ (o_v26_10.toInt ≤ 256) ∧ (AB (-1000) 20000 o_a19_11) := wr_9
          exact W.zret (v := r_9) hx hb hr (i_nb (by omega) (by omega)) (fun tt ht hW => ⟨⟨r_9, ⟨c4_v25, o_v26_10, o_a19_11⟩, rfl, ⟨(by first | rfl | omega | trivial | assumption | (dsimp only; first | omega | assumption)), (by first | rfl | omega | trivial | assumption | (dsimp only; first | omega | assumption)), (by first | rfl | omega | trivial | assumption | (dsimp only; first | omega | assumption)), (show 0 ≤ c4_v25.toInt by first | omega | assumption), (show c4_v25.toInt ≤ 120 by first | omega | assumption), (show c4_v25.toInt ≤ (v 24).toInt by first | omega | assumption), (show 0 ≤ o_v26_10.toInt by first | omega | assumption), (show o_v26_10.toInt ≤ 256 by first | omega | assumption), wr_9_4⟩, by rw [ht]; exact hP, hD⟩, hS.F ht⟩) hS.2.2 dX7_readNumber_53
        ·
          have kc_8 : r_7.toInt ≠ (0 : Int) := i_ne c_8
          refine lv_iload_n hx hb dX7_readNumber_19 rfl (lv_at hl 1 rfl) ?_
          refine lv_bipush (v := 10) hx hb dX7_readNumber_20 (by decide) ?_
          refine lv_imul hx hb dX7_readNumber_22 ?_
          refine lv_topi (fun x_13 ex_13 => ?_)
          have fx_13 : x_13.toInt = x1.toInt * (10 : Int) := by rw [ex_13]; exact i_mul (by first | omega | (show _ ≤ x1.toInt * (10 : Int); omega)) (by first | omega | (show x1.toInt * (10 : Int) ≤ _; omega))
          refine lv_aload_n hx hb dX7_readNumber_23 rfl (lv_at hl 0 rfl) ?_
          refine cV_ro (As := []) (rest := [.int x_13]) ⟨hx, hb, hml, hown, hg⟩ (k_X7_sign l D cs A ad fa fq rv (va_up v 25 c4_v25) a w fv fp   hr0 hr1 (show 0 ≤ (v 24).toInt by first | omega | decide) (show (v 24).toInt ≤ 120 by first | omega | decide) (show 0 ≤ c4_v25.toInt by first | omega | decide) (show c4_v25.toInt ≤ 120 by first | omega | decide) (show c4_v25.toInt ≤ (v 24).toInt by first | omega | decide)) ca_X7_sign q3_91 ⟨rfl, rfl⟩ ⟨Nat.le_of_ble_eq_true rfl, Nat.le_of_ble_eq_true rfl⟩ (rc_reader hK hP) hK hP hD hS hZ rfl hl.1 rfl (Nat.le_of_ble_eq_true rfl) ⟨Nat.zero_le _, Nat.zero_le _⟩ dX7_readNumber_24 (fun r_14 wr_14 => ?_)
          have wr_14_0 : (c4_v25.toInt < (v 24).toInt ∧ r_14.toInt = ((a 15) c4_v25.toNatClampNeg).toInt) ∨ ((v 24).toInt ≤ c4_v25.toInt ∧ r_14.toInt = -1) := wr_14
          refine lv_iadd hx hb dX7_readNumber_27 ?_
          refine lv_topi (fun x_15 ex_15 => ?_)
          have fx_15 : x_15.toInt = x_13.toInt + r_14.toInt := by rw [ex_15]; exact i_add (by first | omega | (show (_ : Int) ≤ x_13.toInt + r_14.toInt; omega)) (by first | omega | (show x_13.toInt + r_14.toInt ≤ (_ : Int); omega))
          refine lv_bipush (v := 48) hx hb dX7_readNumber_28 (by decide) ?_
          refine lv_isub hx hb dX7_readNumber_30 ?_
          refine lv_topi (fun x_16 ex_16 => ?_)
          have fx_16 : x_16.toInt = x_15.toInt - (48 : Int) := by rw [ex_16]; exact i_sub (by first | omega | (show (_ : Int) ≤ x_15.toInt - (48 : Int); omega)) (by first | omega | (show x_15.toInt - (48 : Int) ≤ (_ : Int); omega))
          refine lv_istore_n (lv' := [(1, .int x_16), (0, .ref (ad 10)), (2, .int x2)]) hx hb dX7_readNumber_31 rfl hl (by decide) rfl (fun ls hl => ?_)
          refine lv_aload_n hx hb dX7_readNumber_32 rfl (lv_at hl 1 rfl) ?_
          refine lv_dup hx hb dX7_readNumber_33 rfl ?_
          refine gf_reader_at hx hb hg hown hK hP (x := c4_v25) rfl (hg _ q1_157) dX7_readNumber_34 ?_
          refine lv_iconst (v := 1) hx hb dX7_readNumber_37 (by decide) ?_
          refine lv_iadd hx hb dX7_readNumber_38 ?_
          refine lv_topi (fun x_17 ex_17 => ?_)
          have fx_17 : x_17.toInt = c4_v25.toInt + (1 : Int) := by rw [ex_17]; exact i_add (by first | omega | (show (_ : Int) ≤ c4_v25.toInt + (1 : Int); omega)) (by first | omega | (show c4_v25.toInt + (1 : Int) ≤ (_ : Int); omega))
          refine pf_reader_at hx hb hg hown hK hP hD hS (hg _ q1_157) dX7_readNumber_39 (fun H locs hP hD hS => ?_)
          obtain ⟨x_18, ex_18⟩ : ∃ y : Int32, y = x2 + 1 := ⟨_, rfl⟩
          have fx_18 : x_18.toInt = x2.toInt + 1 := by rw [ex_18]; exact i_add (by first | omega | (show (_ : Int) ≤ x2.toInt + 1; omega)) (by first | omega | (show x2.toInt + 1 ≤ (_ : Int); omega))
          refine lv_iinc (v := x_18) (lv' := [(2, .int x_18), (1, .int x_16), (0, .ref (ad 10))]) hx hb dX7_readNumber_42 hl (k := 2) rfl (by rw [ex_18]; rfl) (by decide) rfl (fun ls hl => ?_)
          refine lv_goto (tgt := 4) hx hb dX7_readNumber_45 (by decide) ?_
          exact ih x_16 x_18 x_17 _ _ (by omega) (by omega) (show 0 ≤ x_17.toInt by first | omega | assumption) (show x_17.toInt ≤ 120 by first | omega | assumption) (show x_17.toInt ≤ (v 24).toInt by first | omega | assumption) (by omega) hP hD hS ls (lv_sub hl [2, 1, 0] rfl)
  refine lv_iconst (v := 0) hx hb dX7_readNumber_0 (by decide) ?_
  refine lv_istore_n (lv' := [(1, .int 0), (0, .ref (ad 10))]) hx hb dX7_readNumber_1 rfl hl (by decide) rfl (fun ls hl => ?_)
  refine lv_iconst (v := 0) hx hb dX7_readNumber_2 (by decide) ?_
  refine lv_istore_n (lv' := [(2, .int 0), (1, .int 0), (0, .ref (ad 10))]) hx hb dX7_readNumber_3 rfl hl (by decide) rfl (fun ls hl => ?_)
  have q0_0 : (0 : Int32).toInt = 0 := rfl
  exact (hcut (((4 - (0 : Int32).toInt).toNat) + 1)) 0 0 (v 25) _ _ (by omega) (by omega) (show 0 ≤ (v 25).toInt by first | omega | assumption) (show (v 25).toInt ≤ 120 by first | omega | assumption) (show (v 25).toInt ≤ (v 24).toInt by first | omega | assumption) (Nat.lt_succ_self _) hP hD hS ls (lv_sub hl [2, 1, 0] rfl)
def C_X7_readOne (n : Nat) : Prop := ∀ (l : Launch) (D : va_G) (cs : Nat → ClassId) (A : Nat → Prop) (ad fa fq rv : Nat → Nat) (v : Nat → Int32) (a : Nat → Nat → Int32) (w : Nat → Nat → Int64) (fv fp : Nat → Nat → Int32)  (p1 : Int32) (hr0 : rv 0 = ad 15) (hr1 : rv 1 = ad 19) (ho0 : 0 ≤ p1.toInt) (ho6 : p1.toInt ≤ 6) (hon : 6 ≤ p1.toInt + (n : Int)) (iv24_0 : 0 ≤ (v 24).toInt) (iv24_1 : (v 24).toInt ≤ 120) (iv25_0 : 0 ≤ (v 25).toInt) (iv25_1 : (v 25).toInt ≤ 120) (iv25_2 : (v 25).toInt ≤ (v 24).toInt) (iv26_0 : 0 ≤ (v 26).toInt) (iv26_1 : (v 26).toInt ≤ 256) (ia19_0 : AB (-1000) 20000 (a 19)), Met l yX7_readOne (Cond.code yX7_readOne cX7_readOne 4 (some .boolean) :: gw) ({ frames := 10 * n + 6, cells := 0, slots := 0, locals := 300 * n + 250 }) (va_Pc [.ref (ad 10), .int p1] (XPre D (TY cs) (CW cs ad fa fq rv v a w fv fp) A)) (va_Qi (fun (r : Int32) (z : Int32 × Int32 × (Nat → Int32)) => (0 ≤ r.toInt) ∧ (r.toInt ≤ 1) ∧ ((v 25).toInt ≤ z.1.toInt) ∧ (0 ≤ z.1.toInt) ∧ (z.1.toInt ≤ 120) ∧ (z.1.toInt ≤ (v 24).toInt) ∧ (0 ≤ z.2.1.toInt) ∧ (z.2.1.toInt ≤ 256) ∧ (AB (-1000) 20000 z.2.2)) (XPo D (fun (z : Int32 × Int32 × (Nat → Int32)) => CW cs ad fa fq rv (va_up (va_up v 25 z.1) 26 z.2.1) (va_up a 19 z.2.2) w fv fp) A) A) 0 0 A
def C_X7_readProduct (n : Nat) : Prop := ∀ (l : Launch) (D : va_G) (cs : Nat → ClassId) (A : Nat → Prop) (ad fa fq rv : Nat → Nat) (v : Nat → Int32) (a : Nat → Nat → Int32) (w : Nat → Nat → Int64) (fv fp : Nat → Nat → Int32)  (p1 : Int32) (hr0 : rv 0 = ad 15) (hr1 : rv 1 = ad 19) (ho0 : 0 ≤ p1.toInt) (ho6 : p1.toInt ≤ 6) (hon : 6 ≤ p1.toInt + (n : Int)) (iv24_0 : 0 ≤ (v 24).toInt) (iv24_1 : (v 24).toInt ≤ 120) (iv25_0 : 0 ≤ (v 25).toInt) (iv25_1 : (v 25).toInt ≤ 120) (iv25_2 : (v 25).toInt ≤ (v 24).toInt) (iv26_0 : 0 ≤ (v 26).toInt) (iv26_1 : (v 26).toInt ≤ 256) (ia19_0 : AB (-1000) 20000 (a 19)), Met l yX7_readProduct (Cond.code yX7_readProduct cX7_readProduct 3 (some .boolean) :: gw) ({ frames := 10 * n + 7, cells := 0, slots := 0, locals := 300 * n + 280 }) (va_Pc [.ref (ad 10), .int p1] (XPre D (TY cs) (CW cs ad fa fq rv v a w fv fp) A)) (va_Qi (fun (r : Int32) (z : Int32 × Int32 × (Nat → Int32)) => (0 ≤ r.toInt) ∧ (r.toInt ≤ 1) ∧ ((v 25).toInt ≤ z.1.toInt) ∧ (0 ≤ z.1.toInt) ∧ (z.1.toInt ≤ 120) ∧ (z.1.toInt ≤ (v 24).toInt) ∧ (0 ≤ z.2.1.toInt) ∧ (z.2.1.toInt ≤ 256) ∧ (AB (-1000) 20000 z.2.2)) (XPo D (fun (z : Int32 × Int32 × (Nat → Int32)) => CW cs ad fa fq rv (va_up (va_up v 25 z.1) 26 z.2.1) (va_up a 19 z.2.2) w fv fp) A) A) 0 0 A
def C_X7_readSum (n : Nat) : Prop := ∀ (l : Launch) (D : va_G) (cs : Nat → ClassId) (A : Nat → Prop) (ad fa fq rv : Nat → Nat) (v : Nat → Int32) (a : Nat → Nat → Int32) (w : Nat → Nat → Int64) (fv fp : Nat → Nat → Int32)  (p1 : Int32) (hr0 : rv 0 = ad 15) (hr1 : rv 1 = ad 19) (ho0 : 0 ≤ p1.toInt) (ho6 : p1.toInt ≤ 6) (hon : 6 ≤ p1.toInt + (n : Int)) (iv24_0 : 0 ≤ (v 24).toInt) (iv24_1 : (v 24).toInt ≤ 120) (iv25_0 : 0 ≤ (v 25).toInt) (iv25_1 : (v 25).toInt ≤ 120) (iv25_2 : (v 25).toInt ≤ (v 24).toInt) (iv26_0 : 0 ≤ (v 26).toInt) (iv26_1 : (v 26).toInt ≤ 256) (ia19_0 : AB (-1000) 20000 (a 19)), Met l yX7_readSum (Cond.code yX7_readSum cX7_readSum 3 (some .boolean) :: gw) ({ frames := 10 * n + 8, cells := 0, slots := 0, locals := 300 * n + 310 }) (va_Pc [.ref (ad 10), .int p1] (XPre D (TY cs) (CW cs ad fa fq rv v a w fv fp) A)) (va_Qi (fun (r : Int32) (z : Int32 × Int32 × (Nat → Int32)) => (0 ≤ r.toInt) ∧ (r.toInt ≤ 1) ∧ ((v 25).toInt ≤ z.1.toInt) ∧ (0 ≤ z.1.toInt) ∧ (z.1.toInt ≤ 120) ∧ (z.1.toInt ≤ (v 24).toInt) ∧ (0 ≤ z.2.1.toInt) ∧ (z.2.1.toInt ≤ 256) ∧ (AB (-1000) 20000 z.2.2)) (XPo D (fun (z : Int32 × Int32 × (Nat → Int32)) => CW cs ad fa fq rv (va_up (va_up v 25 z.1) 26 z.2.1) (va_up a 19 z.2.2) w fv fp) A) A) 0 0 A
def C_X7_readCompared (n : Nat) : Prop := ∀ (l : Launch) (D : va_G) (cs : Nat → ClassId) (A : Nat → Prop) (ad fa fq rv : Nat → Nat) (v : Nat → Int32) (a : Nat → Nat → Int32) (w : Nat → Nat → Int64) (fv fp : Nat → Nat → Int32)  (p1 : Int32) (hr0 : rv 0 = ad 15) (hr1 : rv 1 = ad 19) (ho0 : 0 ≤ p1.toInt) (ho6 : p1.toInt ≤ 6) (hon : 6 ≤ p1.toInt + (n : Int)) (iv24_0 : 0 ≤ (v 24).toInt) (iv24_1 : (v 24).toInt ≤ 120) (iv25_0 : 0 ≤ (v 25).toInt) (iv25_1 : (v 25).toInt ≤ 120) (iv25_2 : (v 25).toInt ≤ (v 24).toInt) (iv26_0 : 0 ≤ (v 26).toInt) (iv26_1 : (v 26).toInt ≤ 256) (ia19_0 : AB (-1000) 20000 (a 19)), Met l yX7_readCompared (Cond.code yX7_readCompared cX7_readCompared 3 (some .boolean) :: gw) ({ frames := 10 * n + 9, cells := 0, slots := 0, locals := 300 * n + 340 }) (va_Pc [.ref (ad 10), .int p1] (XPre D (TY cs) (CW cs ad fa fq rv v a w fv fp) A)) (va_Qi (fun (r : Int32) (z : Int32 × Int32 × (Nat → Int32)) => (0 ≤ r.toInt) ∧ (r.toInt ≤ 1) ∧ ((v 25).toInt ≤ z.1.toInt) ∧ (0 ≤ z.1.toInt) ∧ (z.1.toInt ≤ 120) ∧ (z.1.toInt ≤ (v 24).toInt) ∧ (0 ≤ z.2.1.toInt) ∧ (z.2.1.toInt ≤ 256) ∧ (AB (-1000) 20000 z.2.2)) (XPo D (fun (z : Int32 × Int32 × (Nat → Int32)) => CW cs ad fa fq rv (va_up (va_up v 25 z.1) 26 z.2.1) (va_up a 19 z.2.2) w fv fp) A) A) 0 0 A
def C_X7_readBoth (n : Nat) : Prop := ∀ (l : Launch) (D : va_G) (cs : Nat → ClassId) (A : Nat → Prop) (ad fa fq rv : Nat → Nat) (v : Nat → Int32) (a : Nat → Nat → Int32) (w : Nat → Nat → Int64) (fv fp : Nat → Nat → Int32)  (p1 : Int32) (hr0 : rv 0 = ad 15) (hr1 : rv 1 = ad 19) (ho0 : 0 ≤ p1.toInt) (ho6 : p1.toInt ≤ 6) (hon : 6 ≤ p1.toInt + (n : Int)) (iv24_0 : 0 ≤ (v 24).toInt) (iv24_1 : (v 24).toInt ≤ 120) (iv25_0 : 0 ≤ (v 25).toInt) (iv25_1 : (v 25).toInt ≤ 120) (iv25_2 : (v 25).toInt ≤ (v 24).toInt) (iv26_0 : 0 ≤ (v 26).toInt) (iv26_1 : (v 26).toInt ≤ 256) (ia19_0 : AB (-1000) 20000 (a 19)), Met l yX7_readBoth (Cond.code yX7_readBoth cX7_readBoth 2 (some .boolean) :: gw) ({ frames := 10 * n + 10, cells := 0, slots := 0, locals := 300 * n + 370 }) (va_Pc [.ref (ad 10), .int p1] (XPre D (TY cs) (CW cs ad fa fq rv v a w fv fp) A)) (va_Qi (fun (r : Int32) (z : Int32 × Int32 × (Nat → Int32)) => (0 ≤ r.toInt) ∧ (r.toInt ≤ 1) ∧ ((v 25).toInt ≤ z.1.toInt) ∧ (0 ≤ z.1.toInt) ∧ (z.1.toInt ≤ 120) ∧ (z.1.toInt ≤ (v 24).toInt) ∧ (0 ≤ z.2.1.toInt) ∧ (z.2.1.toInt ≤ 256) ∧ (AB (-1000) 20000 z.2.2)) (XPo D (fun (z : Int32 × Int32 × (Nat → Int32)) => CW cs ad fa fq rv (va_up (va_up v 25 z.1) 26 z.2.1) (va_up a 19 z.2.2) w fv fp) A) A) 0 0 A
def C_X7_readEither (n : Nat) : Prop := ∀ (l : Launch) (D : va_G) (cs : Nat → ClassId) (A : Nat → Prop) (ad fa fq rv : Nat → Nat) (v : Nat → Int32) (a : Nat → Nat → Int32) (w : Nat → Nat → Int64) (fv fp : Nat → Nat → Int32)  (p1 : Int32) (hr0 : rv 0 = ad 15) (hr1 : rv 1 = ad 19) (ho0 : 0 ≤ p1.toInt) (ho6 : p1.toInt ≤ 6) (hon : 6 ≤ p1.toInt + (n : Int)) (iv24_0 : 0 ≤ (v 24).toInt) (iv24_1 : (v 24).toInt ≤ 120) (iv25_0 : 0 ≤ (v 25).toInt) (iv25_1 : (v 25).toInt ≤ 120) (iv25_2 : (v 25).toInt ≤ (v 24).toInt) (iv26_0 : 0 ≤ (v 26).toInt) (iv26_1 : (v 26).toInt ≤ 256) (ia19_0 : AB (-1000) 20000 (a 19)), Met l yX7_readEither (Cond.code yX7_readEither cX7_readEither 2 (some .boolean) :: gw) ({ frames := 10 * n + 11, cells := 0, slots := 0, locals := 300 * n + 400 }) (va_Pc [.ref (ad 10), .int p1] (XPre D (TY cs) (CW cs ad fa fq rv v a w fv fp) A)) (va_Qi (fun (r : Int32) (z : Int32 × Int32 × (Nat → Int32)) => (0 ≤ r.toInt) ∧ (r.toInt ≤ 1) ∧ ((v 25).toInt ≤ z.1.toInt) ∧ (0 ≤ z.1.toInt) ∧ (z.1.toInt ≤ 120) ∧ (z.1.toInt ≤ (v 24).toInt) ∧ (0 ≤ z.2.1.toInt) ∧ (z.2.1.toInt ≤ 256) ∧ (AB (-1000) 20000 z.2.2)) (XPo D (fun (z : Int32 × Int32 × (Nat → Int32)) => CW cs ad fa fq rv (va_up (va_up v 25 z.1) 26 z.2.1) (va_up a 19 z.2.2) w fv fp) A) A) 0 0 A
set_option maxHeartbeats 4000000 in
set_option maxRecDepth 100000 in
theorem s_X7_readOne (n : Nat) (hE : ∀ k, k + 1 = n → C_X7_readEither k) (hO : ∀ k, k + 1 = n → C_X7_readOne k) : C_X7_readOne n := by
  intro l D cs A ad fa fq rv v a w fv fp p1 hr0 hr1 ho0 ho6 hon iv24_0 iv24_1 iv25_0 iv25_1 iv25_2 iv26_0 iv26_1 ia19_0
  refine Met.ofW (cc := cX7_readOne) (maxL := 4) (ret := (some .boolean)) (by decide) rfl ?_
  intro p e s m args below meth c s₁ B hml hv
  obtain ⟨rfl, hP, hK, hD, hZ⟩ := hv
  have hx := B.exec
  have hb := B.bytes
  have hr := B.returns
  have hts := atoms_spec (ws := (Cond.code yX7_readOne cX7_readOne 4 (some .boolean) :: gw)) B.pre
  have hg : ∀ w ∈ gw, w.before ([.ref (ad 10), .int p1] : List Value).toArray s = true := fun w h => hts w (List.mem_cons_of_mem _ h)
  have hown : s.vm.findClass RX7 = some m.cls := findClass_of_methodNamed B.named
  have hlocks := B.notSynchronized
  have hS : va_S A s.heap s.heap [] := va_S.rf
  have hP : va_P D vwCl (CW cs ad fa fq rv v a w fv fp) s.heap := hP
  have hl := lv_entry ([.ref (ad 10), .int p1]) (n := 4) (Nat.le_of_ble_eq_true rfl)
  rw [lg_entry_eq]
  generalize (lg_sl ([.ref (ad 10), .int p1]) ++ List.replicate (4 - (lg_sl ([.ref (ad 10), .int p1])).length) Slot.unset).toArray = ls at hl ⊢
  have hl : lv_has ls 4 [(0, .ref (ad 10)), (1, .int p1)] := hl
  refine lv_aload_n hx hb dX7_readOne_0 rfl (lv_at hl 0 rfl) ?_
  refine cV_ro (As := []) (rest := []) ⟨hx, hb, hml, hown, hg⟩ (k_X7_sign l D cs A ad fa fq rv v a w fv fp   hr0 hr1 (show 0 ≤ (v 24).toInt by first | omega | decide) (show (v 24).toInt ≤ 120 by first | omega | decide) (show 0 ≤ (v 25).toInt by first | omega | decide) (show (v 25).toInt ≤ 120 by first | omega | decide) (show (v 25).toInt ≤ (v 24).toInt by first | omega | decide)) ca_X7_sign q3_91 ⟨rfl, rfl⟩ ⟨(show 0 + 1 ≤ 10 * n + 6 by omega), (show 8 + (1 + 11) + (0) ≤ 300 * n + 250 by omega)⟩ (rc_reader hK hP) hK hP hD hS hZ rfl hl.1 rfl (Nat.le_of_ble_eq_true rfl) ⟨Nat.zero_le _, Nat.zero_le _⟩ dX7_readOne_1 (fun r_1 wr_1 => ?_)
  have wr_1_0 : ((v 25).toInt < (v 24).toInt ∧ r_1.toInt = ((a 15) (v 25).toNatClampNeg).toInt) ∨ ((v 24).toInt ≤ (v 25).toInt ∧ r_1.toInt = -1) := wr_1
  refine lv_istore_n (lv' := [(2, .int r_1), (0, .ref (ad 10)), (1, .int p1)]) hx hb dX7_readOne_4 rfl hl (by decide) rfl (fun ls hl => ?_)
  refine lv_iload_n hx hb dX7_readOne_5 rfl (lv_at hl 0 rfl) ?_
  refine cS_p (As := [.int r_1]) (rest := []) ⟨hx, hb, hml, hown, hg⟩ (k_X7_isDigit l   r_1 ) ca_X7_isDigit q3_95 ⟨rfl, rfl⟩ ⟨(show 0 + 1 ≤ 10 * n + 6 by omega), (show 8 + (1 + 11) + (0) ≤ 300 * n + 250 by omega)⟩ rfl hl.1 rfl (Nat.le_of_ble_eq_true rfl) ⟨Nat.zero_le _, Nat.zero_le _⟩ dX7_readOne_6 (fun r_2 wr_2 => ?_)
  have wr_2 : (r_2.toInt = 1 ∧ 48 ≤ r_1.toInt ∧ r_1.toInt ≤ 57) ∨ (r_2.toInt = 0 ∧ ¬ (48 ≤ r_1.toInt ∧ r_1.toInt ≤ 57)) := wr_2
  refine lv_if_eq (tgt := 17) hx hb dX7_readOne_9 (by decide) (fun c_3 => ?_) (fun c_3 => ?_)
  ·
    have kc_3 : r_2.toInt = (0 : Int) := i_eq c_3
    refine lv_iload_n hx hb dX7_readOne_17 rfl (lv_at hl 0 rfl) ?_
    refine cS_p (As := [.int r_1]) (rest := []) ⟨hx, hb, hml, hown, hg⟩ (k_X7_nameOf l   r_1 ) ca_X7_nameOf q3_106 ⟨rfl, rfl⟩ ⟨(show 0 + 1 ≤ 10 * n + 6 by omega), (show 8 + (1 + 11) + (0) ≤ 300 * n + 250 by omega)⟩ rfl hl.1 rfl (Nat.le_of_ble_eq_true rfl) ⟨Nat.zero_le _, Nat.zero_le _⟩ dX7_readOne_18 (fun r_4 wr_4 => ?_)
    have wr_4 : (0 ≤ r_4.toInt ∧ r_4.toInt ≤ 5 ∧ r_1.toInt ≠ -1) ∨ r_4.toInt = -1 := wr_4
    refine lv_istore_n (lv' := [(3, .int r_4), (2, .int r_1), (0, .ref (ad 10)), (1, .int p1)]) hx hb dX7_readOne_21 rfl hl (by decide) rfl (fun ls hl => ?_)
    refine lv_iload_n hx hb dX7_readOne_22 rfl (lv_at hl 0 rfl) ?_
    refine lv_iconst (v := (-1)) hx hb dX7_readOne_23 (by decide) ?_
    refine lv_icmp_eq (tgt := 47) hx hb dX7_readOne_24 (by decide) (fun c_5 => ?_) (fun c_5 => ?_)
    ·
      have kc_5 : r_4.toInt = (-1 : Int) := i_eq c_5
      refine lv_iload_n hx hb dX7_readOne_47 rfl (lv_at hl 3 rfl) ?_
      refine lv_bipush (v := 6) hx hb dX7_readOne_48 (by decide) ?_
      refine lv_icmp_ge (tgt := 71) hx hb dX7_readOne_50 (by decide) (fun c_6 => ?_) (fun c_6 => ?_)
      ·
        have kc_6 : (6 : Int) ≤ p1.toInt := i_le c_6
        refine lv_iconst (v := 0) hx hb dX7_readOne_71 (by decide) ?_
        have q0_0 : (0 : Int32).toInt = 0 := rfl
        have hP : va_P D vwCl (CW cs ad fa fq rv (va_up (va_up v 25 (v 25)) 26 (v 26)) (va_up a 19 (a 19)) w fv fp) _ := hP
        have hD : va_D A (CW cs ad fa fq rv (va_up (va_up v 25 (v 25)) 26 (v 26)) (va_up a 19 (a 19)) w fv fp) := hD
        exact W.zret (v := 0) hx hb hr rfl (fun tt ht hW => ⟨⟨0, ⟨(v 25), (v 26), (a 19)⟩, rfl, ⟨(by first | rfl | omega | trivial | assumption | (dsimp only; first | omega | assumption)), (by first | rfl | omega | trivial | assumption | (dsimp only; first | omega | assumption)), (by first | rfl | omega | trivial | assumption | (dsimp only; first | omega | assumption)), (show 0 ≤ (v 25).toInt by first | omega | assumption), (show (v 25).toInt ≤ 120 by first | omega | assumption), (show (v 25).toInt ≤ (v 24).toInt by first | omega | assumption), (show 0 ≤ (v 26).toInt by first | omega | assumption), (show (v 26).toInt ≤ 256 by first | omega | assumption), ia19_0⟩, by rw [ht]; exact hP, hD⟩, hS.F ht⟩) hS.2.2 dX7_readOne_72
      ·
        have kc_6 : p1.toInt < (6 : Int) := i_nle c_6
        refine lv_iload_n hx hb dX7_readOne_53 rfl (lv_at hl 1 rfl) ?_
        refine lv_bipush (v := 33) hx hb dX7_readOne_54 (by decide) ?_
        refine lv_icmp_eq (tgt := 73) hx hb dX7_readOne_56 (by decide) (fun c_7 => ?_) (fun c_7 => ?_)
        ·
          have kc_7 : r_1.toInt = (33 : Int) := i_eq c_7
          refine lv_aload_n hx hb dX7_readOne_73 rfl (lv_at hl 2 rfl) ?_
          refine lv_dup hx hb dX7_readOne_74 rfl ?_
          refine gf_reader_at hx hb hg hown hK hP (x := (v 25)) rfl (hg _ q1_157) dX7_readOne_75 ?_
          refine lv_iconst (v := 1) hx hb dX7_readOne_78 (by decide) ?_
          refine lv_iadd hx hb dX7_readOne_79 ?_
          refine lv_topi (fun x_8 ex_8 => ?_)
          have fx_8 : x_8.toInt = (v 25).toInt + (1 : Int) := by rw [ex_8]; exact i_add (by first | omega | (show (_ : Int) ≤ (v 25).toInt + (1 : Int); omega)) (by first | omega | (show (v 25).toInt + (1 : Int) ≤ (_ : Int); omega))
          refine pf_reader_at hx hb hg hown hK hP hD hS (hg _ q1_157) dX7_readOne_80 (fun H locs hP hD hS => ?_)
          refine lv_iload_n hx hb dX7_readOne_83 rfl (lv_at hl 1 rfl) ?_
          refine lv_bipush (v := 40) hx hb dX7_readOne_84 (by decide) ?_
          refine lv_icmp_ne (tgt := 114) hx hb dX7_readOne_86 (by decide) (fun c_9 => ?_) (fun c_9 => ?_)
          ·
            have kc_9 : r_1.toInt ≠ (40 : Int) := i_ne c_9
            refine lv_aload_n hx hb dX7_readOne_114 rfl (lv_at hl 2 rfl) ?_
            refine lv_iload_n hx hb dX7_readOne_115 rfl (lv_at hl 3 rfl) ?_
            refine lv_iconst (v := 1) hx hb dX7_readOne_116 (by decide) ?_
            refine lv_iadd hx hb dX7_readOne_117 ?_
            refine lv_topi (fun x_10 ex_10 => ?_)
            have fx_10 : x_10.toInt = p1.toInt + (1 : Int) := by rw [ex_10]; exact i_add (by first | omega | (show (_ : Int) ≤ p1.toInt + (1 : Int); omega)) (by first | omega | (show p1.toInt + (1 : Int) ≤ (_ : Int); omega))
            refine cV_i (As := [.int x_10]) (rest := []) ⟨hx, hb, hml, hown, hg⟩ ((hO (n - 1) (by omega)) l D cs A ad fa fq rv (va_up v 25 x_8) a w fv fp  x_10 hr0 hr1 (show 0 ≤ x_10.toInt by first | omega | decide) (show x_10.toInt ≤ 6 by first | omega | decide) (show 6 ≤ x_10.toInt + ((n - 1 : Nat) : Int) by first | omega | decide) (show 0 ≤ (v 24).toInt by first | omega | decide) (show (v 24).toInt ≤ 120 by first | omega | decide) (show 0 ≤ x_8.toInt by first | omega | decide) (show x_8.toInt ≤ 120 by first | omega | decide) (show x_8.toInt ≤ (v 24).toInt by first | omega | decide) (show 0 ≤ (v 26).toInt by first | omega | decide) (show (v 26).toInt ≤ 256 by first | omega | decide) ia19_0) ca_X7_readOne q3_87 ⟨rfl, rfl⟩ ⟨(show 10 * (n - 1) + 6 + 1 ≤ 10 * n + 6 by omega), (show 8 + (4 + 11) + (300 * (n - 1) + 250) ≤ 300 * n + 250 by omega)⟩ (rc_reader hK hP) hK hP hD hS hZ rfl hl.1 rfl (Nat.le_of_ble_eq_true rfl) ⟨Nat.zero_le _, Nat.zero_le _⟩ dX7_readOne_118 (fun r_11 z_15 H locs wr_11 hP hD hS => ?_)
            obtain ⟨o_v25_12, o_v26_13, o_a19_14⟩ := z_15
            have hP : va_P D vwCl (CW cs ad fa fq rv (va_up (va_up v 25 o_v25_12) 26 o_v26_13) (va_up a 19 o_a19_14) w fv fp) H := hP
            have hD : va_D A (CW cs ad fa fq rv (va_up (va_up v 25 o_v25_12) 26 o_v26_13) (va_up a 19 o_a19_14) w fv fp) := hD
            obtain ⟨wr_11_0, wr_11_1, wr_11_2, wr_11_3, wr_11_4, wr_11_5, wr_11_6, wr_11_7, wr_11_8⟩ : (0 ≤ r_11.toInt) ∧ (r_11.toInt ≤ 1) ∧ (x_8.toInt ≤ o_v25_12.toInt) ∧ (0 ≤ o_v25_12.toInt) ∧ (o_v25_12.toInt ≤ 120) ∧ (o_v25_12.toInt ≤ (v 24).toInt) ∧ (0 ≤ o_v26_13.toInt) ∧ (o_v26_13.toInt ≤ 256) ∧ (AB (-1000) 20000 o_a19_14) := wr_11
            refine lv_if_eq (tgt := 148) hx hb dX7_readOne_121 (by decide) (fun c_16 => ?_) (fun c_16 => ?_)
            ·
              have kc_16 : r_11.toInt = (0 : Int) := i_eq c_16
              refine lv_iconst (v := 0) hx hb dX7_readOne_148 (by decide) ?_
              have q0_0 : (0 : Int32).toInt = 0 := rfl
              exact W.zret (v := 0) hx hb hr rfl (fun tt ht hW => ⟨⟨0, ⟨o_v25_12, o_v26_13, o_a19_14⟩, rfl, ⟨(by first | rfl | omega | trivial | assumption | (dsimp only; first | omega | assumption)), (by first | rfl | omega | trivial | assumption | (dsimp only; first | omega | assumption)), (by first | rfl | omega | trivial | assumption | (dsimp only; first | omega | assumption)), (show 0 ≤ o_v25_12.toInt by first | omega | assumption), (show o_v25_12.toInt ≤ 120 by first | omega | assumption), (show o_v25_12.toInt ≤ (v 24).toInt by first | omega | assumption), (show 0 ≤ o_v26_13.toInt by first | omega | assumption), (show o_v26_13.toInt ≤ 256 by first | omega | assumption), wr_11_8⟩, by rw [ht]; exact hP, hD⟩, hS.F ht⟩) hS.2.2 dX7_readOne_149
            ·
              have kc_16 : r_11.toInt ≠ (0 : Int) := i_ne c_16
              refine lv_aload_n hx hb dX7_readOne_124 rfl (lv_at hl 2 rfl) ?_
              refine lv_iload_n hx hb dX7_readOne_125 rfl (lv_at hl 1 rfl) ?_
              refine lv_bipush (v := 33) hx hb dX7_readOne_126 (by decide) ?_
              refine lv_icmp_ne (tgt := 136) hx hb dX7_readOne_128 (by decide) (fun c_17 => ?_) (fun c_17 => ?_)
              ·
                have kc_17 : r_1.toInt ≠ (33 : Int) := i_ne c_17
                exfalso; omega
              ·
                have kc_17 : r_1.toInt = (33 : Int) := i_eq c_17
                refine lv_bipush (v := (-33)) hx hb dX7_readOne_131 (by decide) ?_
                refine lv_goto (tgt := 138) hx hb dX7_readOne_133 (by decide) ?_
                refine cV_i (As := [.int (-33)]) (rest := []) ⟨hx, hb, hml, hown, hg⟩ (k_X7_write l D cs A ad fa fq rv (va_up (va_up v 25 o_v25_12) 26 o_v26_13) (va_up a 19 o_a19_14) w fv fp  (-33) hr0 hr1 (show -1000 ≤ (-33 : Int) by first | omega | decide) (show (-33 : Int) ≤ 20000 by first | omega | decide) (show 0 ≤ o_v26_13.toInt by first | omega | decide) (show o_v26_13.toInt ≤ 256 by first | omega | decide) wr_11_8) ca_X7_write q3_102 ⟨rfl, rfl⟩ ⟨(show 0 + 1 ≤ 10 * n + 6 by omega), (show 8 + (2 + 11) + (0) ≤ 300 * n + 250 by omega)⟩ (rc_reader hK hP) hK hP hD hS hZ rfl hl.1 rfl (Nat.le_of_ble_eq_true rfl) ⟨Nat.zero_le _, Nat.zero_le _⟩ dX7_readOne_138 (fun r_18 z_21 H locs wr_18 hP hD hS => ?_)
                obtain ⟨o_v26_19, o_a19_20⟩ := z_21
                have hP : va_P D vwCl (CW cs ad fa fq rv (va_up (va_up v 25 o_v25_12) 26 o_v26_19) (va_up a 19 o_a19_20) w fv fp) H := hP
                have hD : va_D A (CW cs ad fa fq rv (va_up (va_up v 25 o_v25_12) 26 o_v26_19) (va_up a 19 o_a19_20) w fv fp) := hD
                obtain ⟨wr_18_0, wr_18_1, wr_18_2, wr_18_3, wr_18_4⟩ : (0 ≤ r_18.toInt) ∧ (r_18.toInt ≤ 1) ∧ (0 ≤ o_v26_19.toInt) ∧ (o_v26_19.toInt ≤ 256) ∧ (AB (-1000) 20000 o_a19_20) := wr_18
                refine lv_if_eq (tgt := 148) hx hb dX7_readOne_141 (by decide) (fun c_22 => ?_) (fun c_22 => ?_)
                ·
                  have kc_22 : r_18.toInt = (0 : Int) := i_eq c_22
                  refine lv_iconst (v := 0) hx hb dX7_readOne_148 (by decide) ?_
                  have q0_0 : (0 : Int32).toInt = 0 := rfl
                  exact W.zret (v := 0) hx hb hr rfl (fun tt ht hW => ⟨⟨0, ⟨o_v25_12, o_v26_19, o_a19_20⟩, rfl, ⟨(by first | rfl | omega | trivial | assumption | (dsimp only; first | omega | assumption)), (by first | rfl | omega | trivial | assumption | (dsimp only; first | omega | assumption)), (by first | rfl | omega | trivial | assumption | (dsimp only; first | omega | assumption)), (show 0 ≤ o_v25_12.toInt by first | omega | assumption), (show o_v25_12.toInt ≤ 120 by first | omega | assumption), (show o_v25_12.toInt ≤ (v 24).toInt by first | omega | assumption), (show 0 ≤ o_v26_19.toInt by first | omega | assumption), (show o_v26_19.toInt ≤ 256 by first | omega | assumption), wr_18_4⟩, by rw [ht]; exact hP, hD⟩, hS.F ht⟩) hS.2.2 dX7_readOne_149
                ·
                  have kc_22 : r_18.toInt ≠ (0 : Int) := i_ne c_22
                  refine lv_iconst (v := 1) hx hb dX7_readOne_144 (by decide) ?_
                  refine lv_goto (tgt := 149) hx hb dX7_readOne_145 (by decide) ?_
                  have q0_1 : (1 : Int32).toInt = 1 := rfl
                  exact W.zret (v := 1) hx hb hr rfl (fun tt ht hW => ⟨⟨1, ⟨o_v25_12, o_v26_19, o_a19_20⟩, rfl, ⟨(by first | rfl | omega | trivial | assumption | (dsimp only; first | omega | assumption)), (by first | rfl | omega | trivial | assumption | (dsimp only; first | omega | assumption)), (by first | rfl | omega | trivial | assumption | (dsimp only; first | omega | assumption)), (show 0 ≤ o_v25_12.toInt by first | omega | assumption), (show o_v25_12.toInt ≤ 120 by first | omega | assumption), (show o_v25_12.toInt ≤ (v 24).toInt by first | omega | assumption), (show 0 ≤ o_v26_19.toInt by first | omega | assumption), (show o_v26_19.toInt ≤ 256 by first | omega | assumption), wr_18_4⟩, by rw [ht]; exact hP, hD⟩, hS.F ht⟩) hS.2.2 dX7_readOne_149
          ·
            have kc_9 : r_1.toInt = (40 : Int) := i_eq c_9
            exfalso; omega
        ·
          have kc_7 : r_1.toInt ≠ (33 : Int) := i_ne c_7
          refine lv_iload_n hx hb dX7_readOne_59 rfl (lv_at hl 1 rfl) ?_
          refine lv_bipush (v := 45) hx hb dX7_readOne_60 (by decide) ?_
          refine lv_icmp_eq (tgt := 73) hx hb dX7_readOne_62 (by decide) (fun c_23 => ?_) (fun c_23 => ?_)
          ·
            have kc_23 : r_1.toInt = (45 : Int) := i_eq c_23
            refine lv_aload_n hx hb dX7_readOne_73 rfl (lv_at hl 2 rfl) ?_
            refine lv_dup hx hb dX7_readOne_74 rfl ?_
            refine gf_reader_at hx hb hg hown hK hP (x := (v 25)) rfl (hg _ q1_157) dX7_readOne_75 ?_
            refine lv_iconst (v := 1) hx hb dX7_readOne_78 (by decide) ?_
            refine lv_iadd hx hb dX7_readOne_79 ?_
            refine lv_topi (fun x_24 ex_24 => ?_)
            have fx_24 : x_24.toInt = (v 25).toInt + (1 : Int) := by rw [ex_24]; exact i_add (by first | omega | (show (_ : Int) ≤ (v 25).toInt + (1 : Int); omega)) (by first | omega | (show (v 25).toInt + (1 : Int) ≤ (_ : Int); omega))
            refine pf_reader_at hx hb hg hown hK hP hD hS (hg _ q1_157) dX7_readOne_80 (fun H locs hP hD hS => ?_)
            refine lv_iload_n hx hb dX7_readOne_83 rfl (lv_at hl 1 rfl) ?_
            refine lv_bipush (v := 40) hx hb dX7_readOne_84 (by decide) ?_
            refine lv_icmp_ne (tgt := 114) hx hb dX7_readOne_86 (by decide) (fun c_25 => ?_) (fun c_25 => ?_)
            ·
              have kc_25 : r_1.toInt ≠ (40 : Int) := i_ne c_25
              refine lv_aload_n hx hb dX7_readOne_114 rfl (lv_at hl 2 rfl) ?_
              refine lv_iload_n hx hb dX7_readOne_115 rfl (lv_at hl 3 rfl) ?_
              refine lv_iconst (v := 1) hx hb dX7_readOne_116 (by decide) ?_
              refine lv_iadd hx hb dX7_readOne_117 ?_
              refine lv_topi (fun x_26 ex_26 => ?_)
              have fx_26 : x_26.toInt = p1.toInt + (1 : Int) := by rw [ex_26]; exact i_add (by first | omega | (show (_ : Int) ≤ p1.toInt + (1 : Int); omega)) (by first | omega | (show p1.toInt + (1 : Int) ≤ (_ : Int); omega))
              refine cV_i (As := [.int x_26]) (rest := []) ⟨hx, hb, hml, hown, hg⟩ ((hO (n - 1) (by omega)) l D cs A ad fa fq rv (va_up v 25 x_24) a w fv fp  x_26 hr0 hr1 (show 0 ≤ x_26.toInt by first | omega | decide) (show x_26.toInt ≤ 6 by first | omega | decide) (show 6 ≤ x_26.toInt + ((n - 1 : Nat) : Int) by first | omega | decide) (show 0 ≤ (v 24).toInt by first | omega | decide) (show (v 24).toInt ≤ 120 by first | omega | decide) (show 0 ≤ x_24.toInt by first | omega | decide) (show x_24.toInt ≤ 120 by first | omega | decide) (show x_24.toInt ≤ (v 24).toInt by first | omega | decide) (show 0 ≤ (v 26).toInt by first | omega | decide) (show (v 26).toInt ≤ 256 by first | omega | decide) ia19_0) ca_X7_readOne q3_87 ⟨rfl, rfl⟩ ⟨(show 10 * (n - 1) + 6 + 1 ≤ 10 * n + 6 by omega), (show 8 + (4 + 11) + (300 * (n - 1) + 250) ≤ 300 * n + 250 by omega)⟩ (rc_reader hK hP) hK hP hD hS hZ rfl hl.1 rfl (Nat.le_of_ble_eq_true rfl) ⟨Nat.zero_le _, Nat.zero_le _⟩ dX7_readOne_118 (fun r_27 z_31 H locs wr_27 hP hD hS => ?_)
              obtain ⟨o_v25_28, o_v26_29, o_a19_30⟩ := z_31
              have hP : va_P D vwCl (CW cs ad fa fq rv (va_up (va_up v 25 o_v25_28) 26 o_v26_29) (va_up a 19 o_a19_30) w fv fp) H := hP
              have hD : va_D A (CW cs ad fa fq rv (va_up (va_up v 25 o_v25_28) 26 o_v26_29) (va_up a 19 o_a19_30) w fv fp) := hD
              obtain ⟨wr_27_0, wr_27_1, wr_27_2, wr_27_3, wr_27_4, wr_27_5, wr_27_6, wr_27_7, wr_27_8⟩ : (0 ≤ r_27.toInt) ∧ (r_27.toInt ≤ 1) ∧ (x_24.toInt ≤ o_v25_28.toInt) ∧ (0 ≤ o_v25_28.toInt) ∧ (o_v25_28.toInt ≤ 120) ∧ (o_v25_28.toInt ≤ (v 24).toInt) ∧ (0 ≤ o_v26_29.toInt) ∧ (o_v26_29.toInt ≤ 256) ∧ (AB (-1000) 20000 o_a19_30) := wr_27
              refine lv_if_eq (tgt := 148) hx hb dX7_readOne_121 (by decide) (fun c_32 => ?_) (fun c_32 => ?_)
              ·
                have kc_32 : r_27.toInt = (0 : Int) := i_eq c_32
                refine lv_iconst (v := 0) hx hb dX7_readOne_148 (by decide) ?_
                have q0_0 : (0 : Int32).toInt = 0 := rfl
                exact W.zret (v := 0) hx hb hr rfl (fun tt ht hW => ⟨⟨0, ⟨o_v25_28, o_v26_29, o_a19_30⟩, rfl, ⟨(by first | rfl | omega | trivial | assumption | (dsimp only; first | omega | assumption)), (by first | rfl | omega | trivial | assumption | (dsimp only; first | omega | assumption)), (by first | rfl | omega | trivial | assumption | (dsimp only; first | omega | assumption)), (show 0 ≤ o_v25_28.toInt by first | omega | assumption), (show o_v25_28.toInt ≤ 120 by first | omega | assumption), (show o_v25_28.toInt ≤ (v 24).toInt by first | omega | assumption), (show 0 ≤ o_v26_29.toInt by first | omega | assumption), (show o_v26_29.toInt ≤ 256 by first | omega | assumption), wr_27_8⟩, by rw [ht]; exact hP, hD⟩, hS.F ht⟩) hS.2.2 dX7_readOne_149
              ·
                have kc_32 : r_27.toInt ≠ (0 : Int) := i_ne c_32
                refine lv_aload_n hx hb dX7_readOne_124 rfl (lv_at hl 2 rfl) ?_
                refine lv_iload_n hx hb dX7_readOne_125 rfl (lv_at hl 1 rfl) ?_
                refine lv_bipush (v := 33) hx hb dX7_readOne_126 (by decide) ?_
                refine lv_icmp_ne (tgt := 136) hx hb dX7_readOne_128 (by decide) (fun c_33 => ?_) (fun c_33 => ?_)
                ·
                  have kc_33 : r_1.toInt ≠ (33 : Int) := i_ne c_33
                  refine lv_bipush (v := (-126)) hx hb dX7_readOne_136 (by decide) ?_
                  refine cV_i (As := [.int (-126)]) (rest := []) ⟨hx, hb, hml, hown, hg⟩ (k_X7_write l D cs A ad fa fq rv (va_up (va_up v 25 o_v25_28) 26 o_v26_29) (va_up a 19 o_a19_30) w fv fp  (-126) hr0 hr1 (show -1000 ≤ (-126 : Int) by first | omega | decide) (show (-126 : Int) ≤ 20000 by first | omega | decide) (show 0 ≤ o_v26_29.toInt by first | omega | decide) (show o_v26_29.toInt ≤ 256 by first | omega | decide) wr_27_8) ca_X7_write q3_102 ⟨rfl, rfl⟩ ⟨(show 0 + 1 ≤ 10 * n + 6 by omega), (show 8 + (2 + 11) + (0) ≤ 300 * n + 250 by omega)⟩ (rc_reader hK hP) hK hP hD hS hZ rfl hl.1 rfl (Nat.le_of_ble_eq_true rfl) ⟨Nat.zero_le _, Nat.zero_le _⟩ dX7_readOne_138 (fun r_34 z_37 H locs wr_34 hP hD hS => ?_)
                  obtain ⟨o_v26_35, o_a19_36⟩ := z_37
                  have hP : va_P D vwCl (CW cs ad fa fq rv (va_up (va_up v 25 o_v25_28) 26 o_v26_35) (va_up a 19 o_a19_36) w fv fp) H := hP
                  have hD : va_D A (CW cs ad fa fq rv (va_up (va_up v 25 o_v25_28) 26 o_v26_35) (va_up a 19 o_a19_36) w fv fp) := hD
                  obtain ⟨wr_34_0, wr_34_1, wr_34_2, wr_34_3, wr_34_4⟩ : (0 ≤ r_34.toInt) ∧ (r_34.toInt ≤ 1) ∧ (0 ≤ o_v26_35.toInt) ∧ (o_v26_35.toInt ≤ 256) ∧ (AB (-1000) 20000 o_a19_36) := wr_34
                  refine lv_if_eq (tgt := 148) hx hb dX7_readOne_141 (by decide) (fun c_38 => ?_) (fun c_38 => ?_)
                  ·
                    have kc_38 : r_34.toInt = (0 : Int) := i_eq c_38
                    refine lv_iconst (v := 0) hx hb dX7_readOne_148 (by decide) ?_
                    have q0_0 : (0 : Int32).toInt = 0 := rfl
                    exact W.zret (v := 0) hx hb hr rfl (fun tt ht hW => ⟨⟨0, ⟨o_v25_28, o_v26_35, o_a19_36⟩, rfl, ⟨(by first | rfl | omega | trivial | assumption | (dsimp only; first | omega | assumption)), (by first | rfl | omega | trivial | assumption | (dsimp only; first | omega | assumption)), (by first | rfl | omega | trivial | assumption | (dsimp only; first | omega | assumption)), (show 0 ≤ o_v25_28.toInt by first | omega | assumption), (show o_v25_28.toInt ≤ 120 by first | omega | assumption), (show o_v25_28.toInt ≤ (v 24).toInt by first | omega | assumption), (show 0 ≤ o_v26_35.toInt by first | omega | assumption), (show o_v26_35.toInt ≤ 256 by first | omega | assumption), wr_34_4⟩, by rw [ht]; exact hP, hD⟩, hS.F ht⟩) hS.2.2 dX7_readOne_149
                  ·
                    have kc_38 : r_34.toInt ≠ (0 : Int) := i_ne c_38
                    refine lv_iconst (v := 1) hx hb dX7_readOne_144 (by decide) ?_
                    refine lv_goto (tgt := 149) hx hb dX7_readOne_145 (by decide) ?_
                    have q0_1 : (1 : Int32).toInt = 1 := rfl
                    exact W.zret (v := 1) hx hb hr rfl (fun tt ht hW => ⟨⟨1, ⟨o_v25_28, o_v26_35, o_a19_36⟩, rfl, ⟨(by first | rfl | omega | trivial | assumption | (dsimp only; first | omega | assumption)), (by first | rfl | omega | trivial | assumption | (dsimp only; first | omega | assumption)), (by first | rfl | omega | trivial | assumption | (dsimp only; first | omega | assumption)), (show 0 ≤ o_v25_28.toInt by first | omega | assumption), (show o_v25_28.toInt ≤ 120 by first | omega | assumption), (show o_v25_28.toInt ≤ (v 24).toInt by first | omega | assumption), (show 0 ≤ o_v26_35.toInt by first | omega | assumption), (show o_v26_35.toInt ≤ 256 by first | omega | assumption), wr_34_4⟩, by rw [ht]; exact hP, hD⟩, hS.F ht⟩) hS.2.2 dX7_readOne_149
                ·
                  have kc_33 : r_1.toInt = (33 : Int) := i_eq c_33
                  exfalso; omega
            ·
              have kc_25 : r_1.toInt = (40 : Int) := i_eq c_25
              exfalso; omega
          ·
            have kc_23 : r_1.toInt ≠ (45 : Int) := i_ne c_23
            refine lv_iload_n hx hb dX7_readOne_65 rfl (lv_at hl 1 rfl) ?_
            refine lv_bipush (v := 40) hx hb dX7_readOne_66 (by decide) ?_
            refine lv_icmp_eq (tgt := 73) hx hb dX7_readOne_68 (by decide) (fun c_39 => ?_) (fun c_39 => ?_)
            ·
              have kc_39 : r_1.toInt = (40 : Int) := i_eq c_39
              refine lv_aload_n hx hb dX7_readOne_73 rfl (lv_at hl 2 rfl) ?_
              refine lv_dup hx hb dX7_readOne_74 rfl ?_
              refine gf_reader_at hx hb hg hown hK hP (x := (v 25)) rfl (hg _ q1_157) dX7_readOne_75 ?_
              refine lv_iconst (v := 1) hx hb dX7_readOne_78 (by decide) ?_
              refine lv_iadd hx hb dX7_readOne_79 ?_
              refine lv_topi (fun x_40 ex_40 => ?_)
              have fx_40 : x_40.toInt = (v 25).toInt + (1 : Int) := by rw [ex_40]; exact i_add (by first | omega | (show (_ : Int) ≤ (v 25).toInt + (1 : Int); omega)) (by first | omega | (show (v 25).toInt + (1 : Int) ≤ (_ : Int); omega))
              refine pf_reader_at hx hb hg hown hK hP hD hS (hg _ q1_157) dX7_readOne_80 (fun H locs hP hD hS => ?_)
              refine lv_iload_n hx hb dX7_readOne_83 rfl (lv_at hl 1 rfl) ?_
              refine lv_bipush (v := 40) hx hb dX7_readOne_84 (by decide) ?_
              refine lv_icmp_ne (tgt := 114) hx hb dX7_readOne_86 (by decide) (fun c_41 => ?_) (fun c_41 => ?_)
              ·
                have kc_41 : r_1.toInt ≠ (40 : Int) := i_ne c_41
                exfalso; omega
              ·
                have kc_41 : r_1.toInt = (40 : Int) := i_eq c_41
                refine lv_aload_n hx hb dX7_readOne_89 rfl (lv_at hl 2 rfl) ?_
                refine lv_iload_n hx hb dX7_readOne_90 rfl (lv_at hl 3 rfl) ?_
                refine lv_iconst (v := 1) hx hb dX7_readOne_91 (by decide) ?_
                refine lv_iadd hx hb dX7_readOne_92 ?_
                refine lv_topi (fun x_42 ex_42 => ?_)
                have fx_42 : x_42.toInt = p1.toInt + (1 : Int) := by rw [ex_42]; exact i_add (by first | omega | (show (_ : Int) ≤ p1.toInt + (1 : Int); omega)) (by first | omega | (show p1.toInt + (1 : Int) ≤ (_ : Int); omega))
                refine cV_i (As := [.int x_42]) (rest := []) ⟨hx, hb, hml, hown, hg⟩ ((hE (n - 1) (by omega)) l D cs A ad fa fq rv (va_up v 25 x_40) a w fv fp  x_42 hr0 hr1 (show 0 ≤ x_42.toInt by first | omega | decide) (show x_42.toInt ≤ 6 by first | omega | decide) (show 6 ≤ x_42.toInt + ((n - 1 : Nat) : Int) by first | omega | decide) (show 0 ≤ (v 24).toInt by first | omega | decide) (show (v 24).toInt ≤ 120 by first | omega | decide) (show 0 ≤ x_40.toInt by first | omega | decide) (show x_40.toInt ≤ 120 by first | omega | decide) (show x_40.toInt ≤ (v 24).toInt by first | omega | decide) (show 0 ≤ (v 26).toInt by first | omega | decide) (show (v 26).toInt ≤ 256 by first | omega | decide) ia19_0) ca_X7_readEither q3_67 ⟨rfl, rfl⟩ ⟨(show 10 * (n - 1) + 11 + 1 ≤ 10 * n + 6 by omega), (show 8 + (2 + 11) + (300 * (n - 1) + 400) ≤ 300 * n + 250 by omega)⟩ (rc_reader hK hP) hK hP hD hS hZ rfl hl.1 rfl (Nat.le_of_ble_eq_true rfl) ⟨Nat.zero_le _, Nat.zero_le _⟩ dX7_readOne_93 (fun r_43 z_47 H locs wr_43 hP hD hS => ?_)
                obtain ⟨o_v25_44, o_v26_45, o_a19_46⟩ := z_47
                have hP : va_P D vwCl (CW cs ad fa fq rv (va_up (va_up v 25 o_v25_44) 26 o_v26_45) (va_up a 19 o_a19_46) w fv fp) H := hP
                have hD : va_D A (CW cs ad fa fq rv (va_up (va_up v 25 o_v25_44) 26 o_v26_45) (va_up a 19 o_a19_46) w fv fp) := hD
                obtain ⟨wr_43_0, wr_43_1, wr_43_2, wr_43_3, wr_43_4, wr_43_5, wr_43_6, wr_43_7, wr_43_8⟩ : (0 ≤ r_43.toInt) ∧ (r_43.toInt ≤ 1) ∧ (x_40.toInt ≤ o_v25_44.toInt) ∧ (0 ≤ o_v25_44.toInt) ∧ (o_v25_44.toInt ≤ 120) ∧ (o_v25_44.toInt ≤ (v 24).toInt) ∧ (0 ≤ o_v26_45.toInt) ∧ (o_v26_45.toInt ≤ 256) ∧ (AB (-1000) 20000 o_a19_46) := wr_43
                refine lv_if_eq (tgt := 112) hx hb dX7_readOne_96 (by decide) (fun c_48 => ?_) (fun c_48 => ?_)
                ·
                  have kc_48 : r_43.toInt = (0 : Int) := i_eq c_48
                  refine lv_iconst (v := 0) hx hb dX7_readOne_112 (by decide) ?_
                  have q0_0 : (0 : Int32).toInt = 0 := rfl
                  exact W.zret (v := 0) hx hb hr rfl (fun tt ht hW => ⟨⟨0, ⟨o_v25_44, o_v26_45, o_a19_46⟩, rfl, ⟨(by first | rfl | omega | trivial | assumption | (dsimp only; first | omega | assumption)), (by first | rfl | omega | trivial | assumption | (dsimp only; first | omega | assumption)), (by first | rfl | omega | trivial | assumption | (dsimp only; first | omega | assumption)), (show 0 ≤ o_v25_44.toInt by first | omega | assumption), (show o_v25_44.toInt ≤ 120 by first | omega | assumption), (show o_v25_44.toInt ≤ (v 24).toInt by first | omega | assumption), (show 0 ≤ o_v26_45.toInt by first | omega | assumption), (show o_v26_45.toInt ≤ 256 by first | omega | assumption), wr_43_8⟩, by rw [ht]; exact hP, hD⟩, hS.F ht⟩) hS.2.2 dX7_readOne_113
                ·
                  have kc_48 : r_43.toInt ≠ (0 : Int) := i_ne c_48
                  refine lv_aload_n hx hb dX7_readOne_99 rfl (lv_at hl 2 rfl) ?_
                  refine lv_bipush (v := 41) hx hb dX7_readOne_100 (by decide) ?_
                  refine cV_i (As := [.int 41]) (rest := []) ⟨hx, hb, hml, hown, hg⟩ (k_X7_passes l D cs A ad fa fq rv (va_up (va_up v 25 o_v25_44) 26 o_v26_45) (va_up a 19 o_a19_46) w fv fp  41 hr0 hr1 (show 0 ≤ (41 : Int) by first | omega | decide) (show 0 ≤ (v 24).toInt by first | omega | decide) (show (v 24).toInt ≤ 120 by first | omega | decide) (show 0 ≤ o_v25_44.toInt by first | omega | decide) (show o_v25_44.toInt ≤ 120 by first | omega | decide) (show o_v25_44.toInt ≤ (v 24).toInt by first | omega | decide)) ca_X7_passes q3_109 ⟨rfl, rfl⟩ ⟨(show 1 + 1 ≤ 10 * n + 6 by omega), (show 8 + (2 + 11) + (20) ≤ 300 * n + 250 by omega)⟩ (rc_reader hK hP) hK hP hD hS hZ rfl hl.1 rfl (Nat.le_of_ble_eq_true rfl) ⟨Nat.zero_le _, Nat.zero_le _⟩ dX7_readOne_102 (fun r_49 o_v25_50 H locs wr_49 hP hD hS => ?_)
                  have hP : va_P D vwCl (CW cs ad fa fq rv (va_up (va_up v 26 o_v26_45) 25 o_v25_50) (va_up a 19 o_a19_46) w fv fp) H := hP
                  have hD : va_D A (CW cs ad fa fq rv (va_up (va_up v 26 o_v26_45) 25 o_v25_50) (va_up a 19 o_a19_46) w fv fp) := hD
                  obtain ⟨wr_49_0, wr_49_1, wr_49_2, wr_49_3⟩ : ((r_49.toInt = 1 ∧ o_v25_50.toInt = o_v25_44.toInt + 1) ∨ (r_49.toInt = 0 ∧ o_v25_50.toInt = o_v25_44.toInt)) ∧ (0 ≤ o_v25_50.toInt) ∧ (o_v25_50.toInt ≤ 120) ∧ (o_v25_50.toInt ≤ (v 24).toInt) := wr_49
                  refine lv_if_eq (tgt := 112) hx hb dX7_readOne_105 (by decide) (fun c_51 => ?_) (fun c_51 => ?_)
                  ·
                    have kc_51 : r_49.toInt = (0 : Int) := i_eq c_51
                    refine lv_iconst (v := 0) hx hb dX7_readOne_112 (by decide) ?_
                    have q0_0 : (0 : Int32).toInt = 0 := rfl
                    have hP : va_P D vwCl (CW cs ad fa fq rv (va_up (va_up v 25 o_v25_50) 26 o_v26_45) (va_up a 19 o_a19_46) w fv fp) _ := hP
                    have hD : va_D A (CW cs ad fa fq rv (va_up (va_up v 25 o_v25_50) 26 o_v26_45) (va_up a 19 o_a19_46) w fv fp) := hD
                    exact W.zret (v := 0) hx hb hr rfl (fun tt ht hW => ⟨⟨0, ⟨o_v25_50, o_v26_45, o_a19_46⟩, rfl, ⟨(by first | rfl | omega | trivial | assumption | (dsimp only; first | omega | assumption)), (by first | rfl | omega | trivial | assumption | (dsimp only; first | omega | assumption)), (by first | rfl | omega | trivial | assumption | (dsimp only; first | omega | assumption)), (show 0 ≤ o_v25_50.toInt by first | omega | assumption), (show o_v25_50.toInt ≤ 120 by first | omega | assumption), (show o_v25_50.toInt ≤ (v 24).toInt by first | omega | assumption), (show 0 ≤ o_v26_45.toInt by first | omega | assumption), (show o_v26_45.toInt ≤ 256 by first | omega | assumption), wr_43_8⟩, by rw [ht]; exact hP, hD⟩, hS.F ht⟩) hS.2.2 dX7_readOne_113
                  ·
                    have kc_51 : r_49.toInt ≠ (0 : Int) := i_ne c_51
                    refine lv_iconst (v := 1) hx hb dX7_readOne_108 (by decide) ?_
                    refine lv_goto (tgt := 113) hx hb dX7_readOne_109 (by decide) ?_
                    have q0_1 : (1 : Int32).toInt = 1 := rfl
                    have hP : va_P D vwCl (CW cs ad fa fq rv (va_up (va_up v 25 o_v25_50) 26 o_v26_45) (va_up a 19 o_a19_46) w fv fp) _ := hP
                    have hD : va_D A (CW cs ad fa fq rv (va_up (va_up v 25 o_v25_50) 26 o_v26_45) (va_up a 19 o_a19_46) w fv fp) := hD
                    exact W.zret (v := 1) hx hb hr rfl (fun tt ht hW => ⟨⟨1, ⟨o_v25_50, o_v26_45, o_a19_46⟩, rfl, ⟨(by first | rfl | omega | trivial | assumption | (dsimp only; first | omega | assumption)), (by first | rfl | omega | trivial | assumption | (dsimp only; first | omega | assumption)), (by first | rfl | omega | trivial | assumption | (dsimp only; first | omega | assumption)), (show 0 ≤ o_v25_50.toInt by first | omega | assumption), (show o_v25_50.toInt ≤ 120 by first | omega | assumption), (show o_v25_50.toInt ≤ (v 24).toInt by first | omega | assumption), (show 0 ≤ o_v26_45.toInt by first | omega | assumption), (show o_v26_45.toInt ≤ 256 by first | omega | assumption), wr_43_8⟩, by rw [ht]; exact hP, hD⟩, hS.F ht⟩) hS.2.2 dX7_readOne_113
            ·
              have kc_39 : r_1.toInt ≠ (40 : Int) := i_ne c_39
              refine lv_iconst (v := 0) hx hb dX7_readOne_71 (by decide) ?_
              have q0_0 : (0 : Int32).toInt = 0 := rfl
              have hP : va_P D vwCl (CW cs ad fa fq rv (va_up (va_up v 25 (v 25)) 26 (v 26)) (va_up a 19 (a 19)) w fv fp) _ := hP
              have hD : va_D A (CW cs ad fa fq rv (va_up (va_up v 25 (v 25)) 26 (v 26)) (va_up a 19 (a 19)) w fv fp) := hD
              exact W.zret (v := 0) hx hb hr rfl (fun tt ht hW => ⟨⟨0, ⟨(v 25), (v 26), (a 19)⟩, rfl, ⟨(by first | rfl | omega | trivial | assumption | (dsimp only; first | omega | assumption)), (by first | rfl | omega | trivial | assumption | (dsimp only; first | omega | assumption)), (by first | rfl | omega | trivial | assumption | (dsimp only; first | omega | assumption)), (show 0 ≤ (v 25).toInt by first | omega | assumption), (show (v 25).toInt ≤ 120 by first | omega | assumption), (show (v 25).toInt ≤ (v 24).toInt by first | omega | assumption), (show 0 ≤ (v 26).toInt by first | omega | assumption), (show (v 26).toInt ≤ 256 by first | omega | assumption), ia19_0⟩, by rw [ht]; exact hP, hD⟩, hS.F ht⟩) hS.2.2 dX7_readOne_72
    ·
      have kc_5 : r_4.toInt ≠ (-1 : Int) := i_ne c_5
      refine lv_aload_n hx hb dX7_readOne_27 rfl (lv_at hl 2 rfl) ?_
      refine lv_dup hx hb dX7_readOne_28 rfl ?_
      refine gf_reader_at hx hb hg hown hK hP (x := (v 25)) rfl (hg _ q1_157) dX7_readOne_29 ?_
      refine lv_iconst (v := 1) hx hb dX7_readOne_32 (by decide) ?_
      refine lv_iadd hx hb dX7_readOne_33 ?_
      refine lv_topi (fun x_52 ex_52 => ?_)
      have fx_52 : x_52.toInt = (v 25).toInt + (1 : Int) := by rw [ex_52]; exact i_add (by first | omega | (show (_ : Int) ≤ (v 25).toInt + (1 : Int); omega)) (by first | omega | (show (v 25).toInt + (1 : Int) ≤ (_ : Int); omega))
      refine pf_reader_at hx hb hg hown hK hP hD hS (hg _ q1_157) dX7_readOne_34 (fun H locs hP hD hS => ?_)
      refine lv_aload_n hx hb dX7_readOne_37 rfl (lv_at hl 2 rfl) ?_
      refine lv_sipush (v := 10000) hx hb dX7_readOne_38 (by decide) ?_
      refine lv_iload_n hx hb dX7_readOne_41 rfl (lv_at hl 0 rfl) ?_
      refine lv_iadd hx hb dX7_readOne_42 ?_
      refine lv_topi (fun x_53 ex_53 => ?_)
      have fx_53 : x_53.toInt = (10000 : Int) + r_4.toInt := by rw [ex_53]; exact i_add (by first | omega | (show (_ : Int) ≤ (10000 : Int) + r_4.toInt; omega)) (by first | omega | (show (10000 : Int) + r_4.toInt ≤ (_ : Int); omega))
      refine cV_i (As := [.int x_53]) (rest := []) ⟨hx, hb, hml, hown, hg⟩ (k_X7_write l D cs A ad fa fq rv (va_up v 25 x_52) a w fv fp  x_53 hr0 hr1 (show -1000 ≤ x_53.toInt by first | omega | decide) (show x_53.toInt ≤ 20000 by first | omega | decide) (show 0 ≤ (v 26).toInt by first | omega | decide) (show (v 26).toInt ≤ 256 by first | omega | decide) ia19_0) ca_X7_write q3_102 ⟨rfl, rfl⟩ ⟨(show 0 + 1 ≤ 10 * n + 6 by omega), (show 8 + (2 + 11) + (0) ≤ 300 * n + 250 by omega)⟩ (rc_reader hK hP) hK hP hD hS hZ rfl hl.1 rfl (Nat.le_of_ble_eq_true rfl) ⟨Nat.zero_le _, Nat.zero_le _⟩ dX7_readOne_43 (fun r_54 z_57 H locs wr_54 hP hD hS => ?_)
      obtain ⟨o_v26_55, o_a19_56⟩ := z_57
      have hP : va_P D vwCl (CW cs ad fa fq rv (va_up (va_up v 25 x_52) 26 o_v26_55) (va_up a 19 o_a19_56) w fv fp) H := hP
      have hD : va_D A (CW cs ad fa fq rv (va_up (va_up v 25 x_52) 26 o_v26_55) (va_up a 19 o_a19_56) w fv fp) := hD
      obtain ⟨wr_54_0, wr_54_1, wr_54_2, wr_54_3, wr_54_4⟩ : (0 ≤ r_54.toInt) ∧ (r_54.toInt ≤ 1) ∧ (0 ≤ o_v26_55.toInt) ∧ (o_v26_55.toInt ≤ 256) ∧ (AB (-1000) 20000 o_a19_56) := wr_54
      exact W.zret (v := r_54) hx hb hr (i_nb (by omega) (by omega)) (fun tt ht hW => ⟨⟨r_54, ⟨x_52, o_v26_55, o_a19_56⟩, rfl, ⟨(by first | rfl | omega | trivial | assumption | (dsimp only; first | omega | assumption)), (by first | rfl | omega | trivial | assumption | (dsimp only; first | omega | assumption)), (by first | rfl | omega | trivial | assumption | (dsimp only; first | omega | assumption)), (show 0 ≤ x_52.toInt by first | omega | assumption), (show x_52.toInt ≤ 120 by first | omega | assumption), (show x_52.toInt ≤ (v 24).toInt by first | omega | assumption), (show 0 ≤ o_v26_55.toInt by first | omega | assumption), (show o_v26_55.toInt ≤ 256 by first | omega | assumption), wr_54_4⟩, by rw [ht]; exact hP, hD⟩, hS.F ht⟩) hS.2.2 dX7_readOne_46
  ·
    have kc_3 : r_2.toInt ≠ (0 : Int) := i_ne c_3
    refine lv_aload_n hx hb dX7_readOne_12 rfl (lv_at hl 1 rfl) ?_
    refine cV_i (As := []) (rest := []) ⟨hx, hb, hml, hown, hg⟩ (k_X7_readNumber l D cs A ad fa fq rv v a w fv fp   hr0 hr1 (show 0 ≤ (v 26).toInt by first | omega | decide) (show (v 26).toInt ≤ 256 by first | omega | decide) ia19_0 (show 0 ≤ (v 24).toInt by first | omega | decide) (show (v 24).toInt ≤ 120 by first | omega | decide) (show 0 ≤ (v 25).toInt by first | omega | decide) (show (v 25).toInt ≤ 120 by first | omega | decide) (show (v 25).toInt ≤ (v 24).toInt by first | omega | decide)) ca_X7_readNumber q3_98 ⟨rfl, rfl⟩ ⟨(show 1 + 1 ≤ 10 * n + 6 by omega), (show 8 + (3 + 11) + (21) ≤ 300 * n + 250 by omega)⟩ (rc_reader hK hP) hK hP hD hS hZ rfl hl.1 rfl (Nat.le_of_ble_eq_true rfl) ⟨Nat.zero_le _, Nat.zero_le _⟩ dX7_readOne_13 (fun r_58 z_62 H locs wr_58 hP hD hS => ?_)
    obtain ⟨o_v25_59, o_v26_60, o_a19_61⟩ := z_62
    have hP : va_P D vwCl (CW cs ad fa fq rv (va_up (va_up v 25 o_v25_59) 26 o_v26_60) (va_up a 19 o_a19_61) w fv fp) H := hP
    have hD : va_D A (CW cs ad fa fq rv (va_up (va_up v 25 o_v25_59) 26 o_v26_60) (va_up a 19 o_a19_61) w fv fp) := hD
    obtain ⟨wr_58_0, wr_58_1, wr_58_2, wr_58_3, wr_58_4, wr_58_5, wr_58_6, wr_58_7, wr_58_8⟩ : (0 ≤ r_58.toInt) ∧ (r_58.toInt ≤ 1) ∧ ((v 25).toInt ≤ o_v25_59.toInt) ∧ (0 ≤ o_v25_59.toInt) ∧ (o_v25_59.toInt ≤ 120) ∧ (o_v25_59.toInt ≤ (v 24).toInt) ∧ (0 ≤ o_v26_60.toInt) ∧ (o_v26_60.toInt ≤ 256) ∧ (AB (-1000) 20000 o_a19_61) := wr_58
    exact W.zret (v := r_58) hx hb hr (i_nb (by omega) (by omega)) (fun tt ht hW => ⟨⟨r_58, ⟨o_v25_59, o_v26_60, o_a19_61⟩, rfl, ⟨(by first | rfl | omega | trivial | assumption | (dsimp only; first | omega | assumption)), (by first | rfl | omega | trivial | assumption | (dsimp only; first | omega | assumption)), (by first | rfl | omega | trivial | assumption | (dsimp only; first | omega | assumption)), (show 0 ≤ o_v25_59.toInt by first | omega | assumption), (show o_v25_59.toInt ≤ 120 by first | omega | assumption), (show o_v25_59.toInt ≤ (v 24).toInt by first | omega | assumption), (show 0 ≤ o_v26_60.toInt by first | omega | assumption), (show o_v26_60.toInt ≤ 256 by first | omega | assumption), wr_58_8⟩, by rw [ht]; exact hP, hD⟩, hS.F ht⟩) hS.2.2 dX7_readOne_16
set_option maxHeartbeats 4000000 in
set_option maxRecDepth 100000 in
theorem s_X7_readProduct (n : Nat) (h1n : C_X7_readOne n) : C_X7_readProduct n := by
  intro l D cs A ad fa fq rv v a w fv fp p1 hr0 hr1 ho0 ho6 hon iv24_0 iv24_1 iv25_0 iv25_1 iv25_2 iv26_0 iv26_1 ia19_0
  refine Met.ofW (cc := cX7_readProduct) (maxL := 3) (ret := (some .boolean)) (by decide) rfl ?_
  intro p e s m args below meth c s₁ B hml hv
  obtain ⟨rfl, hP, hK, hD, hZ⟩ := hv
  have hx := B.exec
  have hb := B.bytes
  have hr := B.returns
  have hts := atoms_spec (ws := (Cond.code yX7_readProduct cX7_readProduct 3 (some .boolean) :: gw)) B.pre
  have hg : ∀ w ∈ gw, w.before ([.ref (ad 10), .int p1] : List Value).toArray s = true := fun w h => hts w (List.mem_cons_of_mem _ h)
  have hown : s.vm.findClass RX7 = some m.cls := findClass_of_methodNamed B.named
  have hlocks := B.notSynchronized
  have hS : va_S A s.heap s.heap [] := va_S.rf
  have hP : va_P D vwCl (CW cs ad fa fq rv v a w fv fp) s.heap := hP
  have hl := lv_entry ([.ref (ad 10), .int p1]) (n := 3) (Nat.le_of_ble_eq_true rfl)
  rw [lg_entry_eq]
  generalize (lg_sl ([.ref (ad 10), .int p1]) ++ List.replicate (3 - (lg_sl ([.ref (ad 10), .int p1])).length) Slot.unset).toArray = ls at hl ⊢
  have hl : lv_has ls 3 [(0, .ref (ad 10)), (1, .int p1)] := hl
  have hcut : ∀ nk : Nat, (∀ (x2 : Int32) (c15_v25 : Int32) (c15_v26 : Int32) (c15_a19 : Nat → Int32) (H : Heap) (locs : List Loc) (hat : (v 25).toInt ≤ c15_v25.toInt) (jv25_0 : 0 ≤ c15_v25.toInt) (jv25_1 : c15_v25.toInt ≤ 120) (jv25_2 : c15_v25.toInt ≤ (v 24).toInt) (jv26_0 : 0 ≤ c15_v26.toInt) (jv26_1 : c15_v26.toInt ≤ 256) (ja19_0 : AB (-1000) 20000 c15_a19) (hmu : ((v 24).toInt - c15_v25.toInt).toNat < nk) (hP : va_P D vwCl (CW cs ad fa fq rv (va_up (va_up v 25 c15_v25) 26 c15_v26) (va_up a 19 c15_a19) w fv fp) H) (hD : va_D A (CW cs ad fa fq rv (va_up (va_up v 25 c15_v25) 26 c15_v26) (va_up a 19 c15_a19) w fv fp)) (hS : va_S A s.heap H locs) (ls : Array Slot) (hl : lv_has ls 3 [(0, .ref (ad 10)), (1, .int p1), (2, .int x2)]), W p l e (headSpec (Cond.code yX7_readProduct cX7_readProduct 3 (some .boolean) :: gw) ({ frames := 10 * n + 7, cells := 0, slots := 0, locals := 300 * n + 280 })).room s m ([.ref (ad 10), .int p1] : List Value).toArray below meth c H locs 0 0 (MQ below (va_Qi (fun (r : Int32) (z : Int32 × Int32 × (Nat → Int32)) => (0 ≤ r.toInt) ∧ (r.toInt ≤ 1) ∧ ((v 25).toInt ≤ z.1.toInt) ∧ (0 ≤ z.1.toInt) ∧ (z.1.toInt ≤ 120) ∧ (z.1.toInt ≤ (v 24).toInt) ∧ (0 ≤ z.2.1.toInt) ∧ (z.2.1.toInt ≤ 256) ∧ (AB (-1000) 20000 z.2.2)) (XPo D (fun (z : Int32 × Int32 × (Nat → Int32)) => CW cs ad fa fq rv (va_up (va_up v 25 z.1) 26 z.2.1) (va_up a 19 z.2.2) w fv fp) A) A) ([.ref (ad 10), .int p1] : List Value).toArray s 0 0 A) (F0 m 15 ls [])) := by
    intro nk
    induction nk with
    | zero => exact (fun x2 c15_v25 c15_v26 c15_a19 H locs hat jv25_0 jv25_1 jv25_2 jv26_0 jv26_1 ja19_0 hmu hP hD hS ls hl => absurd hmu (Nat.not_lt_zero _))
    | succ nk ih =>
      intro x2 c15_v25 c15_v26 c15_a19 H locs hat jv25_0 jv25_1 jv25_2 jv26_0 jv26_1 ja19_0 hmu hP hD hS ls hl
      refine lv_aload_n hx hb dX7_readProduct_15 rfl (lv_at hl 0 rfl) ?_
      refine gf_reader_at hx hb hg hown hK hP (x := c15_v25) rfl (hg _ q1_157) dX7_readProduct_16 ?_
      refine lv_aload_n hx hb dX7_readProduct_19 rfl (lv_at hl 0 rfl) ?_
      refine gf_reader_length hx hb hg hown hK hP (x := (v 24)) rfl (hg _ q1_156) dX7_readProduct_20 ?_
      refine lv_icmp_ge (tgt := 79) hx hb dX7_readProduct_23 (by decide) (fun c_1 => ?_) (fun c_1 => ?_)
      ·
        have kc_1 : (v 24).toInt ≤ c15_v25.toInt := i_le c_1
        refine lv_iconst (v := 1) hx hb dX7_readProduct_79 (by decide) ?_
        have q0_1 : (1 : Int32).toInt = 1 := rfl
        exact W.zret (v := 1) hx hb hr rfl (fun tt ht hW => ⟨⟨1, ⟨c15_v25, c15_v26, c15_a19⟩, rfl, ⟨(by first | rfl | omega | trivial | assumption | (dsimp only; first | omega | assumption)), (by first | rfl | omega | trivial | assumption | (dsimp only; first | omega | assumption)), (by first | rfl | omega | trivial | assumption | (dsimp only; first | omega | assumption)), (show 0 ≤ c15_v25.toInt by first | omega | assumption), (show c15_v25.toInt ≤ 120 by first | omega | assumption), (show c15_v25.toInt ≤ (v 24).toInt by first | omega | assumption), (show 0 ≤ c15_v26.toInt by first | omega | assumption), (show c15_v26.toInt ≤ 256 by first | omega | assumption), ja19_0⟩, by rw [ht]; exact hP, hD⟩, hS.F ht⟩) hS.2.2 dX7_readProduct_80
      ·
        have kc_1 : c15_v25.toInt < (v 24).toInt := i_nle c_1
        refine lv_iload_n hx hb dX7_readProduct_26 rfl (lv_at hl 2 rfl) ?_
        refine lv_bipush (v := 42) hx hb dX7_readProduct_27 (by decide) ?_
        refine lv_icmp_eq (tgt := 44) hx hb dX7_readProduct_29 (by decide) (fun c_2 => ?_) (fun c_2 => ?_)
        ·
          have kc_2 : x2.toInt = (42 : Int) := i_eq c_2
          refine lv_aload_n hx hb dX7_readProduct_44 rfl (lv_at hl 0 rfl) ?_
          refine lv_dup hx hb dX7_readProduct_45 rfl ?_
          refine gf_reader_at hx hb hg hown hK hP (x := c15_v25) rfl (hg _ q1_157) dX7_readProduct_46 ?_
          refine lv_iconst (v := 1) hx hb dX7_readProduct_49 (by decide) ?_
          refine lv_iadd hx hb dX7_readProduct_50 ?_
          refine lv_topi (fun x_3 ex_3 => ?_)
          have fx_3 : x_3.toInt = c15_v25.toInt + (1 : Int) := by rw [ex_3]; exact i_add (by first | omega | (show (_ : Int) ≤ c15_v25.toInt + (1 : Int); omega)) (by first | omega | (show c15_v25.toInt + (1 : Int) ≤ (_ : Int); omega))
          refine pf_reader_at hx hb hg hown hK hP hD hS (hg _ q1_157) dX7_readProduct_51 (fun H locs hP hD hS => ?_)
          refine lv_aload_n hx hb dX7_readProduct_54 rfl (lv_at hl 0 rfl) ?_
          refine lv_iload_n hx hb dX7_readProduct_55 rfl (lv_at hl 1 rfl) ?_
          refine cV_i (As := [.int p1]) (rest := []) ⟨hx, hb, hml, hown, hg⟩ (h1n l D cs A ad fa fq rv (va_up (va_up v 26 c15_v26) 25 x_3) (va_up a 19 c15_a19) w fv fp  p1 hr0 hr1 (show 0 ≤ p1.toInt by first | omega | decide) (show p1.toInt ≤ 6 by first | omega | decide) (show 6 ≤ p1.toInt + (n : Int) by first | omega | decide) (show 0 ≤ (v 24).toInt by first | omega | decide) (show (v 24).toInt ≤ 120 by first | omega | decide) (show 0 ≤ x_3.toInt by first | omega | decide) (show x_3.toInt ≤ 120 by first | omega | decide) (show x_3.toInt ≤ (v 24).toInt by first | omega | decide) (show 0 ≤ c15_v26.toInt by first | omega | decide) (show c15_v26.toInt ≤ 256 by first | omega | decide) ja19_0) ca_X7_readOne q3_87 ⟨rfl, rfl⟩ ⟨(show 10 * n + 6 + 1 ≤ 10 * n + 7 by omega), (show 8 + (4 + 11) + (300 * n + 250) ≤ 300 * n + 280 by omega)⟩ (rc_reader hK hP) hK hP hD hS hZ rfl hl.1 rfl (Nat.le_of_ble_eq_true rfl) ⟨Nat.zero_le _, Nat.zero_le _⟩ dX7_readProduct_56 (fun r_4 z_8 H locs wr_4 hP hD hS => ?_)
          obtain ⟨o_v25_5, o_v26_6, o_a19_7⟩ := z_8
          have hP : va_P D vwCl (CW cs ad fa fq rv (va_up (va_up v 25 o_v25_5) 26 o_v26_6) (va_up a 19 o_a19_7) w fv fp) H := hP
          have hD : va_D A (CW cs ad fa fq rv (va_up (va_up v 25 o_v25_5) 26 o_v26_6) (va_up a 19 o_a19_7) w fv fp) := hD
          obtain ⟨wr_4_0, wr_4_1, wr_4_2, wr_4_3, wr_4_4, wr_4_5, wr_4_6, wr_4_7, wr_4_8⟩ : (0 ≤ r_4.toInt) ∧ (r_4.toInt ≤ 1) ∧ (x_3.toInt ≤ o_v25_5.toInt) ∧ (0 ≤ o_v25_5.toInt) ∧ (o_v25_5.toInt ≤ 120) ∧ (o_v25_5.toInt ≤ (v 24).toInt) ∧ (0 ≤ o_v26_6.toInt) ∧ (o_v26_6.toInt ≤ 256) ∧ (AB (-1000) 20000 o_a19_7) := wr_4
          refine lv_if_ne (tgt := 64) hx hb dX7_readProduct_59 (by decide) (fun c_9 => ?_) (fun c_9 => ?_)
          ·
            have kc_9 : r_4.toInt ≠ (0 : Int) := i_ne c_9
            refine lv_aload_n hx hb dX7_readProduct_64 rfl (lv_at hl 0 rfl) ?_
            refine lv_iload_n hx hb dX7_readProduct_65 rfl (lv_at hl 2 rfl) ?_
            refine lv_ineg hx hb dX7_readProduct_66 ?_
            refine lv_topi (fun x_10 ex_10 => ?_)
            have fx_10 : x_10.toInt = -x2.toInt := by rw [ex_10]; exact i_neg (by omega)
            refine cV_i (As := [.int x_10]) (rest := []) ⟨hx, hb, hml, hown, hg⟩ (k_X7_write l D cs A ad fa fq rv (va_up (va_up v 25 o_v25_5) 26 o_v26_6) (va_up a 19 o_a19_7) w fv fp  x_10 hr0 hr1 (show -1000 ≤ x_10.toInt by first | omega | decide) (show x_10.toInt ≤ 20000 by first | omega | decide) (show 0 ≤ o_v26_6.toInt by first | omega | decide) (show o_v26_6.toInt ≤ 256 by first | omega | decide) wr_4_8) ca_X7_write q3_102 ⟨rfl, rfl⟩ ⟨(show 0 + 1 ≤ 10 * n + 7 by omega), (show 8 + (2 + 11) + (0) ≤ 300 * n + 280 by omega)⟩ (rc_reader hK hP) hK hP hD hS hZ rfl hl.1 rfl (Nat.le_of_ble_eq_true rfl) ⟨Nat.zero_le _, Nat.zero_le _⟩ dX7_readProduct_67 (fun r_11 z_14 H locs wr_11 hP hD hS => ?_)
            obtain ⟨o_v26_12, o_a19_13⟩ := z_14
            have hP : va_P D vwCl (CW cs ad fa fq rv (va_up (va_up v 25 o_v25_5) 26 o_v26_12) (va_up a 19 o_a19_13) w fv fp) H := hP
            have hD : va_D A (CW cs ad fa fq rv (va_up (va_up v 25 o_v25_5) 26 o_v26_12) (va_up a 19 o_a19_13) w fv fp) := hD
            obtain ⟨wr_11_0, wr_11_1, wr_11_2, wr_11_3, wr_11_4⟩ : (0 ≤ r_11.toInt) ∧ (r_11.toInt ≤ 1) ∧ (0 ≤ o_v26_12.toInt) ∧ (o_v26_12.toInt ≤ 256) ∧ (AB (-1000) 20000 o_a19_13) := wr_11
            refine lv_pop hx hb dX7_readProduct_70 rfl ?_
            refine lv_aload_n hx hb dX7_readProduct_71 rfl (lv_at hl 0 rfl) ?_
            refine cV_ro (As := []) (rest := []) ⟨hx, hb, hml, hown, hg⟩ (k_X7_sign l D cs A ad fa fq rv (va_up (va_up v 25 o_v25_5) 26 o_v26_12) (va_up a 19 o_a19_13) w fv fp   hr0 hr1 (show 0 ≤ (v 24).toInt by first | omega | decide) (show (v 24).toInt ≤ 120 by first | omega | decide) (show 0 ≤ o_v25_5.toInt by first | omega | decide) (show o_v25_5.toInt ≤ 120 by first | omega | decide) (show o_v25_5.toInt ≤ (v 24).toInt by first | omega | decide)) ca_X7_sign q3_91 ⟨rfl, rfl⟩ ⟨(show 0 + 1 ≤ 10 * n + 7 by omega), (show 8 + (1 + 11) + (0) ≤ 300 * n + 280 by omega)⟩ (rc_reader hK hP) hK hP hD hS hZ rfl hl.1 rfl (Nat.le_of_ble_eq_true rfl) ⟨Nat.zero_le _, Nat.zero_le _⟩ dX7_readProduct_72 (fun r_15 wr_15 => ?_)
            have wr_15_0 : (o_v25_5.toInt < (v 24).toInt ∧ r_15.toInt = ((a 15) o_v25_5.toNatClampNeg).toInt) ∨ ((v 24).toInt ≤ o_v25_5.toInt ∧ r_15.toInt = -1) := wr_15
            refine lv_istore_n (lv' := [(2, .int r_15), (0, .ref (ad 10)), (1, .int p1)]) hx hb dX7_readProduct_75 rfl hl (by decide) rfl (fun ls hl => ?_)
            refine lv_goto (tgt := 15) hx hb dX7_readProduct_76 (by decide) ?_
            exact ih r_15 o_v25_5 o_v26_12 o_a19_13 _ _ (by omega) (show 0 ≤ o_v25_5.toInt by first | omega | assumption) (show o_v25_5.toInt ≤ 120 by first | omega | assumption) (show o_v25_5.toInt ≤ (v 24).toInt by first | omega | assumption) (show 0 ≤ o_v26_12.toInt by first | omega | assumption) (show o_v26_12.toInt ≤ 256 by first | omega | assumption) wr_11_4 (by omega) hP hD hS ls (lv_sub hl [1, 2, 0] rfl)
          ·
            have kc_9 : r_4.toInt = (0 : Int) := i_eq c_9
            refine lv_iconst (v := 0) hx hb dX7_readProduct_62 (by decide) ?_
            have q0_0 : (0 : Int32).toInt = 0 := rfl
            exact W.zret (v := 0) hx hb hr rfl (fun tt ht hW => ⟨⟨0, ⟨o_v25_5, o_v26_6, o_a19_7⟩, rfl, ⟨(by first | rfl | omega | trivial | assumption | (dsimp only; first | omega | assumption)), (by first | rfl | omega | trivial | assumption | (dsimp only; first | omega | assumption)), (by first | rfl | omega | trivial | assumption | (dsimp only; first | omega | assumption)), (show 0 ≤ o_v25_5.toInt by first | omega | assumption), (show o_v25_5.toInt ≤ 120 by first | omega | assumption), (show o_v25_5.toInt ≤ (v 24).toInt by first | omega | assumption), (show 0 ≤ o_v26_6.toInt by first | omega | assumption), (show o_v26_6.toInt ≤ 256 by first | omega | assumption), wr_4_8⟩, by rw [ht]; exact hP, hD⟩, hS.F ht⟩) hS.2.2 dX7_readProduct_63
        ·
          have kc_2 : x2.toInt ≠ (42 : Int) := i_ne c_2
          refine lv_iload_n hx hb dX7_readProduct_32 rfl (lv_at hl 2 rfl) ?_
          refine lv_bipush (v := 47) hx hb dX7_readProduct_33 (by decide) ?_
          refine lv_icmp_eq (tgt := 44) hx hb dX7_readProduct_35 (by decide) (fun c_16 => ?_) (fun c_16 => ?_)
          ·
            have kc_16 : x2.toInt = (47 : Int) := i_eq c_16
            refine lv_aload_n hx hb dX7_readProduct_44 rfl (lv_at hl 0 rfl) ?_
            refine lv_dup hx hb dX7_readProduct_45 rfl ?_
            refine gf_reader_at hx hb hg hown hK hP (x := c15_v25) rfl (hg _ q1_157) dX7_readProduct_46 ?_
            refine lv_iconst (v := 1) hx hb dX7_readProduct_49 (by decide) ?_
            refine lv_iadd hx hb dX7_readProduct_50 ?_
            refine lv_topi (fun x_17 ex_17 => ?_)
            have fx_17 : x_17.toInt = c15_v25.toInt + (1 : Int) := by rw [ex_17]; exact i_add (by first | omega | (show (_ : Int) ≤ c15_v25.toInt + (1 : Int); omega)) (by first | omega | (show c15_v25.toInt + (1 : Int) ≤ (_ : Int); omega))
            refine pf_reader_at hx hb hg hown hK hP hD hS (hg _ q1_157) dX7_readProduct_51 (fun H locs hP hD hS => ?_)
            refine lv_aload_n hx hb dX7_readProduct_54 rfl (lv_at hl 0 rfl) ?_
            refine lv_iload_n hx hb dX7_readProduct_55 rfl (lv_at hl 1 rfl) ?_
            refine cV_i (As := [.int p1]) (rest := []) ⟨hx, hb, hml, hown, hg⟩ (h1n l D cs A ad fa fq rv (va_up (va_up v 26 c15_v26) 25 x_17) (va_up a 19 c15_a19) w fv fp  p1 hr0 hr1 (show 0 ≤ p1.toInt by first | omega | decide) (show p1.toInt ≤ 6 by first | omega | decide) (show 6 ≤ p1.toInt + (n : Int) by first | omega | decide) (show 0 ≤ (v 24).toInt by first | omega | decide) (show (v 24).toInt ≤ 120 by first | omega | decide) (show 0 ≤ x_17.toInt by first | omega | decide) (show x_17.toInt ≤ 120 by first | omega | decide) (show x_17.toInt ≤ (v 24).toInt by first | omega | decide) (show 0 ≤ c15_v26.toInt by first | omega | decide) (show c15_v26.toInt ≤ 256 by first | omega | decide) ja19_0) ca_X7_readOne q3_87 ⟨rfl, rfl⟩ ⟨(show 10 * n + 6 + 1 ≤ 10 * n + 7 by omega), (show 8 + (4 + 11) + (300 * n + 250) ≤ 300 * n + 280 by omega)⟩ (rc_reader hK hP) hK hP hD hS hZ rfl hl.1 rfl (Nat.le_of_ble_eq_true rfl) ⟨Nat.zero_le _, Nat.zero_le _⟩ dX7_readProduct_56 (fun r_18 z_22 H locs wr_18 hP hD hS => ?_)
            obtain ⟨o_v25_19, o_v26_20, o_a19_21⟩ := z_22
            have hP : va_P D vwCl (CW cs ad fa fq rv (va_up (va_up v 25 o_v25_19) 26 o_v26_20) (va_up a 19 o_a19_21) w fv fp) H := hP
            have hD : va_D A (CW cs ad fa fq rv (va_up (va_up v 25 o_v25_19) 26 o_v26_20) (va_up a 19 o_a19_21) w fv fp) := hD
            obtain ⟨wr_18_0, wr_18_1, wr_18_2, wr_18_3, wr_18_4, wr_18_5, wr_18_6, wr_18_7, wr_18_8⟩ : (0 ≤ r_18.toInt) ∧ (r_18.toInt ≤ 1) ∧ (x_17.toInt ≤ o_v25_19.toInt) ∧ (0 ≤ o_v25_19.toInt) ∧ (o_v25_19.toInt ≤ 120) ∧ (o_v25_19.toInt ≤ (v 24).toInt) ∧ (0 ≤ o_v26_20.toInt) ∧ (o_v26_20.toInt ≤ 256) ∧ (AB (-1000) 20000 o_a19_21) := wr_18
            refine lv_if_ne (tgt := 64) hx hb dX7_readProduct_59 (by decide) (fun c_23 => ?_) (fun c_23 => ?_)
            ·
              have kc_23 : r_18.toInt ≠ (0 : Int) := i_ne c_23
              refine lv_aload_n hx hb dX7_readProduct_64 rfl (lv_at hl 0 rfl) ?_
              refine lv_iload_n hx hb dX7_readProduct_65 rfl (lv_at hl 2 rfl) ?_
              refine lv_ineg hx hb dX7_readProduct_66 ?_
              refine lv_topi (fun x_24 ex_24 => ?_)
              have fx_24 : x_24.toInt = -x2.toInt := by rw [ex_24]; exact i_neg (by omega)
              refine cV_i (As := [.int x_24]) (rest := []) ⟨hx, hb, hml, hown, hg⟩ (k_X7_write l D cs A ad fa fq rv (va_up (va_up v 25 o_v25_19) 26 o_v26_20) (va_up a 19 o_a19_21) w fv fp  x_24 hr0 hr1 (show -1000 ≤ x_24.toInt by first | omega | decide) (show x_24.toInt ≤ 20000 by first | omega | decide) (show 0 ≤ o_v26_20.toInt by first | omega | decide) (show o_v26_20.toInt ≤ 256 by first | omega | decide) wr_18_8) ca_X7_write q3_102 ⟨rfl, rfl⟩ ⟨(show 0 + 1 ≤ 10 * n + 7 by omega), (show 8 + (2 + 11) + (0) ≤ 300 * n + 280 by omega)⟩ (rc_reader hK hP) hK hP hD hS hZ rfl hl.1 rfl (Nat.le_of_ble_eq_true rfl) ⟨Nat.zero_le _, Nat.zero_le _⟩ dX7_readProduct_67 (fun r_25 z_28 H locs wr_25 hP hD hS => ?_)
              obtain ⟨o_v26_26, o_a19_27⟩ := z_28
              have hP : va_P D vwCl (CW cs ad fa fq rv (va_up (va_up v 25 o_v25_19) 26 o_v26_26) (va_up a 19 o_a19_27) w fv fp) H := hP
              have hD : va_D A (CW cs ad fa fq rv (va_up (va_up v 25 o_v25_19) 26 o_v26_26) (va_up a 19 o_a19_27) w fv fp) := hD
              obtain ⟨wr_25_0, wr_25_1, wr_25_2, wr_25_3, wr_25_4⟩ : (0 ≤ r_25.toInt) ∧ (r_25.toInt ≤ 1) ∧ (0 ≤ o_v26_26.toInt) ∧ (o_v26_26.toInt ≤ 256) ∧ (AB (-1000) 20000 o_a19_27) := wr_25
              refine lv_pop hx hb dX7_readProduct_70 rfl ?_
              refine lv_aload_n hx hb dX7_readProduct_71 rfl (lv_at hl 0 rfl) ?_
              refine cV_ro (As := []) (rest := []) ⟨hx, hb, hml, hown, hg⟩ (k_X7_sign l D cs A ad fa fq rv (va_up (va_up v 25 o_v25_19) 26 o_v26_26) (va_up a 19 o_a19_27) w fv fp   hr0 hr1 (show 0 ≤ (v 24).toInt by first | omega | decide) (show (v 24).toInt ≤ 120 by first | omega | decide) (show 0 ≤ o_v25_19.toInt by first | omega | decide) (show o_v25_19.toInt ≤ 120 by first | omega | decide) (show o_v25_19.toInt ≤ (v 24).toInt by first | omega | decide)) ca_X7_sign q3_91 ⟨rfl, rfl⟩ ⟨(show 0 + 1 ≤ 10 * n + 7 by omega), (show 8 + (1 + 11) + (0) ≤ 300 * n + 280 by omega)⟩ (rc_reader hK hP) hK hP hD hS hZ rfl hl.1 rfl (Nat.le_of_ble_eq_true rfl) ⟨Nat.zero_le _, Nat.zero_le _⟩ dX7_readProduct_72 (fun r_29 wr_29 => ?_)
              have wr_29_0 : (o_v25_19.toInt < (v 24).toInt ∧ r_29.toInt = ((a 15) o_v25_19.toNatClampNeg).toInt) ∨ ((v 24).toInt ≤ o_v25_19.toInt ∧ r_29.toInt = -1) := wr_29
              refine lv_istore_n (lv' := [(2, .int r_29), (0, .ref (ad 10)), (1, .int p1)]) hx hb dX7_readProduct_75 rfl hl (by decide) rfl (fun ls hl => ?_)
              refine lv_goto (tgt := 15) hx hb dX7_readProduct_76 (by decide) ?_
              exact ih r_29 o_v25_19 o_v26_26 o_a19_27 _ _ (by omega) (show 0 ≤ o_v25_19.toInt by first | omega | assumption) (show o_v25_19.toInt ≤ 120 by first | omega | assumption) (show o_v25_19.toInt ≤ (v 24).toInt by first | omega | assumption) (show 0 ≤ o_v26_26.toInt by first | omega | assumption) (show o_v26_26.toInt ≤ 256 by first | omega | assumption) wr_25_4 (by omega) hP hD hS ls (lv_sub hl [1, 2, 0] rfl)
            ·
              have kc_23 : r_18.toInt = (0 : Int) := i_eq c_23
              refine lv_iconst (v := 0) hx hb dX7_readProduct_62 (by decide) ?_
              have q0_0 : (0 : Int32).toInt = 0 := rfl
              exact W.zret (v := 0) hx hb hr rfl (fun tt ht hW => ⟨⟨0, ⟨o_v25_19, o_v26_20, o_a19_21⟩, rfl, ⟨(by first | rfl | omega | trivial | assumption | (dsimp only; first | omega | assumption)), (by first | rfl | omega | trivial | assumption | (dsimp only; first | omega | assumption)), (by first | rfl | omega | trivial | assumption | (dsimp only; first | omega | assumption)), (show 0 ≤ o_v25_19.toInt by first | omega | assumption), (show o_v25_19.toInt ≤ 120 by first | omega | assumption), (show o_v25_19.toInt ≤ (v 24).toInt by first | omega | assumption), (show 0 ≤ o_v26_20.toInt by first | omega | assumption), (show o_v26_20.toInt ≤ 256 by first | omega | assumption), wr_18_8⟩, by rw [ht]; exact hP, hD⟩, hS.F ht⟩) hS.2.2 dX7_readProduct_63
          ·
            have kc_16 : x2.toInt ≠ (47 : Int) := i_ne c_16
            refine lv_iload_n hx hb dX7_readProduct_38 rfl (lv_at hl 2 rfl) ?_
            refine lv_bipush (v := 37) hx hb dX7_readProduct_39 (by decide) ?_
            refine lv_icmp_ne (tgt := 79) hx hb dX7_readProduct_41 (by decide) (fun c_30 => ?_) (fun c_30 => ?_)
            ·
              have kc_30 : x2.toInt ≠ (37 : Int) := i_ne c_30
              refine lv_iconst (v := 1) hx hb dX7_readProduct_79 (by decide) ?_
              have q0_1 : (1 : Int32).toInt = 1 := rfl
              exact W.zret (v := 1) hx hb hr rfl (fun tt ht hW => ⟨⟨1, ⟨c15_v25, c15_v26, c15_a19⟩, rfl, ⟨(by first | rfl | omega | trivial | assumption | (dsimp only; first | omega | assumption)), (by first | rfl | omega | trivial | assumption | (dsimp only; first | omega | assumption)), (by first | rfl | omega | trivial | assumption | (dsimp only; first | omega | assumption)), (show 0 ≤ c15_v25.toInt by first | omega | assumption), (show c15_v25.toInt ≤ 120 by first | omega | assumption), (show c15_v25.toInt ≤ (v 24).toInt by first | omega | assumption), (show 0 ≤ c15_v26.toInt by first | omega | assumption), (show c15_v26.toInt ≤ 256 by first | omega | assumption), ja19_0⟩, by rw [ht]; exact hP, hD⟩, hS.F ht⟩) hS.2.2 dX7_readProduct_80
            ·
              have kc_30 : x2.toInt = (37 : Int) := i_eq c_30
              refine lv_aload_n hx hb dX7_readProduct_44 rfl (lv_at hl 0 rfl) ?_
              refine lv_dup hx hb dX7_readProduct_45 rfl ?_
              refine gf_reader_at hx hb hg hown hK hP (x := c15_v25) rfl (hg _ q1_157) dX7_readProduct_46 ?_
              refine lv_iconst (v := 1) hx hb dX7_readProduct_49 (by decide) ?_
              refine lv_iadd hx hb dX7_readProduct_50 ?_
              refine lv_topi (fun x_31 ex_31 => ?_)
              have fx_31 : x_31.toInt = c15_v25.toInt + (1 : Int) := by rw [ex_31]; exact i_add (by first | omega | (show (_ : Int) ≤ c15_v25.toInt + (1 : Int); omega)) (by first | omega | (show c15_v25.toInt + (1 : Int) ≤ (_ : Int); omega))
              refine pf_reader_at hx hb hg hown hK hP hD hS (hg _ q1_157) dX7_readProduct_51 (fun H locs hP hD hS => ?_)
              refine lv_aload_n hx hb dX7_readProduct_54 rfl (lv_at hl 0 rfl) ?_
              refine lv_iload_n hx hb dX7_readProduct_55 rfl (lv_at hl 1 rfl) ?_
              refine cV_i (As := [.int p1]) (rest := []) ⟨hx, hb, hml, hown, hg⟩ (h1n l D cs A ad fa fq rv (va_up (va_up v 26 c15_v26) 25 x_31) (va_up a 19 c15_a19) w fv fp  p1 hr0 hr1 (show 0 ≤ p1.toInt by first | omega | decide) (show p1.toInt ≤ 6 by first | omega | decide) (show 6 ≤ p1.toInt + (n : Int) by first | omega | decide) (show 0 ≤ (v 24).toInt by first | omega | decide) (show (v 24).toInt ≤ 120 by first | omega | decide) (show 0 ≤ x_31.toInt by first | omega | decide) (show x_31.toInt ≤ 120 by first | omega | decide) (show x_31.toInt ≤ (v 24).toInt by first | omega | decide) (show 0 ≤ c15_v26.toInt by first | omega | decide) (show c15_v26.toInt ≤ 256 by first | omega | decide) ja19_0) ca_X7_readOne q3_87 ⟨rfl, rfl⟩ ⟨(show 10 * n + 6 + 1 ≤ 10 * n + 7 by omega), (show 8 + (4 + 11) + (300 * n + 250) ≤ 300 * n + 280 by omega)⟩ (rc_reader hK hP) hK hP hD hS hZ rfl hl.1 rfl (Nat.le_of_ble_eq_true rfl) ⟨Nat.zero_le _, Nat.zero_le _⟩ dX7_readProduct_56 (fun r_32 z_36 H locs wr_32 hP hD hS => ?_)
              obtain ⟨o_v25_33, o_v26_34, o_a19_35⟩ := z_36
              have hP : va_P D vwCl (CW cs ad fa fq rv (va_up (va_up v 25 o_v25_33) 26 o_v26_34) (va_up a 19 o_a19_35) w fv fp) H := hP
              have hD : va_D A (CW cs ad fa fq rv (va_up (va_up v 25 o_v25_33) 26 o_v26_34) (va_up a 19 o_a19_35) w fv fp) := hD
              obtain ⟨wr_32_0, wr_32_1, wr_32_2, wr_32_3, wr_32_4, wr_32_5, wr_32_6, wr_32_7, wr_32_8⟩ : (0 ≤ r_32.toInt) ∧ (r_32.toInt ≤ 1) ∧ (x_31.toInt ≤ o_v25_33.toInt) ∧ (0 ≤ o_v25_33.toInt) ∧ (o_v25_33.toInt ≤ 120) ∧ (o_v25_33.toInt ≤ (v 24).toInt) ∧ (0 ≤ o_v26_34.toInt) ∧ (o_v26_34.toInt ≤ 256) ∧ (AB (-1000) 20000 o_a19_35) := wr_32
              refine lv_if_ne (tgt := 64) hx hb dX7_readProduct_59 (by decide) (fun c_37 => ?_) (fun c_37 => ?_)
              ·
                have kc_37 : r_32.toInt ≠ (0 : Int) := i_ne c_37
                refine lv_aload_n hx hb dX7_readProduct_64 rfl (lv_at hl 0 rfl) ?_
                refine lv_iload_n hx hb dX7_readProduct_65 rfl (lv_at hl 2 rfl) ?_
                refine lv_ineg hx hb dX7_readProduct_66 ?_
                refine lv_topi (fun x_38 ex_38 => ?_)
                have fx_38 : x_38.toInt = -x2.toInt := by rw [ex_38]; exact i_neg (by omega)
                refine cV_i (As := [.int x_38]) (rest := []) ⟨hx, hb, hml, hown, hg⟩ (k_X7_write l D cs A ad fa fq rv (va_up (va_up v 25 o_v25_33) 26 o_v26_34) (va_up a 19 o_a19_35) w fv fp  x_38 hr0 hr1 (show -1000 ≤ x_38.toInt by first | omega | decide) (show x_38.toInt ≤ 20000 by first | omega | decide) (show 0 ≤ o_v26_34.toInt by first | omega | decide) (show o_v26_34.toInt ≤ 256 by first | omega | decide) wr_32_8) ca_X7_write q3_102 ⟨rfl, rfl⟩ ⟨(show 0 + 1 ≤ 10 * n + 7 by omega), (show 8 + (2 + 11) + (0) ≤ 300 * n + 280 by omega)⟩ (rc_reader hK hP) hK hP hD hS hZ rfl hl.1 rfl (Nat.le_of_ble_eq_true rfl) ⟨Nat.zero_le _, Nat.zero_le _⟩ dX7_readProduct_67 (fun r_39 z_42 H locs wr_39 hP hD hS => ?_)
                obtain ⟨o_v26_40, o_a19_41⟩ := z_42
                have hP : va_P D vwCl (CW cs ad fa fq rv (va_up (va_up v 25 o_v25_33) 26 o_v26_40) (va_up a 19 o_a19_41) w fv fp) H := hP
                have hD : va_D A (CW cs ad fa fq rv (va_up (va_up v 25 o_v25_33) 26 o_v26_40) (va_up a 19 o_a19_41) w fv fp) := hD
                obtain ⟨wr_39_0, wr_39_1, wr_39_2, wr_39_3, wr_39_4⟩ : (0 ≤ r_39.toInt) ∧ (r_39.toInt ≤ 1) ∧ (0 ≤ o_v26_40.toInt) ∧ (o_v26_40.toInt ≤ 256) ∧ (AB (-1000) 20000 o_a19_41) := wr_39
                refine lv_pop hx hb dX7_readProduct_70 rfl ?_
                refine lv_aload_n hx hb dX7_readProduct_71 rfl (lv_at hl 0 rfl) ?_
                refine cV_ro (As := []) (rest := []) ⟨hx, hb, hml, hown, hg⟩ (k_X7_sign l D cs A ad fa fq rv (va_up (va_up v 25 o_v25_33) 26 o_v26_40) (va_up a 19 o_a19_41) w fv fp   hr0 hr1 (show 0 ≤ (v 24).toInt by first | omega | decide) (show (v 24).toInt ≤ 120 by first | omega | decide) (show 0 ≤ o_v25_33.toInt by first | omega | decide) (show o_v25_33.toInt ≤ 120 by first | omega | decide) (show o_v25_33.toInt ≤ (v 24).toInt by first | omega | decide)) ca_X7_sign q3_91 ⟨rfl, rfl⟩ ⟨(show 0 + 1 ≤ 10 * n + 7 by omega), (show 8 + (1 + 11) + (0) ≤ 300 * n + 280 by omega)⟩ (rc_reader hK hP) hK hP hD hS hZ rfl hl.1 rfl (Nat.le_of_ble_eq_true rfl) ⟨Nat.zero_le _, Nat.zero_le _⟩ dX7_readProduct_72 (fun r_43 wr_43 => ?_)
                have wr_43_0 : (o_v25_33.toInt < (v 24).toInt ∧ r_43.toInt = ((a 15) o_v25_33.toNatClampNeg).toInt) ∨ ((v 24).toInt ≤ o_v25_33.toInt ∧ r_43.toInt = -1) := wr_43
                refine lv_istore_n (lv' := [(2, .int r_43), (0, .ref (ad 10)), (1, .int p1)]) hx hb dX7_readProduct_75 rfl hl (by decide) rfl (fun ls hl => ?_)
                refine lv_goto (tgt := 15) hx hb dX7_readProduct_76 (by decide) ?_
                exact ih r_43 o_v25_33 o_v26_40 o_a19_41 _ _ (by omega) (show 0 ≤ o_v25_33.toInt by first | omega | assumption) (show o_v25_33.toInt ≤ 120 by first | omega | assumption) (show o_v25_33.toInt ≤ (v 24).toInt by first | omega | assumption) (show 0 ≤ o_v26_40.toInt by first | omega | assumption) (show o_v26_40.toInt ≤ 256 by first | omega | assumption) wr_39_4 (by omega) hP hD hS ls (lv_sub hl [1, 2, 0] rfl)
              ·
                have kc_37 : r_32.toInt = (0 : Int) := i_eq c_37
                refine lv_iconst (v := 0) hx hb dX7_readProduct_62 (by decide) ?_
                have q0_0 : (0 : Int32).toInt = 0 := rfl
                exact W.zret (v := 0) hx hb hr rfl (fun tt ht hW => ⟨⟨0, ⟨o_v25_33, o_v26_34, o_a19_35⟩, rfl, ⟨(by first | rfl | omega | trivial | assumption | (dsimp only; first | omega | assumption)), (by first | rfl | omega | trivial | assumption | (dsimp only; first | omega | assumption)), (by first | rfl | omega | trivial | assumption | (dsimp only; first | omega | assumption)), (show 0 ≤ o_v25_33.toInt by first | omega | assumption), (show o_v25_33.toInt ≤ 120 by first | omega | assumption), (show o_v25_33.toInt ≤ (v 24).toInt by first | omega | assumption), (show 0 ≤ o_v26_34.toInt by first | omega | assumption), (show o_v26_34.toInt ≤ 256 by first | omega | assumption), wr_32_8⟩, by rw [ht]; exact hP, hD⟩, hS.F ht⟩) hS.2.2 dX7_readProduct_63
  refine lv_aload_n hx hb dX7_readProduct_0 rfl (lv_at hl 0 rfl) ?_
  refine lv_iload_n hx hb dX7_readProduct_1 rfl (lv_at hl 1 rfl) ?_
  refine cV_i (As := [.int p1]) (rest := []) ⟨hx, hb, hml, hown, hg⟩ (h1n l D cs A ad fa fq rv v a w fv fp  p1 hr0 hr1 (show 0 ≤ p1.toInt by first | omega | decide) (show p1.toInt ≤ 6 by first | omega | decide) (show 6 ≤ p1.toInt + (n : Int) by first | omega | decide) (show 0 ≤ (v 24).toInt by first | omega | decide) (show (v 24).toInt ≤ 120 by first | omega | decide) (show 0 ≤ (v 25).toInt by first | omega | decide) (show (v 25).toInt ≤ 120 by first | omega | decide) (show (v 25).toInt ≤ (v 24).toInt by first | omega | decide) (show 0 ≤ (v 26).toInt by first | omega | decide) (show (v 26).toInt ≤ 256 by first | omega | decide) ia19_0) ca_X7_readOne q3_87 ⟨rfl, rfl⟩ ⟨(show 10 * n + 6 + 1 ≤ 10 * n + 7 by omega), (show 8 + (4 + 11) + (300 * n + 250) ≤ 300 * n + 280 by omega)⟩ (rc_reader hK hP) hK hP hD hS hZ rfl hl.1 rfl (Nat.le_of_ble_eq_true rfl) ⟨Nat.zero_le _, Nat.zero_le _⟩ dX7_readProduct_2 (fun r_44 z_48 H locs wr_44 hP hD hS => ?_)
  obtain ⟨o_v25_45, o_v26_46, o_a19_47⟩ := z_48
  have hP : va_P D vwCl (CW cs ad fa fq rv (va_up (va_up v 25 o_v25_45) 26 o_v26_46) (va_up a 19 o_a19_47) w fv fp) H := hP
  have hD : va_D A (CW cs ad fa fq rv (va_up (va_up v 25 o_v25_45) 26 o_v26_46) (va_up a 19 o_a19_47) w fv fp) := hD
  obtain ⟨wr_44_0, wr_44_1, wr_44_2, wr_44_3, wr_44_4, wr_44_5, wr_44_6, wr_44_7, wr_44_8⟩ : (0 ≤ r_44.toInt) ∧ (r_44.toInt ≤ 1) ∧ ((v 25).toInt ≤ o_v25_45.toInt) ∧ (0 ≤ o_v25_45.toInt) ∧ (o_v25_45.toInt ≤ 120) ∧ (o_v25_45.toInt ≤ (v 24).toInt) ∧ (0 ≤ o_v26_46.toInt) ∧ (o_v26_46.toInt ≤ 256) ∧ (AB (-1000) 20000 o_a19_47) := wr_44
  refine lv_if_ne (tgt := 10) hx hb dX7_readProduct_5 (by decide) (fun c_49 => ?_) (fun c_49 => ?_)
  ·
    have kc_49 : r_44.toInt ≠ (0 : Int) := i_ne c_49
    refine lv_aload_n hx hb dX7_readProduct_10 rfl (lv_at hl 0 rfl) ?_
    refine cV_ro (As := []) (rest := []) ⟨hx, hb, hml, hown, hg⟩ (k_X7_sign l D cs A ad fa fq rv (va_up (va_up v 25 o_v25_45) 26 o_v26_46) (va_up a 19 o_a19_47) w fv fp   hr0 hr1 (show 0 ≤ (v 24).toInt by first | omega | decide) (show (v 24).toInt ≤ 120 by first | omega | decide) (show 0 ≤ o_v25_45.toInt by first | omega | decide) (show o_v25_45.toInt ≤ 120 by first | omega | decide) (show o_v25_45.toInt ≤ (v 24).toInt by first | omega | decide)) ca_X7_sign q3_91 ⟨rfl, rfl⟩ ⟨(show 0 + 1 ≤ 10 * n + 7 by omega), (show 8 + (1 + 11) + (0) ≤ 300 * n + 280 by omega)⟩ (rc_reader hK hP) hK hP hD hS hZ rfl hl.1 rfl (Nat.le_of_ble_eq_true rfl) ⟨Nat.zero_le _, Nat.zero_le _⟩ dX7_readProduct_11 (fun r_50 wr_50 => ?_)
    have wr_50_0 : (o_v25_45.toInt < (v 24).toInt ∧ r_50.toInt = ((a 15) o_v25_45.toNatClampNeg).toInt) ∨ ((v 24).toInt ≤ o_v25_45.toInt ∧ r_50.toInt = -1) := wr_50
    refine lv_istore_n (lv' := [(2, .int r_50), (0, .ref (ad 10)), (1, .int p1)]) hx hb dX7_readProduct_14 rfl hl (by decide) rfl (fun ls hl => ?_)
    exact (hcut ((((v 24).toInt - o_v25_45.toInt).toNat) + 1)) r_50 o_v25_45 o_v26_46 o_a19_47 _ _ (by omega) (show 0 ≤ o_v25_45.toInt by first | omega | assumption) (show o_v25_45.toInt ≤ 120 by first | omega | assumption) (show o_v25_45.toInt ≤ (v 24).toInt by first | omega | assumption) (show 0 ≤ o_v26_46.toInt by first | omega | assumption) (show o_v26_46.toInt ≤ 256 by first | omega | assumption) wr_44_8 (Nat.lt_succ_self _) hP hD hS ls (lv_sub hl [1, 2, 0] rfl)
  ·
    have kc_49 : r_44.toInt = (0 : Int) := i_eq c_49
    refine lv_iconst (v := 0) hx hb dX7_readProduct_8 (by decide) ?_
    have q0_0 : (0 : Int32).toInt = 0 := rfl
    exact W.zret (v := 0) hx hb hr rfl (fun tt ht hW => ⟨⟨0, ⟨o_v25_45, o_v26_46, o_a19_47⟩, rfl, ⟨(by first | rfl | omega | trivial | assumption | (dsimp only; first | omega | assumption)), (by first | rfl | omega | trivial | assumption | (dsimp only; first | omega | assumption)), (by first | rfl | omega | trivial | assumption | (dsimp only; first | omega | assumption)), (show 0 ≤ o_v25_45.toInt by first | omega | assumption), (show o_v25_45.toInt ≤ 120 by first | omega | assumption), (show o_v25_45.toInt ≤ (v 24).toInt by first | omega | assumption), (show 0 ≤ o_v26_46.toInt by first | omega | assumption), (show o_v26_46.toInt ≤ 256 by first | omega | assumption), wr_44_8⟩, by rw [ht]; exact hP, hD⟩, hS.F ht⟩) hS.2.2 dX7_readProduct_9
set_option maxHeartbeats 4000000 in
set_option maxRecDepth 100000 in
theorem s_X7_readSum (n : Nat) (h1n : C_X7_readProduct n) : C_X7_readSum n := by
  intro l D cs A ad fa fq rv v a w fv fp p1 hr0 hr1 ho0 ho6 hon iv24_0 iv24_1 iv25_0 iv25_1 iv25_2 iv26_0 iv26_1 ia19_0
  refine Met.ofW (cc := cX7_readSum) (maxL := 3) (ret := (some .boolean)) (by decide) rfl ?_
  intro p e s m args below meth c s₁ B hml hv
  obtain ⟨rfl, hP, hK, hD, hZ⟩ := hv
  have hx := B.exec
  have hb := B.bytes
  have hr := B.returns
  have hts := atoms_spec (ws := (Cond.code yX7_readSum cX7_readSum 3 (some .boolean) :: gw)) B.pre
  have hg : ∀ w ∈ gw, w.before ([.ref (ad 10), .int p1] : List Value).toArray s = true := fun w h => hts w (List.mem_cons_of_mem _ h)
  have hown : s.vm.findClass RX7 = some m.cls := findClass_of_methodNamed B.named
  have hlocks := B.notSynchronized
  have hS : va_S A s.heap s.heap [] := va_S.rf
  have hP : va_P D vwCl (CW cs ad fa fq rv v a w fv fp) s.heap := hP
  have hl := lv_entry ([.ref (ad 10), .int p1]) (n := 3) (Nat.le_of_ble_eq_true rfl)
  rw [lg_entry_eq]
  generalize (lg_sl ([.ref (ad 10), .int p1]) ++ List.replicate (3 - (lg_sl ([.ref (ad 10), .int p1])).length) Slot.unset).toArray = ls at hl ⊢
  have hl : lv_has ls 3 [(0, .ref (ad 10)), (1, .int p1)] := hl
  have hcut : ∀ nk : Nat, (∀ (x2 : Int32) (c15_v25 : Int32) (c15_v26 : Int32) (c15_a19 : Nat → Int32) (H : Heap) (locs : List Loc) (hat : (v 25).toInt ≤ c15_v25.toInt) (jv25_0 : 0 ≤ c15_v25.toInt) (jv25_1 : c15_v25.toInt ≤ 120) (jv25_2 : c15_v25.toInt ≤ (v 24).toInt) (jv26_0 : 0 ≤ c15_v26.toInt) (jv26_1 : c15_v26.toInt ≤ 256) (ja19_0 : AB (-1000) 20000 c15_a19) (hmu : ((v 24).toInt - c15_v25.toInt).toNat < nk) (hP : va_P D vwCl (CW cs ad fa fq rv (va_up (va_up v 25 c15_v25) 26 c15_v26) (va_up a 19 c15_a19) w fv fp) H) (hD : va_D A (CW cs ad fa fq rv (va_up (va_up v 25 c15_v25) 26 c15_v26) (va_up a 19 c15_a19) w fv fp)) (hS : va_S A s.heap H locs) (ls : Array Slot) (hl : lv_has ls 3 [(0, .ref (ad 10)), (1, .int p1), (2, .int x2)]), W p l e (headSpec (Cond.code yX7_readSum cX7_readSum 3 (some .boolean) :: gw) ({ frames := 10 * n + 8, cells := 0, slots := 0, locals := 300 * n + 310 })).room s m ([.ref (ad 10), .int p1] : List Value).toArray below meth c H locs 0 0 (MQ below (va_Qi (fun (r : Int32) (z : Int32 × Int32 × (Nat → Int32)) => (0 ≤ r.toInt) ∧ (r.toInt ≤ 1) ∧ ((v 25).toInt ≤ z.1.toInt) ∧ (0 ≤ z.1.toInt) ∧ (z.1.toInt ≤ 120) ∧ (z.1.toInt ≤ (v 24).toInt) ∧ (0 ≤ z.2.1.toInt) ∧ (z.2.1.toInt ≤ 256) ∧ (AB (-1000) 20000 z.2.2)) (XPo D (fun (z : Int32 × Int32 × (Nat → Int32)) => CW cs ad fa fq rv (va_up (va_up v 25 z.1) 26 z.2.1) (va_up a 19 z.2.2) w fv fp) A) A) ([.ref (ad 10), .int p1] : List Value).toArray s 0 0 A) (F0 m 15 ls [])) := by
    intro nk
    induction nk with
    | zero => exact (fun x2 c15_v25 c15_v26 c15_a19 H locs hat jv25_0 jv25_1 jv25_2 jv26_0 jv26_1 ja19_0 hmu hP hD hS ls hl => absurd hmu (Nat.not_lt_zero _))
    | succ nk ih =>
      intro x2 c15_v25 c15_v26 c15_a19 H locs hat jv25_0 jv25_1 jv25_2 jv26_0 jv26_1 ja19_0 hmu hP hD hS ls hl
      refine lv_aload_n hx hb dX7_readSum_15 rfl (lv_at hl 0 rfl) ?_
      refine gf_reader_at hx hb hg hown hK hP (x := c15_v25) rfl (hg _ q1_157) dX7_readSum_16 ?_
      refine lv_aload_n hx hb dX7_readSum_19 rfl (lv_at hl 0 rfl) ?_
      refine gf_reader_length hx hb hg hown hK hP (x := (v 24)) rfl (hg _ q1_156) dX7_readSum_20 ?_
      refine lv_icmp_ge (tgt := 73) hx hb dX7_readSum_23 (by decide) (fun c_1 => ?_) (fun c_1 => ?_)
      ·
        have kc_1 : (v 24).toInt ≤ c15_v25.toInt := i_le c_1
        refine lv_iconst (v := 1) hx hb dX7_readSum_73 (by decide) ?_
        have q0_1 : (1 : Int32).toInt = 1 := rfl
        exact W.zret (v := 1) hx hb hr rfl (fun tt ht hW => ⟨⟨1, ⟨c15_v25, c15_v26, c15_a19⟩, rfl, ⟨(by first | rfl | omega | trivial | assumption | (dsimp only; first | omega | assumption)), (by first | rfl | omega | trivial | assumption | (dsimp only; first | omega | assumption)), (by first | rfl | omega | trivial | assumption | (dsimp only; first | omega | assumption)), (show 0 ≤ c15_v25.toInt by first | omega | assumption), (show c15_v25.toInt ≤ 120 by first | omega | assumption), (show c15_v25.toInt ≤ (v 24).toInt by first | omega | assumption), (show 0 ≤ c15_v26.toInt by first | omega | assumption), (show c15_v26.toInt ≤ 256 by first | omega | assumption), ja19_0⟩, by rw [ht]; exact hP, hD⟩, hS.F ht⟩) hS.2.2 dX7_readSum_74
      ·
        have kc_1 : c15_v25.toInt < (v 24).toInt := i_nle c_1
        refine lv_iload_n hx hb dX7_readSum_26 rfl (lv_at hl 2 rfl) ?_
        refine lv_bipush (v := 43) hx hb dX7_readSum_27 (by decide) ?_
        refine lv_icmp_eq (tgt := 38) hx hb dX7_readSum_29 (by decide) (fun c_2 => ?_) (fun c_2 => ?_)
        ·
          have kc_2 : x2.toInt = (43 : Int) := i_eq c_2
          refine lv_aload_n hx hb dX7_readSum_38 rfl (lv_at hl 0 rfl) ?_
          refine lv_dup hx hb dX7_readSum_39 rfl ?_
          refine gf_reader_at hx hb hg hown hK hP (x := c15_v25) rfl (hg _ q1_157) dX7_readSum_40 ?_
          refine lv_iconst (v := 1) hx hb dX7_readSum_43 (by decide) ?_
          refine lv_iadd hx hb dX7_readSum_44 ?_
          refine lv_topi (fun x_3 ex_3 => ?_)
          have fx_3 : x_3.toInt = c15_v25.toInt + (1 : Int) := by rw [ex_3]; exact i_add (by first | omega | (show (_ : Int) ≤ c15_v25.toInt + (1 : Int); omega)) (by first | omega | (show c15_v25.toInt + (1 : Int) ≤ (_ : Int); omega))
          refine pf_reader_at hx hb hg hown hK hP hD hS (hg _ q1_157) dX7_readSum_45 (fun H locs hP hD hS => ?_)
          refine lv_aload_n hx hb dX7_readSum_48 rfl (lv_at hl 0 rfl) ?_
          refine lv_iload_n hx hb dX7_readSum_49 rfl (lv_at hl 1 rfl) ?_
          refine cV_i (As := [.int p1]) (rest := []) ⟨hx, hb, hml, hown, hg⟩ (h1n l D cs A ad fa fq rv (va_up (va_up v 26 c15_v26) 25 x_3) (va_up a 19 c15_a19) w fv fp  p1 hr0 hr1 (show 0 ≤ p1.toInt by first | omega | decide) (show p1.toInt ≤ 6 by first | omega | decide) (show 6 ≤ p1.toInt + (n : Int) by first | omega | decide) (show 0 ≤ (v 24).toInt by first | omega | decide) (show (v 24).toInt ≤ 120 by first | omega | decide) (show 0 ≤ x_3.toInt by first | omega | decide) (show x_3.toInt ≤ 120 by first | omega | decide) (show x_3.toInt ≤ (v 24).toInt by first | omega | decide) (show 0 ≤ c15_v26.toInt by first | omega | decide) (show c15_v26.toInt ≤ 256 by first | omega | decide) ja19_0) ca_X7_readProduct q3_83 ⟨rfl, rfl⟩ ⟨(show 10 * n + 7 + 1 ≤ 10 * n + 8 by omega), (show 8 + (3 + 11) + (300 * n + 280) ≤ 300 * n + 310 by omega)⟩ (rc_reader hK hP) hK hP hD hS hZ rfl hl.1 rfl (Nat.le_of_ble_eq_true rfl) ⟨Nat.zero_le _, Nat.zero_le _⟩ dX7_readSum_50 (fun r_4 z_8 H locs wr_4 hP hD hS => ?_)
          obtain ⟨o_v25_5, o_v26_6, o_a19_7⟩ := z_8
          have hP : va_P D vwCl (CW cs ad fa fq rv (va_up (va_up v 25 o_v25_5) 26 o_v26_6) (va_up a 19 o_a19_7) w fv fp) H := hP
          have hD : va_D A (CW cs ad fa fq rv (va_up (va_up v 25 o_v25_5) 26 o_v26_6) (va_up a 19 o_a19_7) w fv fp) := hD
          obtain ⟨wr_4_0, wr_4_1, wr_4_2, wr_4_3, wr_4_4, wr_4_5, wr_4_6, wr_4_7, wr_4_8⟩ : (0 ≤ r_4.toInt) ∧ (r_4.toInt ≤ 1) ∧ (x_3.toInt ≤ o_v25_5.toInt) ∧ (0 ≤ o_v25_5.toInt) ∧ (o_v25_5.toInt ≤ 120) ∧ (o_v25_5.toInt ≤ (v 24).toInt) ∧ (0 ≤ o_v26_6.toInt) ∧ (o_v26_6.toInt ≤ 256) ∧ (AB (-1000) 20000 o_a19_7) := wr_4
          refine lv_if_ne (tgt := 58) hx hb dX7_readSum_53 (by decide) (fun c_9 => ?_) (fun c_9 => ?_)
          ·
            have kc_9 : r_4.toInt ≠ (0 : Int) := i_ne c_9
            refine lv_aload_n hx hb dX7_readSum_58 rfl (lv_at hl 0 rfl) ?_
            refine lv_iload_n hx hb dX7_readSum_59 rfl (lv_at hl 2 rfl) ?_
            refine lv_ineg hx hb dX7_readSum_60 ?_
            refine lv_topi (fun x_10 ex_10 => ?_)
            have fx_10 : x_10.toInt = -x2.toInt := by rw [ex_10]; exact i_neg (by omega)
            refine cV_i (As := [.int x_10]) (rest := []) ⟨hx, hb, hml, hown, hg⟩ (k_X7_write l D cs A ad fa fq rv (va_up (va_up v 25 o_v25_5) 26 o_v26_6) (va_up a 19 o_a19_7) w fv fp  x_10 hr0 hr1 (show -1000 ≤ x_10.toInt by first | omega | decide) (show x_10.toInt ≤ 20000 by first | omega | decide) (show 0 ≤ o_v26_6.toInt by first | omega | decide) (show o_v26_6.toInt ≤ 256 by first | omega | decide) wr_4_8) ca_X7_write q3_102 ⟨rfl, rfl⟩ ⟨(show 0 + 1 ≤ 10 * n + 8 by omega), (show 8 + (2 + 11) + (0) ≤ 300 * n + 310 by omega)⟩ (rc_reader hK hP) hK hP hD hS hZ rfl hl.1 rfl (Nat.le_of_ble_eq_true rfl) ⟨Nat.zero_le _, Nat.zero_le _⟩ dX7_readSum_61 (fun r_11 z_14 H locs wr_11 hP hD hS => ?_)
            obtain ⟨o_v26_12, o_a19_13⟩ := z_14
            have hP : va_P D vwCl (CW cs ad fa fq rv (va_up (va_up v 25 o_v25_5) 26 o_v26_12) (va_up a 19 o_a19_13) w fv fp) H := hP
            have hD : va_D A (CW cs ad fa fq rv (va_up (va_up v 25 o_v25_5) 26 o_v26_12) (va_up a 19 o_a19_13) w fv fp) := hD
            obtain ⟨wr_11_0, wr_11_1, wr_11_2, wr_11_3, wr_11_4⟩ : (0 ≤ r_11.toInt) ∧ (r_11.toInt ≤ 1) ∧ (0 ≤ o_v26_12.toInt) ∧ (o_v26_12.toInt ≤ 256) ∧ (AB (-1000) 20000 o_a19_13) := wr_11
            refine lv_pop hx hb dX7_readSum_64 rfl ?_
            refine lv_aload_n hx hb dX7_readSum_65 rfl (lv_at hl 0 rfl) ?_
            refine cV_ro (As := []) (rest := []) ⟨hx, hb, hml, hown, hg⟩ (k_X7_sign l D cs A ad fa fq rv (va_up (va_up v 25 o_v25_5) 26 o_v26_12) (va_up a 19 o_a19_13) w fv fp   hr0 hr1 (show 0 ≤ (v 24).toInt by first | omega | decide) (show (v 24).toInt ≤ 120 by first | omega | decide) (show 0 ≤ o_v25_5.toInt by first | omega | decide) (show o_v25_5.toInt ≤ 120 by first | omega | decide) (show o_v25_5.toInt ≤ (v 24).toInt by first | omega | decide)) ca_X7_sign q3_91 ⟨rfl, rfl⟩ ⟨(show 0 + 1 ≤ 10 * n + 8 by omega), (show 8 + (1 + 11) + (0) ≤ 300 * n + 310 by omega)⟩ (rc_reader hK hP) hK hP hD hS hZ rfl hl.1 rfl (Nat.le_of_ble_eq_true rfl) ⟨Nat.zero_le _, Nat.zero_le _⟩ dX7_readSum_66 (fun r_15 wr_15 => ?_)
            have wr_15_0 : (o_v25_5.toInt < (v 24).toInt ∧ r_15.toInt = ((a 15) o_v25_5.toNatClampNeg).toInt) ∨ ((v 24).toInt ≤ o_v25_5.toInt ∧ r_15.toInt = -1) := wr_15
            refine lv_istore_n (lv' := [(2, .int r_15), (0, .ref (ad 10)), (1, .int p1)]) hx hb dX7_readSum_69 rfl hl (by decide) rfl (fun ls hl => ?_)
            refine lv_goto (tgt := 15) hx hb dX7_readSum_70 (by decide) ?_
            exact ih r_15 o_v25_5 o_v26_12 o_a19_13 _ _ (by omega) (show 0 ≤ o_v25_5.toInt by first | omega | assumption) (show o_v25_5.toInt ≤ 120 by first | omega | assumption) (show o_v25_5.toInt ≤ (v 24).toInt by first | omega | assumption) (show 0 ≤ o_v26_12.toInt by first | omega | assumption) (show o_v26_12.toInt ≤ 256 by first | omega | assumption) wr_11_4 (by omega) hP hD hS ls (lv_sub hl [1, 2, 0] rfl)
          ·
            have kc_9 : r_4.toInt = (0 : Int) := i_eq c_9
            refine lv_iconst (v := 0) hx hb dX7_readSum_56 (by decide) ?_
            have q0_0 : (0 : Int32).toInt = 0 := rfl
            exact W.zret (v := 0) hx hb hr rfl (fun tt ht hW => ⟨⟨0, ⟨o_v25_5, o_v26_6, o_a19_7⟩, rfl, ⟨(by first | rfl | omega | trivial | assumption | (dsimp only; first | omega | assumption)), (by first | rfl | omega | trivial | assumption | (dsimp only; first | omega | assumption)), (by first | rfl | omega | trivial | assumption | (dsimp only; first | omega | assumption)), (show 0 ≤ o_v25_5.toInt by first | omega | assumption), (show o_v25_5.toInt ≤ 120 by first | omega | assumption), (show o_v25_5.toInt ≤ (v 24).toInt by first | omega | assumption), (show 0 ≤ o_v26_6.toInt by first | omega | assumption), (show o_v26_6.toInt ≤ 256 by first | omega | assumption), wr_4_8⟩, by rw [ht]; exact hP, hD⟩, hS.F ht⟩) hS.2.2 dX7_readSum_57
        ·
          have kc_2 : x2.toInt ≠ (43 : Int) := i_ne c_2
          refine lv_iload_n hx hb dX7_readSum_32 rfl (lv_at hl 2 rfl) ?_
          refine lv_bipush (v := 45) hx hb dX7_readSum_33 (by decide) ?_
          refine lv_icmp_ne (tgt := 73) hx hb dX7_readSum_35 (by decide) (fun c_16 => ?_) (fun c_16 => ?_)
          ·
            have kc_16 : x2.toInt ≠ (45 : Int) := i_ne c_16
            refine lv_iconst (v := 1) hx hb dX7_readSum_73 (by decide) ?_
            have q0_1 : (1 : Int32).toInt = 1 := rfl
            exact W.zret (v := 1) hx hb hr rfl (fun tt ht hW => ⟨⟨1, ⟨c15_v25, c15_v26, c15_a19⟩, rfl, ⟨(by first | rfl | omega | trivial | assumption | (dsimp only; first | omega | assumption)), (by first | rfl | omega | trivial | assumption | (dsimp only; first | omega | assumption)), (by first | rfl | omega | trivial | assumption | (dsimp only; first | omega | assumption)), (show 0 ≤ c15_v25.toInt by first | omega | assumption), (show c15_v25.toInt ≤ 120 by first | omega | assumption), (show c15_v25.toInt ≤ (v 24).toInt by first | omega | assumption), (show 0 ≤ c15_v26.toInt by first | omega | assumption), (show c15_v26.toInt ≤ 256 by first | omega | assumption), ja19_0⟩, by rw [ht]; exact hP, hD⟩, hS.F ht⟩) hS.2.2 dX7_readSum_74
          ·
            have kc_16 : x2.toInt = (45 : Int) := i_eq c_16
            refine lv_aload_n hx hb dX7_readSum_38 rfl (lv_at hl 0 rfl) ?_
            refine lv_dup hx hb dX7_readSum_39 rfl ?_
            refine gf_reader_at hx hb hg hown hK hP (x := c15_v25) rfl (hg _ q1_157) dX7_readSum_40 ?_
            refine lv_iconst (v := 1) hx hb dX7_readSum_43 (by decide) ?_
            refine lv_iadd hx hb dX7_readSum_44 ?_
            refine lv_topi (fun x_17 ex_17 => ?_)
            have fx_17 : x_17.toInt = c15_v25.toInt + (1 : Int) := by rw [ex_17]; exact i_add (by first | omega | (show (_ : Int) ≤ c15_v25.toInt + (1 : Int); omega)) (by first | omega | (show c15_v25.toInt + (1 : Int) ≤ (_ : Int); omega))
            refine pf_reader_at hx hb hg hown hK hP hD hS (hg _ q1_157) dX7_readSum_45 (fun H locs hP hD hS => ?_)
            refine lv_aload_n hx hb dX7_readSum_48 rfl (lv_at hl 0 rfl) ?_
            refine lv_iload_n hx hb dX7_readSum_49 rfl (lv_at hl 1 rfl) ?_
            refine cV_i (As := [.int p1]) (rest := []) ⟨hx, hb, hml, hown, hg⟩ (h1n l D cs A ad fa fq rv (va_up (va_up v 26 c15_v26) 25 x_17) (va_up a 19 c15_a19) w fv fp  p1 hr0 hr1 (show 0 ≤ p1.toInt by first | omega | decide) (show p1.toInt ≤ 6 by first | omega | decide) (show 6 ≤ p1.toInt + (n : Int) by first | omega | decide) (show 0 ≤ (v 24).toInt by first | omega | decide) (show (v 24).toInt ≤ 120 by first | omega | decide) (show 0 ≤ x_17.toInt by first | omega | decide) (show x_17.toInt ≤ 120 by first | omega | decide) (show x_17.toInt ≤ (v 24).toInt by first | omega | decide) (show 0 ≤ c15_v26.toInt by first | omega | decide) (show c15_v26.toInt ≤ 256 by first | omega | decide) ja19_0) ca_X7_readProduct q3_83 ⟨rfl, rfl⟩ ⟨(show 10 * n + 7 + 1 ≤ 10 * n + 8 by omega), (show 8 + (3 + 11) + (300 * n + 280) ≤ 300 * n + 310 by omega)⟩ (rc_reader hK hP) hK hP hD hS hZ rfl hl.1 rfl (Nat.le_of_ble_eq_true rfl) ⟨Nat.zero_le _, Nat.zero_le _⟩ dX7_readSum_50 (fun r_18 z_22 H locs wr_18 hP hD hS => ?_)
            obtain ⟨o_v25_19, o_v26_20, o_a19_21⟩ := z_22
            have hP : va_P D vwCl (CW cs ad fa fq rv (va_up (va_up v 25 o_v25_19) 26 o_v26_20) (va_up a 19 o_a19_21) w fv fp) H := hP
            have hD : va_D A (CW cs ad fa fq rv (va_up (va_up v 25 o_v25_19) 26 o_v26_20) (va_up a 19 o_a19_21) w fv fp) := hD
            obtain ⟨wr_18_0, wr_18_1, wr_18_2, wr_18_3, wr_18_4, wr_18_5, wr_18_6, wr_18_7, wr_18_8⟩ : (0 ≤ r_18.toInt) ∧ (r_18.toInt ≤ 1) ∧ (x_17.toInt ≤ o_v25_19.toInt) ∧ (0 ≤ o_v25_19.toInt) ∧ (o_v25_19.toInt ≤ 120) ∧ (o_v25_19.toInt ≤ (v 24).toInt) ∧ (0 ≤ o_v26_20.toInt) ∧ (o_v26_20.toInt ≤ 256) ∧ (AB (-1000) 20000 o_a19_21) := wr_18
            refine lv_if_ne (tgt := 58) hx hb dX7_readSum_53 (by decide) (fun c_23 => ?_) (fun c_23 => ?_)
            ·
              have kc_23 : r_18.toInt ≠ (0 : Int) := i_ne c_23
              refine lv_aload_n hx hb dX7_readSum_58 rfl (lv_at hl 0 rfl) ?_
              refine lv_iload_n hx hb dX7_readSum_59 rfl (lv_at hl 2 rfl) ?_
              refine lv_ineg hx hb dX7_readSum_60 ?_
              refine lv_topi (fun x_24 ex_24 => ?_)
              have fx_24 : x_24.toInt = -x2.toInt := by rw [ex_24]; exact i_neg (by omega)
              refine cV_i (As := [.int x_24]) (rest := []) ⟨hx, hb, hml, hown, hg⟩ (k_X7_write l D cs A ad fa fq rv (va_up (va_up v 25 o_v25_19) 26 o_v26_20) (va_up a 19 o_a19_21) w fv fp  x_24 hr0 hr1 (show -1000 ≤ x_24.toInt by first | omega | decide) (show x_24.toInt ≤ 20000 by first | omega | decide) (show 0 ≤ o_v26_20.toInt by first | omega | decide) (show o_v26_20.toInt ≤ 256 by first | omega | decide) wr_18_8) ca_X7_write q3_102 ⟨rfl, rfl⟩ ⟨(show 0 + 1 ≤ 10 * n + 8 by omega), (show 8 + (2 + 11) + (0) ≤ 300 * n + 310 by omega)⟩ (rc_reader hK hP) hK hP hD hS hZ rfl hl.1 rfl (Nat.le_of_ble_eq_true rfl) ⟨Nat.zero_le _, Nat.zero_le _⟩ dX7_readSum_61 (fun r_25 z_28 H locs wr_25 hP hD hS => ?_)
              obtain ⟨o_v26_26, o_a19_27⟩ := z_28
              have hP : va_P D vwCl (CW cs ad fa fq rv (va_up (va_up v 25 o_v25_19) 26 o_v26_26) (va_up a 19 o_a19_27) w fv fp) H := hP
              have hD : va_D A (CW cs ad fa fq rv (va_up (va_up v 25 o_v25_19) 26 o_v26_26) (va_up a 19 o_a19_27) w fv fp) := hD
              obtain ⟨wr_25_0, wr_25_1, wr_25_2, wr_25_3, wr_25_4⟩ : (0 ≤ r_25.toInt) ∧ (r_25.toInt ≤ 1) ∧ (0 ≤ o_v26_26.toInt) ∧ (o_v26_26.toInt ≤ 256) ∧ (AB (-1000) 20000 o_a19_27) := wr_25
              refine lv_pop hx hb dX7_readSum_64 rfl ?_
              refine lv_aload_n hx hb dX7_readSum_65 rfl (lv_at hl 0 rfl) ?_
              refine cV_ro (As := []) (rest := []) ⟨hx, hb, hml, hown, hg⟩ (k_X7_sign l D cs A ad fa fq rv (va_up (va_up v 25 o_v25_19) 26 o_v26_26) (va_up a 19 o_a19_27) w fv fp   hr0 hr1 (show 0 ≤ (v 24).toInt by first | omega | decide) (show (v 24).toInt ≤ 120 by first | omega | decide) (show 0 ≤ o_v25_19.toInt by first | omega | decide) (show o_v25_19.toInt ≤ 120 by first | omega | decide) (show o_v25_19.toInt ≤ (v 24).toInt by first | omega | decide)) ca_X7_sign q3_91 ⟨rfl, rfl⟩ ⟨(show 0 + 1 ≤ 10 * n + 8 by omega), (show 8 + (1 + 11) + (0) ≤ 300 * n + 310 by omega)⟩ (rc_reader hK hP) hK hP hD hS hZ rfl hl.1 rfl (Nat.le_of_ble_eq_true rfl) ⟨Nat.zero_le _, Nat.zero_le _⟩ dX7_readSum_66 (fun r_29 wr_29 => ?_)
              have wr_29_0 : (o_v25_19.toInt < (v 24).toInt ∧ r_29.toInt = ((a 15) o_v25_19.toNatClampNeg).toInt) ∨ ((v 24).toInt ≤ o_v25_19.toInt ∧ r_29.toInt = -1) := wr_29
              refine lv_istore_n (lv' := [(2, .int r_29), (0, .ref (ad 10)), (1, .int p1)]) hx hb dX7_readSum_69 rfl hl (by decide) rfl (fun ls hl => ?_)
              refine lv_goto (tgt := 15) hx hb dX7_readSum_70 (by decide) ?_
              exact ih r_29 o_v25_19 o_v26_26 o_a19_27 _ _ (by omega) (show 0 ≤ o_v25_19.toInt by first | omega | assumption) (show o_v25_19.toInt ≤ 120 by first | omega | assumption) (show o_v25_19.toInt ≤ (v 24).toInt by first | omega | assumption) (show 0 ≤ o_v26_26.toInt by first | omega | assumption) (show o_v26_26.toInt ≤ 256 by first | omega | assumption) wr_25_4 (by omega) hP hD hS ls (lv_sub hl [1, 2, 0] rfl)
            ·
              have kc_23 : r_18.toInt = (0 : Int) := i_eq c_23
              refine lv_iconst (v := 0) hx hb dX7_readSum_56 (by decide) ?_
              have q0_0 : (0 : Int32).toInt = 0 := rfl
              exact W.zret (v := 0) hx hb hr rfl (fun tt ht hW => ⟨⟨0, ⟨o_v25_19, o_v26_20, o_a19_21⟩, rfl, ⟨(by first | rfl | omega | trivial | assumption | (dsimp only; first | omega | assumption)), (by first | rfl | omega | trivial | assumption | (dsimp only; first | omega | assumption)), (by first | rfl | omega | trivial | assumption | (dsimp only; first | omega | assumption)), (show 0 ≤ o_v25_19.toInt by first | omega | assumption), (show o_v25_19.toInt ≤ 120 by first | omega | assumption), (show o_v25_19.toInt ≤ (v 24).toInt by first | omega | assumption), (show 0 ≤ o_v26_20.toInt by first | omega | assumption), (show o_v26_20.toInt ≤ 256 by first | omega | assumption), wr_18_8⟩, by rw [ht]; exact hP, hD⟩, hS.F ht⟩) hS.2.2 dX7_readSum_57
  refine lv_aload_n hx hb dX7_readSum_0 rfl (lv_at hl 0 rfl) ?_
  refine lv_iload_n hx hb dX7_readSum_1 rfl (lv_at hl 1 rfl) ?_
  refine cV_i (As := [.int p1]) (rest := []) ⟨hx, hb, hml, hown, hg⟩ (h1n l D cs A ad fa fq rv v a w fv fp  p1 hr0 hr1 (show 0 ≤ p1.toInt by first | omega | decide) (show p1.toInt ≤ 6 by first | omega | decide) (show 6 ≤ p1.toInt + (n : Int) by first | omega | decide) (show 0 ≤ (v 24).toInt by first | omega | decide) (show (v 24).toInt ≤ 120 by first | omega | decide) (show 0 ≤ (v 25).toInt by first | omega | decide) (show (v 25).toInt ≤ 120 by first | omega | decide) (show (v 25).toInt ≤ (v 24).toInt by first | omega | decide) (show 0 ≤ (v 26).toInt by first | omega | decide) (show (v 26).toInt ≤ 256 by first | omega | decide) ia19_0) ca_X7_readProduct q3_83 ⟨rfl, rfl⟩ ⟨(show 10 * n + 7 + 1 ≤ 10 * n + 8 by omega), (show 8 + (3 + 11) + (300 * n + 280) ≤ 300 * n + 310 by omega)⟩ (rc_reader hK hP) hK hP hD hS hZ rfl hl.1 rfl (Nat.le_of_ble_eq_true rfl) ⟨Nat.zero_le _, Nat.zero_le _⟩ dX7_readSum_2 (fun r_30 z_34 H locs wr_30 hP hD hS => ?_)
  obtain ⟨o_v25_31, o_v26_32, o_a19_33⟩ := z_34
  have hP : va_P D vwCl (CW cs ad fa fq rv (va_up (va_up v 25 o_v25_31) 26 o_v26_32) (va_up a 19 o_a19_33) w fv fp) H := hP
  have hD : va_D A (CW cs ad fa fq rv (va_up (va_up v 25 o_v25_31) 26 o_v26_32) (va_up a 19 o_a19_33) w fv fp) := hD
  obtain ⟨wr_30_0, wr_30_1, wr_30_2, wr_30_3, wr_30_4, wr_30_5, wr_30_6, wr_30_7, wr_30_8⟩ : (0 ≤ r_30.toInt) ∧ (r_30.toInt ≤ 1) ∧ ((v 25).toInt ≤ o_v25_31.toInt) ∧ (0 ≤ o_v25_31.toInt) ∧ (o_v25_31.toInt ≤ 120) ∧ (o_v25_31.toInt ≤ (v 24).toInt) ∧ (0 ≤ o_v26_32.toInt) ∧ (o_v26_32.toInt ≤ 256) ∧ (AB (-1000) 20000 o_a19_33) := wr_30
  refine lv_if_ne (tgt := 10) hx hb dX7_readSum_5 (by decide) (fun c_35 => ?_) (fun c_35 => ?_)
  ·
    have kc_35 : r_30.toInt ≠ (0 : Int) := i_ne c_35
    refine lv_aload_n hx hb dX7_readSum_10 rfl (lv_at hl 0 rfl) ?_
    refine cV_ro (As := []) (rest := []) ⟨hx, hb, hml, hown, hg⟩ (k_X7_sign l D cs A ad fa fq rv (va_up (va_up v 25 o_v25_31) 26 o_v26_32) (va_up a 19 o_a19_33) w fv fp   hr0 hr1 (show 0 ≤ (v 24).toInt by first | omega | decide) (show (v 24).toInt ≤ 120 by first | omega | decide) (show 0 ≤ o_v25_31.toInt by first | omega | decide) (show o_v25_31.toInt ≤ 120 by first | omega | decide) (show o_v25_31.toInt ≤ (v 24).toInt by first | omega | decide)) ca_X7_sign q3_91 ⟨rfl, rfl⟩ ⟨(show 0 + 1 ≤ 10 * n + 8 by omega), (show 8 + (1 + 11) + (0) ≤ 300 * n + 310 by omega)⟩ (rc_reader hK hP) hK hP hD hS hZ rfl hl.1 rfl (Nat.le_of_ble_eq_true rfl) ⟨Nat.zero_le _, Nat.zero_le _⟩ dX7_readSum_11 (fun r_36 wr_36 => ?_)
    have wr_36_0 : (o_v25_31.toInt < (v 24).toInt ∧ r_36.toInt = ((a 15) o_v25_31.toNatClampNeg).toInt) ∨ ((v 24).toInt ≤ o_v25_31.toInt ∧ r_36.toInt = -1) := wr_36
    refine lv_istore_n (lv' := [(2, .int r_36), (0, .ref (ad 10)), (1, .int p1)]) hx hb dX7_readSum_14 rfl hl (by decide) rfl (fun ls hl => ?_)
    exact (hcut ((((v 24).toInt - o_v25_31.toInt).toNat) + 1)) r_36 o_v25_31 o_v26_32 o_a19_33 _ _ (by omega) (show 0 ≤ o_v25_31.toInt by first | omega | assumption) (show o_v25_31.toInt ≤ 120 by first | omega | assumption) (show o_v25_31.toInt ≤ (v 24).toInt by first | omega | assumption) (show 0 ≤ o_v26_32.toInt by first | omega | assumption) (show o_v26_32.toInt ≤ 256 by first | omega | assumption) wr_30_8 (Nat.lt_succ_self _) hP hD hS ls (lv_sub hl [1, 2, 0] rfl)
  ·
    have kc_35 : r_30.toInt = (0 : Int) := i_eq c_35
    refine lv_iconst (v := 0) hx hb dX7_readSum_8 (by decide) ?_
    have q0_0 : (0 : Int32).toInt = 0 := rfl
    exact W.zret (v := 0) hx hb hr rfl (fun tt ht hW => ⟨⟨0, ⟨o_v25_31, o_v26_32, o_a19_33⟩, rfl, ⟨(by first | rfl | omega | trivial | assumption | (dsimp only; first | omega | assumption)), (by first | rfl | omega | trivial | assumption | (dsimp only; first | omega | assumption)), (by first | rfl | omega | trivial | assumption | (dsimp only; first | omega | assumption)), (show 0 ≤ o_v25_31.toInt by first | omega | assumption), (show o_v25_31.toInt ≤ 120 by first | omega | assumption), (show o_v25_31.toInt ≤ (v 24).toInt by first | omega | assumption), (show 0 ≤ o_v26_32.toInt by first | omega | assumption), (show o_v26_32.toInt ≤ 256 by first | omega | assumption), wr_30_8⟩, by rw [ht]; exact hP, hD⟩, hS.F ht⟩) hS.2.2 dX7_readSum_9
set_option maxHeartbeats 4000000 in
set_option maxRecDepth 100000 in
theorem s_X7_readCompared (n : Nat) (h1n : C_X7_readSum n) : C_X7_readCompared n := by
  intro l D cs A ad fa fq rv v a w fv fp p1 hr0 hr1 ho0 ho6 hon iv24_0 iv24_1 iv25_0 iv25_1 iv25_2 iv26_0 iv26_1 ia19_0
  refine Met.ofW (cc := cX7_readCompared) (maxL := 3) (ret := (some .boolean)) (by decide) rfl ?_
  intro p e s m args below meth c s₁ B hml hv
  obtain ⟨rfl, hP, hK, hD, hZ⟩ := hv
  have hx := B.exec
  have hb := B.bytes
  have hr := B.returns
  have hts := atoms_spec (ws := (Cond.code yX7_readCompared cX7_readCompared 3 (some .boolean) :: gw)) B.pre
  have hg : ∀ w ∈ gw, w.before ([.ref (ad 10), .int p1] : List Value).toArray s = true := fun w h => hts w (List.mem_cons_of_mem _ h)
  have hown : s.vm.findClass RX7 = some m.cls := findClass_of_methodNamed B.named
  have hlocks := B.notSynchronized
  have hS : va_S A s.heap s.heap [] := va_S.rf
  have hP : va_P D vwCl (CW cs ad fa fq rv v a w fv fp) s.heap := hP
  have hl := lv_entry ([.ref (ad 10), .int p1]) (n := 3) (Nat.le_of_ble_eq_true rfl)
  rw [lg_entry_eq]
  generalize (lg_sl ([.ref (ad 10), .int p1]) ++ List.replicate (3 - (lg_sl ([.ref (ad 10), .int p1])).length) Slot.unset).toArray = ls at hl ⊢
  have hl : lv_has ls 3 [(0, .ref (ad 10)), (1, .int p1)] := hl
  refine lv_aload_n hx hb dX7_readCompared_0 rfl (lv_at hl 0 rfl) ?_
  refine lv_iload_n hx hb dX7_readCompared_1 rfl (lv_at hl 1 rfl) ?_
  refine cV_i (As := [.int p1]) (rest := []) ⟨hx, hb, hml, hown, hg⟩ (h1n l D cs A ad fa fq rv v a w fv fp  p1 hr0 hr1 (show 0 ≤ p1.toInt by first | omega | decide) (show p1.toInt ≤ 6 by first | omega | decide) (show 6 ≤ p1.toInt + (n : Int) by first | omega | decide) (show 0 ≤ (v 24).toInt by first | omega | decide) (show (v 24).toInt ≤ 120 by first | omega | decide) (show 0 ≤ (v 25).toInt by first | omega | decide) (show (v 25).toInt ≤ 120 by first | omega | decide) (show (v 25).toInt ≤ (v 24).toInt by first | omega | decide) (show 0 ≤ (v 26).toInt by first | omega | decide) (show (v 26).toInt ≤ 256 by first | omega | decide) ia19_0) ca_X7_readSum q3_79 ⟨rfl, rfl⟩ ⟨(show 10 * n + 8 + 1 ≤ 10 * n + 9 by omega), (show 8 + (3 + 11) + (300 * n + 310) ≤ 300 * n + 340 by omega)⟩ (rc_reader hK hP) hK hP hD hS hZ rfl hl.1 rfl (Nat.le_of_ble_eq_true rfl) ⟨Nat.zero_le _, Nat.zero_le _⟩ dX7_readCompared_2 (fun r_1 z_5 H locs wr_1 hP hD hS => ?_)
  obtain ⟨o_v25_2, o_v26_3, o_a19_4⟩ := z_5
  have hP : va_P D vwCl (CW cs ad fa fq rv (va_up (va_up v 25 o_v25_2) 26 o_v26_3) (va_up a 19 o_a19_4) w fv fp) H := hP
  have hD : va_D A (CW cs ad fa fq rv (va_up (va_up v 25 o_v25_2) 26 o_v26_3) (va_up a 19 o_a19_4) w fv fp) := hD
  obtain ⟨wr_1_0, wr_1_1, wr_1_2, wr_1_3, wr_1_4, wr_1_5, wr_1_6, wr_1_7, wr_1_8⟩ : (0 ≤ r_1.toInt) ∧ (r_1.toInt ≤ 1) ∧ ((v 25).toInt ≤ o_v25_2.toInt) ∧ (0 ≤ o_v25_2.toInt) ∧ (o_v25_2.toInt ≤ 120) ∧ (o_v25_2.toInt ≤ (v 24).toInt) ∧ (0 ≤ o_v26_3.toInt) ∧ (o_v26_3.toInt ≤ 256) ∧ (AB (-1000) 20000 o_a19_4) := wr_1
  refine lv_if_ne (tgt := 10) hx hb dX7_readCompared_5 (by decide) (fun c_6 => ?_) (fun c_6 => ?_)
  ·
    have kc_6 : r_1.toInt ≠ (0 : Int) := i_ne c_6
    refine lv_aload_n hx hb dX7_readCompared_10 rfl (lv_at hl 0 rfl) ?_
    refine cV_ro (As := []) (rest := []) ⟨hx, hb, hml, hown, hg⟩ (k_X7_sign l D cs A ad fa fq rv (va_up (va_up v 25 o_v25_2) 26 o_v26_3) (va_up a 19 o_a19_4) w fv fp   hr0 hr1 (show 0 ≤ (v 24).toInt by first | omega | decide) (show (v 24).toInt ≤ 120 by first | omega | decide) (show 0 ≤ o_v25_2.toInt by first | omega | decide) (show o_v25_2.toInt ≤ 120 by first | omega | decide) (show o_v25_2.toInt ≤ (v 24).toInt by first | omega | decide)) ca_X7_sign q3_91 ⟨rfl, rfl⟩ ⟨(show 0 + 1 ≤ 10 * n + 9 by omega), (show 8 + (1 + 11) + (0) ≤ 300 * n + 340 by omega)⟩ (rc_reader hK hP) hK hP hD hS hZ rfl hl.1 rfl (Nat.le_of_ble_eq_true rfl) ⟨Nat.zero_le _, Nat.zero_le _⟩ dX7_readCompared_11 (fun r_7 wr_7 => ?_)
    have wr_7_0 : (o_v25_2.toInt < (v 24).toInt ∧ r_7.toInt = ((a 15) o_v25_2.toNatClampNeg).toInt) ∨ ((v 24).toInt ≤ o_v25_2.toInt ∧ r_7.toInt = -1) := wr_7
    refine lv_istore_n (lv' := [(2, .int r_7), (0, .ref (ad 10)), (1, .int p1)]) hx hb dX7_readCompared_14 rfl hl (by decide) rfl (fun ls hl => ?_)
    refine lv_iload_n hx hb dX7_readCompared_15 rfl (lv_at hl 0 rfl) ?_
    refine lv_bipush (v := 60) hx hb dX7_readCompared_16 (by decide) ?_
    refine lv_icmp_eq (tgt := 35) hx hb dX7_readCompared_18 (by decide) (fun c_8 => ?_) (fun c_8 => ?_)
    ·
      have kc_8 : r_7.toInt = (60 : Int) := i_eq c_8
      refine lv_aload_n hx hb dX7_readCompared_35 rfl (lv_at hl 1 rfl) ?_
      refine lv_dup hx hb dX7_readCompared_36 rfl ?_
      refine gf_reader_at hx hb hg hown hK hP (x := o_v25_2) rfl (hg _ q1_157) dX7_readCompared_37 ?_
      refine lv_iconst (v := 1) hx hb dX7_readCompared_40 (by decide) ?_
      refine lv_iadd hx hb dX7_readCompared_41 ?_
      refine lv_topi (fun x_9 ex_9 => ?_)
      have fx_9 : x_9.toInt = o_v25_2.toInt + (1 : Int) := by rw [ex_9]; exact i_add (by first | omega | (show (_ : Int) ≤ o_v25_2.toInt + (1 : Int); omega)) (by first | omega | (show o_v25_2.toInt + (1 : Int) ≤ (_ : Int); omega))
      refine pf_reader_at hx hb hg hown hK hP hD hS (hg _ q1_157) dX7_readCompared_42 (fun H locs hP hD hS => ?_)
      refine lv_aload_n hx hb dX7_readCompared_45 rfl (lv_at hl 1 rfl) ?_
      refine lv_iload_n hx hb dX7_readCompared_46 rfl (lv_at hl 2 rfl) ?_
      refine cV_i (As := [.int p1]) (rest := []) ⟨hx, hb, hml, hown, hg⟩ (h1n l D cs A ad fa fq rv (va_up (va_up v 26 o_v26_3) 25 x_9) (va_up a 19 o_a19_4) w fv fp  p1 hr0 hr1 (show 0 ≤ p1.toInt by first | omega | decide) (show p1.toInt ≤ 6 by first | omega | decide) (show 6 ≤ p1.toInt + (n : Int) by first | omega | decide) (show 0 ≤ (v 24).toInt by first | omega | decide) (show (v 24).toInt ≤ 120 by first | omega | decide) (show 0 ≤ x_9.toInt by first | omega | decide) (show x_9.toInt ≤ 120 by first | omega | decide) (show x_9.toInt ≤ (v 24).toInt by first | omega | decide) (show 0 ≤ o_v26_3.toInt by first | omega | decide) (show o_v26_3.toInt ≤ 256 by first | omega | decide) wr_1_8) ca_X7_readSum q3_79 ⟨rfl, rfl⟩ ⟨(show 10 * n + 8 + 1 ≤ 10 * n + 9 by omega), (show 8 + (3 + 11) + (300 * n + 310) ≤ 300 * n + 340 by omega)⟩ (rc_reader hK hP) hK hP hD hS hZ rfl hl.1 rfl (Nat.le_of_ble_eq_true rfl) ⟨Nat.zero_le _, Nat.zero_le _⟩ dX7_readCompared_47 (fun r_10 z_14 H locs wr_10 hP hD hS => ?_)
      obtain ⟨o_v25_11, o_v26_12, o_a19_13⟩ := z_14
      have hP : va_P D vwCl (CW cs ad fa fq rv (va_up (va_up v 25 o_v25_11) 26 o_v26_12) (va_up a 19 o_a19_13) w fv fp) H := hP
      have hD : va_D A (CW cs ad fa fq rv (va_up (va_up v 25 o_v25_11) 26 o_v26_12) (va_up a 19 o_a19_13) w fv fp) := hD
      obtain ⟨wr_10_0, wr_10_1, wr_10_2, wr_10_3, wr_10_4, wr_10_5, wr_10_6, wr_10_7, wr_10_8⟩ : (0 ≤ r_10.toInt) ∧ (r_10.toInt ≤ 1) ∧ (x_9.toInt ≤ o_v25_11.toInt) ∧ (0 ≤ o_v25_11.toInt) ∧ (o_v25_11.toInt ≤ 120) ∧ (o_v25_11.toInt ≤ (v 24).toInt) ∧ (0 ≤ o_v26_12.toInt) ∧ (o_v26_12.toInt ≤ 256) ∧ (AB (-1000) 20000 o_a19_13) := wr_10
      refine lv_if_ne (tgt := 55) hx hb dX7_readCompared_50 (by decide) (fun c_15 => ?_) (fun c_15 => ?_)
      ·
        have kc_15 : r_10.toInt ≠ (0 : Int) := i_ne c_15
        refine lv_aload_n hx hb dX7_readCompared_55 rfl (lv_at hl 1 rfl) ?_
        refine lv_iload_n hx hb dX7_readCompared_56 rfl (lv_at hl 0 rfl) ?_
        refine lv_ineg hx hb dX7_readCompared_57 ?_
        refine lv_topi (fun x_16 ex_16 => ?_)
        have fx_16 : x_16.toInt = -r_7.toInt := by rw [ex_16]; exact i_neg (by omega)
        refine cV_i (As := [.int x_16]) (rest := []) ⟨hx, hb, hml, hown, hg⟩ (k_X7_write l D cs A ad fa fq rv (va_up (va_up v 25 o_v25_11) 26 o_v26_12) (va_up a 19 o_a19_13) w fv fp  x_16 hr0 hr1 (show -1000 ≤ x_16.toInt by first | omega | decide) (show x_16.toInt ≤ 20000 by first | omega | decide) (show 0 ≤ o_v26_12.toInt by first | omega | decide) (show o_v26_12.toInt ≤ 256 by first | omega | decide) wr_10_8) ca_X7_write q3_102 ⟨rfl, rfl⟩ ⟨(show 0 + 1 ≤ 10 * n + 9 by omega), (show 8 + (2 + 11) + (0) ≤ 300 * n + 340 by omega)⟩ (rc_reader hK hP) hK hP hD hS hZ rfl hl.1 rfl (Nat.le_of_ble_eq_true rfl) ⟨Nat.zero_le _, Nat.zero_le _⟩ dX7_readCompared_58 (fun r_17 z_20 H locs wr_17 hP hD hS => ?_)
        obtain ⟨o_v26_18, o_a19_19⟩ := z_20
        have hP : va_P D vwCl (CW cs ad fa fq rv (va_up (va_up v 25 o_v25_11) 26 o_v26_18) (va_up a 19 o_a19_19) w fv fp) H := hP
        have hD : va_D A (CW cs ad fa fq rv (va_up (va_up v 25 o_v25_11) 26 o_v26_18) (va_up a 19 o_a19_19) w fv fp) := hD
        obtain ⟨wr_17_0, wr_17_1, wr_17_2, wr_17_3, wr_17_4⟩ : (0 ≤ r_17.toInt) ∧ (r_17.toInt ≤ 1) ∧ (0 ≤ o_v26_18.toInt) ∧ (o_v26_18.toInt ≤ 256) ∧ (AB (-1000) 20000 o_a19_19) := wr_17
        refine lv_pop hx hb dX7_readCompared_61 rfl ?_
        refine lv_iconst (v := 1) hx hb dX7_readCompared_62 (by decide) ?_
        have q0_1 : (1 : Int32).toInt = 1 := rfl
        exact W.zret (v := 1) hx hb hr rfl (fun tt ht hW => ⟨⟨1, ⟨o_v25_11, o_v26_18, o_a19_19⟩, rfl, ⟨(by first | rfl | omega | trivial | assumption | (dsimp only; first | omega | assumption)), (by first | rfl | omega | trivial | assumption | (dsimp only; first | omega | assumption)), (by first | rfl | omega | trivial | assumption | (dsimp only; first | omega | assumption)), (show 0 ≤ o_v25_11.toInt by first | omega | assumption), (show o_v25_11.toInt ≤ 120 by first | omega | assumption), (show o_v25_11.toInt ≤ (v 24).toInt by first | omega | assumption), (show 0 ≤ o_v26_18.toInt by first | omega | assumption), (show o_v26_18.toInt ≤ 256 by first | omega | assumption), wr_17_4⟩, by rw [ht]; exact hP, hD⟩, hS.F ht⟩) hS.2.2 dX7_readCompared_63
      ·
        have kc_15 : r_10.toInt = (0 : Int) := i_eq c_15
        refine lv_iconst (v := 0) hx hb dX7_readCompared_53 (by decide) ?_
        have q0_0 : (0 : Int32).toInt = 0 := rfl
        exact W.zret (v := 0) hx hb hr rfl (fun tt ht hW => ⟨⟨0, ⟨o_v25_11, o_v26_12, o_a19_13⟩, rfl, ⟨(by first | rfl | omega | trivial | assumption | (dsimp only; first | omega | assumption)), (by first | rfl | omega | trivial | assumption | (dsimp only; first | omega | assumption)), (by first | rfl | omega | trivial | assumption | (dsimp only; first | omega | assumption)), (show 0 ≤ o_v25_11.toInt by first | omega | assumption), (show o_v25_11.toInt ≤ 120 by first | omega | assumption), (show o_v25_11.toInt ≤ (v 24).toInt by first | omega | assumption), (show 0 ≤ o_v26_12.toInt by first | omega | assumption), (show o_v26_12.toInt ≤ 256 by first | omega | assumption), wr_10_8⟩, by rw [ht]; exact hP, hD⟩, hS.F ht⟩) hS.2.2 dX7_readCompared_54
    ·
      have kc_8 : r_7.toInt ≠ (60 : Int) := i_ne c_8
      refine lv_iload_n hx hb dX7_readCompared_21 rfl (lv_at hl 0 rfl) ?_
      refine lv_bipush (v := 61) hx hb dX7_readCompared_22 (by decide) ?_
      refine lv_icmp_eq (tgt := 35) hx hb dX7_readCompared_24 (by decide) (fun c_21 => ?_) (fun c_21 => ?_)
      ·
        have kc_21 : r_7.toInt = (61 : Int) := i_eq c_21
        refine lv_aload_n hx hb dX7_readCompared_35 rfl (lv_at hl 1 rfl) ?_
        refine lv_dup hx hb dX7_readCompared_36 rfl ?_
        refine gf_reader_at hx hb hg hown hK hP (x := o_v25_2) rfl (hg _ q1_157) dX7_readCompared_37 ?_
        refine lv_iconst (v := 1) hx hb dX7_readCompared_40 (by decide) ?_
        refine lv_iadd hx hb dX7_readCompared_41 ?_
        refine lv_topi (fun x_22 ex_22 => ?_)
        have fx_22 : x_22.toInt = o_v25_2.toInt + (1 : Int) := by rw [ex_22]; exact i_add (by first | omega | (show (_ : Int) ≤ o_v25_2.toInt + (1 : Int); omega)) (by first | omega | (show o_v25_2.toInt + (1 : Int) ≤ (_ : Int); omega))
        refine pf_reader_at hx hb hg hown hK hP hD hS (hg _ q1_157) dX7_readCompared_42 (fun H locs hP hD hS => ?_)
        refine lv_aload_n hx hb dX7_readCompared_45 rfl (lv_at hl 1 rfl) ?_
        refine lv_iload_n hx hb dX7_readCompared_46 rfl (lv_at hl 2 rfl) ?_
        refine cV_i (As := [.int p1]) (rest := []) ⟨hx, hb, hml, hown, hg⟩ (h1n l D cs A ad fa fq rv (va_up (va_up v 26 o_v26_3) 25 x_22) (va_up a 19 o_a19_4) w fv fp  p1 hr0 hr1 (show 0 ≤ p1.toInt by first | omega | decide) (show p1.toInt ≤ 6 by first | omega | decide) (show 6 ≤ p1.toInt + (n : Int) by first | omega | decide) (show 0 ≤ (v 24).toInt by first | omega | decide) (show (v 24).toInt ≤ 120 by first | omega | decide) (show 0 ≤ x_22.toInt by first | omega | decide) (show x_22.toInt ≤ 120 by first | omega | decide) (show x_22.toInt ≤ (v 24).toInt by first | omega | decide) (show 0 ≤ o_v26_3.toInt by first | omega | decide) (show o_v26_3.toInt ≤ 256 by first | omega | decide) wr_1_8) ca_X7_readSum q3_79 ⟨rfl, rfl⟩ ⟨(show 10 * n + 8 + 1 ≤ 10 * n + 9 by omega), (show 8 + (3 + 11) + (300 * n + 310) ≤ 300 * n + 340 by omega)⟩ (rc_reader hK hP) hK hP hD hS hZ rfl hl.1 rfl (Nat.le_of_ble_eq_true rfl) ⟨Nat.zero_le _, Nat.zero_le _⟩ dX7_readCompared_47 (fun r_23 z_27 H locs wr_23 hP hD hS => ?_)
        obtain ⟨o_v25_24, o_v26_25, o_a19_26⟩ := z_27
        have hP : va_P D vwCl (CW cs ad fa fq rv (va_up (va_up v 25 o_v25_24) 26 o_v26_25) (va_up a 19 o_a19_26) w fv fp) H := hP
        have hD : va_D A (CW cs ad fa fq rv (va_up (va_up v 25 o_v25_24) 26 o_v26_25) (va_up a 19 o_a19_26) w fv fp) := hD
        obtain ⟨wr_23_0, wr_23_1, wr_23_2, wr_23_3, wr_23_4, wr_23_5, wr_23_6, wr_23_7, wr_23_8⟩ : (0 ≤ r_23.toInt) ∧ (r_23.toInt ≤ 1) ∧ (x_22.toInt ≤ o_v25_24.toInt) ∧ (0 ≤ o_v25_24.toInt) ∧ (o_v25_24.toInt ≤ 120) ∧ (o_v25_24.toInt ≤ (v 24).toInt) ∧ (0 ≤ o_v26_25.toInt) ∧ (o_v26_25.toInt ≤ 256) ∧ (AB (-1000) 20000 o_a19_26) := wr_23
        refine lv_if_ne (tgt := 55) hx hb dX7_readCompared_50 (by decide) (fun c_28 => ?_) (fun c_28 => ?_)
        ·
          have kc_28 : r_23.toInt ≠ (0 : Int) := i_ne c_28
          refine lv_aload_n hx hb dX7_readCompared_55 rfl (lv_at hl 1 rfl) ?_
          refine lv_iload_n hx hb dX7_readCompared_56 rfl (lv_at hl 0 rfl) ?_
          refine lv_ineg hx hb dX7_readCompared_57 ?_
          refine lv_topi (fun x_29 ex_29 => ?_)
          have fx_29 : x_29.toInt = -r_7.toInt := by rw [ex_29]; exact i_neg (by omega)
          refine cV_i (As := [.int x_29]) (rest := []) ⟨hx, hb, hml, hown, hg⟩ (k_X7_write l D cs A ad fa fq rv (va_up (va_up v 25 o_v25_24) 26 o_v26_25) (va_up a 19 o_a19_26) w fv fp  x_29 hr0 hr1 (show -1000 ≤ x_29.toInt by first | omega | decide) (show x_29.toInt ≤ 20000 by first | omega | decide) (show 0 ≤ o_v26_25.toInt by first | omega | decide) (show o_v26_25.toInt ≤ 256 by first | omega | decide) wr_23_8) ca_X7_write q3_102 ⟨rfl, rfl⟩ ⟨(show 0 + 1 ≤ 10 * n + 9 by omega), (show 8 + (2 + 11) + (0) ≤ 300 * n + 340 by omega)⟩ (rc_reader hK hP) hK hP hD hS hZ rfl hl.1 rfl (Nat.le_of_ble_eq_true rfl) ⟨Nat.zero_le _, Nat.zero_le _⟩ dX7_readCompared_58 (fun r_30 z_33 H locs wr_30 hP hD hS => ?_)
          obtain ⟨o_v26_31, o_a19_32⟩ := z_33
          have hP : va_P D vwCl (CW cs ad fa fq rv (va_up (va_up v 25 o_v25_24) 26 o_v26_31) (va_up a 19 o_a19_32) w fv fp) H := hP
          have hD : va_D A (CW cs ad fa fq rv (va_up (va_up v 25 o_v25_24) 26 o_v26_31) (va_up a 19 o_a19_32) w fv fp) := hD
          obtain ⟨wr_30_0, wr_30_1, wr_30_2, wr_30_3, wr_30_4⟩ : (0 ≤ r_30.toInt) ∧ (r_30.toInt ≤ 1) ∧ (0 ≤ o_v26_31.toInt) ∧ (o_v26_31.toInt ≤ 256) ∧ (AB (-1000) 20000 o_a19_32) := wr_30
          refine lv_pop hx hb dX7_readCompared_61 rfl ?_
          refine lv_iconst (v := 1) hx hb dX7_readCompared_62 (by decide) ?_
          have q0_1 : (1 : Int32).toInt = 1 := rfl
          exact W.zret (v := 1) hx hb hr rfl (fun tt ht hW => ⟨⟨1, ⟨o_v25_24, o_v26_31, o_a19_32⟩, rfl, ⟨(by first | rfl | omega | trivial | assumption | (dsimp only; first | omega | assumption)), (by first | rfl | omega | trivial | assumption | (dsimp only; first | omega | assumption)), (by first | rfl | omega | trivial | assumption | (dsimp only; first | omega | assumption)), (show 0 ≤ o_v25_24.toInt by first | omega | assumption), (show o_v25_24.toInt ≤ 120 by first | omega | assumption), (show o_v25_24.toInt ≤ (v 24).toInt by first | omega | assumption), (show 0 ≤ o_v26_31.toInt by first | omega | assumption), (show o_v26_31.toInt ≤ 256 by first | omega | assumption), wr_30_4⟩, by rw [ht]; exact hP, hD⟩, hS.F ht⟩) hS.2.2 dX7_readCompared_63
        ·
          have kc_28 : r_23.toInt = (0 : Int) := i_eq c_28
          refine lv_iconst (v := 0) hx hb dX7_readCompared_53 (by decide) ?_
          have q0_0 : (0 : Int32).toInt = 0 := rfl
          exact W.zret (v := 0) hx hb hr rfl (fun tt ht hW => ⟨⟨0, ⟨o_v25_24, o_v26_25, o_a19_26⟩, rfl, ⟨(by first | rfl | omega | trivial | assumption | (dsimp only; first | omega | assumption)), (by first | rfl | omega | trivial | assumption | (dsimp only; first | omega | assumption)), (by first | rfl | omega | trivial | assumption | (dsimp only; first | omega | assumption)), (show 0 ≤ o_v25_24.toInt by first | omega | assumption), (show o_v25_24.toInt ≤ 120 by first | omega | assumption), (show o_v25_24.toInt ≤ (v 24).toInt by first | omega | assumption), (show 0 ≤ o_v26_25.toInt by first | omega | assumption), (show o_v26_25.toInt ≤ 256 by first | omega | assumption), wr_23_8⟩, by rw [ht]; exact hP, hD⟩, hS.F ht⟩) hS.2.2 dX7_readCompared_54
      ·
        have kc_21 : r_7.toInt ≠ (61 : Int) := i_ne c_21
        refine lv_iload_n hx hb dX7_readCompared_27 rfl (lv_at hl 0 rfl) ?_
        refine lv_bipush (v := 62) hx hb dX7_readCompared_28 (by decide) ?_
        refine lv_icmp_eq (tgt := 35) hx hb dX7_readCompared_30 (by decide) (fun c_34 => ?_) (fun c_34 => ?_)
        ·
          have kc_34 : r_7.toInt = (62 : Int) := i_eq c_34
          refine lv_aload_n hx hb dX7_readCompared_35 rfl (lv_at hl 1 rfl) ?_
          refine lv_dup hx hb dX7_readCompared_36 rfl ?_
          refine gf_reader_at hx hb hg hown hK hP (x := o_v25_2) rfl (hg _ q1_157) dX7_readCompared_37 ?_
          refine lv_iconst (v := 1) hx hb dX7_readCompared_40 (by decide) ?_
          refine lv_iadd hx hb dX7_readCompared_41 ?_
          refine lv_topi (fun x_35 ex_35 => ?_)
          have fx_35 : x_35.toInt = o_v25_2.toInt + (1 : Int) := by rw [ex_35]; exact i_add (by first | omega | (show (_ : Int) ≤ o_v25_2.toInt + (1 : Int); omega)) (by first | omega | (show o_v25_2.toInt + (1 : Int) ≤ (_ : Int); omega))
          refine pf_reader_at hx hb hg hown hK hP hD hS (hg _ q1_157) dX7_readCompared_42 (fun H locs hP hD hS => ?_)
          refine lv_aload_n hx hb dX7_readCompared_45 rfl (lv_at hl 1 rfl) ?_
          refine lv_iload_n hx hb dX7_readCompared_46 rfl (lv_at hl 2 rfl) ?_
          refine cV_i (As := [.int p1]) (rest := []) ⟨hx, hb, hml, hown, hg⟩ (h1n l D cs A ad fa fq rv (va_up (va_up v 26 o_v26_3) 25 x_35) (va_up a 19 o_a19_4) w fv fp  p1 hr0 hr1 (show 0 ≤ p1.toInt by first | omega | decide) (show p1.toInt ≤ 6 by first | omega | decide) (show 6 ≤ p1.toInt + (n : Int) by first | omega | decide) (show 0 ≤ (v 24).toInt by first | omega | decide) (show (v 24).toInt ≤ 120 by first | omega | decide) (show 0 ≤ x_35.toInt by first | omega | decide) (show x_35.toInt ≤ 120 by first | omega | decide) (show x_35.toInt ≤ (v 24).toInt by first | omega | decide) (show 0 ≤ o_v26_3.toInt by first | omega | decide) (show o_v26_3.toInt ≤ 256 by first | omega | decide) wr_1_8) ca_X7_readSum q3_79 ⟨rfl, rfl⟩ ⟨(show 10 * n + 8 + 1 ≤ 10 * n + 9 by omega), (show 8 + (3 + 11) + (300 * n + 310) ≤ 300 * n + 340 by omega)⟩ (rc_reader hK hP) hK hP hD hS hZ rfl hl.1 rfl (Nat.le_of_ble_eq_true rfl) ⟨Nat.zero_le _, Nat.zero_le _⟩ dX7_readCompared_47 (fun r_36 z_40 H locs wr_36 hP hD hS => ?_)
          obtain ⟨o_v25_37, o_v26_38, o_a19_39⟩ := z_40
          have hP : va_P D vwCl (CW cs ad fa fq rv (va_up (va_up v 25 o_v25_37) 26 o_v26_38) (va_up a 19 o_a19_39) w fv fp) H := hP
          have hD : va_D A (CW cs ad fa fq rv (va_up (va_up v 25 o_v25_37) 26 o_v26_38) (va_up a 19 o_a19_39) w fv fp) := hD
          obtain ⟨wr_36_0, wr_36_1, wr_36_2, wr_36_3, wr_36_4, wr_36_5, wr_36_6, wr_36_7, wr_36_8⟩ : (0 ≤ r_36.toInt) ∧ (r_36.toInt ≤ 1) ∧ (x_35.toInt ≤ o_v25_37.toInt) ∧ (0 ≤ o_v25_37.toInt) ∧ (o_v25_37.toInt ≤ 120) ∧ (o_v25_37.toInt ≤ (v 24).toInt) ∧ (0 ≤ o_v26_38.toInt) ∧ (o_v26_38.toInt ≤ 256) ∧ (AB (-1000) 20000 o_a19_39) := wr_36
          refine lv_if_ne (tgt := 55) hx hb dX7_readCompared_50 (by decide) (fun c_41 => ?_) (fun c_41 => ?_)
          ·
            have kc_41 : r_36.toInt ≠ (0 : Int) := i_ne c_41
            refine lv_aload_n hx hb dX7_readCompared_55 rfl (lv_at hl 1 rfl) ?_
            refine lv_iload_n hx hb dX7_readCompared_56 rfl (lv_at hl 0 rfl) ?_
            refine lv_ineg hx hb dX7_readCompared_57 ?_
            refine lv_topi (fun x_42 ex_42 => ?_)
            have fx_42 : x_42.toInt = -r_7.toInt := by rw [ex_42]; exact i_neg (by omega)
            refine cV_i (As := [.int x_42]) (rest := []) ⟨hx, hb, hml, hown, hg⟩ (k_X7_write l D cs A ad fa fq rv (va_up (va_up v 25 o_v25_37) 26 o_v26_38) (va_up a 19 o_a19_39) w fv fp  x_42 hr0 hr1 (show -1000 ≤ x_42.toInt by first | omega | decide) (show x_42.toInt ≤ 20000 by first | omega | decide) (show 0 ≤ o_v26_38.toInt by first | omega | decide) (show o_v26_38.toInt ≤ 256 by first | omega | decide) wr_36_8) ca_X7_write q3_102 ⟨rfl, rfl⟩ ⟨(show 0 + 1 ≤ 10 * n + 9 by omega), (show 8 + (2 + 11) + (0) ≤ 300 * n + 340 by omega)⟩ (rc_reader hK hP) hK hP hD hS hZ rfl hl.1 rfl (Nat.le_of_ble_eq_true rfl) ⟨Nat.zero_le _, Nat.zero_le _⟩ dX7_readCompared_58 (fun r_43 z_46 H locs wr_43 hP hD hS => ?_)
            obtain ⟨o_v26_44, o_a19_45⟩ := z_46
            have hP : va_P D vwCl (CW cs ad fa fq rv (va_up (va_up v 25 o_v25_37) 26 o_v26_44) (va_up a 19 o_a19_45) w fv fp) H := hP
            have hD : va_D A (CW cs ad fa fq rv (va_up (va_up v 25 o_v25_37) 26 o_v26_44) (va_up a 19 o_a19_45) w fv fp) := hD
            obtain ⟨wr_43_0, wr_43_1, wr_43_2, wr_43_3, wr_43_4⟩ : (0 ≤ r_43.toInt) ∧ (r_43.toInt ≤ 1) ∧ (0 ≤ o_v26_44.toInt) ∧ (o_v26_44.toInt ≤ 256) ∧ (AB (-1000) 20000 o_a19_45) := wr_43
            refine lv_pop hx hb dX7_readCompared_61 rfl ?_
            refine lv_iconst (v := 1) hx hb dX7_readCompared_62 (by decide) ?_
            have q0_1 : (1 : Int32).toInt = 1 := rfl
            exact W.zret (v := 1) hx hb hr rfl (fun tt ht hW => ⟨⟨1, ⟨o_v25_37, o_v26_44, o_a19_45⟩, rfl, ⟨(by first | rfl | omega | trivial | assumption | (dsimp only; first | omega | assumption)), (by first | rfl | omega | trivial | assumption | (dsimp only; first | omega | assumption)), (by first | rfl | omega | trivial | assumption | (dsimp only; first | omega | assumption)), (show 0 ≤ o_v25_37.toInt by first | omega | assumption), (show o_v25_37.toInt ≤ 120 by first | omega | assumption), (show o_v25_37.toInt ≤ (v 24).toInt by first | omega | assumption), (show 0 ≤ o_v26_44.toInt by first | omega | assumption), (show o_v26_44.toInt ≤ 256 by first | omega | assumption), wr_43_4⟩, by rw [ht]; exact hP, hD⟩, hS.F ht⟩) hS.2.2 dX7_readCompared_63
          ·
            have kc_41 : r_36.toInt = (0 : Int) := i_eq c_41
            refine lv_iconst (v := 0) hx hb dX7_readCompared_53 (by decide) ?_
            have q0_0 : (0 : Int32).toInt = 0 := rfl
            exact W.zret (v := 0) hx hb hr rfl (fun tt ht hW => ⟨⟨0, ⟨o_v25_37, o_v26_38, o_a19_39⟩, rfl, ⟨(by first | rfl | omega | trivial | assumption | (dsimp only; first | omega | assumption)), (by first | rfl | omega | trivial | assumption | (dsimp only; first | omega | assumption)), (by first | rfl | omega | trivial | assumption | (dsimp only; first | omega | assumption)), (show 0 ≤ o_v25_37.toInt by first | omega | assumption), (show o_v25_37.toInt ≤ 120 by first | omega | assumption), (show o_v25_37.toInt ≤ (v 24).toInt by first | omega | assumption), (show 0 ≤ o_v26_38.toInt by first | omega | assumption), (show o_v26_38.toInt ≤ 256 by first | omega | assumption), wr_36_8⟩, by rw [ht]; exact hP, hD⟩, hS.F ht⟩) hS.2.2 dX7_readCompared_54
        ·
          have kc_34 : r_7.toInt ≠ (62 : Int) := i_ne c_34
          refine lv_iconst (v := 1) hx hb dX7_readCompared_33 (by decide) ?_
          have q0_1 : (1 : Int32).toInt = 1 := rfl
          exact W.zret (v := 1) hx hb hr rfl (fun tt ht hW => ⟨⟨1, ⟨o_v25_2, o_v26_3, o_a19_4⟩, rfl, ⟨(by first | rfl | omega | trivial | assumption | (dsimp only; first | omega | assumption)), (by first | rfl | omega | trivial | assumption | (dsimp only; first | omega | assumption)), (by first | rfl | omega | trivial | assumption | (dsimp only; first | omega | assumption)), (show 0 ≤ o_v25_2.toInt by first | omega | assumption), (show o_v25_2.toInt ≤ 120 by first | omega | assumption), (show o_v25_2.toInt ≤ (v 24).toInt by first | omega | assumption), (show 0 ≤ o_v26_3.toInt by first | omega | assumption), (show o_v26_3.toInt ≤ 256 by first | omega | assumption), wr_1_8⟩, by rw [ht]; exact hP, hD⟩, hS.F ht⟩) hS.2.2 dX7_readCompared_34
  ·
    have kc_6 : r_1.toInt = (0 : Int) := i_eq c_6
    refine lv_iconst (v := 0) hx hb dX7_readCompared_8 (by decide) ?_
    have q0_0 : (0 : Int32).toInt = 0 := rfl
    exact W.zret (v := 0) hx hb hr rfl (fun tt ht hW => ⟨⟨0, ⟨o_v25_2, o_v26_3, o_a19_4⟩, rfl, ⟨(by first | rfl | omega | trivial | assumption | (dsimp only; first | omega | assumption)), (by first | rfl | omega | trivial | assumption | (dsimp only; first | omega | assumption)), (by first | rfl | omega | trivial | assumption | (dsimp only; first | omega | assumption)), (show 0 ≤ o_v25_2.toInt by first | omega | assumption), (show o_v25_2.toInt ≤ 120 by first | omega | assumption), (show o_v25_2.toInt ≤ (v 24).toInt by first | omega | assumption), (show 0 ≤ o_v26_3.toInt by first | omega | assumption), (show o_v26_3.toInt ≤ 256 by first | omega | assumption), wr_1_8⟩, by rw [ht]; exact hP, hD⟩, hS.F ht⟩) hS.2.2 dX7_readCompared_9
set_option maxHeartbeats 4000000 in
set_option maxRecDepth 100000 in
theorem s_X7_readBoth (n : Nat) (h1n : C_X7_readCompared n) : C_X7_readBoth n := by
  intro l D cs A ad fa fq rv v a w fv fp p1 hr0 hr1 ho0 ho6 hon iv24_0 iv24_1 iv25_0 iv25_1 iv25_2 iv26_0 iv26_1 ia19_0
  refine Met.ofW (cc := cX7_readBoth) (maxL := 2) (ret := (some .boolean)) (by decide) rfl ?_
  intro p e s m args below meth c s₁ B hml hv
  obtain ⟨rfl, hP, hK, hD, hZ⟩ := hv
  have hx := B.exec
  have hb := B.bytes
  have hr := B.returns
  have hts := atoms_spec (ws := (Cond.code yX7_readBoth cX7_readBoth 2 (some .boolean) :: gw)) B.pre
  have hg : ∀ w ∈ gw, w.before ([.ref (ad 10), .int p1] : List Value).toArray s = true := fun w h => hts w (List.mem_cons_of_mem _ h)
  have hown : s.vm.findClass RX7 = some m.cls := findClass_of_methodNamed B.named
  have hlocks := B.notSynchronized
  have hS : va_S A s.heap s.heap [] := va_S.rf
  have hP : va_P D vwCl (CW cs ad fa fq rv v a w fv fp) s.heap := hP
  have hl := lv_entry ([.ref (ad 10), .int p1]) (n := 2) (Nat.le_of_ble_eq_true rfl)
  rw [lg_entry_eq]
  generalize (lg_sl ([.ref (ad 10), .int p1]) ++ List.replicate (2 - (lg_sl ([.ref (ad 10), .int p1])).length) Slot.unset).toArray = ls at hl ⊢
  have hl : lv_has ls 2 [(0, .ref (ad 10)), (1, .int p1)] := hl
  have hcut : ∀ nk : Nat, (∀ (c10_v25 : Int32) (c10_v26 : Int32) (c10_a19 : Nat → Int32) (H : Heap) (locs : List Loc) (hat : (v 25).toInt ≤ c10_v25.toInt) (jv25_0 : 0 ≤ c10_v25.toInt) (jv25_1 : c10_v25.toInt ≤ 120) (jv25_2 : c10_v25.toInt ≤ (v 24).toInt) (jv26_0 : 0 ≤ c10_v26.toInt) (jv26_1 : c10_v26.toInt ≤ 256) (ja19_0 : AB (-1000) 20000 c10_a19) (hmu : ((v 24).toInt - c10_v25.toInt).toNat < nk) (hP : va_P D vwCl (CW cs ad fa fq rv (va_up (va_up v 25 c10_v25) 26 c10_v26) (va_up a 19 c10_a19) w fv fp) H) (hD : va_D A (CW cs ad fa fq rv (va_up (va_up v 25 c10_v25) 26 c10_v26) (va_up a 19 c10_a19) w fv fp)) (hS : va_S A s.heap H locs) (ls : Array Slot) (hl : lv_has ls 2 [(0, .ref (ad 10)), (1, .int p1)]), W p l e (headSpec (Cond.code yX7_readBoth cX7_readBoth 2 (some .boolean) :: gw) ({ frames := 10 * n + 10, cells := 0, slots := 0, locals := 300 * n + 370 })).room s m ([.ref (ad 10), .int p1] : List Value).toArray below meth c H locs 0 0 (MQ below (va_Qi (fun (r : Int32) (z : Int32 × Int32 × (Nat → Int32)) => (0 ≤ r.toInt) ∧ (r.toInt ≤ 1) ∧ ((v 25).toInt ≤ z.1.toInt) ∧ (0 ≤ z.1.toInt) ∧ (z.1.toInt ≤ 120) ∧ (z.1.toInt ≤ (v 24).toInt) ∧ (0 ≤ z.2.1.toInt) ∧ (z.2.1.toInt ≤ 256) ∧ (AB (-1000) 20000 z.2.2)) (XPo D (fun (z : Int32 × Int32 × (Nat → Int32)) => CW cs ad fa fq rv (va_up (va_up v 25 z.1) 26 z.2.1) (va_up a 19 z.2.2) w fv fp) A) A) ([.ref (ad 10), .int p1] : List Value).toArray s 0 0 A) (F0 m 10 ls [])) := by
    intro nk
    induction nk with
    | zero => exact (fun c10_v25 c10_v26 c10_a19 H locs hat jv25_0 jv25_1 jv25_2 jv26_0 jv26_1 ja19_0 hmu hP hD hS ls hl => absurd hmu (Nat.not_lt_zero _))
    | succ nk ih =>
      intro c10_v25 c10_v26 c10_a19 H locs hat jv25_0 jv25_1 jv25_2 jv26_0 jv26_1 ja19_0 hmu hP hD hS ls hl
      refine lv_aload_n hx hb dX7_readBoth_10 rfl (lv_at hl 0 rfl) ?_
      refine gf_reader_at hx hb hg hown hK hP (x := c10_v25) rfl (hg _ q1_157) dX7_readBoth_11 ?_
      refine lv_aload_n hx hb dX7_readBoth_14 rfl (lv_at hl 0 rfl) ?_
      refine gf_reader_length hx hb hg hown hK hP (x := (v 24)) rfl (hg _ q1_156) dX7_readBoth_15 ?_
      refine lv_icmp_ge (tgt := 60) hx hb dX7_readBoth_18 (by decide) (fun c_1 => ?_) (fun c_1 => ?_)
      ·
        have kc_1 : (v 24).toInt ≤ c10_v25.toInt := i_le c_1
        refine lv_iconst (v := 1) hx hb dX7_readBoth_60 (by decide) ?_
        have q0_1 : (1 : Int32).toInt = 1 := rfl
        exact W.zret (v := 1) hx hb hr rfl (fun tt ht hW => ⟨⟨1, ⟨c10_v25, c10_v26, c10_a19⟩, rfl, ⟨(by first | rfl | omega | trivial | assumption | (dsimp only; first | omega | assumption)), (by first | rfl | omega | trivial | assumption | (dsimp only; first | omega | assumption)), (by first | rfl | omega | trivial | assumption | (dsimp only; first | omega | assumption)), (show 0 ≤ c10_v25.toInt by first | omega | assumption), (show c10_v25.toInt ≤ 120 by first | omega | assumption), (show c10_v25.toInt ≤ (v 24).toInt by first | omega | assumption), (show 0 ≤ c10_v26.toInt by first | omega | assumption), (show c10_v26.toInt ≤ 256 by first | omega | assumption), ja19_0⟩, by rw [ht]; exact hP, hD⟩, hS.F ht⟩) hS.2.2 dX7_readBoth_61
      ·
        have kc_1 : c10_v25.toInt < (v 24).toInt := i_nle c_1
        refine lv_aload_n hx hb dX7_readBoth_21 rfl (lv_at hl 0 rfl) ?_
        refine cV_ro (As := []) (rest := []) ⟨hx, hb, hml, hown, hg⟩ (k_X7_sign l D cs A ad fa fq rv (va_up (va_up v 25 c10_v25) 26 c10_v26) (va_up a 19 c10_a19) w fv fp   hr0 hr1 (show 0 ≤ (v 24).toInt by first | omega | decide) (show (v 24).toInt ≤ 120 by first | omega | decide) (show 0 ≤ c10_v25.toInt by first | omega | decide) (show c10_v25.toInt ≤ 120 by first | omega | decide) (show c10_v25.toInt ≤ (v 24).toInt by first | omega | decide)) ca_X7_sign q3_91 ⟨rfl, rfl⟩ ⟨(show 0 + 1 ≤ 10 * n + 10 by omega), (show 8 + (1 + 11) + (0) ≤ 300 * n + 370 by omega)⟩ (rc_reader hK hP) hK hP hD hS hZ rfl hl.1 rfl (Nat.le_of_ble_eq_true rfl) ⟨Nat.zero_le _, Nat.zero_le _⟩ dX7_readBoth_22 (fun r_2 wr_2 => ?_)
        have wr_2_0 : (c10_v25.toInt < (v 24).toInt ∧ r_2.toInt = ((a 15) c10_v25.toNatClampNeg).toInt) ∨ ((v 24).toInt ≤ c10_v25.toInt ∧ r_2.toInt = -1) := wr_2
        refine lv_bipush (v := 38) hx hb dX7_readBoth_25 (by decide) ?_
        refine lv_icmp_ne (tgt := 60) hx hb dX7_readBoth_27 (by decide) (fun c_3 => ?_) (fun c_3 => ?_)
        ·
          have kc_3 : r_2.toInt ≠ (38 : Int) := i_ne c_3
          refine lv_iconst (v := 1) hx hb dX7_readBoth_60 (by decide) ?_
          have q0_1 : (1 : Int32).toInt = 1 := rfl
          exact W.zret (v := 1) hx hb hr rfl (fun tt ht hW => ⟨⟨1, ⟨c10_v25, c10_v26, c10_a19⟩, rfl, ⟨(by first | rfl | omega | trivial | assumption | (dsimp only; first | omega | assumption)), (by first | rfl | omega | trivial | assumption | (dsimp only; first | omega | assumption)), (by first | rfl | omega | trivial | assumption | (dsimp only; first | omega | assumption)), (show 0 ≤ c10_v25.toInt by first | omega | assumption), (show c10_v25.toInt ≤ 120 by first | omega | assumption), (show c10_v25.toInt ≤ (v 24).toInt by first | omega | assumption), (show 0 ≤ c10_v26.toInt by first | omega | assumption), (show c10_v26.toInt ≤ 256 by first | omega | assumption), ja19_0⟩, by rw [ht]; exact hP, hD⟩, hS.F ht⟩) hS.2.2 dX7_readBoth_61
        ·
          have kc_3 : r_2.toInt = (38 : Int) := i_eq c_3
          refine lv_aload_n hx hb dX7_readBoth_30 rfl (lv_at hl 0 rfl) ?_
          refine lv_dup hx hb dX7_readBoth_31 rfl ?_
          refine gf_reader_at hx hb hg hown hK hP (x := c10_v25) rfl (hg _ q1_157) dX7_readBoth_32 ?_
          refine lv_iconst (v := 1) hx hb dX7_readBoth_35 (by decide) ?_
          refine lv_iadd hx hb dX7_readBoth_36 ?_
          refine lv_topi (fun x_4 ex_4 => ?_)
          have fx_4 : x_4.toInt = c10_v25.toInt + (1 : Int) := by rw [ex_4]; exact i_add (by first | omega | (show (_ : Int) ≤ c10_v25.toInt + (1 : Int); omega)) (by first | omega | (show c10_v25.toInt + (1 : Int) ≤ (_ : Int); omega))
          refine pf_reader_at hx hb hg hown hK hP hD hS (hg _ q1_157) dX7_readBoth_37 (fun H locs hP hD hS => ?_)
          refine lv_aload_n hx hb dX7_readBoth_40 rfl (lv_at hl 0 rfl) ?_
          refine lv_iload_n hx hb dX7_readBoth_41 rfl (lv_at hl 1 rfl) ?_
          refine cV_i (As := [.int p1]) (rest := []) ⟨hx, hb, hml, hown, hg⟩ (h1n l D cs A ad fa fq rv (va_up (va_up v 26 c10_v26) 25 x_4) (va_up a 19 c10_a19) w fv fp  p1 hr0 hr1 (show 0 ≤ p1.toInt by first | omega | decide) (show p1.toInt ≤ 6 by first | omega | decide) (show 6 ≤ p1.toInt + (n : Int) by first | omega | decide) (show 0 ≤ (v 24).toInt by first | omega | decide) (show (v 24).toInt ≤ 120 by first | omega | decide) (show 0 ≤ x_4.toInt by first | omega | decide) (show x_4.toInt ≤ 120 by first | omega | decide) (show x_4.toInt ≤ (v 24).toInt by first | omega | decide) (show 0 ≤ c10_v26.toInt by first | omega | decide) (show c10_v26.toInt ≤ 256 by first | omega | decide) ja19_0) ca_X7_readCompared q3_75 ⟨rfl, rfl⟩ ⟨(show 10 * n + 9 + 1 ≤ 10 * n + 10 by omega), (show 8 + (3 + 11) + (300 * n + 340) ≤ 300 * n + 370 by omega)⟩ (rc_reader hK hP) hK hP hD hS hZ rfl hl.1 rfl (Nat.le_of_ble_eq_true rfl) ⟨Nat.zero_le _, Nat.zero_le _⟩ dX7_readBoth_42 (fun r_5 z_9 H locs wr_5 hP hD hS => ?_)
          obtain ⟨o_v25_6, o_v26_7, o_a19_8⟩ := z_9
          have hP : va_P D vwCl (CW cs ad fa fq rv (va_up (va_up v 25 o_v25_6) 26 o_v26_7) (va_up a 19 o_a19_8) w fv fp) H := hP
          have hD : va_D A (CW cs ad fa fq rv (va_up (va_up v 25 o_v25_6) 26 o_v26_7) (va_up a 19 o_a19_8) w fv fp) := hD
          obtain ⟨wr_5_0, wr_5_1, wr_5_2, wr_5_3, wr_5_4, wr_5_5, wr_5_6, wr_5_7, wr_5_8⟩ : (0 ≤ r_5.toInt) ∧ (r_5.toInt ≤ 1) ∧ (x_4.toInt ≤ o_v25_6.toInt) ∧ (0 ≤ o_v25_6.toInt) ∧ (o_v25_6.toInt ≤ 120) ∧ (o_v25_6.toInt ≤ (v 24).toInt) ∧ (0 ≤ o_v26_7.toInt) ∧ (o_v26_7.toInt ≤ 256) ∧ (AB (-1000) 20000 o_a19_8) := wr_5
          refine lv_if_ne (tgt := 50) hx hb dX7_readBoth_45 (by decide) (fun c_10 => ?_) (fun c_10 => ?_)
          ·
            have kc_10 : r_5.toInt ≠ (0 : Int) := i_ne c_10
            refine lv_aload_n hx hb dX7_readBoth_50 rfl (lv_at hl 0 rfl) ?_
            refine lv_bipush (v := (-38)) hx hb dX7_readBoth_51 (by decide) ?_
            refine cV_i (As := [.int (-38)]) (rest := []) ⟨hx, hb, hml, hown, hg⟩ (k_X7_write l D cs A ad fa fq rv (va_up (va_up v 25 o_v25_6) 26 o_v26_7) (va_up a 19 o_a19_8) w fv fp  (-38) hr0 hr1 (show -1000 ≤ (-38 : Int) by first | omega | decide) (show (-38 : Int) ≤ 20000 by first | omega | decide) (show 0 ≤ o_v26_7.toInt by first | omega | decide) (show o_v26_7.toInt ≤ 256 by first | omega | decide) wr_5_8) ca_X7_write q3_102 ⟨rfl, rfl⟩ ⟨(show 0 + 1 ≤ 10 * n + 10 by omega), (show 8 + (2 + 11) + (0) ≤ 300 * n + 370 by omega)⟩ (rc_reader hK hP) hK hP hD hS hZ rfl hl.1 rfl (Nat.le_of_ble_eq_true rfl) ⟨Nat.zero_le _, Nat.zero_le _⟩ dX7_readBoth_53 (fun r_11 z_14 H locs wr_11 hP hD hS => ?_)
            obtain ⟨o_v26_12, o_a19_13⟩ := z_14
            have hP : va_P D vwCl (CW cs ad fa fq rv (va_up (va_up v 25 o_v25_6) 26 o_v26_12) (va_up a 19 o_a19_13) w fv fp) H := hP
            have hD : va_D A (CW cs ad fa fq rv (va_up (va_up v 25 o_v25_6) 26 o_v26_12) (va_up a 19 o_a19_13) w fv fp) := hD
            obtain ⟨wr_11_0, wr_11_1, wr_11_2, wr_11_3, wr_11_4⟩ : (0 ≤ r_11.toInt) ∧ (r_11.toInt ≤ 1) ∧ (0 ≤ o_v26_12.toInt) ∧ (o_v26_12.toInt ≤ 256) ∧ (AB (-1000) 20000 o_a19_13) := wr_11
            refine lv_pop hx hb dX7_readBoth_56 rfl ?_
            refine lv_goto (tgt := 10) hx hb dX7_readBoth_57 (by decide) ?_
            exact ih o_v25_6 o_v26_12 o_a19_13 _ _ (by omega) (show 0 ≤ o_v25_6.toInt by first | omega | assumption) (show o_v25_6.toInt ≤ 120 by first | omega | assumption) (show o_v25_6.toInt ≤ (v 24).toInt by first | omega | assumption) (show 0 ≤ o_v26_12.toInt by first | omega | assumption) (show o_v26_12.toInt ≤ 256 by first | omega | assumption) wr_11_4 (by omega) hP hD hS ls (lv_sub hl [0, 1] rfl)
          ·
            have kc_10 : r_5.toInt = (0 : Int) := i_eq c_10
            refine lv_iconst (v := 0) hx hb dX7_readBoth_48 (by decide) ?_
            have q0_0 : (0 : Int32).toInt = 0 := rfl
            exact W.zret (v := 0) hx hb hr rfl (fun tt ht hW => ⟨⟨0, ⟨o_v25_6, o_v26_7, o_a19_8⟩, rfl, ⟨(by first | rfl | omega | trivial | assumption | (dsimp only; first | omega | assumption)), (by first | rfl | omega | trivial | assumption | (dsimp only; first | omega | assumption)), (by first | rfl | omega | trivial | assumption | (dsimp only; first | omega | assumption)), (show 0 ≤ o_v25_6.toInt by first | omega | assumption), (show o_v25_6.toInt ≤ 120 by first | omega | assumption), (show o_v25_6.toInt ≤ (v 24).toInt by first | omega | assumption), (show 0 ≤ o_v26_7.toInt by first | omega | assumption), (show o_v26_7.toInt ≤ 256 by first | omega | assumption), wr_5_8⟩, by rw [ht]; exact hP, hD⟩, hS.F ht⟩) hS.2.2 dX7_readBoth_49
  refine lv_aload_n hx hb dX7_readBoth_0 rfl (lv_at hl 0 rfl) ?_
  refine lv_iload_n hx hb dX7_readBoth_1 rfl (lv_at hl 1 rfl) ?_
  refine cV_i (As := [.int p1]) (rest := []) ⟨hx, hb, hml, hown, hg⟩ (h1n l D cs A ad fa fq rv v a w fv fp  p1 hr0 hr1 (show 0 ≤ p1.toInt by first | omega | decide) (show p1.toInt ≤ 6 by first | omega | decide) (show 6 ≤ p1.toInt + (n : Int) by first | omega | decide) (show 0 ≤ (v 24).toInt by first | omega | decide) (show (v 24).toInt ≤ 120 by first | omega | decide) (show 0 ≤ (v 25).toInt by first | omega | decide) (show (v 25).toInt ≤ 120 by first | omega | decide) (show (v 25).toInt ≤ (v 24).toInt by first | omega | decide) (show 0 ≤ (v 26).toInt by first | omega | decide) (show (v 26).toInt ≤ 256 by first | omega | decide) ia19_0) ca_X7_readCompared q3_75 ⟨rfl, rfl⟩ ⟨(show 10 * n + 9 + 1 ≤ 10 * n + 10 by omega), (show 8 + (3 + 11) + (300 * n + 340) ≤ 300 * n + 370 by omega)⟩ (rc_reader hK hP) hK hP hD hS hZ rfl hl.1 rfl (Nat.le_of_ble_eq_true rfl) ⟨Nat.zero_le _, Nat.zero_le _⟩ dX7_readBoth_2 (fun r_15 z_19 H locs wr_15 hP hD hS => ?_)
  obtain ⟨o_v25_16, o_v26_17, o_a19_18⟩ := z_19
  have hP : va_P D vwCl (CW cs ad fa fq rv (va_up (va_up v 25 o_v25_16) 26 o_v26_17) (va_up a 19 o_a19_18) w fv fp) H := hP
  have hD : va_D A (CW cs ad fa fq rv (va_up (va_up v 25 o_v25_16) 26 o_v26_17) (va_up a 19 o_a19_18) w fv fp) := hD
  obtain ⟨wr_15_0, wr_15_1, wr_15_2, wr_15_3, wr_15_4, wr_15_5, wr_15_6, wr_15_7, wr_15_8⟩ : (0 ≤ r_15.toInt) ∧ (r_15.toInt ≤ 1) ∧ ((v 25).toInt ≤ o_v25_16.toInt) ∧ (0 ≤ o_v25_16.toInt) ∧ (o_v25_16.toInt ≤ 120) ∧ (o_v25_16.toInt ≤ (v 24).toInt) ∧ (0 ≤ o_v26_17.toInt) ∧ (o_v26_17.toInt ≤ 256) ∧ (AB (-1000) 20000 o_a19_18) := wr_15
  refine lv_if_ne (tgt := 10) hx hb dX7_readBoth_5 (by decide) (fun c_20 => ?_) (fun c_20 => ?_)
  ·
    have kc_20 : r_15.toInt ≠ (0 : Int) := i_ne c_20
    exact (hcut ((((v 24).toInt - o_v25_16.toInt).toNat) + 1)) o_v25_16 o_v26_17 o_a19_18 _ _ (by omega) (show 0 ≤ o_v25_16.toInt by first | omega | assumption) (show o_v25_16.toInt ≤ 120 by first | omega | assumption) (show o_v25_16.toInt ≤ (v 24).toInt by first | omega | assumption) (show 0 ≤ o_v26_17.toInt by first | omega | assumption) (show o_v26_17.toInt ≤ 256 by first | omega | assumption) wr_15_8 (Nat.lt_succ_self _) hP hD hS ls (lv_sub hl [0, 1] rfl)
  ·
    have kc_20 : r_15.toInt = (0 : Int) := i_eq c_20
    refine lv_iconst (v := 0) hx hb dX7_readBoth_8 (by decide) ?_
    have q0_0 : (0 : Int32).toInt = 0 := rfl
    exact W.zret (v := 0) hx hb hr rfl (fun tt ht hW => ⟨⟨0, ⟨o_v25_16, o_v26_17, o_a19_18⟩, rfl, ⟨(by first | rfl | omega | trivial | assumption | (dsimp only; first | omega | assumption)), (by first | rfl | omega | trivial | assumption | (dsimp only; first | omega | assumption)), (by first | rfl | omega | trivial | assumption | (dsimp only; first | omega | assumption)), (show 0 ≤ o_v25_16.toInt by first | omega | assumption), (show o_v25_16.toInt ≤ 120 by first | omega | assumption), (show o_v25_16.toInt ≤ (v 24).toInt by first | omega | assumption), (show 0 ≤ o_v26_17.toInt by first | omega | assumption), (show o_v26_17.toInt ≤ 256 by first | omega | assumption), wr_15_8⟩, by rw [ht]; exact hP, hD⟩, hS.F ht⟩) hS.2.2 dX7_readBoth_9
set_option maxHeartbeats 4000000 in
set_option maxRecDepth 100000 in
theorem s_X7_readEither (n : Nat) (h1n : C_X7_readBoth n) : C_X7_readEither n := by
  intro l D cs A ad fa fq rv v a w fv fp p1 hr0 hr1 ho0 ho6 hon iv24_0 iv24_1 iv25_0 iv25_1 iv25_2 iv26_0 iv26_1 ia19_0
  refine Met.ofW (cc := cX7_readEither) (maxL := 2) (ret := (some .boolean)) (by decide) rfl ?_
  intro p e s m args below meth c s₁ B hml hv
  obtain ⟨rfl, hP, hK, hD, hZ⟩ := hv
  have hx := B.exec
  have hb := B.bytes
  have hr := B.returns
  have hts := atoms_spec (ws := (Cond.code yX7_readEither cX7_readEither 2 (some .boolean) :: gw)) B.pre
  have hg : ∀ w ∈ gw, w.before ([.ref (ad 10), .int p1] : List Value).toArray s = true := fun w h => hts w (List.mem_cons_of_mem _ h)
  have hown : s.vm.findClass RX7 = some m.cls := findClass_of_methodNamed B.named
  have hlocks := B.notSynchronized
  have hS : va_S A s.heap s.heap [] := va_S.rf
  have hP : va_P D vwCl (CW cs ad fa fq rv v a w fv fp) s.heap := hP
  have hl := lv_entry ([.ref (ad 10), .int p1]) (n := 2) (Nat.le_of_ble_eq_true rfl)
  rw [lg_entry_eq]
  generalize (lg_sl ([.ref (ad 10), .int p1]) ++ List.replicate (2 - (lg_sl ([.ref (ad 10), .int p1])).length) Slot.unset).toArray = ls at hl ⊢
  have hl : lv_has ls 2 [(0, .ref (ad 10)), (1, .int p1)] := hl
  have hcut : ∀ nk : Nat, (∀ (c10_v25 : Int32) (c10_v26 : Int32) (c10_a19 : Nat → Int32) (H : Heap) (locs : List Loc) (hat : (v 25).toInt ≤ c10_v25.toInt) (jv25_0 : 0 ≤ c10_v25.toInt) (jv25_1 : c10_v25.toInt ≤ 120) (jv25_2 : c10_v25.toInt ≤ (v 24).toInt) (jv26_0 : 0 ≤ c10_v26.toInt) (jv26_1 : c10_v26.toInt ≤ 256) (ja19_0 : AB (-1000) 20000 c10_a19) (hmu : ((v 24).toInt - c10_v25.toInt).toNat < nk) (hP : va_P D vwCl (CW cs ad fa fq rv (va_up (va_up v 25 c10_v25) 26 c10_v26) (va_up a 19 c10_a19) w fv fp) H) (hD : va_D A (CW cs ad fa fq rv (va_up (va_up v 25 c10_v25) 26 c10_v26) (va_up a 19 c10_a19) w fv fp)) (hS : va_S A s.heap H locs) (ls : Array Slot) (hl : lv_has ls 2 [(0, .ref (ad 10)), (1, .int p1)]), W p l e (headSpec (Cond.code yX7_readEither cX7_readEither 2 (some .boolean) :: gw) ({ frames := 10 * n + 11, cells := 0, slots := 0, locals := 300 * n + 400 })).room s m ([.ref (ad 10), .int p1] : List Value).toArray below meth c H locs 0 0 (MQ below (va_Qi (fun (r : Int32) (z : Int32 × Int32 × (Nat → Int32)) => (0 ≤ r.toInt) ∧ (r.toInt ≤ 1) ∧ ((v 25).toInt ≤ z.1.toInt) ∧ (0 ≤ z.1.toInt) ∧ (z.1.toInt ≤ 120) ∧ (z.1.toInt ≤ (v 24).toInt) ∧ (0 ≤ z.2.1.toInt) ∧ (z.2.1.toInt ≤ 256) ∧ (AB (-1000) 20000 z.2.2)) (XPo D (fun (z : Int32 × Int32 × (Nat → Int32)) => CW cs ad fa fq rv (va_up (va_up v 25 z.1) 26 z.2.1) (va_up a 19 z.2.2) w fv fp) A) A) ([.ref (ad 10), .int p1] : List Value).toArray s 0 0 A) (F0 m 10 ls [])) := by
    intro nk
    induction nk with
    | zero => exact (fun c10_v25 c10_v26 c10_a19 H locs hat jv25_0 jv25_1 jv25_2 jv26_0 jv26_1 ja19_0 hmu hP hD hS ls hl => absurd hmu (Nat.not_lt_zero _))
    | succ nk ih =>
      intro c10_v25 c10_v26 c10_a19 H locs hat jv25_0 jv25_1 jv25_2 jv26_0 jv26_1 ja19_0 hmu hP hD hS ls hl
      refine lv_aload_n hx hb dX7_readEither_10 rfl (lv_at hl 0 rfl) ?_
      refine gf_reader_at hx hb hg hown hK hP (x := c10_v25) rfl (hg _ q1_157) dX7_readEither_11 ?_
      refine lv_aload_n hx hb dX7_readEither_14 rfl (lv_at hl 0 rfl) ?_
      refine gf_reader_length hx hb hg hown hK hP (x := (v 24)) rfl (hg _ q1_156) dX7_readEither_15 ?_
      refine lv_icmp_ge (tgt := 60) hx hb dX7_readEither_18 (by decide) (fun c_1 => ?_) (fun c_1 => ?_)
      ·
        have kc_1 : (v 24).toInt ≤ c10_v25.toInt := i_le c_1
        refine lv_iconst (v := 1) hx hb dX7_readEither_60 (by decide) ?_
        have q0_1 : (1 : Int32).toInt = 1 := rfl
        exact W.zret (v := 1) hx hb hr rfl (fun tt ht hW => ⟨⟨1, ⟨c10_v25, c10_v26, c10_a19⟩, rfl, ⟨(by first | rfl | omega | trivial | assumption | (dsimp only; first | omega | assumption)), (by first | rfl | omega | trivial | assumption | (dsimp only; first | omega | assumption)), (by first | rfl | omega | trivial | assumption | (dsimp only; first | omega | assumption)), (show 0 ≤ c10_v25.toInt by first | omega | assumption), (show c10_v25.toInt ≤ 120 by first | omega | assumption), (show c10_v25.toInt ≤ (v 24).toInt by first | omega | assumption), (show 0 ≤ c10_v26.toInt by first | omega | assumption), (show c10_v26.toInt ≤ 256 by first | omega | assumption), ja19_0⟩, by rw [ht]; exact hP, hD⟩, hS.F ht⟩) hS.2.2 dX7_readEither_61
      ·
        have kc_1 : c10_v25.toInt < (v 24).toInt := i_nle c_1
        refine lv_aload_n hx hb dX7_readEither_21 rfl (lv_at hl 0 rfl) ?_
        refine cV_ro (As := []) (rest := []) ⟨hx, hb, hml, hown, hg⟩ (k_X7_sign l D cs A ad fa fq rv (va_up (va_up v 25 c10_v25) 26 c10_v26) (va_up a 19 c10_a19) w fv fp   hr0 hr1 (show 0 ≤ (v 24).toInt by first | omega | decide) (show (v 24).toInt ≤ 120 by first | omega | decide) (show 0 ≤ c10_v25.toInt by first | omega | decide) (show c10_v25.toInt ≤ 120 by first | omega | decide) (show c10_v25.toInt ≤ (v 24).toInt by first | omega | decide)) ca_X7_sign q3_91 ⟨rfl, rfl⟩ ⟨(show 0 + 1 ≤ 10 * n + 11 by omega), (show 8 + (1 + 11) + (0) ≤ 300 * n + 400 by omega)⟩ (rc_reader hK hP) hK hP hD hS hZ rfl hl.1 rfl (Nat.le_of_ble_eq_true rfl) ⟨Nat.zero_le _, Nat.zero_le _⟩ dX7_readEither_22 (fun r_2 wr_2 => ?_)
        have wr_2_0 : (c10_v25.toInt < (v 24).toInt ∧ r_2.toInt = ((a 15) c10_v25.toNatClampNeg).toInt) ∨ ((v 24).toInt ≤ c10_v25.toInt ∧ r_2.toInt = -1) := wr_2
        refine lv_bipush (v := 124) hx hb dX7_readEither_25 (by decide) ?_
        refine lv_icmp_ne (tgt := 60) hx hb dX7_readEither_27 (by decide) (fun c_3 => ?_) (fun c_3 => ?_)
        ·
          have kc_3 : r_2.toInt ≠ (124 : Int) := i_ne c_3
          refine lv_iconst (v := 1) hx hb dX7_readEither_60 (by decide) ?_
          have q0_1 : (1 : Int32).toInt = 1 := rfl
          exact W.zret (v := 1) hx hb hr rfl (fun tt ht hW => ⟨⟨1, ⟨c10_v25, c10_v26, c10_a19⟩, rfl, ⟨(by first | rfl | omega | trivial | assumption | (dsimp only; first | omega | assumption)), (by first | rfl | omega | trivial | assumption | (dsimp only; first | omega | assumption)), (by first | rfl | omega | trivial | assumption | (dsimp only; first | omega | assumption)), (show 0 ≤ c10_v25.toInt by first | omega | assumption), (show c10_v25.toInt ≤ 120 by first | omega | assumption), (show c10_v25.toInt ≤ (v 24).toInt by first | omega | assumption), (show 0 ≤ c10_v26.toInt by first | omega | assumption), (show c10_v26.toInt ≤ 256 by first | omega | assumption), ja19_0⟩, by rw [ht]; exact hP, hD⟩, hS.F ht⟩) hS.2.2 dX7_readEither_61
        ·
          have kc_3 : r_2.toInt = (124 : Int) := i_eq c_3
          refine lv_aload_n hx hb dX7_readEither_30 rfl (lv_at hl 0 rfl) ?_
          refine lv_dup hx hb dX7_readEither_31 rfl ?_
          refine gf_reader_at hx hb hg hown hK hP (x := c10_v25) rfl (hg _ q1_157) dX7_readEither_32 ?_
          refine lv_iconst (v := 1) hx hb dX7_readEither_35 (by decide) ?_
          refine lv_iadd hx hb dX7_readEither_36 ?_
          refine lv_topi (fun x_4 ex_4 => ?_)
          have fx_4 : x_4.toInt = c10_v25.toInt + (1 : Int) := by rw [ex_4]; exact i_add (by first | omega | (show (_ : Int) ≤ c10_v25.toInt + (1 : Int); omega)) (by first | omega | (show c10_v25.toInt + (1 : Int) ≤ (_ : Int); omega))
          refine pf_reader_at hx hb hg hown hK hP hD hS (hg _ q1_157) dX7_readEither_37 (fun H locs hP hD hS => ?_)
          refine lv_aload_n hx hb dX7_readEither_40 rfl (lv_at hl 0 rfl) ?_
          refine lv_iload_n hx hb dX7_readEither_41 rfl (lv_at hl 1 rfl) ?_
          refine cV_i (As := [.int p1]) (rest := []) ⟨hx, hb, hml, hown, hg⟩ (h1n l D cs A ad fa fq rv (va_up (va_up v 26 c10_v26) 25 x_4) (va_up a 19 c10_a19) w fv fp  p1 hr0 hr1 (show 0 ≤ p1.toInt by first | omega | decide) (show p1.toInt ≤ 6 by first | omega | decide) (show 6 ≤ p1.toInt + (n : Int) by first | omega | decide) (show 0 ≤ (v 24).toInt by first | omega | decide) (show (v 24).toInt ≤ 120 by first | omega | decide) (show 0 ≤ x_4.toInt by first | omega | decide) (show x_4.toInt ≤ 120 by first | omega | decide) (show x_4.toInt ≤ (v 24).toInt by first | omega | decide) (show 0 ≤ c10_v26.toInt by first | omega | decide) (show c10_v26.toInt ≤ 256 by first | omega | decide) ja19_0) ca_X7_readBoth q3_71 ⟨rfl, rfl⟩ ⟨(show 10 * n + 10 + 1 ≤ 10 * n + 11 by omega), (show 8 + (2 + 11) + (300 * n + 370) ≤ 300 * n + 400 by omega)⟩ (rc_reader hK hP) hK hP hD hS hZ rfl hl.1 rfl (Nat.le_of_ble_eq_true rfl) ⟨Nat.zero_le _, Nat.zero_le _⟩ dX7_readEither_42 (fun r_5 z_9 H locs wr_5 hP hD hS => ?_)
          obtain ⟨o_v25_6, o_v26_7, o_a19_8⟩ := z_9
          have hP : va_P D vwCl (CW cs ad fa fq rv (va_up (va_up v 25 o_v25_6) 26 o_v26_7) (va_up a 19 o_a19_8) w fv fp) H := hP
          have hD : va_D A (CW cs ad fa fq rv (va_up (va_up v 25 o_v25_6) 26 o_v26_7) (va_up a 19 o_a19_8) w fv fp) := hD
          obtain ⟨wr_5_0, wr_5_1, wr_5_2, wr_5_3, wr_5_4, wr_5_5, wr_5_6, wr_5_7, wr_5_8⟩ : (0 ≤ r_5.toInt) ∧ (r_5.toInt ≤ 1) ∧ (x_4.toInt ≤ o_v25_6.toInt) ∧ (0 ≤ o_v25_6.toInt) ∧ (o_v25_6.toInt ≤ 120) ∧ (o_v25_6.toInt ≤ (v 24).toInt) ∧ (0 ≤ o_v26_7.toInt) ∧ (o_v26_7.toInt ≤ 256) ∧ (AB (-1000) 20000 o_a19_8) := wr_5
          refine lv_if_ne (tgt := 50) hx hb dX7_readEither_45 (by decide) (fun c_10 => ?_) (fun c_10 => ?_)
          ·
            have kc_10 : r_5.toInt ≠ (0 : Int) := i_ne c_10
            refine lv_aload_n hx hb dX7_readEither_50 rfl (lv_at hl 0 rfl) ?_
            refine lv_bipush (v := (-124)) hx hb dX7_readEither_51 (by decide) ?_
            refine cV_i (As := [.int (-124)]) (rest := []) ⟨hx, hb, hml, hown, hg⟩ (k_X7_write l D cs A ad fa fq rv (va_up (va_up v 25 o_v25_6) 26 o_v26_7) (va_up a 19 o_a19_8) w fv fp  (-124) hr0 hr1 (show -1000 ≤ (-124 : Int) by first | omega | decide) (show (-124 : Int) ≤ 20000 by first | omega | decide) (show 0 ≤ o_v26_7.toInt by first | omega | decide) (show o_v26_7.toInt ≤ 256 by first | omega | decide) wr_5_8) ca_X7_write q3_102 ⟨rfl, rfl⟩ ⟨(show 0 + 1 ≤ 10 * n + 11 by omega), (show 8 + (2 + 11) + (0) ≤ 300 * n + 400 by omega)⟩ (rc_reader hK hP) hK hP hD hS hZ rfl hl.1 rfl (Nat.le_of_ble_eq_true rfl) ⟨Nat.zero_le _, Nat.zero_le _⟩ dX7_readEither_53 (fun r_11 z_14 H locs wr_11 hP hD hS => ?_)
            obtain ⟨o_v26_12, o_a19_13⟩ := z_14
            have hP : va_P D vwCl (CW cs ad fa fq rv (va_up (va_up v 25 o_v25_6) 26 o_v26_12) (va_up a 19 o_a19_13) w fv fp) H := hP
            have hD : va_D A (CW cs ad fa fq rv (va_up (va_up v 25 o_v25_6) 26 o_v26_12) (va_up a 19 o_a19_13) w fv fp) := hD
            obtain ⟨wr_11_0, wr_11_1, wr_11_2, wr_11_3, wr_11_4⟩ : (0 ≤ r_11.toInt) ∧ (r_11.toInt ≤ 1) ∧ (0 ≤ o_v26_12.toInt) ∧ (o_v26_12.toInt ≤ 256) ∧ (AB (-1000) 20000 o_a19_13) := wr_11
            refine lv_pop hx hb dX7_readEither_56 rfl ?_
            refine lv_goto (tgt := 10) hx hb dX7_readEither_57 (by decide) ?_
            exact ih o_v25_6 o_v26_12 o_a19_13 _ _ (by omega) (show 0 ≤ o_v25_6.toInt by first | omega | assumption) (show o_v25_6.toInt ≤ 120 by first | omega | assumption) (show o_v25_6.toInt ≤ (v 24).toInt by first | omega | assumption) (show 0 ≤ o_v26_12.toInt by first | omega | assumption) (show o_v26_12.toInt ≤ 256 by first | omega | assumption) wr_11_4 (by omega) hP hD hS ls (lv_sub hl [0, 1] rfl)
          ·
            have kc_10 : r_5.toInt = (0 : Int) := i_eq c_10
            refine lv_iconst (v := 0) hx hb dX7_readEither_48 (by decide) ?_
            have q0_0 : (0 : Int32).toInt = 0 := rfl
            exact W.zret (v := 0) hx hb hr rfl (fun tt ht hW => ⟨⟨0, ⟨o_v25_6, o_v26_7, o_a19_8⟩, rfl, ⟨(by first | rfl | omega | trivial | assumption | (dsimp only; first | omega | assumption)), (by first | rfl | omega | trivial | assumption | (dsimp only; first | omega | assumption)), (by first | rfl | omega | trivial | assumption | (dsimp only; first | omega | assumption)), (show 0 ≤ o_v25_6.toInt by first | omega | assumption), (show o_v25_6.toInt ≤ 120 by first | omega | assumption), (show o_v25_6.toInt ≤ (v 24).toInt by first | omega | assumption), (show 0 ≤ o_v26_7.toInt by first | omega | assumption), (show o_v26_7.toInt ≤ 256 by first | omega | assumption), wr_5_8⟩, by rw [ht]; exact hP, hD⟩, hS.F ht⟩) hS.2.2 dX7_readEither_49
  refine lv_aload_n hx hb dX7_readEither_0 rfl (lv_at hl 0 rfl) ?_
  refine lv_iload_n hx hb dX7_readEither_1 rfl (lv_at hl 1 rfl) ?_
  refine cV_i (As := [.int p1]) (rest := []) ⟨hx, hb, hml, hown, hg⟩ (h1n l D cs A ad fa fq rv v a w fv fp  p1 hr0 hr1 (show 0 ≤ p1.toInt by first | omega | decide) (show p1.toInt ≤ 6 by first | omega | decide) (show 6 ≤ p1.toInt + (n : Int) by first | omega | decide) (show 0 ≤ (v 24).toInt by first | omega | decide) (show (v 24).toInt ≤ 120 by first | omega | decide) (show 0 ≤ (v 25).toInt by first | omega | decide) (show (v 25).toInt ≤ 120 by first | omega | decide) (show (v 25).toInt ≤ (v 24).toInt by first | omega | decide) (show 0 ≤ (v 26).toInt by first | omega | decide) (show (v 26).toInt ≤ 256 by first | omega | decide) ia19_0) ca_X7_readBoth q3_71 ⟨rfl, rfl⟩ ⟨(show 10 * n + 10 + 1 ≤ 10 * n + 11 by omega), (show 8 + (2 + 11) + (300 * n + 370) ≤ 300 * n + 400 by omega)⟩ (rc_reader hK hP) hK hP hD hS hZ rfl hl.1 rfl (Nat.le_of_ble_eq_true rfl) ⟨Nat.zero_le _, Nat.zero_le _⟩ dX7_readEither_2 (fun r_15 z_19 H locs wr_15 hP hD hS => ?_)
  obtain ⟨o_v25_16, o_v26_17, o_a19_18⟩ := z_19
  have hP : va_P D vwCl (CW cs ad fa fq rv (va_up (va_up v 25 o_v25_16) 26 o_v26_17) (va_up a 19 o_a19_18) w fv fp) H := hP
  have hD : va_D A (CW cs ad fa fq rv (va_up (va_up v 25 o_v25_16) 26 o_v26_17) (va_up a 19 o_a19_18) w fv fp) := hD
  obtain ⟨wr_15_0, wr_15_1, wr_15_2, wr_15_3, wr_15_4, wr_15_5, wr_15_6, wr_15_7, wr_15_8⟩ : (0 ≤ r_15.toInt) ∧ (r_15.toInt ≤ 1) ∧ ((v 25).toInt ≤ o_v25_16.toInt) ∧ (0 ≤ o_v25_16.toInt) ∧ (o_v25_16.toInt ≤ 120) ∧ (o_v25_16.toInt ≤ (v 24).toInt) ∧ (0 ≤ o_v26_17.toInt) ∧ (o_v26_17.toInt ≤ 256) ∧ (AB (-1000) 20000 o_a19_18) := wr_15
  refine lv_if_ne (tgt := 10) hx hb dX7_readEither_5 (by decide) (fun c_20 => ?_) (fun c_20 => ?_)
  ·
    have kc_20 : r_15.toInt ≠ (0 : Int) := i_ne c_20
    exact (hcut ((((v 24).toInt - o_v25_16.toInt).toNat) + 1)) o_v25_16 o_v26_17 o_a19_18 _ _ (by omega) (show 0 ≤ o_v25_16.toInt by first | omega | assumption) (show o_v25_16.toInt ≤ 120 by first | omega | assumption) (show o_v25_16.toInt ≤ (v 24).toInt by first | omega | assumption) (show 0 ≤ o_v26_17.toInt by first | omega | assumption) (show o_v26_17.toInt ≤ 256 by first | omega | assumption) wr_15_8 (Nat.lt_succ_self _) hP hD hS ls (lv_sub hl [0, 1] rfl)
  ·
    have kc_20 : r_15.toInt = (0 : Int) := i_eq c_20
    refine lv_iconst (v := 0) hx hb dX7_readEither_8 (by decide) ?_
    have q0_0 : (0 : Int32).toInt = 0 := rfl
    exact W.zret (v := 0) hx hb hr rfl (fun tt ht hW => ⟨⟨0, ⟨o_v25_16, o_v26_17, o_a19_18⟩, rfl, ⟨(by first | rfl | omega | trivial | assumption | (dsimp only; first | omega | assumption)), (by first | rfl | omega | trivial | assumption | (dsimp only; first | omega | assumption)), (by first | rfl | omega | trivial | assumption | (dsimp only; first | omega | assumption)), (show 0 ≤ o_v25_16.toInt by first | omega | assumption), (show o_v25_16.toInt ≤ 120 by first | omega | assumption), (show o_v25_16.toInt ≤ (v 24).toInt by first | omega | assumption), (show 0 ≤ o_v26_17.toInt by first | omega | assumption), (show o_v26_17.toInt ≤ 256 by first | omega | assumption), wr_15_8⟩, by rw [ht]; exact hP, hD⟩, hS.F ht⟩) hS.2.2 dX7_readEither_9
theorem rd_all : ∀ n, C_X7_readOne n ∧ C_X7_readEither n := by
  intro n
  induction n with
  | zero =>
    have h0 := s_X7_readOne 0 (fun k h => absurd h (by omega)) (fun k h => absurd h (by omega))
    exact ⟨h0, s_X7_readEither 0 (s_X7_readBoth 0 (s_X7_readCompared 0 (s_X7_readSum 0 (s_X7_readProduct 0 h0))))⟩
  | succ n ih =>
    have h0 := s_X7_readOne (n + 1) (fun k h => by (have e : k = n := by omega); subst e; exact ih.2) (fun k h => by (have e : k = n := by omega); subst e; exact ih.1)
    exact ⟨h0, s_X7_readEither _ (s_X7_readBoth _ (s_X7_readCompared _ (s_X7_readSum _ (s_X7_readProduct _ h0))))⟩
set_option maxHeartbeats 4000000 in
set_option maxRecDepth 100000 in
theorem k_X7_readLine (l : Launch) (D : va_G) (cs : Nat → ClassId) (A : Nat → Prop) (ad fa fq rv : Nat → Nat) (v : Nat → Int32) (a : Nat → Nat → Int32) (w : Nat → Nat → Int64) (fv fp : Nat → Nat → Int32)   (hr0 : rv 0 = ad 15) (hr1 : rv 1 = ad 19) (iv24_0 : 0 ≤ (v 24).toInt) (iv24_1 : (v 24).toInt ≤ 120) (iv25_0 : 0 ≤ (v 25).toInt) (iv25_1 : (v 25).toInt ≤ 120) (iv25_2 : (v 25).toInt ≤ (v 24).toInt) (iv26_0 : 0 ≤ (v 26).toInt) (iv26_1 : (v 26).toInt ≤ 256) (ia19_0 : AB (-1000) 20000 (a 19)) : Met l yX7_readLine (Cond.code yX7_readLine cX7_readLine 2 (some .boolean) :: gw) ({ frames := 72, cells := 0, slots := 0, locals := 2221 }) (va_Pc [.ref (ad 10)] (XPre D (TY cs) (CW cs ad fa fq rv v a w fv fp) A)) (va_Qi (fun (r : Int32) (z : Int32 × Int32 × (Nat → Int32)) => (0 ≤ r.toInt) ∧ (r.toInt ≤ 1) ∧ ((v 25).toInt ≤ z.1.toInt) ∧ (0 ≤ z.1.toInt) ∧ (z.1.toInt ≤ 120) ∧ (z.1.toInt ≤ (v 24).toInt) ∧ (0 ≤ z.2.1.toInt) ∧ (z.2.1.toInt ≤ 256) ∧ (AB (-1000) 20000 z.2.2)) (XPo D (fun (z : Int32 × Int32 × (Nat → Int32)) => CW cs ad fa fq rv (va_up (va_up v 25 z.1) 26 z.2.1) (va_up a 19 z.2.2) w fv fp) A) A) 0 0 A := by
  refine Met.ofW (cc := cX7_readLine) (maxL := 2) (ret := (some .boolean)) (by decide) rfl ?_
  intro p e s m args below meth c s₁ B hml hv
  obtain ⟨rfl, hP, hK, hD, hZ⟩ := hv
  have hx := B.exec
  have hb := B.bytes
  have hr := B.returns
  have hts := atoms_spec (ws := (Cond.code yX7_readLine cX7_readLine 2 (some .boolean) :: gw)) B.pre
  have hg : ∀ w ∈ gw, w.before ([.ref (ad 10)] : List Value).toArray s = true := fun w h => hts w (List.mem_cons_of_mem _ h)
  have hown : s.vm.findClass RX7 = some m.cls := findClass_of_methodNamed B.named
  have hlocks := B.notSynchronized
  have hS : va_S A s.heap s.heap [] := va_S.rf
  have hP : va_P D vwCl (CW cs ad fa fq rv v a w fv fp) s.heap := hP
  have hl := lv_entry ([.ref (ad 10)]) (n := 2) (Nat.le_of_ble_eq_true rfl)
  rw [lg_entry_eq]
  generalize (lg_sl ([.ref (ad 10)]) ++ List.replicate (2 - (lg_sl ([.ref (ad 10)])).length) Slot.unset).toArray = ls at hl ⊢
  have hl : lv_has ls 2 [(0, .ref (ad 10))] := hl
  refine lv_aload_n hx hb dX7_readLine_0 rfl (lv_at hl 0 rfl) ?_
  refine lv_iconst (v := 0) hx hb dX7_readLine_1 (by decide) ?_
  refine cV_i (As := [.int 0]) (rest := []) ⟨hx, hb, hml, hown, hg⟩ (((rd_all 6).2) l D cs A ad fa fq rv v a w fv fp  0 hr0 hr1 (show 0 ≤ (0 : Int) by first | omega | decide) (show (0 : Int) ≤ 6 by first | omega | decide) (show 6 ≤ (0 : Int) + ((6 : Nat) : Int) by first | omega | decide) (show 0 ≤ (v 24).toInt by first | omega | decide) (show (v 24).toInt ≤ 120 by first | omega | decide) (show 0 ≤ (v 25).toInt by first | omega | decide) (show (v 25).toInt ≤ 120 by first | omega | decide) (show (v 25).toInt ≤ (v 24).toInt by first | omega | decide) (show 0 ≤ (v 26).toInt by first | omega | decide) (show (v 26).toInt ≤ 256 by first | omega | decide) ia19_0) ca_X7_readEither q3_67 ⟨rfl, rfl⟩ ⟨Nat.le_of_ble_eq_true rfl, Nat.le_of_ble_eq_true rfl⟩ (rc_reader hK hP) hK hP hD hS hZ rfl hl.1 rfl (Nat.le_of_ble_eq_true rfl) ⟨Nat.zero_le _, Nat.zero_le _⟩ dX7_readLine_2 (fun r_1 z_5 H locs wr_1 hP hD hS => ?_)
  obtain ⟨o_v25_2, o_v26_3, o_a19_4⟩ := z_5
  have hP : va_P D vwCl (CW cs ad fa fq rv (va_up (va_up v 25 o_v25_2) 26 o_v26_3) (va_up a 19 o_a19_4) w fv fp) H := hP
  have hD : va_D A (CW cs ad fa fq rv (va_up (va_up v 25 o_v25_2) 26 o_v26_3) (va_up a 19 o_a19_4) w fv fp) := hD
  obtain ⟨wr_1_0, wr_1_1, wr_1_2, wr_1_3, wr_1_4, wr_1_5, wr_1_6, wr_1_7, wr_1_8⟩ : (0 ≤ r_1.toInt) ∧ (r_1.toInt ≤ 1) ∧ ((v 25).toInt ≤ o_v25_2.toInt) ∧ (0 ≤ o_v25_2.toInt) ∧ (o_v25_2.toInt ≤ 120) ∧ (o_v25_2.toInt ≤ (v 24).toInt) ∧ (0 ≤ o_v26_3.toInt) ∧ (o_v26_3.toInt ≤ 256) ∧ (AB (-1000) 20000 o_a19_4) := wr_1
  refine lv_if_ne (tgt := 10) hx hb dX7_readLine_5 (by decide) (fun c_6 => ?_) (fun c_6 => ?_)
  ·
    have kc_6 : r_1.toInt ≠ (0 : Int) := i_ne c_6
    refine lv_iconst (v := (-1)) hx hb dX7_readLine_10 (by decide) ?_
    refine lv_istore_n (lv' := [(1, .int (-1)), (0, .ref (ad 10))]) hx hb dX7_readLine_11 rfl hl (by decide) rfl (fun ls hl => ?_)
    refine lv_aload_n hx hb dX7_readLine_12 rfl (lv_at hl 1 rfl) ?_
    refine lv_bipush (v := 63) hx hb dX7_readLine_13 (by decide) ?_
    refine cV_i (As := [.int 63]) (rest := []) ⟨hx, hb, hml, hown, hg⟩ (k_X7_passes l D cs A ad fa fq rv (va_up (va_up v 25 o_v25_2) 26 o_v26_3) (va_up a 19 o_a19_4) w fv fp  63 hr0 hr1 (show 0 ≤ (63 : Int) by first | omega | decide) (show 0 ≤ (v 24).toInt by first | omega | decide) (show (v 24).toInt ≤ 120 by first | omega | decide) (show 0 ≤ o_v25_2.toInt by first | omega | decide) (show o_v25_2.toInt ≤ 120 by first | omega | decide) (show o_v25_2.toInt ≤ (v 24).toInt by first | omega | decide)) ca_X7_passes q3_109 ⟨rfl, rfl⟩ ⟨Nat.le_of_ble_eq_true rfl, Nat.le_of_ble_eq_true rfl⟩ (rc_reader hK hP) hK hP hD hS hZ rfl hl.1 rfl (Nat.le_of_ble_eq_true rfl) ⟨Nat.zero_le _, Nat.zero_le _⟩ dX7_readLine_15 (fun r_7 o_v25_8 H locs wr_7 hP hD hS => ?_)
    have hP : va_P D vwCl (CW cs ad fa fq rv (va_up (va_up v 26 o_v26_3) 25 o_v25_8) (va_up a 19 o_a19_4) w fv fp) H := hP
    have hD : va_D A (CW cs ad fa fq rv (va_up (va_up v 26 o_v26_3) 25 o_v25_8) (va_up a 19 o_a19_4) w fv fp) := hD
    obtain ⟨wr_7_0, wr_7_1, wr_7_2, wr_7_3⟩ : ((r_7.toInt = 1 ∧ o_v25_8.toInt = o_v25_2.toInt + 1) ∨ (r_7.toInt = 0 ∧ o_v25_8.toInt = o_v25_2.toInt)) ∧ (0 ≤ o_v25_8.toInt) ∧ (o_v25_8.toInt ≤ 120) ∧ (o_v25_8.toInt ≤ (v 24).toInt) := wr_7
    refine lv_if_eq (tgt := 49) hx hb dX7_readLine_18 (by decide) (fun c_9 => ?_) (fun c_9 => ?_)
    ·
      have kc_9 : r_7.toInt = (0 : Int) := i_eq c_9
      refine lv_aload_n hx hb dX7_readLine_49 rfl (lv_at hl 1 rfl) ?_
      refine lv_bipush (v := (-59)) hx hb dX7_readLine_50 (by decide) ?_
      refine cV_i (As := [.int (-59)]) (rest := []) ⟨hx, hb, hml, hown, hg⟩ (k_X7_write l D cs A ad fa fq rv (va_up (va_up v 26 o_v26_3) 25 o_v25_8) (va_up a 19 o_a19_4) w fv fp  (-59) hr0 hr1 (show -1000 ≤ (-59 : Int) by first | omega | decide) (show (-59 : Int) ≤ 20000 by first | omega | decide) (show 0 ≤ o_v26_3.toInt by first | omega | decide) (show o_v26_3.toInt ≤ 256 by first | omega | decide) wr_1_8) ca_X7_write q3_102 ⟨rfl, rfl⟩ ⟨Nat.le_of_ble_eq_true rfl, Nat.le_of_ble_eq_true rfl⟩ (rc_reader hK hP) hK hP hD hS hZ rfl hl.1 rfl (Nat.le_of_ble_eq_true rfl) ⟨Nat.zero_le _, Nat.zero_le _⟩ dX7_readLine_52 (fun r_10 z_13 H locs wr_10 hP hD hS => ?_)
      obtain ⟨o_v26_11, o_a19_12⟩ := z_13
      have hP : va_P D vwCl (CW cs ad fa fq rv (va_up (va_up v 25 o_v25_8) 26 o_v26_11) (va_up a 19 o_a19_12) w fv fp) H := hP
      have hD : va_D A (CW cs ad fa fq rv (va_up (va_up v 25 o_v25_8) 26 o_v26_11) (va_up a 19 o_a19_12) w fv fp) := hD
      obtain ⟨wr_10_0, wr_10_1, wr_10_2, wr_10_3, wr_10_4⟩ : (0 ≤ r_10.toInt) ∧ (r_10.toInt ≤ 1) ∧ (0 ≤ o_v26_11.toInt) ∧ (o_v26_11.toInt ≤ 256) ∧ (AB (-1000) 20000 o_a19_12) := wr_10
      refine lv_pop hx hb dX7_readLine_55 rfl ?_
      refine lv_iload_n hx hb dX7_readLine_56 rfl (lv_at hl 0 rfl) ?_
      refine lv_if_lt (tgt := 79) hx hb dX7_readLine_57 (by decide) (fun c_14 => ?_) (fun c_14 => absurd c_14 (by decide))
      refine lv_iconst (v := 1) hx hb dX7_readLine_79 (by decide) ?_
      have q0_1 : (1 : Int32).toInt = 1 := rfl
      exact W.zret (v := 1) hx hb hr rfl (fun tt ht hW => ⟨⟨1, ⟨o_v25_8, o_v26_11, o_a19_12⟩, rfl, ⟨(by first | rfl | omega | trivial | assumption | (dsimp only; first | omega | assumption)), (by first | rfl | omega | trivial | assumption | (dsimp only; first | omega | assumption)), (by first | rfl | omega | trivial | assumption | (dsimp only; first | omega | assumption)), (show 0 ≤ o_v25_8.toInt by first | omega | assumption), (show o_v25_8.toInt ≤ 120 by first | omega | assumption), (show o_v25_8.toInt ≤ (v 24).toInt by first | omega | assumption), (show 0 ≤ o_v26_11.toInt by first | omega | assumption), (show o_v26_11.toInt ≤ 256 by first | omega | assumption), wr_10_4⟩, by rw [ht]; exact hP, hD⟩, hS.F ht⟩) hS.2.2 dX7_readLine_80
    ·
      have kc_9 : r_7.toInt ≠ (0 : Int) := i_ne c_9
      refine lv_aload_n hx hb dX7_readLine_21 rfl (lv_at hl 1 rfl) ?_
      refine lv_bipush (v := (-63)) hx hb dX7_readLine_22 (by decide) ?_
      refine cV_i (As := [.int (-63)]) (rest := []) ⟨hx, hb, hml, hown, hg⟩ (k_X7_write l D cs A ad fa fq rv (va_up (va_up v 26 o_v26_3) 25 o_v25_8) (va_up a 19 o_a19_4) w fv fp  (-63) hr0 hr1 (show -1000 ≤ (-63 : Int) by first | omega | decide) (show (-63 : Int) ≤ 20000 by first | omega | decide) (show 0 ≤ o_v26_3.toInt by first | omega | decide) (show o_v26_3.toInt ≤ 256 by first | omega | decide) wr_1_8) ca_X7_write q3_102 ⟨rfl, rfl⟩ ⟨Nat.le_of_ble_eq_true rfl, Nat.le_of_ble_eq_true rfl⟩ (rc_reader hK hP) hK hP hD hS hZ rfl hl.1 rfl (Nat.le_of_ble_eq_true rfl) ⟨Nat.zero_le _, Nat.zero_le _⟩ dX7_readLine_24 (fun r_15 z_18 H locs wr_15 hP hD hS => ?_)
      obtain ⟨o_v26_16, o_a19_17⟩ := z_18
      have hP : va_P D vwCl (CW cs ad fa fq rv (va_up (va_up v 25 o_v25_8) 26 o_v26_16) (va_up a 19 o_a19_17) w fv fp) H := hP
      have hD : va_D A (CW cs ad fa fq rv (va_up (va_up v 25 o_v25_8) 26 o_v26_16) (va_up a 19 o_a19_17) w fv fp) := hD
      obtain ⟨wr_15_0, wr_15_1, wr_15_2, wr_15_3, wr_15_4⟩ : (0 ≤ r_15.toInt) ∧ (r_15.toInt ≤ 1) ∧ (0 ≤ o_v26_16.toInt) ∧ (o_v26_16.toInt ≤ 256) ∧ (AB (-1000) 20000 o_a19_17) := wr_15
      refine lv_pop hx hb dX7_readLine_27 rfl ?_
      refine lv_aload_n hx hb dX7_readLine_28 rfl (lv_at hl 1 rfl) ?_
      refine gf_reader_size hx hb hg hown hK hP (x := o_v26_16) rfl (hg _ q1_159) dX7_readLine_29 ?_
      refine lv_istore_n (lv' := [(1, .int o_v26_16), (0, .ref (ad 10))]) hx hb dX7_readLine_32 rfl hl (by decide) rfl (fun ls hl => ?_)
      refine lv_aload_n hx hb dX7_readLine_33 rfl (lv_at hl 1 rfl) ?_
      refine lv_iconst (v := 0) hx hb dX7_readLine_34 (by decide) ?_
      refine cV_i (As := [.int 0]) (rest := []) ⟨hx, hb, hml, hown, hg⟩ (k_X7_write l D cs A ad fa fq rv (va_up (va_up v 25 o_v25_8) 26 o_v26_16) (va_up a 19 o_a19_17) w fv fp  0 hr0 hr1 (show -1000 ≤ (0 : Int) by first | omega | decide) (show (0 : Int) ≤ 20000 by first | omega | decide) (show 0 ≤ o_v26_16.toInt by first | omega | decide) (show o_v26_16.toInt ≤ 256 by first | omega | decide) wr_15_4) ca_X7_write q3_102 ⟨rfl, rfl⟩ ⟨Nat.le_of_ble_eq_true rfl, Nat.le_of_ble_eq_true rfl⟩ (rc_reader hK hP) hK hP hD hS hZ rfl hl.1 rfl (Nat.le_of_ble_eq_true rfl) ⟨Nat.zero_le _, Nat.zero_le _⟩ dX7_readLine_35 (fun r_19 z_22 H locs wr_19 hP hD hS => ?_)
      obtain ⟨o_v26_20, o_a19_21⟩ := z_22
      have hP : va_P D vwCl (CW cs ad fa fq rv (va_up (va_up v 25 o_v25_8) 26 o_v26_20) (va_up a 19 o_a19_21) w fv fp) H := hP
      have hD : va_D A (CW cs ad fa fq rv (va_up (va_up v 25 o_v25_8) 26 o_v26_20) (va_up a 19 o_a19_21) w fv fp) := hD
      obtain ⟨wr_19_0, wr_19_1, wr_19_2, wr_19_3, wr_19_4⟩ : (0 ≤ r_19.toInt) ∧ (r_19.toInt ≤ 1) ∧ (0 ≤ o_v26_20.toInt) ∧ (o_v26_20.toInt ≤ 256) ∧ (AB (-1000) 20000 o_a19_21) := wr_19
      refine lv_pop hx hb dX7_readLine_38 rfl ?_
      refine lv_aload_n hx hb dX7_readLine_39 rfl (lv_at hl 1 rfl) ?_
      refine lv_iconst (v := 0) hx hb dX7_readLine_40 (by decide) ?_
      refine cV_i (As := [.int 0]) (rest := []) ⟨hx, hb, hml, hown, hg⟩ (((rd_all 6).2) l D cs A ad fa fq rv (va_up (va_up v 25 o_v25_8) 26 o_v26_20) (va_up a 19 o_a19_21) w fv fp  0 hr0 hr1 (show 0 ≤ (0 : Int) by first | omega | decide) (show (0 : Int) ≤ 6 by first | omega | decide) (show 6 ≤ (0 : Int) + ((6 : Nat) : Int) by first | omega | decide) (show 0 ≤ (v 24).toInt by first | omega | decide) (show (v 24).toInt ≤ 120 by first | omega | decide) (show 0 ≤ o_v25_8.toInt by first | omega | decide) (show o_v25_8.toInt ≤ 120 by first | omega | decide) (show o_v25_8.toInt ≤ (v 24).toInt by first | omega | decide) (show 0 ≤ o_v26_20.toInt by first | omega | decide) (show o_v26_20.toInt ≤ 256 by first | omega | decide) wr_19_4) ca_X7_readEither q3_67 ⟨rfl, rfl⟩ ⟨Nat.le_of_ble_eq_true rfl, Nat.le_of_ble_eq_true rfl⟩ (rc_reader hK hP) hK hP hD hS hZ rfl hl.1 rfl (Nat.le_of_ble_eq_true rfl) ⟨Nat.zero_le _, Nat.zero_le _⟩ dX7_readLine_41 (fun r_23 z_27 H locs wr_23 hP hD hS => ?_)
      obtain ⟨o_v25_24, o_v26_25, o_a19_26⟩ := z_27
      have hP : va_P D vwCl (CW cs ad fa fq rv (va_up (va_up v 25 o_v25_24) 26 o_v26_25) (va_up a 19 o_a19_26) w fv fp) H := hP
      have hD : va_D A (CW cs ad fa fq rv (va_up (va_up v 25 o_v25_24) 26 o_v26_25) (va_up a 19 o_a19_26) w fv fp) := hD
      obtain ⟨wr_23_0, wr_23_1, wr_23_2, wr_23_3, wr_23_4, wr_23_5, wr_23_6, wr_23_7, wr_23_8⟩ : (0 ≤ r_23.toInt) ∧ (r_23.toInt ≤ 1) ∧ (o_v25_8.toInt ≤ o_v25_24.toInt) ∧ (0 ≤ o_v25_24.toInt) ∧ (o_v25_24.toInt ≤ 120) ∧ (o_v25_24.toInt ≤ (v 24).toInt) ∧ (0 ≤ o_v26_25.toInt) ∧ (o_v26_25.toInt ≤ 256) ∧ (AB (-1000) 20000 o_a19_26) := wr_23
      refine lv_if_ne (tgt := 49) hx hb dX7_readLine_44 (by decide) (fun c_28 => ?_) (fun c_28 => ?_)
      ·
        have kc_28 : r_23.toInt ≠ (0 : Int) := i_ne c_28
        refine lv_aload_n hx hb dX7_readLine_49 rfl (lv_at hl 1 rfl) ?_
        refine lv_bipush (v := (-59)) hx hb dX7_readLine_50 (by decide) ?_
        refine cV_i (As := [.int (-59)]) (rest := []) ⟨hx, hb, hml, hown, hg⟩ (k_X7_write l D cs A ad fa fq rv (va_up (va_up v 25 o_v25_24) 26 o_v26_25) (va_up a 19 o_a19_26) w fv fp  (-59) hr0 hr1 (show -1000 ≤ (-59 : Int) by first | omega | decide) (show (-59 : Int) ≤ 20000 by first | omega | decide) (show 0 ≤ o_v26_25.toInt by first | omega | decide) (show o_v26_25.toInt ≤ 256 by first | omega | decide) wr_23_8) ca_X7_write q3_102 ⟨rfl, rfl⟩ ⟨Nat.le_of_ble_eq_true rfl, Nat.le_of_ble_eq_true rfl⟩ (rc_reader hK hP) hK hP hD hS hZ rfl hl.1 rfl (Nat.le_of_ble_eq_true rfl) ⟨Nat.zero_le _, Nat.zero_le _⟩ dX7_readLine_52 (fun r_29 z_32 H locs wr_29 hP hD hS => ?_)
        obtain ⟨o_v26_30, o_a19_31⟩ := z_32
        have hP : va_P D vwCl (CW cs ad fa fq rv (va_up (va_up v 25 o_v25_24) 26 o_v26_30) (va_up a 19 o_a19_31) w fv fp) H := hP
        have hD : va_D A (CW cs ad fa fq rv (va_up (va_up v 25 o_v25_24) 26 o_v26_30) (va_up a 19 o_a19_31) w fv fp) := hD
        obtain ⟨wr_29_0, wr_29_1, wr_29_2, wr_29_3, wr_29_4⟩ : (0 ≤ r_29.toInt) ∧ (r_29.toInt ≤ 1) ∧ (0 ≤ o_v26_30.toInt) ∧ (o_v26_30.toInt ≤ 256) ∧ (AB (-1000) 20000 o_a19_31) := wr_29
        refine lv_pop hx hb dX7_readLine_55 rfl ?_
        refine lv_iload_n hx hb dX7_readLine_56 rfl (lv_at hl 0 rfl) ?_
        refine lv_if_lt (tgt := 79) hx hb dX7_readLine_57 (by decide) (fun c_33 => ?_) (fun c_33 => ?_)
        ·
          have kc_33 : o_v26_16.toInt < (0 : Int) := i_lt c_33
          exfalso; omega
        ·
          have kc_33 : (0 : Int) ≤ o_v26_16.toInt := i_nlt c_33
          refine lv_iload_n hx hb dX7_readLine_60 rfl (lv_at hl 0 rfl) ?_
          refine lv_aload_n hx hb dX7_readLine_61 rfl (lv_at hl 1 rfl) ?_
          refine gf_reader_code hx hb hg hown hK hP (x := (ad 19)) hr1 (hg _ q1_155) dX7_readLine_62 ?_
          refine al_Lspare hx hb hK hP dX7_readLine_65 ?_
          refine lv_icmp_ge (tgt := 79) hx hb dX7_readLine_66 (by decide) (fun c_34 => ?_) (fun c_34 => ?_)
          ·
            have kc_34 : (256 : Int) ≤ o_v26_16.toInt := i_le c_34
            refine lv_iconst (v := 1) hx hb dX7_readLine_79 (by decide) ?_
            have q0_1 : (1 : Int32).toInt = 1 := rfl
            exact W.zret (v := 1) hx hb hr rfl (fun tt ht hW => ⟨⟨1, ⟨o_v25_24, o_v26_30, o_a19_31⟩, rfl, ⟨(by first | rfl | omega | trivial | assumption | (dsimp only; first | omega | assumption)), (by first | rfl | omega | trivial | assumption | (dsimp only; first | omega | assumption)), (by first | rfl | omega | trivial | assumption | (dsimp only; first | omega | assumption)), (show 0 ≤ o_v25_24.toInt by first | omega | assumption), (show o_v25_24.toInt ≤ 120 by first | omega | assumption), (show o_v25_24.toInt ≤ (v 24).toInt by first | omega | assumption), (show 0 ≤ o_v26_30.toInt by first | omega | assumption), (show o_v26_30.toInt ≤ 256 by first | omega | assumption), wr_29_4⟩, by rw [ht]; exact hP, hD⟩, hS.F ht⟩) hS.2.2 dX7_readLine_80
          ·
            have kc_34 : o_v26_16.toInt < (256 : Int) := i_nle c_34
            refine lv_aload_n hx hb dX7_readLine_69 rfl (lv_at hl 1 rfl) ?_
            refine gf_reader_code hx hb hg hown hK hP (x := (ad 19)) hr1 (hg _ q1_155) dX7_readLine_70 ?_
            refine lv_iload_n hx hb dX7_readLine_73 rfl (lv_at hl 0 rfl) ?_
            refine lv_aload_n hx hb dX7_readLine_74 rfl (lv_at hl 1 rfl) ?_
            refine gf_reader_size hx hb hg hown hK hP (x := o_v26_30) rfl (hg _ q1_159) dX7_readLine_75 ?_
            refine st_Lspare hx hb hK hP hD hS (i_in (by omega) (by omega)) dX7_readLine_78 (fun H locs hP hD hS => ?_)
            have hab_35 : AB (-1000) 20000 (upd o_a19_31 o_v26_16.toNatClampNeg o_v26_30) := AB_upd wr_29_4 (by omega) (by omega)
            refine lv_iconst (v := 1) hx hb dX7_readLine_79 (by decide) ?_
            have q0_1 : (1 : Int32).toInt = 1 := rfl
            exact W.zret (v := 1) hx hb hr rfl (fun tt ht hW => ⟨⟨1, ⟨o_v25_24, o_v26_30, (upd o_a19_31 o_v26_16.toNatClampNeg o_v26_30)⟩, rfl, ⟨(by first | rfl | omega | trivial | assumption | (dsimp only; first | omega | assumption)), (by first | rfl | omega | trivial | assumption | (dsimp only; first | omega | assumption)), (by first | rfl | omega | trivial | assumption | (dsimp only; first | omega | assumption)), (show 0 ≤ o_v25_24.toInt by first | omega | assumption), (show o_v25_24.toInt ≤ 120 by first | omega | assumption), (show o_v25_24.toInt ≤ (v 24).toInt by first | omega | assumption), (show 0 ≤ o_v26_30.toInt by first | omega | assumption), (show o_v26_30.toInt ≤ 256 by first | omega | assumption), hab_35⟩, by rw [ht]; exact hP, hD⟩, hS.F ht⟩) hS.2.2 dX7_readLine_80
      ·
        have kc_28 : r_23.toInt = (0 : Int) := i_eq c_28
        refine lv_iconst (v := 0) hx hb dX7_readLine_47 (by decide) ?_
        have q0_0 : (0 : Int32).toInt = 0 := rfl
        exact W.zret (v := 0) hx hb hr rfl (fun tt ht hW => ⟨⟨0, ⟨o_v25_24, o_v26_25, o_a19_26⟩, rfl, ⟨(by first | rfl | omega | trivial | assumption | (dsimp only; first | omega | assumption)), (by first | rfl | omega | trivial | assumption | (dsimp only; first | omega | assumption)), (by first | rfl | omega | trivial | assumption | (dsimp only; first | omega | assumption)), (show 0 ≤ o_v25_24.toInt by first | omega | assumption), (show o_v25_24.toInt ≤ 120 by first | omega | assumption), (show o_v25_24.toInt ≤ (v 24).toInt by first | omega | assumption), (show 0 ≤ o_v26_25.toInt by first | omega | assumption), (show o_v26_25.toInt ≤ 256 by first | omega | assumption), wr_23_8⟩, by rw [ht]; exact hP, hD⟩, hS.F ht⟩) hS.2.2 dX7_readLine_48
  ·
    have kc_6 : r_1.toInt = (0 : Int) := i_eq c_6
    refine lv_iconst (v := 0) hx hb dX7_readLine_8 (by decide) ?_
    have q0_0 : (0 : Int32).toInt = 0 := rfl
    exact W.zret (v := 0) hx hb hr rfl (fun tt ht hW => ⟨⟨0, ⟨o_v25_2, o_v26_3, o_a19_4⟩, rfl, ⟨(by first | rfl | omega | trivial | assumption | (dsimp only; first | omega | assumption)), (by first | rfl | omega | trivial | assumption | (dsimp only; first | omega | assumption)), (by first | rfl | omega | trivial | assumption | (dsimp only; first | omega | assumption)), (show 0 ≤ o_v25_2.toInt by first | omega | assumption), (show o_v25_2.toInt ≤ 120 by first | omega | assumption), (show o_v25_2.toInt ≤ (v 24).toInt by first | omega | assumption), (show 0 ≤ o_v26_3.toInt by first | omega | assumption), (show o_v26_3.toInt ≤ 256 by first | omega | assumption), wr_1_8⟩, by rw [ht]; exact hP, hD⟩, hS.F ht⟩) hS.2.2 dX7_readLine_9
set_option maxHeartbeats 4000000 in
set_option maxRecDepth 100000 in
theorem k_X7_read (l : Launch) (D : va_G) (cs : Nat → ClassId) (A : Nat → Prop) (ad fa fq rv : Nat → Nat) (v : Nat → Int32) (a : Nat → Nat → Int32) (w : Nat → Nat → Int64) (fv fp : Nat → Nat → Int32)  (p2 : Int32) (h1 : 0 ≤ p2.toInt) (h2 : p2.toInt ≤ 120) (iv24_0 : 0 ≤ (v 24).toInt) (iv24_1 : (v 24).toInt ≤ 120) (iv25_0 : 0 ≤ (v 25).toInt) (iv25_1 : (v 25).toInt ≤ 120) (iv25_2 : (v 25).toInt ≤ (v 24).toInt) (iv26_0 : 0 ≤ (v 26).toInt) (iv26_1 : (v 26).toInt ≤ 256) (ia19_0 : AB (-1000) 20000 (a 19)) : Met l yX7_read (Cond.code yX7_read cX7_read 5 (some .boolean) :: gw) ({ frames := 73, cells := 0, slots := 0, locals := 2242 }) (va_Pc [.ref (ad 10), .ref (ad 15), .int p2, .ref (ad 19)] (XPre D (TY cs) (CW cs ad fa fq rv v a w fv fp) A)) (va_Qi (fun (r : Int32) (z : Nat × Nat × Int32 × Int32 × (Nat → Int32) × Int32) => (0 ≤ r.toInt) ∧ (r.toInt ≤ 1) ∧ (0 ≤ z.2.2.1.toInt) ∧ (z.2.2.1.toInt ≤ 256) ∧ (0 ≤ z.2.2.2.1.toInt) ∧ (z.2.2.2.1.toInt ≤ 120) ∧ (z.2.2.2.1.toInt ≤ z.2.2.2.2.2.toInt) ∧ (AB (-1000) 20000 z.2.2.2.2.1) ∧ (0 ≤ z.2.2.2.2.2.toInt) ∧ (z.2.2.2.2.2.toInt ≤ 120)) (XPo D (fun (z : Nat × Nat × Int32 × Int32 × (Nat → Int32) × Int32) => CW cs ad fa fq (va_up (va_up rv 0 z.1) 1 z.2.1) (va_up (va_up (va_up v 26 z.2.2.1) 25 z.2.2.2.1) 24 z.2.2.2.2.2) (va_up a 19 z.2.2.2.2.1) w fv fp) A) A) 0 0 A := by
  refine Met.ofW (cc := cX7_read) (maxL := 5) (ret := (some .boolean)) (by decide) rfl ?_
  intro p e s m args below meth c s₁ B hml hv
  obtain ⟨rfl, hP, hK, hD, hZ⟩ := hv
  have hx := B.exec
  have hb := B.bytes
  have hr := B.returns
  have hts := atoms_spec (ws := (Cond.code yX7_read cX7_read 5 (some .boolean) :: gw)) B.pre
  have hg : ∀ w ∈ gw, w.before ([.ref (ad 10), .ref (ad 15), .int p2, .ref (ad 19)] : List Value).toArray s = true := fun w h => hts w (List.mem_cons_of_mem _ h)
  have hown : s.vm.findClass RX7 = some m.cls := findClass_of_methodNamed B.named
  have hlocks := B.notSynchronized
  have hS : va_S A s.heap s.heap [] := va_S.rf
  have hP : va_P D vwCl (CW cs ad fa fq rv v a w fv fp) s.heap := hP
  have hl := lv_entry ([.ref (ad 10), .ref (ad 15), .int p2, .ref (ad 19)]) (n := 5) (Nat.le_of_ble_eq_true rfl)
  rw [lg_entry_eq]
  generalize (lg_sl ([.ref (ad 10), .ref (ad 15), .int p2, .ref (ad 19)]) ++ List.replicate (5 - (lg_sl ([.ref (ad 10), .ref (ad 15), .int p2, .ref (ad 19)])).length) Slot.unset).toArray = ls at hl ⊢
  have hl : lv_has ls 5 [(0, .ref (ad 10)), (1, .ref (ad 15)), (2, .int p2), (3, .ref (ad 19))] := hl
  have hcut : ∀ nk : Nat, (∀ (x4 : Int32) (c33_v26 : Int32) (c33_v25 : Int32) (c33_a19 : Nat → Int32) (c33_v24 : Int32) (H : Heap) (locs : List Loc) (i4 : 0 ≤ x4.toInt) (jv26_0 : 0 ≤ c33_v26.toInt) (jv26_1 : c33_v26.toInt ≤ 256) (jv25_0 : 0 ≤ c33_v25.toInt) (jv25_1 : c33_v25.toInt ≤ 120) (jv25_2 : c33_v25.toInt ≤ c33_v24.toInt) (ja19_0 : AB (-1000) 20000 c33_a19) (jv24_0 : 0 ≤ c33_v24.toInt) (jv24_1 : c33_v24.toInt ≤ 120) (hmu : (c33_v24.toInt + 1 - x4.toInt).toNat < nk) (hP : va_P D vwCl (CW cs ad fa fq (va_up (va_up rv 0 (ad 15)) 1 (ad 19)) (va_up (va_up (va_up v 26 c33_v26) 25 c33_v25) 24 c33_v24) (va_up a 19 c33_a19) w fv fp) H) (hD : va_D A (CW cs ad fa fq (va_up (va_up rv 0 (ad 15)) 1 (ad 19)) (va_up (va_up (va_up v 26 c33_v26) 25 c33_v25) 24 c33_v24) (va_up a 19 c33_a19) w fv fp)) (hS : va_S A s.heap H locs) (ls : Array Slot) (hl : lv_has ls 5 [(0, .ref (ad 10)), (4, .int x4)]), W p l e (headSpec (Cond.code yX7_read cX7_read 5 (some .boolean) :: gw) ({ frames := 73, cells := 0, slots := 0, locals := 2242 })).room s m ([.ref (ad 10), .ref (ad 15), .int p2, .ref (ad 19)] : List Value).toArray below meth c H locs 0 0 (MQ below (va_Qi (fun (r : Int32) (z : Nat × Nat × Int32 × Int32 × (Nat → Int32) × Int32) => (0 ≤ r.toInt) ∧ (r.toInt ≤ 1) ∧ (0 ≤ z.2.2.1.toInt) ∧ (z.2.2.1.toInt ≤ 256) ∧ (0 ≤ z.2.2.2.1.toInt) ∧ (z.2.2.2.1.toInt ≤ 120) ∧ (z.2.2.2.1.toInt ≤ z.2.2.2.2.2.toInt) ∧ (AB (-1000) 20000 z.2.2.2.2.1) ∧ (0 ≤ z.2.2.2.2.2.toInt) ∧ (z.2.2.2.2.2.toInt ≤ 120)) (XPo D (fun (z : Nat × Nat × Int32 × Int32 × (Nat → Int32) × Int32) => CW cs ad fa fq (va_up (va_up rv 0 z.1) 1 z.2.1) (va_up (va_up (va_up v 26 z.2.2.1) 25 z.2.2.2.1) 24 z.2.2.2.2.2) (va_up a 19 z.2.2.2.2.1) w fv fp) A) A) ([.ref (ad 10), .ref (ad 15), .int p2, .ref (ad 19)] : List Value).toArray s 0 0 A) (F0 m 33 ls [])) := by
    intro nk
    induction nk with
    | zero => exact (fun x4 c33_v26 c33_v25 c33_a19 c33_v24 H locs i4 jv26_0 jv26_1 jv25_0 jv25_1 jv25_2 ja19_0 jv24_0 jv24_1 hmu hP hD hS ls hl => absurd hmu (Nat.not_lt_zero _))
    | succ nk ih =>
      intro x4 c33_v26 c33_v25 c33_a19 c33_v24 H locs i4 jv26_0 jv26_1 jv25_0 jv25_1 jv25_2 ja19_0 jv24_0 jv24_1 hmu hP hD hS ls hl
      refine lv_iload hx hb dX7_read_33 (lv_at hl 1 rfl) ?_
      refine lv_aload_n hx hb dX7_read_35 rfl (lv_at hl 0 rfl) ?_
      refine gf_reader_length hx hb hg hown hK hP (x := c33_v24) rfl (hg _ q1_156) dX7_read_36 ?_
      refine lv_icmp_gt (tgt := 81) hx hb dX7_read_39 (by decide) (fun c_1 => ?_) (fun c_1 => ?_)
      ·
        have kc_1 : c33_v24.toInt < x4.toInt := i_lt c_1
        refine lv_iconst (v := 0) hx hb dX7_read_81 (by decide) ?_
        have q0_0 : (0 : Int32).toInt = 0 := rfl
        exact W.zret (v := 0) hx hb hr rfl (fun tt ht hW => ⟨⟨0, ⟨(ad 15), (ad 19), c33_v26, c33_v25, c33_a19, c33_v24⟩, rfl, ⟨(by first | rfl | omega | trivial | assumption | (dsimp only; first | omega | assumption)), (by first | rfl | omega | trivial | assumption | (dsimp only; first | omega | assumption)), (show 0 ≤ c33_v26.toInt by first | omega | assumption), (show c33_v26.toInt ≤ 256 by first | omega | assumption), (show 0 ≤ c33_v25.toInt by first | omega | assumption), (show c33_v25.toInt ≤ 120 by first | omega | assumption), (show c33_v25.toInt ≤ c33_v24.toInt by first | omega | assumption), ja19_0, (show 0 ≤ c33_v24.toInt by first | omega | assumption), (show c33_v24.toInt ≤ 120 by first | omega | assumption)⟩, by rw [ht]; exact hP, hD⟩, hS.F ht⟩) hS.2.2 dX7_read_82
      ·
        have kc_1 : x4.toInt ≤ c33_v24.toInt := i_nlt c_1
        refine lv_aload_n hx hb dX7_read_42 rfl (lv_at hl 0 rfl) ?_
        refine cV_i (As := []) (rest := []) ⟨hx, hb, hml, hown, hg⟩ (k_X7_readLine l D cs A ad fa fq (va_up (va_up rv 0 (ad 15)) 1 (ad 19)) (va_up (va_up (va_up v 26 c33_v26) 25 c33_v25) 24 c33_v24) (va_up a 19 c33_a19) w fv fp   rfl rfl (show 0 ≤ c33_v24.toInt by first | omega | decide) (show c33_v24.toInt ≤ 120 by first | omega | decide) (show 0 ≤ c33_v25.toInt by first | omega | decide) (show c33_v25.toInt ≤ 120 by first | omega | decide) (show c33_v25.toInt ≤ c33_v24.toInt by first | omega | decide) (show 0 ≤ c33_v26.toInt by first | omega | decide) (show c33_v26.toInt ≤ 256 by first | omega | decide) ja19_0) ca_X7_readLine q3_63 ⟨rfl, rfl⟩ ⟨Nat.le_of_ble_eq_true rfl, Nat.le_of_ble_eq_true rfl⟩ (rc_reader hK hP) hK hP hD hS hZ rfl hl.1 rfl (Nat.le_of_ble_eq_true rfl) ⟨Nat.zero_le _, Nat.zero_le _⟩ dX7_read_43 (fun r_2 z_6 H locs wr_2 hP hD hS => ?_)
        obtain ⟨o_v25_3, o_v26_4, o_a19_5⟩ := z_6
        have hP : va_P D vwCl (CW cs ad fa fq (va_up (va_up rv 0 (ad 15)) 1 (ad 19)) (va_up (va_up (va_up v 24 c33_v24) 25 o_v25_3) 26 o_v26_4) (va_up a 19 o_a19_5) w fv fp) H := hP
        have hD : va_D A (CW cs ad fa fq (va_up (va_up rv 0 (ad 15)) 1 (ad 19)) (va_up (va_up (va_up v 24 c33_v24) 25 o_v25_3) 26 o_v26_4) (va_up a 19 o_a19_5) w fv fp) := hD
        obtain ⟨wr_2_0, wr_2_1, wr_2_2, wr_2_3, wr_2_4, wr_2_5, wr_2_6, wr_2_7, wr_2_8⟩ : (0 ≤ r_2.toInt) ∧ (r_2.toInt ≤ 1) ∧ (c33_v25.toInt ≤ o_v25_3.toInt) ∧ (0 ≤ o_v25_3.toInt) ∧ (o_v25_3.toInt ≤ 120) ∧ (o_v25_3.toInt ≤ c33_v24.toInt) ∧ (0 ≤ o_v26_4.toInt) ∧ (o_v26_4.toInt ≤ 256) ∧ (AB (-1000) 20000 o_a19_5) := wr_2
        refine lv_if_ne (tgt := 51) hx hb dX7_read_46 (by decide) (fun c_7 => ?_) (fun c_7 => ?_)
        ·
          have kc_7 : r_2.toInt ≠ (0 : Int) := i_ne c_7
          refine lv_aload_n hx hb dX7_read_51 rfl (lv_at hl 0 rfl) ?_
          refine gf_reader_at hx hb hg hown hK hP (x := o_v25_3) rfl (hg _ q1_157) dX7_read_52 ?_
          refine lv_aload_n hx hb dX7_read_55 rfl (lv_at hl 0 rfl) ?_
          refine gf_reader_length hx hb hg hown hK hP (x := c33_v24) rfl (hg _ q1_156) dX7_read_56 ?_
          refine lv_icmp_lt (tgt := 64) hx hb dX7_read_59 (by decide) (fun c_8 => ?_) (fun c_8 => ?_)
          ·
            have kc_8 : o_v25_3.toInt < c33_v24.toInt := i_lt c_8
            refine lv_aload_n hx hb dX7_read_64 rfl (lv_at hl 0 rfl) ?_
            refine lv_bipush (v := 59) hx hb dX7_read_65 (by decide) ?_
            refine cV_i (As := [.int 59]) (rest := []) ⟨hx, hb, hml, hown, hg⟩ (k_X7_passes l D cs A ad fa fq (va_up (va_up rv 0 (ad 15)) 1 (ad 19)) (va_up (va_up (va_up v 24 c33_v24) 25 o_v25_3) 26 o_v26_4) (va_up a 19 o_a19_5) w fv fp  59 rfl rfl (show 0 ≤ (59 : Int) by first | omega | decide) (show 0 ≤ c33_v24.toInt by first | omega | decide) (show c33_v24.toInt ≤ 120 by first | omega | decide) (show 0 ≤ o_v25_3.toInt by first | omega | decide) (show o_v25_3.toInt ≤ 120 by first | omega | decide) (show o_v25_3.toInt ≤ c33_v24.toInt by first | omega | decide)) ca_X7_passes q3_109 ⟨rfl, rfl⟩ ⟨Nat.le_of_ble_eq_true rfl, Nat.le_of_ble_eq_true rfl⟩ (rc_reader hK hP) hK hP hD hS hZ rfl hl.1 rfl (Nat.le_of_ble_eq_true rfl) ⟨Nat.zero_le _, Nat.zero_le _⟩ dX7_read_67 (fun r_9 o_v25_10 H locs wr_9 hP hD hS => ?_)
            have hP : va_P D vwCl (CW cs ad fa fq (va_up (va_up rv 0 (ad 15)) 1 (ad 19)) (va_up (va_up (va_up v 24 c33_v24) 26 o_v26_4) 25 o_v25_10) (va_up a 19 o_a19_5) w fv fp) H := hP
            have hD : va_D A (CW cs ad fa fq (va_up (va_up rv 0 (ad 15)) 1 (ad 19)) (va_up (va_up (va_up v 24 c33_v24) 26 o_v26_4) 25 o_v25_10) (va_up a 19 o_a19_5) w fv fp) := hD
            obtain ⟨wr_9_0, wr_9_1, wr_9_2, wr_9_3⟩ : ((r_9.toInt = 1 ∧ o_v25_10.toInt = o_v25_3.toInt + 1) ∨ (r_9.toInt = 0 ∧ o_v25_10.toInt = o_v25_3.toInt)) ∧ (0 ≤ o_v25_10.toInt) ∧ (o_v25_10.toInt ≤ 120) ∧ (o_v25_10.toInt ≤ c33_v24.toInt) := wr_9
            refine lv_if_ne (tgt := 75) hx hb dX7_read_70 (by decide) (fun c_11 => ?_) (fun c_11 => ?_)
            ·
              have kc_11 : r_9.toInt ≠ (0 : Int) := i_ne c_11
              obtain ⟨x_12, ex_12⟩ : ∃ y : Int32, y = x4 + 1 := ⟨_, rfl⟩
              have fx_12 : x_12.toInt = x4.toInt + 1 := by rw [ex_12]; exact i_add (by first | omega | (show (_ : Int) ≤ x4.toInt + 1; omega)) (by first | omega | (show x4.toInt + 1 ≤ (_ : Int); omega))
              refine lv_iinc (v := x_12) (lv' := [(4, .int x_12), (0, .ref (ad 10))]) hx hb dX7_read_75 hl (k := 1) rfl (by rw [ex_12]; rfl) (by decide) rfl (fun ls hl => ?_)
              refine lv_goto (tgt := 33) hx hb dX7_read_78 (by decide) ?_
              exact ih x_12 o_v26_4 o_v25_10 o_a19_5 c33_v24 _ _ (by omega) (show 0 ≤ o_v26_4.toInt by first | omega | assumption) (show o_v26_4.toInt ≤ 256 by first | omega | assumption) (show 0 ≤ o_v25_10.toInt by first | omega | assumption) (show o_v25_10.toInt ≤ 120 by first | omega | assumption) (show o_v25_10.toInt ≤ c33_v24.toInt by first | omega | assumption) wr_2_8 (show 0 ≤ c33_v24.toInt by first | omega | assumption) (show c33_v24.toInt ≤ 120 by first | omega | assumption) (by omega) hP hD hS ls (lv_sub hl [1, 0] rfl)
            ·
              have kc_11 : r_9.toInt = (0 : Int) := i_eq c_11
              refine lv_iconst (v := 0) hx hb dX7_read_73 (by decide) ?_
              have q0_0 : (0 : Int32).toInt = 0 := rfl
              have hP : va_P D vwCl (CW cs ad fa fq (va_up (va_up rv 0 (ad 15)) 1 (ad 19)) (va_up (va_up (va_up v 26 o_v26_4) 25 o_v25_10) 24 c33_v24) (va_up a 19 o_a19_5) w fv fp) _ := hP
              have hD : va_D A (CW cs ad fa fq (va_up (va_up rv 0 (ad 15)) 1 (ad 19)) (va_up (va_up (va_up v 26 o_v26_4) 25 o_v25_10) 24 c33_v24) (va_up a 19 o_a19_5) w fv fp) := hD
              exact W.zret (v := 0) hx hb hr rfl (fun tt ht hW => ⟨⟨0, ⟨(ad 15), (ad 19), o_v26_4, o_v25_10, o_a19_5, c33_v24⟩, rfl, ⟨(by first | rfl | omega | trivial | assumption | (dsimp only; first | omega | assumption)), (by first | rfl | omega | trivial | assumption | (dsimp only; first | omega | assumption)), (show 0 ≤ o_v26_4.toInt by first | omega | assumption), (show o_v26_4.toInt ≤ 256 by first | omega | assumption), (show 0 ≤ o_v25_10.toInt by first | omega | assumption), (show o_v25_10.toInt ≤ 120 by first | omega | assumption), (show o_v25_10.toInt ≤ c33_v24.toInt by first | omega | assumption), wr_2_8, (show 0 ≤ c33_v24.toInt by first | omega | assumption), (show c33_v24.toInt ≤ 120 by first | omega | assumption)⟩, by rw [ht]; exact hP, hD⟩, hS.F ht⟩) hS.2.2 dX7_read_74
          ·
            have kc_8 : c33_v24.toInt ≤ o_v25_3.toInt := i_nlt c_8
            refine lv_iconst (v := 1) hx hb dX7_read_62 (by decide) ?_
            have q0_1 : (1 : Int32).toInt = 1 := rfl
            have hP : va_P D vwCl (CW cs ad fa fq (va_up (va_up rv 0 (ad 15)) 1 (ad 19)) (va_up (va_up (va_up v 26 o_v26_4) 25 o_v25_3) 24 c33_v24) (va_up a 19 o_a19_5) w fv fp) _ := hP
            have hD : va_D A (CW cs ad fa fq (va_up (va_up rv 0 (ad 15)) 1 (ad 19)) (va_up (va_up (va_up v 26 o_v26_4) 25 o_v25_3) 24 c33_v24) (va_up a 19 o_a19_5) w fv fp) := hD
            exact W.zret (v := 1) hx hb hr rfl (fun tt ht hW => ⟨⟨1, ⟨(ad 15), (ad 19), o_v26_4, o_v25_3, o_a19_5, c33_v24⟩, rfl, ⟨(by first | rfl | omega | trivial | assumption | (dsimp only; first | omega | assumption)), (by first | rfl | omega | trivial | assumption | (dsimp only; first | omega | assumption)), (show 0 ≤ o_v26_4.toInt by first | omega | assumption), (show o_v26_4.toInt ≤ 256 by first | omega | assumption), (show 0 ≤ o_v25_3.toInt by first | omega | assumption), (show o_v25_3.toInt ≤ 120 by first | omega | assumption), (show o_v25_3.toInt ≤ c33_v24.toInt by first | omega | assumption), wr_2_8, (show 0 ≤ c33_v24.toInt by first | omega | assumption), (show c33_v24.toInt ≤ 120 by first | omega | assumption)⟩, by rw [ht]; exact hP, hD⟩, hS.F ht⟩) hS.2.2 dX7_read_63
        ·
          have kc_7 : r_2.toInt = (0 : Int) := i_eq c_7
          refine lv_iconst (v := 0) hx hb dX7_read_49 (by decide) ?_
          have q0_0 : (0 : Int32).toInt = 0 := rfl
          have hP : va_P D vwCl (CW cs ad fa fq (va_up (va_up rv 0 (ad 15)) 1 (ad 19)) (va_up (va_up (va_up v 26 o_v26_4) 25 o_v25_3) 24 c33_v24) (va_up a 19 o_a19_5) w fv fp) _ := hP
          have hD : va_D A (CW cs ad fa fq (va_up (va_up rv 0 (ad 15)) 1 (ad 19)) (va_up (va_up (va_up v 26 o_v26_4) 25 o_v25_3) 24 c33_v24) (va_up a 19 o_a19_5) w fv fp) := hD
          exact W.zret (v := 0) hx hb hr rfl (fun tt ht hW => ⟨⟨0, ⟨(ad 15), (ad 19), o_v26_4, o_v25_3, o_a19_5, c33_v24⟩, rfl, ⟨(by first | rfl | omega | trivial | assumption | (dsimp only; first | omega | assumption)), (by first | rfl | omega | trivial | assumption | (dsimp only; first | omega | assumption)), (show 0 ≤ o_v26_4.toInt by first | omega | assumption), (show o_v26_4.toInt ≤ 256 by first | omega | assumption), (show 0 ≤ o_v25_3.toInt by first | omega | assumption), (show o_v25_3.toInt ≤ 120 by first | omega | assumption), (show o_v25_3.toInt ≤ c33_v24.toInt by first | omega | assumption), wr_2_8, (show 0 ≤ c33_v24.toInt by first | omega | assumption), (show c33_v24.toInt ≤ 120 by first | omega | assumption)⟩, by rw [ht]; exact hP, hD⟩, hS.F ht⟩) hS.2.2 dX7_read_50
  refine lv_aload_n hx hb dX7_read_0 rfl (lv_at hl 0 rfl) ?_
  refine lv_aload_n hx hb dX7_read_1 rfl (lv_at hl 1 rfl) ?_
  refine pf_reader_text hx hb hg hown hK hP hD hS (hg _ q1_154) dX7_read_2 (fun H locs hP hD hS => ?_)
  refine lv_aload_n hx hb dX7_read_5 rfl (lv_at hl 0 rfl) ?_
  refine lv_iload_n hx hb dX7_read_6 rfl (lv_at hl 2 rfl) ?_
  refine lv_aload_n hx hb dX7_read_7 rfl (lv_at hl 1 rfl) ?_
  refine al_Ltape hx hb hK hP dX7_read_8 ?_
  refine va_mmin hx hb (hml.trans hl.1.symm) hown (hg _ q3_60) (hg _ q3_61) (hg _ q1_16) (hg _ q3_62) (Nat.le_of_ble_eq_true rfl) (Nat.le_of_ble_eq_true rfl) (Nat.zero_le _) (Nat.zero_le _) dX7_read_9 ?_
  refine lv_topi (fun x_13 ex_13 => ?_)
  have fx_13 := i_min ex_13
  have fx_13 : ((120 : Int) ≤ p2.toInt ∧ x_13.toInt = (120 : Int)) ∨ (p2.toInt ≤ (120 : Int) ∧ x_13.toInt = p2.toInt) := fx_13
  refine pf_reader_length hx hb hg hown hK hP hD hS (hg _ q1_156) dX7_read_12 (fun H locs hP hD hS => ?_)
  refine lv_aload_n hx hb dX7_read_15 rfl (lv_at hl 0 rfl) ?_
  refine lv_aload_n hx hb dX7_read_16 rfl (lv_at hl 3 rfl) ?_
  refine pf_reader_code hx hb hg hown hK hP hD hS (hg _ q1_155) dX7_read_17 (fun H locs hP hD hS => ?_)
  refine lv_aload_n hx hb dX7_read_20 rfl (lv_at hl 0 rfl) ?_
  refine lv_iconst (v := 0) hx hb dX7_read_21 (by decide) ?_
  refine pf_reader_at hx hb hg hown hK hP hD hS (hg _ q1_157) dX7_read_22 (fun H locs hP hD hS => ?_)
  refine lv_aload_n hx hb dX7_read_25 rfl (lv_at hl 0 rfl) ?_
  refine lv_iconst (v := 0) hx hb dX7_read_26 (by decide) ?_
  refine pf_reader_size hx hb hg hown hK hP hD hS (hg _ q1_159) dX7_read_27 (fun H locs hP hD hS => ?_)
  refine lv_iconst (v := 0) hx hb dX7_read_30 (by decide) ?_
  refine lv_istore (lv' := [(4, .int 0), (0, .ref (ad 10)), (1, .ref (ad 15)), (2, .int p2), (3, .ref (ad 19))]) hx hb dX7_read_31 hl (by decide) rfl (fun ls hl => ?_)
  have q0_0 : (0 : Int32).toInt = 0 := rfl
  exact (hcut (((x_13.toInt + 1 - (0 : Int32).toInt).toNat) + 1)) 0 0 0 (a 19) x_13 _ _ (by omega) (show 0 ≤ (0 : Int) by first | omega | assumption) (show (0 : Int) ≤ 256 by first | omega | assumption) (show 0 ≤ (0 : Int) by first | omega | assumption) (show (0 : Int) ≤ 120 by first | omega | assumption) (show (0 : Int) ≤ x_13.toInt by first | omega | assumption) ia19_0 (show 0 ≤ x_13.toInt by first | omega | assumption) (show x_13.toInt ≤ 120 by first | omega | assumption) (Nat.lt_succ_self _) hP hD hS ls (lv_sub hl [1, 0] rfl)
set_option maxHeartbeats 4000000 in
set_option maxRecDepth 100000 in
theorem k_X6_takeText (l : Launch) (D : va_G) (cs : Nat → ClassId) (A : Nat → Prop) (ad fa fq rv : Nat → Nat) (v : Nat → Int32) (a : Nat → Nat → Int32) (w : Nat → Nat → Int64) (fv fp : Nat → Nat → Int32)   (ia18_0 : AB (-1000) 20000 (a 18)) (iv4_0 : 0 ≤ (v 4).toInt) (iv4_1 : (v 4).toInt ≤ 120) (iv24_0 : 0 ≤ (v 24).toInt) (iv24_1 : (v 24).toInt ≤ 120) (iv25_0 : 0 ≤ (v 25).toInt) (iv25_1 : (v 25).toInt ≤ 120) (iv25_2 : (v 25).toInt ≤ (v 24).toInt) (iv26_0 : 0 ≤ (v 26).toInt) (iv26_1 : (v 26).toInt ≤ 256) (ia19_0 : AB (-1000) 20000 (a 19)) (iv5_0 : 0 ≤ (v 5).toInt) (iv5_1 : (v 5).toInt ≤ 256) : Met l yX6_takeText (Cond.code yX6_takeText cX6_takeText 3 (some .int) :: gw) ({ frames := 74, cells := 0, slots := 0, locals := 2266 }) (va_Pc [.ref (ad 2)] (XPre D (TY cs) (CW cs ad fa fq rv v a w fv fp) A)) (va_Qi (fun (r : Int32) (z : (Nat → Nat) × (Nat → Nat → Int32) × Nat × Nat × Int32 × Int32 × Int32 × Int32 × Int32) => (∀ k : Nat, k ≠ 18 → k ≠ 19 → z.1 k = ad k) ∧ (∀ k : Nat, k ≠ 18 → k ≠ 19 → z.2.1 k = a k) ∧ (AB (-1000) 20000 (z.2.1 18)) ∧ (AB (-1000) 20000 (z.2.1 19)) ∧ (z.2.2.2.2.2.2.2.1.toInt = 0) ∧ (r.toInt = 1 ∨ r.toInt ≤ -100) ∧ (0 ≤ z.2.2.2.2.1.toInt) ∧ (z.2.2.2.2.1.toInt ≤ 256) ∧ (0 ≤ z.2.2.2.2.2.1.toInt) ∧ (z.2.2.2.2.2.1.toInt ≤ 120) ∧ (z.2.2.2.2.2.1.toInt ≤ z.2.2.2.2.2.2.1.toInt) ∧ (0 ≤ z.2.2.2.2.2.2.1.toInt) ∧ (z.2.2.2.2.2.2.1.toInt ≤ 120) ∧ (0 ≤ z.2.2.2.2.2.2.2.1.toInt) ∧ (z.2.2.2.2.2.2.2.1.toInt ≤ 120) ∧ (0 ≤ z.2.2.2.2.2.2.2.2.toInt) ∧ (z.2.2.2.2.2.2.2.2.toInt ≤ 256)) (XPo D (fun (z : (Nat → Nat) × (Nat → Nat → Int32) × Nat × Nat × Int32 × Int32 × Int32 × Int32 × Int32) => CW cs z.1 fa fq (va_up (va_up rv 0 z.2.2.1) 1 z.2.2.2.1) (va_up (va_up (va_up (va_up (va_up v 26 z.2.2.2.2.1) 25 z.2.2.2.2.2.1) 24 z.2.2.2.2.2.2.1) 4 z.2.2.2.2.2.2.2.1) 5 z.2.2.2.2.2.2.2.2) z.2.1 w fv fp) A) A) 0 0 A := by
  refine Met.ofW (cc := cX6_takeText) (maxL := 3) (ret := (some .int)) (by decide) rfl ?_
  intro p e s m args below meth c s₁ B hml hv
  obtain ⟨rfl, hP, hK, hD, hZ⟩ := hv
  have hx := B.exec
  have hb := B.bytes
  have hr := B.returns
  have hts := atoms_spec (ws := (Cond.code yX6_takeText cX6_takeText 3 (some .int) :: gw)) B.pre
  have hg : ∀ w ∈ gw, w.before ([.ref (ad 2)] : List Value).toArray s = true := fun w h => hts w (List.mem_cons_of_mem _ h)
  have hown : s.vm.findClass RX6 = some m.cls := findClass_of_methodNamed B.named
  have hlocks := B.notSynchronized
  have hS : va_S A s.heap s.heap [] := va_S.rf
  have hP : va_P D vwCl (CW cs ad fa fq rv v a w fv fp) s.heap := hP
  have hl := lv_entry ([.ref (ad 2)]) (n := 3) (Nat.le_of_ble_eq_true rfl)
  rw [lg_entry_eq]
  generalize (lg_sl ([.ref (ad 2)]) ++ List.replicate (3 - (lg_sl ([.ref (ad 2)])).length) Slot.unset).toArray = ls at hl ⊢
  have hl : lv_has ls 3 [(0, .ref (ad 2))] := hl
  refine lv_aload_n hx hb dX6_takeText_0 rfl (lv_at hl 0 rfl) ?_
  refine gf_rules_reader hx hb hg hown hK hP rfl (hg _ q1_175) dX6_takeText_1 ?_
  refine lv_aload_n hx hb dX6_takeText_4 rfl (lv_at hl 0 rfl) ?_
  refine gf_rules_tape hx hb hg hown hK hP rfl (hg _ q1_172) dX6_takeText_5 ?_
  refine lv_aload_n hx hb dX6_takeText_8 rfl (lv_at hl 0 rfl) ?_
  refine gf_rules_fed hx hb hg hown hK hP (x := (v 4)) rfl (hg _ q1_173) dX6_takeText_9 ?_
  refine lv_aload_n hx hb dX6_takeText_12 rfl (lv_at hl 0 rfl) ?_
  refine gf_rules_spare hx hb hg hown hK hP rfl (hg _ q1_179) dX6_takeText_13 ?_
  refine cV_i (As := [.ref (ad 15), .int (v 4), .ref (ad 19)]) (rest := []) ⟨hx, hb, hml, hown, hg⟩ (k_X7_read l D cs A ad fa fq rv v a w fv fp  (v 4) (show 0 ≤ (v 4).toInt by first | omega | decide) (show (v 4).toInt ≤ 120 by first | omega | decide) (show 0 ≤ (v 24).toInt by first | omega | decide) (show (v 24).toInt ≤ 120 by first | omega | decide) (show 0 ≤ (v 25).toInt by first | omega | decide) (show (v 25).toInt ≤ 120 by first | omega | decide) (show (v 25).toInt ≤ (v 24).toInt by first | omega | decide) (show 0 ≤ (v 26).toInt by first | omega | decide) (show (v 26).toInt ≤ 256 by first | omega | decide) ia19_0) ca_X7_read q3_56 ⟨rfl, rfl⟩ ⟨Nat.le_of_ble_eq_true rfl, Nat.le_of_ble_eq_true rfl⟩ (rc_reader hK hP) hK hP hD hS hZ rfl hl.1 rfl (Nat.le_of_ble_eq_true rfl) ⟨Nat.zero_le _, Nat.zero_le _⟩ dX6_takeText_16 (fun r_1 z_8 H locs wr_1 hP hD hS => ?_)
  obtain ⟨o_rv0_2, o_rv1_3, o_v26_4, o_v25_5, o_a19_6, o_v24_7⟩ := z_8
  have hP : va_P D vwCl (CW cs ad fa fq (va_up (va_up rv 0 o_rv0_2) 1 o_rv1_3) (va_up (va_up (va_up v 26 o_v26_4) 25 o_v25_5) 24 o_v24_7) (va_up a 19 o_a19_6) w fv fp) H := hP
  have hD : va_D A (CW cs ad fa fq (va_up (va_up rv 0 o_rv0_2) 1 o_rv1_3) (va_up (va_up (va_up v 26 o_v26_4) 25 o_v25_5) 24 o_v24_7) (va_up a 19 o_a19_6) w fv fp) := hD
  obtain ⟨wr_1_0, wr_1_1, wr_1_2, wr_1_3, wr_1_4, wr_1_5, wr_1_6, wr_1_7, wr_1_8, wr_1_9⟩ : (0 ≤ r_1.toInt) ∧ (r_1.toInt ≤ 1) ∧ (0 ≤ o_v26_4.toInt) ∧ (o_v26_4.toInt ≤ 256) ∧ (0 ≤ o_v25_5.toInt) ∧ (o_v25_5.toInt ≤ 120) ∧ (o_v25_5.toInt ≤ o_v24_7.toInt) ∧ (AB (-1000) 20000 o_a19_6) ∧ (0 ≤ o_v24_7.toInt) ∧ (o_v24_7.toInt ≤ 120) := wr_1
  refine lv_istore_n (lv' := [(1, .int r_1), (0, .ref (ad 2))]) hx hb dX6_takeText_19 rfl hl (by decide) rfl (fun ls hl => ?_)
  refine lv_aload_n hx hb dX6_takeText_20 rfl (lv_at hl 1 rfl) ?_
  refine lv_iconst (v := 0) hx hb dX6_takeText_21 (by decide) ?_
  refine pf_rules_fed hx hb hg hown hK hP hD hS (hg _ q1_173) dX6_takeText_22 (fun H locs hP hD hS => ?_)
  refine lv_iload_n hx hb dX6_takeText_25 rfl (lv_at hl 0 rfl) ?_
  refine lv_if_ne (tgt := 40) hx hb dX6_takeText_26 (by decide) (fun c_9 => ?_) (fun c_9 => ?_)
  ·
    have kc_9 : r_1.toInt ≠ (0 : Int) := i_ne c_9
    refine lv_aload_n hx hb dX6_takeText_40 rfl (lv_at hl 1 rfl) ?_
    refine gf_rules_code hx hb hg hown hK hP rfl (hg _ q1_178) dX6_takeText_41 ?_
    refine lv_astore_n (lv' := [(2, .ref (ad 18)), (1, .int r_1), (0, .ref (ad 2))]) hx hb dX6_takeText_44 rfl hl (by decide) rfl (fun ls hl => ?_)
    refine lv_aload_n hx hb dX6_takeText_45 rfl (lv_at hl 2 rfl) ?_
    refine lv_aload_n hx hb dX6_takeText_46 rfl (lv_at hl 2 rfl) ?_
    refine gf_rules_spare hx hb hg hown hK hP rfl (hg _ q1_179) dX6_takeText_47 ?_
    refine va_put (ci := 6) (ty := .array .int) (C := RX6) (T := TX6) (N := 8) hx hb hg us6 tyX6 tyX6_ok nmX6 hown hK hP hD hS 2 rfl rfl 5 (by decide) (hg _ q1_178) (fun _ h9 => h9) rfl (by decide +kernel) rfl rfl (Nat.le_of_ble_eq_true rfl) dX6_takeText_50 (fun H locs hP hD hS => ?_)
    refine lv_aload_n hx hb dX6_takeText_53 rfl (lv_at hl 2 rfl) ?_
    refine lv_aload_n hx hb dX6_takeText_54 rfl (lv_at hl 0 rfl) ?_
    refine va_put (ci := 6) (ty := .array .int) (C := RX6) (T := TX6) (N := 8) hx hb hg us6 tyX6 tyX6_ok nmX6 hown hK hP hD hS 2 rfl rfl 6 (by decide) (hg _ q1_179) (fun _ h9 => h9) rfl (by decide +kernel) rfl rfl (Nat.le_of_ble_eq_true rfl) dX6_takeText_55 (fun H locs hP hD hS => ?_)
    have hP : va_P D vwCl (CW cs (sw ad) fa fq (va_up (va_up rv 0 o_rv0_2) 1 o_rv1_3) (va_up (va_up (va_up (va_up v 26 o_v26_4) 25 o_v25_5) 24 o_v24_7) 4 0) (sw (va_up a 19 o_a19_6)) w fv fp) H := hP.sub [0, 1, 2, 3, 4, 5, 6, 7, 8, 9, 10, 11, 12, 13, 14, 15, 16, 17, 19, 18, 20, 21, 22, 23, 24, 25, 26, 27, 28, 29, 30, 31, 32, 33, 34, 35, 36, 37, 38, 39, 40, 41, 42, 43, 44, 45, 46, 47, 48, 49, 50, 51, 52, 53, 54, 55, 56, 57, 58, 59, 60, 61, 62, 63, 64, 65, 66, 67, 68, 69, 70, 71, 72, 73, 74, 75, 76] (by unfold CW; rw [← sw_rows ad]; rfl)
    have hD : va_D A (CW cs (sw ad) fa fq (va_up (va_up rv 0 o_rv0_2) 1 o_rv1_3) (va_up (va_up (va_up (va_up v 26 o_v26_4) 25 o_v25_5) 24 o_v24_7) 4 0) (sw (va_up a 19 o_a19_6)) w fv fp) := hD.sub [0, 1, 2, 3, 4, 5, 6, 7, 8, 9, 10, 11, 12, 13, 14, 15, 16, 17, 19, 18, 20, 21, 22, 23, 24, 25, 26, 27, 28, 29, 30, 31, 32, 33, 34, 35, 36, 37, 38, 39, 40, 41, 42, 43, 44, 45, 46, 47, 48, 49, 50, 51, 52, 53, 54, 55, 56, 57, 58, 59, 60, 61, 62, 63, 64, 65, 66, 67, 68, 69, 70, 71, 72, 73, 74, 75, 76] (by decide +kernel) (by unfold CW; rw [← sw_rows ad]; rfl)
    refine lv_aload_n hx hb dX6_takeText_58 rfl (lv_at hl 2 rfl) ?_
    refine lv_aload_n hx hb dX6_takeText_59 rfl (lv_at hl 2 rfl) ?_
    refine gf_rules_reader (ad := (sw ad)) hx hb hg hown hK hP rfl (hg _ q1_175) dX6_takeText_60 ?_
    refine gf_reader_size (ad := (sw ad)) hx hb hg hown hK hP (x := o_v26_4) rfl (hg _ q1_160) dX6_takeText_63 ?_
    refine pf_rules_size (ad := (sw ad)) hx hb hg hown hK hP hD hS (hg _ q1_180) dX6_takeText_66 (fun H locs hP hD hS => ?_)
    refine lv_iconst (v := 1) hx hb dX6_takeText_69 (by decide) ?_
    have q0_1 : (1 : Int32).toInt = 1 := rfl
    have q0_0 : (0 : Int32).toInt = 0 := rfl
    exact W.iret (v := 1) hx hb hr (fun tt ht hW => ⟨⟨1, ⟨(sw ad), (sw (va_up a 19 o_a19_6)), o_rv0_2, o_rv1_3, o_v26_4, o_v25_5, o_v24_7, 0, o_v26_4⟩, rfl, ⟨(fun k h1 h2 => by first | rfl | (show sw _ k = _; unfold sw; rw [if_neg h1, if_neg h2])), (fun k h1 h2 => by first | (exact va_up_ne _ _ h2) | (show sw _ k = _; unfold sw; rw [if_neg h1, if_neg h2]; exact va_up_ne _ _ h2)), (by first | assumption | (show AB _ _ _; assumption)), (by first | assumption | (show AB _ _ _; assumption)), (by rfl), (by first | rfl | omega | trivial | assumption | (dsimp only; first | omega | assumption)), (show 0 ≤ o_v26_4.toInt by first | omega | assumption), (show o_v26_4.toInt ≤ 256 by first | omega | assumption), (show 0 ≤ o_v25_5.toInt by first | omega | assumption), (show o_v25_5.toInt ≤ 120 by first | omega | assumption), (show o_v25_5.toInt ≤ o_v24_7.toInt by first | omega | assumption), (show 0 ≤ o_v24_7.toInt by first | omega | assumption), (show o_v24_7.toInt ≤ 120 by first | omega | assumption), (show 0 ≤ (0 : Int) by first | omega | assumption), (show (0 : Int) ≤ 120 by first | omega | assumption), (show 0 ≤ o_v26_4.toInt by first | omega | assumption), (show o_v26_4.toInt ≤ 256 by first | omega | assumption)⟩, by rw [ht]; exact hP, hD⟩, hS.F ht⟩) hS.2.2 dX6_takeText_70
  ·
    have kc_9 : r_1.toInt = (0 : Int) := i_eq c_9
    refine lv_bipush (v := (-100)) hx hb dX6_takeText_29 (by decide) ?_
    refine lv_aload_n hx hb dX6_takeText_31 rfl (lv_at hl 1 rfl) ?_
    refine gf_rules_reader hx hb hg hown hK hP rfl (hg _ q1_175) dX6_takeText_32 ?_
    refine gf_reader_at hx hb hg hown hK hP (x := o_v25_5) rfl (hg _ q1_158) dX6_takeText_35 ?_
    refine lv_isub hx hb dX6_takeText_38 ?_
    refine lv_topi (fun x_10 ex_10 => ?_)
    have fx_10 : x_10.toInt = (-100 : Int) - o_v25_5.toInt := by rw [ex_10]; exact i_sub (by first | omega | (show (_ : Int) ≤ (-100 : Int) - o_v25_5.toInt; omega)) (by first | omega | (show (-100 : Int) - o_v25_5.toInt ≤ (_ : Int); omega))
    have q0_0 : (0 : Int32).toInt = 0 := rfl
    have hP : va_P D vwCl (CW cs ad fa fq (va_up (va_up rv 0 o_rv0_2) 1 o_rv1_3) (va_up (va_up (va_up (va_up (va_up v 26 o_v26_4) 25 o_v25_5) 24 o_v24_7) 4 0) 5 (v 5)) (va_up a 19 o_a19_6) w fv fp) _ := hP
    have hD : va_D A (CW cs ad fa fq (va_up (va_up rv 0 o_rv0_2) 1 o_rv1_3) (va_up (va_up (va_up (va_up (va_up v 26 o_v26_4) 25 o_v25_5) 24 o_v24_7) 4 0) 5 (v 5)) (va_up a 19 o_a19_6) w fv fp) := hD
    exact W.iret (v := x_10) hx hb hr (fun tt ht hW => ⟨⟨x_10, ⟨ad, (va_up a 19 o_a19_6), o_rv0_2, o_rv1_3, o_v26_4, o_v25_5, o_v24_7, 0, (v 5)⟩, rfl, ⟨(fun k h1 h2 => by first | rfl | (show sw _ k = _; unfold sw; rw [if_neg h1, if_neg h2])), (fun k h1 h2 => by first | (exact va_up_ne _ _ h2) | (show sw _ k = _; unfold sw; rw [if_neg h1, if_neg h2]; exact va_up_ne _ _ h2)), (by first | assumption | (show AB _ _ _; assumption)), (by first | assumption | (show AB _ _ _; assumption)), (by rfl), (by first | rfl | omega | trivial | assumption | (dsimp only; first | omega | assumption)), (show 0 ≤ o_v26_4.toInt by first | omega | assumption), (show o_v26_4.toInt ≤ 256 by first | omega | assumption), (show 0 ≤ o_v25_5.toInt by first | omega | assumption), (show o_v25_5.toInt ≤ 120 by first | omega | assumption), (show o_v25_5.toInt ≤ o_v24_7.toInt by first | omega | assumption), (show 0 ≤ o_v24_7.toInt by first | omega | assumption), (show o_v24_7.toInt ≤ 120 by first | omega | assumption), (show 0 ≤ (0 : Int) by first | omega | assumption), (show (0 : Int) ≤ 120 by first | omega | assumption), (show 0 ≤ (v 5).toInt by first | omega | assumption), (show (v 5).toInt ≤ 256 by first | omega | assumption)⟩, by rw [ht]; exact hP, hD⟩, hS.F ht⟩) hS.2.2 dX6_takeText_39
set_option maxHeartbeats 4000000 in
set_option maxRecDepth 100000 in
theorem k_X11_law (l : Launch) (D : va_G) (cs : Nat → ClassId) (A : Nat → Prop) (ad fa fq rv : Nat → Nat) (v : Nat → Int32) (a : Nat → Nat → Int32) (w : Nat → Nat → Int64) (fv fp : Nat → Nat → Int32)   (ia18_0 : AB (-1000) 20000 (a 18)) (iv4_0 : 0 ≤ (v 4).toInt) (iv4_1 : (v 4).toInt ≤ 120) (iv24_0 : 0 ≤ (v 24).toInt) (iv24_1 : (v 24).toInt ≤ 120) (iv25_0 : 0 ≤ (v 25).toInt) (iv25_1 : (v 25).toInt ≤ 120) (iv25_2 : (v 25).toInt ≤ (v 24).toInt) (iv26_0 : 0 ≤ (v 26).toInt) (iv26_1 : (v 26).toInt ≤ 256) (ia19_0 : AB (-1000) 20000 (a 19)) (iv5_0 : 0 ≤ (v 5).toInt) (iv5_1 : (v 5).toInt ≤ 256) : Met l yX11_law (Cond.code yX11_law cX11_law 1 (some .int) :: gw) ({ frames := 75, cells := 0, slots := 0, locals := 2288 }) (va_Pc [.ref (ad 0)] (XPre D (TY cs) (CW cs ad fa fq rv v a w fv fp) A)) (va_Qi (fun (r : Int32) (z : (Nat → Nat) × (Nat → Nat → Int32) × Nat × Nat × Int32 × Int32 × Int32 × Int32 × Int32) => (∀ k : Nat, k ≠ 18 → k ≠ 19 → z.1 k = ad k) ∧ (∀ k : Nat, k ≠ 18 → k ≠ 19 → z.2.1 k = a k) ∧ (AB (-1000) 20000 (z.2.1 18)) ∧ (AB (-1000) 20000 (z.2.1 19)) ∧ (z.2.2.2.2.2.2.2.1.toInt = 0) ∧ (r.toInt = 1 ∨ r.toInt ≤ -100) ∧ (0 ≤ z.2.2.2.2.1.toInt) ∧ (z.2.2.2.2.1.toInt ≤ 256) ∧ (0 ≤ z.2.2.2.2.2.1.toInt) ∧ (z.2.2.2.2.2.1.toInt ≤ 120) ∧ (z.2.2.2.2.2.1.toInt ≤ z.2.2.2.2.2.2.1.toInt) ∧ (0 ≤ z.2.2.2.2.2.2.1.toInt) ∧ (z.2.2.2.2.2.2.1.toInt ≤ 120) ∧ (0 ≤ z.2.2.2.2.2.2.2.1.toInt) ∧ (z.2.2.2.2.2.2.2.1.toInt ≤ 120) ∧ (0 ≤ z.2.2.2.2.2.2.2.2.toInt) ∧ (z.2.2.2.2.2.2.2.2.toInt ≤ 256)) (XPo D (fun (z : (Nat → Nat) × (Nat → Nat → Int32) × Nat × Nat × Int32 × Int32 × Int32 × Int32 × Int32) => CW cs z.1 fa fq (va_up (va_up rv 0 z.2.2.1) 1 z.2.2.2.1) (va_up (va_up (va_up (va_up (va_up v 26 z.2.2.2.2.1) 25 z.2.2.2.2.2.1) 24 z.2.2.2.2.2.2.1) 4 z.2.2.2.2.2.2.2.1) 5 z.2.2.2.2.2.2.2.2) z.2.1 w fv fp) A) A) 0 0 A := by
  refine Met.ofW (cc := cX11_law) (maxL := 1) (ret := (some .int)) (by decide) rfl ?_
  intro p e s m args below meth c s₁ B hml hv
  obtain ⟨rfl, hP, hK, hD, hZ⟩ := hv
  have hx := B.exec
  have hb := B.bytes
  have hr := B.returns
  have hts := atoms_spec (ws := (Cond.code yX11_law cX11_law 1 (some .int) :: gw)) B.pre
  have hg : ∀ w ∈ gw, w.before ([.ref (ad 0)] : List Value).toArray s = true := fun w h => hts w (List.mem_cons_of_mem _ h)
  have hown : s.vm.findClass RX11 = some m.cls := findClass_of_methodNamed B.named
  have hlocks := B.notSynchronized
  have hS : va_S A s.heap s.heap [] := va_S.rf
  have hP : va_P D vwCl (CW cs ad fa fq rv v a w fv fp) s.heap := hP
  have hl := lv_entry ([.ref (ad 0)]) (n := 1) (Nat.le_of_ble_eq_true rfl)
  rw [lg_entry_eq]
  generalize (lg_sl ([.ref (ad 0)]) ++ List.replicate (1 - (lg_sl ([.ref (ad 0)])).length) Slot.unset).toArray = ls at hl ⊢
  have hl : lv_has ls 1 [(0, .ref (ad 0))] := hl
  refine lv_aload_n hx hb dX11_law_0 rfl (lv_at hl 0 rfl) ?_
  refine gf_main_rules hx hb hg hown hK hP rfl (hg _ q2_124) dX11_law_1 ?_
  refine cV_i (As := []) (rest := []) ⟨hx, hb, hml, hown, hg⟩ (k_X6_takeText l D cs A ad fa fq rv v a w fv fp   (by assumption) (show 0 ≤ (v 4).toInt by first | omega | decide) (show (v 4).toInt ≤ 120 by first | omega | decide) (show 0 ≤ (v 24).toInt by first | omega | decide) (show (v 24).toInt ≤ 120 by first | omega | decide) (show 0 ≤ (v 25).toInt by first | omega | decide) (show (v 25).toInt ≤ 120 by first | omega | decide) (show (v 25).toInt ≤ (v 24).toInt by first | omega | decide) (show 0 ≤ (v 26).toInt by first | omega | decide) (show (v 26).toInt ≤ 256 by first | omega | decide) ia19_0 (show 0 ≤ (v 5).toInt by first | omega | decide) (show (v 5).toInt ≤ 256 by first | omega | decide)) ca_X6_takeText q3_52 ⟨rfl, rfl⟩ ⟨Nat.le_of_ble_eq_true rfl, Nat.le_of_ble_eq_true rfl⟩ (rc_rules hK hP) hK hP hD hS hZ rfl hl.1 rfl (Nat.le_of_ble_eq_true rfl) ⟨Nat.zero_le _, Nat.zero_le _⟩ dX11_law_4 (fun r_1 z_11 H locs wr_1 hP hD hS => ?_)
  obtain ⟨o_ad_2, o_a_3, o_rv0_4, o_rv1_5, o_v26_6, o_v25_7, o_v24_8, o_v4_9, o_v5_10⟩ := z_11
  have hP : va_P D vwCl (CW cs o_ad_2 fa fq (va_up (va_up rv 0 o_rv0_4) 1 o_rv1_5) (va_up (va_up (va_up (va_up (va_up v 26 o_v26_6) 25 o_v25_7) 24 o_v24_8) 4 o_v4_9) 5 o_v5_10) o_a_3 w fv fp) H := hP
  have hD : va_D A (CW cs o_ad_2 fa fq (va_up (va_up rv 0 o_rv0_4) 1 o_rv1_5) (va_up (va_up (va_up (va_up (va_up v 26 o_v26_6) 25 o_v25_7) 24 o_v24_8) 4 o_v4_9) 5 o_v5_10) o_a_3 w fv fp) := hD
  obtain ⟨wr_1_0, wr_1_1, wr_1_2, wr_1_3, wr_1_4, wr_1_5, wr_1_6, wr_1_7, wr_1_8, wr_1_9, wr_1_10, wr_1_11, wr_1_12, wr_1_13, wr_1_14, wr_1_15, wr_1_16⟩ : (∀ k : Nat, k ≠ 18 → k ≠ 19 → o_ad_2 k = ad k) ∧ (∀ k : Nat, k ≠ 18 → k ≠ 19 → o_a_3 k = a k) ∧ (AB (-1000) 20000 (o_a_3 18)) ∧ (AB (-1000) 20000 (o_a_3 19)) ∧ (o_v4_9.toInt = 0) ∧ (r_1.toInt = 1 ∨ r_1.toInt ≤ -100) ∧ (0 ≤ o_v26_6.toInt) ∧ (o_v26_6.toInt ≤ 256) ∧ (0 ≤ o_v25_7.toInt) ∧ (o_v25_7.toInt ≤ 120) ∧ (o_v25_7.toInt ≤ o_v24_8.toInt) ∧ (0 ≤ o_v24_8.toInt) ∧ (o_v24_8.toInt ≤ 120) ∧ (0 ≤ o_v4_9.toInt) ∧ (o_v4_9.toInt ≤ 120) ∧ (0 ≤ o_v5_10.toInt) ∧ (o_v5_10.toInt ≤ 256) := wr_1
  exact W.iret (v := r_1) hx hb hr (fun tt ht hW => ⟨⟨r_1, ⟨o_ad_2, o_a_3, o_rv0_4, o_rv1_5, o_v26_6, o_v25_7, o_v24_8, o_v4_9, o_v5_10⟩, rfl, ⟨(by assumption), (by assumption), (by assumption), (by assumption), (by assumption), (by assumption), (show 0 ≤ o_v26_6.toInt by first | omega | assumption), (show o_v26_6.toInt ≤ 256 by first | omega | assumption), (show 0 ≤ o_v25_7.toInt by first | omega | assumption), (show o_v25_7.toInt ≤ 120 by first | omega | assumption), (show o_v25_7.toInt ≤ o_v24_8.toInt by first | omega | assumption), (show 0 ≤ o_v24_8.toInt by first | omega | assumption), (show o_v24_8.toInt ≤ 120 by first | omega | assumption), (show 0 ≤ o_v4_9.toInt by first | omega | assumption), (show o_v4_9.toInt ≤ 120 by first | omega | assumption), (show 0 ≤ o_v5_10.toInt by first | omega | assumption), (show o_v5_10.toInt ≤ 256 by first | omega | assumption)⟩, by rw [ht]; exact hP, hD⟩, hS.F ht⟩) hS.2.2 dX11_law_7
