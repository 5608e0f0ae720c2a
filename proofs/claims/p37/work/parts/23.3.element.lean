set_option maxHeartbeats 4000000 in
set_option maxRecDepth 100000 in
theorem k_X12_element (l : Launch) (D : va_G) (cs : Nat → ClassId) (A : Nat → Prop) (bd : Nat → Nat) (u : Nat → Int32) (b : Nat → Nat → Int32) (bw : Nat → Nat → Int64)  (p1 : Int32) (p2 : Int32) (ib66_0 : AB (-6) 49 (b 66)) (ib67_0 : AB 0 60 (b 67)) : Met l yX12_element (Cond.code yX12_element cX12_element 3 (some .long) :: gw) ({ frames := 3, cells := 0, slots := 0, locals := 64 }) (va_Pc [.ref (bd 0), .int p1, .int p2] (XPre D (TY cs) (RW cs bd u b bw) A)) (vp_Sl (fun (r : Int64) => ((((0 ≤ p1.toInt ∧ p1.toInt < 6) ∧ ((b 66) p1.toNatClampNeg).toInt < -1 ∧ 0 ≤ p2.toInt ∧ p2.toInt < ((b 67) p1.toNatClampNeg).toInt) ∧ r = (bw 68) (60 * p1.toNatClampNeg + p2.toNatClampNeg)) ∨ (¬ ((0 ≤ p1.toInt ∧ p1.toInt < 6) ∧ ((b 66) p1.toNatClampNeg).toInt < -1 ∧ 0 ≤ p2.toInt ∧ p2.toInt < ((b 67) p1.toNatClampNeg).toInt) ∧ r = -9223372036854775808)))) 0 0 (fun _ => False) := by
  refine Met.ofW (cc := cX12_element) (maxL := 3) (ret := (some .long)) (by decide) rfl ?_
  intro p e s m args below meth c s₁ B hml hv
  obtain ⟨rfl, hP, hK, hD, hZ⟩ := hv
  have hx := B.exec
  have hb := B.bytes
  have hr := B.returns
  have hts := atoms_spec (ws := (Cond.code yX12_element cX12_element 3 (some .long) :: gw)) B.pre
  have hg : ∀ w ∈ gw, w.before ([.ref (bd 0), .int p1, .int p2] : List Value).toArray s = true := fun w h => hts w (List.mem_cons_of_mem _ h)
  have hown : s.vm.findClass RX12 = some m.cls := findClass_of_methodNamed B.named
  have hlocks := B.notSynchronized
  have hS : va_S A s.heap s.heap [] := va_S.rf
  have zp1 : p1.toNatClampNeg = p1.toInt.toNat := rfl
  have zp2 : p2.toNatClampNeg = p2.toInt.toNat := rfl
  have hl := lv_entry ([.ref (bd 0), .int p1, .int p2]) (n := 3) (Nat.le_of_ble_eq_true rfl)
  rw [lg_entry_eq]
  generalize (lg_sl ([.ref (bd 0), .int p1, .int p2]) ++ List.replicate (3 - (lg_sl ([.ref (bd 0), .int p1, .int p2])).length) Slot.unset).toArray = ls at hl ⊢
  have hl : lv_has ls 3 [(0, .ref (bd 0)), (1, .int p1), (2, .int p2)] := hl
  refine lv_aload_n hx hb dX12_element_0 rfl (lv_at hl 0 rfl) ?_
  refine lv_iload_n hx hb dX12_element_1 rfl (lv_at hl 1 rfl) ?_
  refine lv_iload_n hx hb dX12_element_2 rfl (lv_at hl 2 rfl) ?_
  refine cV_ro (As := [.int p1, .int p2]) (rest := []) ⟨hx, hb, hml, hown, hg⟩ (k_X12_whyNoPlace l D cs A bd u b bw  p1 p2 ib66_0 ib67_0) ca_X12_whyNoPlace q7_115 ⟨rfl, rfl⟩ ⟨Nat.le_of_ble_eq_true rfl, Nat.le_of_ble_eq_true rfl⟩ (rc_model hK hP) hK hP hD hS hZ rfl hl.1 rfl (Nat.le_of_ble_eq_true rfl) ⟨Nat.zero_le _, Nat.zero_le _⟩ dX12_element_3 (fun r_1 wr_1 => ?_)
  obtain ⟨wr_1_0, wr_1_1⟩ : (r_1.toInt < 0 ∨ (r_1.toInt = 0 ∧ 0 ≤ p1.toInt ∧ p1.toInt < 6 ∧ 0 ≤ p2.toInt ∧ p2.toInt < ((b 67) p1.toNatClampNeg).toInt ∧ p2.toInt < 60)) ∧ ((¬ (0 ≤ p1.toInt ∧ p1.toInt < 6) ∧ r_1.toInt = -1) ∨ ((0 ≤ p1.toInt ∧ p1.toInt < 6) ∧ ((((b 66) p1.toNatClampNeg).toInt = -1 ∧ r_1.toInt = -11) ∨ (0 ≤ ((b 66) p1.toNatClampNeg).toInt ∧ r_1.toInt = -12) ∨ (((b 66) p1.toNatClampNeg).toInt < -1 ∧ (0 ≤ p2.toInt ∧ p2.toInt < ((b 67) p1.toNatClampNeg).toInt) ∧ r_1.toInt = 0) ∨ (((b 66) p1.toNatClampNeg).toInt < -1 ∧ ¬ (0 ≤ p2.toInt ∧ p2.toInt < ((b 67) p1.toNatClampNeg).toInt) ∧ r_1.toInt = -13)))) := wr_1
  refine lv_if_ge (tgt := 15) hx hb dX12_element_6 (by decide) (fun c_2 => ?_) (fun c_2 => ?_)
  ·
    have kc_2 : (0 : Int) ≤ r_1.toInt := i_le c_2
    refine lv_aload_n hx hb dX12_element_15 rfl (lv_at hl 0 rfl) ?_
    refine gr_elements hx hb hg hown hK hP (hg _ q5_60) dX12_element_16 ?_
    refine lv_bipush (v := 60) hx hb dX12_element_19 (by decide) ?_
    refine lv_iload_n hx hb dX12_element_21 rfl (lv_at hl 1 rfl) ?_
    refine lv_imul hx hb dX12_element_22 ?_
    refine lv_topi (fun x_3 ex_3 => ?_)
    have fx_3 : x_3.toInt = (60 : Int) * p1.toInt := by rw [ex_3]; exact i_mul (by first | omega | (show _ ≤ (60 : Int) * p1.toInt; omega)) (by first | omega | (show (60 : Int) * p1.toInt ≤ _; omega))
    refine lv_iload_n hx hb dX12_element_23 rfl (lv_at hl 2 rfl) ?_
    refine lv_iadd hx hb dX12_element_24 ?_
    refine lv_topi (fun x_4 ex_4 => ?_)
    have fx_4 : x_4.toInt = x_3.toInt + p2.toInt := by rw [ex_4]; exact i_add (by first | omega | (show (_ : Int) ≤ x_3.toInt + p2.toInt; omega)) (by first | omega | (show x_3.toInt + p2.toInt ≤ (_ : Int); omega))
    refine lr_elements hx hb hK hP (i_in (by omega) (by omega)) dX12_element_25 ?_
    refine lv_topl (fun x_5 ex_5 => ?_)
    have ex_5 : x_5 = (bw 68) x_4.toNatClampNeg := ex_5
    exact W.lret (v := x_5) hx hb hr (fun tt ht hW => ⟨x_5, rfl, (by first | exact Or.inl ⟨by omega, by rw [ex_5]; congr 1; show (_ : Int32).toInt.toNat = _; omega⟩ | exact Or.inr ⟨by omega, rfl⟩), ht⟩) (fun _ h => by cases h) dX12_element_26
  ·
    have kc_2 : r_1.toInt < (0 : Int) := i_nle c_2
    refine lv_ldc2 hx hb hown (v := (-9223372036854775808)) (hg _ q7_123) dX12_element_9 ?_
    refine lv_goto (tgt := 26) hx hb dX12_element_12 (by decide) ?_
    exact W.lret (v := (-9223372036854775808)) hx hb hr (fun tt ht hW => ⟨(-9223372036854775808), rfl, (by first | exact Or.inl ⟨by omega, by rw [e-9223372036854775808]; congr 1; show (_ : Int32).toInt.toNat = _; omega⟩ | exact Or.inr ⟨by omega, rfl⟩), ht⟩) (fun _ h => by cases h) dX12_element_26
