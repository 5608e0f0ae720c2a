set_option maxHeartbeats 4000000 in
set_option maxRecDepth 100000 in
theorem k_X12_layNow (l : Launch) (D : va_G) (cs : Nat → ClassId) (A : Nat → Prop) (bd : Nat → Nat) (u : Nat → Int32) (b : Nat → Nat → Int32) (bw : Nat → Nat → Int64)  (p1 : Int32) (iu1_0 : 0 ≤ (u 1).toInt) (iu1_1 : (u 1).toInt ≤ 8) (iu7_0 : -1 ≤ (u 7).toInt) (iu7_1 : (u 7).toInt < (u 1).toInt) : Met l yX12_layNow (Cond.code yX12_layNow cX12_layNow 3 none :: gw) ({ frames := 0, cells := 0, slots := 0, locals := 0 }) (va_Pc [.ref (bd 0), .int p1] (XPre D (TY cs) (RW cs bd u b bw) A)) (va_Qv (fun (z : Int32 × Int32 × Int32 × Int32 × (Nat → Int32)) => (z.2.2.2.1 = p1) ∧ (-1 ≤ z.2.1.toInt) ∧ (z.2.1.toInt < (u 1).toInt)) (XPo D (fun (z : Int32 × Int32 × Int32 × Int32 × (Nat → Int32)) => RW cs bd (va_up (va_up (va_up (va_up u 28 z.1) 29 z.2.1) 30 z.2.2.1) 31 z.2.2.2.1) (va_up b 32 z.2.2.2.2) bw) A) A) 0 0 A := by
  refine Met.ofW (cc := cX12_layNow) (maxL := 3) (ret := none) (by decide) rfl ?_
  intro p e s m args below meth c s₁ B hml hv
  obtain ⟨rfl, hP, hK, hD, hZ⟩ := hv
  have hx := B.exec
  have hb := B.bytes
  have hr := B.returns
  have hts := atoms_spec (ws := (Cond.code yX12_layNow cX12_layNow 3 none :: gw)) B.pre
  have hg : ∀ w ∈ gw, w.before ([.ref (bd 0), .int p1] : List Value).toArray s = true := fun w h => hts w (List.mem_cons_of_mem _ h)
  have hown : s.vm.findClass RX12 = some m.cls := findClass_of_methodNamed B.named
  have hlocks := B.notSynchronized
  have hS : va_S A s.heap s.heap [] := va_S.rf
  have hP : va_P D vwCl (RW cs bd u b bw) s.heap := hP
  have hl := lv_entry ([.ref (bd 0), .int p1]) (n := 3) (Nat.le_of_ble_eq_true rfl)
  rw [lg_entry_eq]
  generalize (lg_sl ([.ref (bd 0), .int p1]) ++ List.replicate (3 - (lg_sl ([.ref (bd 0), .int p1])).length) Slot.unset).toArray = ls at hl ⊢
  have hl : lv_has ls 3 [(0, .ref (bd 0)), (1, .int p1)] := hl
  have hcut : ∀ nk : Nat, (∀ (x2 : Int32) (c35_b32 : Nat → Int32) (c35_u28 : Int32) (c35_u29 : Int32) (c35_u30 : Int32) (c35_u31 : Int32) (H : Heap) (locs : List Loc) (i2 : 0 ≤ x2.toInt) (h31 : c35_u31 = p1) (ju29_0 : -1 ≤ c35_u29.toInt) (ju29_1 : c35_u29.toInt < (u 1).toInt) (hmu : ((u 1).toInt - x2.toInt).toNat < nk) (hP : va_P D vwCl (RW cs bd (va_up (va_up (va_up (va_up u 28 c35_u28) 29 c35_u29) 30 c35_u30) 31 c35_u31) (va_up b 32 c35_b32) bw) H) (hD : va_D A (RW cs bd (va_up (va_up (va_up (va_up u 28 c35_u28) 29 c35_u29) 30 c35_u30) 31 c35_u31) (va_up b 32 c35_b32) bw)) (hS : va_S A s.heap H locs) (ls : Array Slot) (hl : lv_has ls 3 [(0, .ref (bd 0)), (1, .int p1), (2, .int x2)]), W p l e (headSpec (Cond.code yX12_layNow cX12_layNow 3 none :: gw) ({ frames := 0, cells := 0, slots := 0, locals := 0 })).room s m ([.ref (bd 0), .int p1] : List Value).toArray below meth c H locs 0 0 (MQ below (va_Qv (fun (z : Int32 × Int32 × Int32 × Int32 × (Nat → Int32)) => (z.2.2.2.1 = p1) ∧ (-1 ≤ z.2.1.toInt) ∧ (z.2.1.toInt < (u 1).toInt)) (XPo D (fun (z : Int32 × Int32 × Int32 × Int32 × (Nat → Int32)) => RW cs bd (va_up (va_up (va_up (va_up u 28 z.1) 29 z.2.1) 30 z.2.2.1) 31 z.2.2.2.1) (va_up b 32 z.2.2.2.2) bw) A) A) ([.ref (bd 0), .int p1] : List Value).toArray s 0 0 A) (F0 m 35 ls [])) := by
    intro nk
    induction nk with
    | zero => exact (fun x2 c35_b32 c35_u28 c35_u29 c35_u30 c35_u31 H locs i2 h31 ju29_0 ju29_1 hmu hP hD hS ls hl => absurd hmu (Nat.not_lt_zero _))
    | succ nk ih =>
      intro x2 c35_b32 c35_u28 c35_u29 c35_u30 c35_u31 H locs i2 h31 ju29_0 ju29_1 hmu hP hD hS ls hl
      refine lv_iload_n hx hb dX12_layNow_35 rfl (lv_at hl 2 rfl) ?_
      refine lv_aload_n hx hb dX12_layNow_36 rfl (lv_at hl 0 rfl) ?_
      refine gr_people1 hx hb hg hown hK hP (x := (u 1)) rfl (hg _ q4_233) dX12_layNow_37 ?_
      refine lv_icmp_ge (tgt := 61) hx hb dX12_layNow_40 (by decide) (fun c_1 => ?_) (fun c_1 => ?_)
      ·
        have kc_1 : (u 1).toInt ≤ x2.toInt := i_le c_1
        exact W.vret hx hb hr (fun tt ht hW => ⟨⟨⟨c35_u28, c35_u29, c35_u30, c35_u31, c35_b32⟩, rfl, ⟨(by first | rfl | assumption), (show -1 ≤ c35_u29.toInt by first | omega | assumption), (show c35_u29.toInt < (u 1).toInt by first | omega | assumption)⟩, by rw [ht]; exact hP, hD⟩, hS.F ht⟩) hS.2.2 dX12_layNow_61
      ·
        have kc_1 : x2.toInt < (u 1).toInt := i_nle c_1
        refine lv_aload_n hx hb dX12_layNow_43 rfl (lv_at hl 0 rfl) ?_
        refine gr_pads1 hx hb hg hown hK hP (hg _ q5_24) dX12_layNow_44 ?_
        refine lv_iload_n hx hb dX12_layNow_47 rfl (lv_at hl 2 rfl) ?_
        refine lv_aload_n hx hb dX12_layNow_48 rfl (lv_at hl 0 rfl) ?_
        refine gr_pads hx hb hg hown hK hP (hg _ q4_236) dX12_layNow_49 ?_
        refine lv_iload_n hx hb dX12_layNow_52 rfl (lv_at hl 2 rfl) ?_
        refine lr_pads hx hb hK hP (i_in (by omega) (by omega)) dX12_layNow_53 ?_
        refine lv_topi (fun x_2 ex_2 => ?_)
        have ex_2 : x_2 = (b 4) x2.toNatClampNeg := ex_2
        have hx_2 : x_2.toInt = ((b 4) x2.toNatClampNeg).toInt := by rw [ex_2]
        refine sr_pads1 hx hb hK hP hD hS (i_in (by omega) (by omega)) dX12_layNow_54 (fun H locs hP hD hS => ?_)
        obtain ⟨x_3, ex_3⟩ : ∃ y : Int32, y = x2 + 1 := ⟨_, rfl⟩
        have fx_3 : x_3.toInt = x2.toInt + 1 := by rw [ex_3]; exact i_add (by first | omega | (show (_ : Int) ≤ x2.toInt + 1; omega)) (by first | omega | (show x2.toInt + 1 ≤ (_ : Int); omega))
        refine lv_iinc (v := x_3) (lv' := [(2, .int x_3), (0, .ref (bd 0)), (1, .int p1)]) hx hb dX12_layNow_55 hl (k := 2) rfl (by rw [ex_3]; rfl) (by decide) rfl (fun ls hl => ?_)
        refine lv_goto (tgt := 35) hx hb dX12_layNow_58 (by decide) ?_
        exact ih x_3 (upd c35_b32 x2.toNatClampNeg x_2) c35_u28 c35_u29 c35_u30 c35_u31 _ _ (by omega) (by first | rfl | assumption) (show -1 ≤ c35_u29.toInt by first | omega | assumption) (show c35_u29.toInt < (u 1).toInt by first | omega | assumption) (by omega) hP hD hS ls (lv_sub hl [1, 2, 0] rfl)
  refine lv_aload_n hx hb dX12_layNow_0 rfl (lv_at hl 0 rfl) ?_
  refine lv_aload_n hx hb dX12_layNow_1 rfl (lv_at hl 0 rfl) ?_
  refine gr_told hx hb hg hown hK hP (hg _ q4_238) dX12_layNow_2 ?_
  refine lv_iconst (v := 0) hx hb dX12_layNow_5 (by decide) ?_
  refine lr_told hx hb hK hP (i_in (by decide) (by decide)) dX12_layNow_6 ?_
  refine lv_topi (fun x_4 ex_4 => ?_)
  have ex_4 : x_4 = (b 6) (0 : Int32).toNatClampNeg := ex_4
  have hx_4 : x_4.toInt = ((b 6) (0 : Int32).toNatClampNeg).toInt := by rw [ex_4]
  refine pr_bee1 hx hb hg hown hK hP hD hS (hg _ q5_20) dX12_layNow_7 (fun H locs hP hD hS => ?_)
  refine lv_aload_n hx hb dX12_layNow_10 rfl (lv_at hl 0 rfl) ?_
  refine lv_aload_n hx hb dX12_layNow_11 rfl (lv_at hl 0 rfl) ?_
  refine gr_liar hx hb hg hown hK hP (x := (u 7)) rfl (hg _ q4_239) dX12_layNow_12 ?_
  refine pr_liar1 hx hb hg hown hK hP hD hS (hg _ q5_21) dX12_layNow_15 (fun H locs hP hD hS => ?_)
  refine lv_aload_n hx hb dX12_layNow_18 rfl (lv_at hl 0 rfl) ?_
  refine lv_aload_n hx hb dX12_layNow_19 rfl (lv_at hl 0 rfl) ?_
  refine gr_told hx hb hg hown hK hP (hg _ q4_238) dX12_layNow_20 ?_
  refine lv_iconst (v := 2) hx hb dX12_layNow_23 (by decide) ?_
  refine lr_told hx hb hK hP (i_in (by decide) (by decide)) dX12_layNow_24 ?_
  refine lv_topi (fun x_5 ex_5 => ?_)
  have ex_5 : x_5 = (b 6) (2 : Int32).toNatClampNeg := ex_5
  have hx_5 : x_5.toInt = ((b 6) (2 : Int32).toNatClampNeg).toInt := by rw [ex_5]
  refine pr_hour1 hx hb hg hown hK hP hD hS (hg _ q5_22) dX12_layNow_25 (fun H locs hP hD hS => ?_)
  refine lv_aload_n hx hb dX12_layNow_28 rfl (lv_at hl 0 rfl) ?_
  refine lv_iload_n hx hb dX12_layNow_29 rfl (lv_at hl 1 rfl) ?_
  refine pr_lies1 hx hb hg hown hK hP hD hS (hg _ q5_23) dX12_layNow_30 (fun H locs hP hD hS => ?_)
  refine lv_iconst (v := 0) hx hb dX12_layNow_33 (by decide) ?_
  refine lv_istore_n (lv' := [(2, .int 0), (0, .ref (bd 0)), (1, .int p1)]) hx hb dX12_layNow_34 rfl hl (by decide) rfl (fun ls hl => ?_)
  have q0_0 : (0 : Int32).toInt = 0 := rfl
  exact (hcut ((((u 1).toInt - (0 : Int32).toInt).toNat) + 1)) 0 (b 32) x_4 (u 7) x_5 p1 _ _ (by omega) (by first | rfl | assumption) (show -1 ≤ (u 7).toInt by first | omega | assumption) (show (u 7).toInt < (u 1).toInt by first | omega | assumption) (Nat.lt_succ_self _) hP hD hS ls (lv_sub hl [1, 2, 0] rfl)
set_option maxHeartbeats 4000000 in
set_option maxRecDepth 100000 in
theorem k_X12_within (l : Launch) (D : va_G) (cs : Nat → ClassId) (A : Nat → Prop) (bd : Nat → Nat) (u : Nat → Int32) (b : Nat → Nat → Int32) (bw : Nat → Nat → Int64)  (p1 : Int32) (iu1_0 : 0 ≤ (u 1).toInt) (iu1_1 : (u 1).toInt ≤ 8) : Met l yX12_within (Cond.code yX12_within cX12_within 4 (some .int) :: gw) ({ frames := 2, cells := 0, slots := 0, locals := 42 }) (va_Pc [.ref (bd 0), .int p1] (XPre D (TY cs) (RW cs bd u b bw) A)) (vp_Si (fun (r : Int32) => True)) 0 0 (fun _ => False) := by
  refine Met.ofW (cc := cX12_within) (maxL := 4) (ret := (some .int)) (by decide) rfl ?_
  intro p e s m args below meth c s₁ B hml hv
  obtain ⟨rfl, hP, hK, hD, hZ⟩ := hv
  have hx := B.exec
  have hb := B.bytes
  have hr := B.returns
  have hts := atoms_spec (ws := (Cond.code yX12_within cX12_within 4 (some .int) :: gw)) B.pre
  have hg : ∀ w ∈ gw, w.before ([.ref (bd 0), .int p1] : List Value).toArray s = true := fun w h => hts w (List.mem_cons_of_mem _ h)
  have hown : s.vm.findClass RX12 = some m.cls := findClass_of_methodNamed B.named
  have hlocks := B.notSynchronized
  have hS : va_S A s.heap s.heap [] := va_S.rf
  have hl := lv_entry ([.ref (bd 0), .int p1]) (n := 4) (Nat.le_of_ble_eq_true rfl)
  rw [lg_entry_eq]
  generalize (lg_sl ([.ref (bd 0), .int p1]) ++ List.replicate (4 - (lg_sl ([.ref (bd 0), .int p1])).length) Slot.unset).toArray = ls at hl ⊢
  have hl : lv_has ls 4 [(0, .ref (bd 0)), (1, .int p1)] := hl
  have hcut : ∀ nk : Nat, (∀ (x2 : Int32) (x3 : Int32) (i3 : 0 ≤ x3.toInt) (hmu : ((u 1).toInt - x3.toInt).toNat < nk) (ls : Array Slot) (hl : lv_has ls 4 [(0, .ref (bd 0)), (1, .int p1), (2, .int x2), (3, .int x3)]), W p l e (headSpec (Cond.code yX12_within cX12_within 4 (some .int) :: gw) ({ frames := 2, cells := 0, slots := 0, locals := 42 })).room s m ([.ref (bd 0), .int p1] : List Value).toArray below meth c s.heap [] 0 0 (MQ below (vp_Si (fun (r : Int32) => True)) ([.ref (bd 0), .int p1] : List Value).toArray s 0 0 (fun _ => False)) (F0 m 4 ls [])) := by
    intro nk
    induction nk with
    | zero => exact (fun x2 x3 i3 hmu ls hl => absurd hmu (Nat.not_lt_zero _))
    | succ nk ih =>
      intro x2 x3 i3 hmu ls hl
      refine lv_iload_n hx hb dX12_within_4 rfl (lv_at hl 3 rfl) ?_
      refine lv_aload_n hx hb dX12_within_5 rfl (lv_at hl 0 rfl) ?_
      refine gr_people1 hx hb hg hown hK hP (x := (u 1)) rfl (hg _ q4_233) dX12_within_6 ?_
      refine lv_icmp_ge (tgt := 43) hx hb dX12_within_9 (by decide) (fun c_1 => ?_) (fun c_1 => ?_)
      ·
        have kc_1 : (u 1).toInt ≤ x3.toInt := i_le c_1
        refine lv_iload_n hx hb dX12_within_43 rfl (lv_at hl 2 rfl) ?_
        exact W.iret (v := x2) hx hb hr (fun tt ht hW => ⟨x2, rfl, trivial, ht⟩) (fun _ h => by cases h) dX12_within_44
      ·
        have kc_1 : x3.toInt < (u 1).toInt := i_nle c_1
        refine lv_iload_n hx hb dX12_within_12 rfl (lv_at hl 1 rfl) ?_
        refine lv_aload_n hx hb dX12_within_13 rfl (lv_at hl 0 rfl) ?_
        refine gr_cellOf hx hb hg hown hK hP (hg _ q4_234) dX12_within_14 ?_
        refine lv_iload_n hx hb dX12_within_17 rfl (lv_at hl 3 rfl) ?_
        refine lr_cellOf hx hb hK hP (i_in (by omega) (by omega)) dX12_within_18 ?_
        refine lv_topi (fun x_2 ex_2 => ?_)
        have ex_2 : x_2 = (b 2) x3.toNatClampNeg := ex_2
        have hx_2 : x_2.toInt = ((b 2) x3.toNatClampNeg).toInt := by rw [ex_2]
        refine cS_p (As := [.int p1, .int x_2]) (rest := []) ⟨hx, hb, hml, hown, hg⟩ (k_X12_far l   p1 x_2 ) ca_X12_far q6_101 ⟨rfl, rfl⟩ ⟨Nat.le_of_ble_eq_true rfl, Nat.le_of_ble_eq_true rfl⟩ rfl hl.1 rfl (Nat.le_of_ble_eq_true rfl) ⟨Nat.zero_le _, Nat.zero_le _⟩ dX12_within_19 (fun r_3 wr_3 => ?_)
        refine lv_aload_n hx hb dX12_within_22 rfl (lv_at hl 0 rfl) ?_
        refine gr_told hx hb hg hown hK hP (hg _ q4_238) dX12_within_23 ?_
        refine lv_iconst (v := 1) hx hb dX12_within_26 (by decide) ?_
        refine lr_told hx hb hK hP (i_in (by decide) (by decide)) dX12_within_27 ?_
        refine lv_topi (fun x_4 ex_4 => ?_)
        have ex_4 : x_4 = (b 6) (1 : Int32).toNatClampNeg := ex_4
        have hx_4 : x_4.toInt = ((b 6) (1 : Int32).toNatClampNeg).toInt := by rw [ex_4]
        refine lv_icmp_gt (tgt := 37) hx hb dX12_within_28 (by decide) (fun c_5 => ?_) (fun c_5 => ?_)
        ·
          have kc_5 : x_4.toInt < r_3.toInt := i_lt c_5
          obtain ⟨x_6, ex_6⟩ : ∃ y : Int32, y = x3 + 1 := ⟨_, rfl⟩
          have fx_6 : x_6.toInt = x3.toInt + 1 := by rw [ex_6]; exact i_add (by first | omega | (show (_ : Int) ≤ x3.toInt + 1; omega)) (by first | omega | (show x3.toInt + 1 ≤ (_ : Int); omega))
          refine lv_iinc (v := x_6) (lv' := [(3, .int x_6), (0, .ref (bd 0)), (1, .int p1), (2, .int x2)]) hx hb dX12_within_37 hl (k := 3) rfl (by rw [ex_6]; rfl) (by decide) rfl (fun ls hl => ?_)
          refine lv_goto (tgt := 4) hx hb dX12_within_40 (by decide) ?_
          exact ih x2 x_6 (by omega) (by omega) ls (lv_sub hl [1, 2, 3, 0] rfl)
        ·
          have kc_5 : r_3.toInt ≤ x_4.toInt := i_nlt c_5
          refine lv_iload_n hx hb dX12_within_31 rfl (lv_at hl 2 rfl) ?_
          refine lv_iconst (v := 1) hx hb dX12_within_32 (by decide) ?_
          refine lv_iload_n hx hb dX12_within_33 rfl (lv_at hl 3 rfl) ?_
          refine lv_ishl hx hb dX12_within_34 ?_
          refine lv_topi (fun x_7 ex_7 => ?_)
          refine lv_ior hx hb dX12_within_35 ?_
          refine lv_topi (fun x_8 ex_8 => ?_)
          refine lv_istore_n (lv' := [(2, .int x_8), (0, .ref (bd 0)), (1, .int p1), (3, .int x3)]) hx hb dX12_within_36 rfl hl (by decide) rfl (fun ls hl => ?_)
          obtain ⟨x_9, ex_9⟩ : ∃ y : Int32, y = x3 + 1 := ⟨_, rfl⟩
          have fx_9 : x_9.toInt = x3.toInt + 1 := by rw [ex_9]; exact i_add (by first | omega | (show (_ : Int) ≤ x3.toInt + 1; omega)) (by first | omega | (show x3.toInt + 1 ≤ (_ : Int); omega))
          refine lv_iinc (v := x_9) (lv' := [(3, .int x_9), (2, .int x_8), (0, .ref (bd 0)), (1, .int p1)]) hx hb dX12_within_37 hl (k := 3) rfl (by rw [ex_9]; rfl) (by decide) rfl (fun ls hl => ?_)
          refine lv_goto (tgt := 4) hx hb dX12_within_40 (by decide) ?_
          exact ih x_8 x_9 (by omega) (by omega) ls (lv_sub hl [2, 3, 1, 0] rfl)
  refine lv_iconst (v := 0) hx hb dX12_within_0 (by decide) ?_
  refine lv_istore_n (lv' := [(2, .int 0), (0, .ref (bd 0)), (1, .int p1)]) hx hb dX12_within_1 rfl hl (by decide) rfl (fun ls hl => ?_)
  refine lv_iconst (v := 0) hx hb dX12_within_2 (by decide) ?_
  refine lv_istore_n (lv' := [(3, .int 0), (2, .int 0), (0, .ref (bd 0)), (1, .int p1)]) hx hb dX12_within_3 rfl hl (by decide) rfl (fun ls hl => ?_)
  have q0_0 : (0 : Int32).toInt = 0 := rfl
  exact (hcut ((((u 1).toInt - (0 : Int32).toInt).toNat) + 1)) 0 0 (by omega) (Nat.lt_succ_self _) ls (lv_sub hl [2, 3, 1, 0] rfl)
set_option maxHeartbeats 4000000 in
set_option maxRecDepth 100000 in
theorem k_X12_reach (l : Launch) (D : va_G) (cs : Nat → ClassId) (A : Nat → Prop) (bd : Nat → Nat) (u : Nat → Int32) (b : Nat → Nat → Int32) (bw : Nat → Nat → Int64)   (iu1_0 : 0 ≤ (u 1).toInt) (iu1_1 : (u 1).toInt ≤ 8) : Met l yX12_reach (Cond.code yX12_reach cX12_reach 1 (some .int) :: gw) ({ frames := 3, cells := 0, slots := 0, locals := 65 }) (va_Pc [.ref (bd 0)] (XPre D (TY cs) (RW cs bd u b bw) A)) (vp_Si (fun (r : Int32) => True)) 0 0 (fun _ => False) := by
  refine Met.ofW (cc := cX12_reach) (maxL := 1) (ret := (some .int)) (by decide) rfl ?_
  intro p e s m args below meth c s₁ B hml hv
  obtain ⟨rfl, hP, hK, hD, hZ⟩ := hv
  have hx := B.exec
  have hb := B.bytes
  have hr := B.returns
  have hts := atoms_spec (ws := (Cond.code yX12_reach cX12_reach 1 (some .int) :: gw)) B.pre
  have hg : ∀ w ∈ gw, w.before ([.ref (bd 0)] : List Value).toArray s = true := fun w h => hts w (List.mem_cons_of_mem _ h)
  have hown : s.vm.findClass RX12 = some m.cls := findClass_of_methodNamed B.named
  have hlocks := B.notSynchronized
  have hS : va_S A s.heap s.heap [] := va_S.rf
  have hl := lv_entry ([.ref (bd 0)]) (n := 1) (Nat.le_of_ble_eq_true rfl)
  rw [lg_entry_eq]
  generalize (lg_sl ([.ref (bd 0)]) ++ List.replicate (1 - (lg_sl ([.ref (bd 0)])).length) Slot.unset).toArray = ls at hl ⊢
  have hl : lv_has ls 1 [(0, .ref (bd 0))] := hl
  refine lv_aload_n hx hb dX12_reach_0 rfl (lv_at hl 0 rfl) ?_
  refine lv_aload_n hx hb dX12_reach_1 rfl (lv_at hl 0 rfl) ?_
  refine gr_told hx hb hg hown hK hP (hg _ q4_238) dX12_reach_2 ?_
  refine lv_iconst (v := 0) hx hb dX12_reach_5 (by decide) ?_
  refine lr_told hx hb hK hP (i_in (by decide) (by decide)) dX12_reach_6 ?_
  refine lv_topi (fun x_1 ex_1 => ?_)
  have ex_1 : x_1 = (b 6) (0 : Int32).toNatClampNeg := ex_1
  have hx_1 : x_1.toInt = ((b 6) (0 : Int32).toNatClampNeg).toInt := by rw [ex_1]
  refine cV_ro (As := [.int x_1]) (rest := []) ⟨hx, hb, hml, hown, hg⟩ (k_X12_within l D cs A bd u b bw  x_1 (show 0 ≤ (u 1).toInt by first | omega | decide) (show (u 1).toInt ≤ 8 by first | omega | decide)) ca_X12_within q6_107 ⟨rfl, rfl⟩ ⟨Nat.le_of_ble_eq_true rfl, Nat.le_of_ble_eq_true rfl⟩ (rc_model hK hP) hK hP hD hS hZ rfl hl.1 rfl (Nat.le_of_ble_eq_true rfl) ⟨Nat.zero_le _, Nat.zero_le _⟩ dX12_reach_7 (fun r_2 wr_2 => ?_)
  have wr_2_0 : True := wr_2
  exact W.iret (v := r_2) hx hb hr (fun tt ht hW => ⟨r_2, rfl, trivial, ht⟩) (fun _ h => by cases h) dX12_reach_10
set_option maxHeartbeats 4000000 in
set_option maxRecDepth 100000 in
theorem k_X12_worked (l : Launch) (D : va_G) (cs : Nat → ClassId) (A : Nat → Prop) (bd : Nat → Nat) (u : Nat → Int32) (b : Nat → Nat → Int32) (bw : Nat → Nat → Int64)  (p2 : Int32) (p3 : Int32) (h2 : 0 ≤ p2.toInt) (h3 : p2.toInt ≤ p3.toInt) (h4 : p3.toInt ≤ 125) (hseg : ∃ h2 : Nat, RHI (b 20) (b 21) p2.toNatClampNeg (p3.toInt - p2.toInt).toNat 0 = some h2) (ib20_0 : AB (-128) 127 (b 20)) : Met l yX12_worked (Cond.code yX12_worked cX12_worked 7 (some .int) :: gw) ({ frames := 1, cells := 0, slots := 0, locals := 22 }) (va_Pc [.ref (bd 0), .int 0, .int p2, .int p3] (XPre D (TY cs) (RW cs bd u b bw) A)) (va_Qi (fun (r : Int32) (z : Nat → Int32) => True) (XPo D (fun (z : Nat → Int32) => RW cs bd u (va_up b 26 z) bw) A) A) 0 0 A := by
  refine Met.ofW (cc := cX12_worked) (maxL := 7) (ret := (some .int)) (by decide) rfl ?_
  intro p e s m args below meth c s₁ B hml hv
  obtain ⟨rfl, hP, hK, hD, hZ⟩ := hv
  have hx := B.exec
  have hb := B.bytes
  have hr := B.returns
  have hts := atoms_spec (ws := (Cond.code yX12_worked cX12_worked 7 (some .int) :: gw)) B.pre
  have hg : ∀ w ∈ gw, w.before ([.ref (bd 0), .int 0, .int p2, .int p3] : List Value).toArray s = true := fun w h => hts w (List.mem_cons_of_mem _ h)
  have hown : s.vm.findClass RX12 = some m.cls := findClass_of_methodNamed B.named
  have hlocks := B.notSynchronized
  have hS : va_S A s.heap s.heap [] := va_S.rf
  have hP : va_P D vwCl (RW cs bd u b bw) s.heap := hP
  have hl := lv_entry ([.ref (bd 0), .int 0, .int p2, .int p3]) (n := 7) (Nat.le_of_ble_eq_true rfl)
  rw [lg_entry_eq]
  generalize (lg_sl ([.ref (bd 0), .int 0, .int p2, .int p3]) ++ List.replicate (7 - (lg_sl ([.ref (bd 0), .int 0, .int p2, .int p3])).length) Slot.unset).toArray = ls at hl ⊢
  have hl : lv_has ls 7 [(0, .ref (bd 0)), (1, .int 0), (2, .int p2), (3, .int p3)] := hl
  have hcut : ∀ nk : Nat, (∀ (x4 : Int32) (x5 : Int32) (c12_b26 : Nat → Int32) (H : Heap) (locs : List Loc) (i4 : 0 ≤ x4.toInt) (i4b : x4.toInt ≤ x5.toInt - p2.toInt) (i5 : p2.toInt ≤ x5.toInt) (i5b : x5.toInt ≤ p3.toInt) (hr2 : ∃ h2 : Nat, RHI (b 20) (b 21) x5.toNatClampNeg (p3.toInt - x5.toInt).toNat x4.toInt.toNat = some h2) (hmu : (p3.toInt - x5.toInt).toNat < nk) (hP : va_P D vwCl (RW cs bd u (va_up b 26 c12_b26) bw) H) (hD : va_D A (RW cs bd u (va_up b 26 c12_b26) bw)) (hS : va_S A s.heap H locs) (ls : Array Slot) (hl : lv_has ls 7 [(0, .ref (bd 0)), (1, .int 0), (2, .int p2), (3, .int p3), (4, .int x4), (5, .int x5)]), W p l e (headSpec (Cond.code yX12_worked cX12_worked 7 (some .int) :: gw) ({ frames := 1, cells := 0, slots := 0, locals := 22 })).room s m ([.ref (bd 0), .int 0, .int p2, .int p3] : List Value).toArray below meth c H locs 0 0 (MQ below (va_Qi (fun (r : Int32) (z : Nat → Int32) => True) (XPo D (fun (z : Nat → Int32) => RW cs bd u (va_up b 26 z) bw) A) A) ([.ref (bd 0), .int 0, .int p2, .int p3] : List Value).toArray s 0 0 A) (F0 m 12 ls [])) := by
    intro nk
    induction nk with
    | zero => exact (fun x4 x5 c12_b26 H locs i4 i4b i5 i5b hr2 hmu hP hD hS ls hl => absurd hmu (Nat.not_lt_zero _))
    | succ nk ih =>
      intro x4 x5 c12_b26 H locs i4 i4b i5 i5b hr2 hmu hP hD hS ls hl
      refine lv_iload hx hb dX12_worked_12 (lv_at hl 5 rfl) ?_
      refine lv_sipush (v := 130) hx hb dX12_worked_14 (by decide) ?_
      refine lv_iload_n hx hb dX12_worked_17 rfl (lv_at hl 1 rfl) ?_
      refine lv_imul hx hb dX12_worked_18 ?_
      refine lv_topi (fun x_1 ex_1 => ?_)
      have fx_1 : x_1 = 0 := by rw [ex_1]; rfl
      subst fx_1
      refine lv_iload_n hx hb dX12_worked_19 rfl (lv_at hl 3 rfl) ?_
      refine lv_iadd hx hb dX12_worked_20 ?_
      refine lv_topi (fun x_2 ex_2 => ?_)
      have fx_2 : x_2.toInt = (0 : Int) + p3.toInt := by rw [ex_2]; exact i_add (by first | omega | (show (_ : Int) ≤ (0 : Int) + p3.toInt; omega)) (by first | omega | (show (0 : Int) + p3.toInt ≤ (_ : Int); omega))
      refine lv_icmp_ge (tgt := 188) hx hb dX12_worked_21 (by decide) (fun c_3 => ?_) (fun c_3 => ?_)
      ·
        have kc_3 : x_2.toInt ≤ x5.toInt := i_le c_3
        refine lv_aload_n hx hb dX12_worked_188 rfl (lv_at hl 0 rfl) ?_
        refine gr_pile hx hb hg hown hK hP (hg _ q5_18) dX12_worked_189 ?_
        refine lv_iconst (v := 0) hx hb dX12_worked_192 (by decide) ?_
        refine lr_pile hx hb hK hP (i_in (by decide) (by decide)) dX12_worked_193 ?_
        refine lv_topi (fun x_4 ex_4 => ?_)
        have ex_4 : x_4 = c12_b26 (0 : Int32).toNatClampNeg := ex_4
        have hx_4 : x_4.toInt = (c12_b26 (0 : Int32).toNatClampNeg).toInt := by rw [ex_4]
        exact W.iret (v := x_4) hx hb hr (fun tt ht hW => ⟨⟨x_4, c12_b26, rfl, trivial, by rw [ht]; exact hP, hD⟩, hS.F ht⟩) hS.2.2 dX12_worked_194
      ·
        have kc_3 : x5.toInt < x_2.toInt := i_nle c_3
        refine lv_aload_n hx hb dX12_worked_24 rfl (lv_at hl 0 rfl) ?_
        refine gr_act hx hb hg hown hK hP (hg _ q5_12) dX12_worked_25 ?_
        refine lv_iload hx hb dX12_worked_28 (lv_at hl 5 rfl) ?_
        refine lr_act hx hb hK hP (i_in (by omega) (by omega)) dX12_worked_30 ?_
        refine lv_topi (fun x_5 ex_5 => ?_)
        have ex_5 : x_5 = (b 20) x5.toNatClampNeg := ex_5
        have hx_5 : x_5.toInt = ((b 20) x5.toNatClampNeg).toInt := by rw [ex_5]
        have bx_5 := ib20_0 x5.toNatClampNeg
        rw [← ex_5] at bx_5
        refine lv_istore (lv' := [(6, .int x_5), (0, .ref (bd 0)), (1, .int 0), (2, .int p2), (3, .int p3), (4, .int x4), (5, .int x5)]) hx hb dX12_worked_31 hl (by decide) rfl (fun ls hl => ?_)
        obtain ⟨hh2, hhr⟩ := hr2
        have hs := RHI_step hhr (by omega)
        refine lv_iload hx hb dX12_worked_33 (lv_at hl 0 rfl) ?_
        refine lv_iconst (v := 1) hx hb dX12_worked_35 (by decide) ?_
        refine lv_icmp_eq (tgt := 45) hx hb dX12_worked_36 (by decide) (fun c_6 => ?_) (fun c_6 => ?_)
        ·
          have kc_6 : x_5.toInt = (1 : Int) := i_eq c_6
          refine lv_aload_n hx hb dX12_worked_45 rfl (lv_at hl 1 rfl) ?_
          refine gr_pile hx hb hg hown hK hP (hg _ q5_18) dX12_worked_46 ?_
          refine lv_iload hx hb dX12_worked_49 (lv_at hl 5 rfl) ?_
          refine lv_iload hx hb dX12_worked_51 (lv_at hl 0 rfl) ?_
          refine lv_iconst (v := 1) hx hb dX12_worked_53 (by decide) ?_
          refine lv_icmp_ne (tgt := 67) hx hb dX12_worked_54 (by decide) (fun c_7 => ?_) (fun c_7 => ?_)
          ·
            have kc_7 : x_5.toInt ≠ (1 : Int) := i_ne c_7
            exfalso; omega
          ·
            have kc_7 : x_5.toInt = (1 : Int) := i_eq c_7
            refine lv_aload_n hx hb dX12_worked_57 rfl (lv_at hl 1 rfl) ?_
            refine gr_with hx hb hg hown hK hP (hg _ q5_13) dX12_worked_58 ?_
            refine lv_iload hx hb dX12_worked_61 (lv_at hl 6 rfl) ?_
            refine lr_with hx hb hK hP (i_in (by omega) (by omega)) dX12_worked_63 ?_
            refine lv_topi (fun x_8 ex_8 => ?_)
            have ex_8 : x_8 = (b 21) x5.toNatClampNeg := ex_8
            have hx_8 : x_8.toInt = ((b 21) x5.toNatClampNeg).toInt := by rw [ex_8]
            refine lv_goto (tgt := 79) hx hb dX12_worked_64 (by decide) ?_
            refine sr_pile hx hb hK hP hD hS (i_in (by omega) (by omega)) dX12_worked_79 (fun H locs hP hD hS => ?_)
            obtain ⟨x_9, ex_9⟩ : ∃ y : Int32, y = x4 + 1 := ⟨_, rfl⟩
            have fx_9 : x_9.toInt = x4.toInt + 1 := by rw [ex_9]; exact i_add (by first | omega | (show (_ : Int) ≤ x4.toInt + 1; omega)) (by first | omega | (show x4.toInt + 1 ≤ (_ : Int); omega))
            refine lv_iinc (v := x_9) (lv' := [(4, .int x_9), (6, .int x_5), (0, .ref (bd 0)), (1, .int 0), (2, .int p2), (3, .int p3), (5, .int x5)]) hx hb dX12_worked_80 hl (k := 5) rfl (by rw [ex_9]; rfl) (by decide) rfl (fun ls hl => ?_)
            refine lv_goto (tgt := 182) hx hb dX12_worked_83 (by decide) ?_
            obtain ⟨x_10, ex_10⟩ : ∃ y : Int32, y = x5 + 1 := ⟨_, rfl⟩
            have fx_10 : x_10.toInt = x5.toInt + 1 := by rw [ex_10]; exact i_add (by first | omega | (show (_ : Int) ≤ x5.toInt + 1; omega)) (by first | omega | (show x5.toInt + 1 ≤ (_ : Int); omega))
            refine lv_iinc (v := x_10) (lv' := [(5, .int x_10), (4, .int x_9), (6, .int x_5), (0, .ref (bd 0)), (1, .int 0), (2, .int p2), (3, .int p3)]) hx hb dX12_worked_182 hl (k := 6) rfl (by rw [ex_10]; rfl) (by decide) rfl (fun ls hl => ?_)
            refine lv_goto (tgt := 12) hx hb dX12_worked_185 (by decide) ?_
            have q0_0 : (0 : Int32).toInt = 0 := rfl
            exact ih x_9 x_10 (upd c12_b26 x4.toNatClampNeg x_8) _ _ (by omega) (by omega) (by omega) (by omega) (by rcases hs with ⟨q1, q⟩ | ⟨q1, q2, q3, q⟩ | ⟨q1, q2, q⟩ | ⟨q1, q2, q3, q4, q5, q⟩ <;> first | (exfalso; omega) | exact RHI_cast q (by have z1 : x5.toNatClampNeg = x5.toInt.toNat := rfl; have z2 : x_10.toNatClampNeg = x_10.toInt.toNat := rfl; omega) (by omega) (by omega)) (by omega) hP hD hS ls (lv_sub hl [3, 4, 5, 6, 1, 0] rfl)
        ·
          have kc_6 : x_5.toInt ≠ (1 : Int) := i_ne c_6
          refine lv_iload hx hb dX12_worked_39 (lv_at hl 0 rfl) ?_
          refine lv_iconst (v := 2) hx hb dX12_worked_41 (by decide) ?_
          refine lv_icmp_ne (tgt := 86) hx hb dX12_worked_42 (by decide) (fun c_11 => ?_) (fun c_11 => ?_)
          ·
            have kc_11 : x_5.toInt ≠ (2 : Int) := i_ne c_11
            refine lv_iload hx hb dX12_worked_86 (lv_at hl 0 rfl) ?_
            refine lv_iconst (v := 3) hx hb dX12_worked_88 (by decide) ?_
            refine lv_icmp_ne (tgt := 121) hx hb dX12_worked_89 (by decide) (fun c_12 => ?_) (fun c_12 => ?_)
            ·
              have kc_12 : x_5.toInt ≠ (3 : Int) := i_ne c_12
              refine lv_iload hx hb dX12_worked_121 (lv_at hl 0 rfl) ?_
              refine lv_iconst (v := 4) hx hb dX12_worked_123 (by decide) ?_
              refine lv_icmp_ne (tgt := 149) hx hb dX12_worked_124 (by decide) (fun c_13 => ?_) (fun c_13 => ?_)
              ·
                have kc_13 : x_5.toInt ≠ (4 : Int) := i_ne c_13
                obtain ⟨x_14, ex_14⟩ : ∃ y : Int32, y = x4 + (-1) := ⟨_, rfl⟩
                have fx_14 : x_14.toInt = x4.toInt + (-1) := by rw [ex_14]; exact i_add (by first | omega | (show (_ : Int) ≤ x4.toInt + (-1); omega)) (by first | omega | (show x4.toInt + (-1) ≤ (_ : Int); omega))
                refine lv_iinc (v := x_14) (lv' := [(4, .int x_14), (6, .int x_5), (0, .ref (bd 0)), (1, .int 0), (2, .int p2), (3, .int p3), (5, .int x5)]) hx hb dX12_worked_149 hl (k := 5) rfl (by rw [ex_14]; rfl) (by decide) rfl (fun ls hl => ?_)
                refine lv_aload_n hx hb dX12_worked_152 rfl (lv_at hl 2 rfl) ?_
                refine gr_pile hx hb hg hown hK hP (hg _ q5_18) dX12_worked_153 ?_
                refine lv_iload hx hb dX12_worked_156 (lv_at hl 0 rfl) ?_
                refine lv_iconst (v := 1) hx hb dX12_worked_158 (by decide) ?_
                refine lv_isub hx hb dX12_worked_159 ?_
                refine lv_topi (fun x_15 ex_15 => ?_)
                have fx_15 : x_15.toInt = x_14.toInt - (1 : Int) := by rw [ex_15]; exact i_sub (by first | omega | (show (_ : Int) ≤ x_14.toInt - (1 : Int); omega)) (by first | omega | (show x_14.toInt - (1 : Int) ≤ (_ : Int); omega))
                refine lv_iload hx hb dX12_worked_160 (lv_at hl 1 rfl) ?_
                refine lv_aload_n hx hb dX12_worked_162 rfl (lv_at hl 2 rfl) ?_
                refine gr_pile hx hb hg hown hK hP (hg _ q5_18) dX12_worked_163 ?_
                refine lv_iload hx hb dX12_worked_166 (lv_at hl 0 rfl) ?_
                refine lv_iconst (v := 1) hx hb dX12_worked_168 (by decide) ?_
                refine lv_isub hx hb dX12_worked_169 ?_
                refine lv_topi (fun x_16 ex_16 => ?_)
                have fx_16 : x_16.toInt = x_14.toInt - (1 : Int) := by rw [ex_16]; exact i_sub (by first | omega | (show (_ : Int) ≤ x_14.toInt - (1 : Int); omega)) (by first | omega | (show x_14.toInt - (1 : Int) ≤ (_ : Int); omega))
                refine lr_pile hx hb hK hP (i_in (by omega) (by omega)) dX12_worked_170 ?_
                refine lv_topi (fun x_17 ex_17 => ?_)
                have ex_17 : x_17 = c12_b26 x_16.toNatClampNeg := ex_17
                have hx_17 : x_17.toInt = (c12_b26 x_16.toNatClampNeg).toInt := by rw [ex_17]
                refine lv_aload_n hx hb dX12_worked_171 rfl (lv_at hl 2 rfl) ?_
                refine gr_pile hx hb hg hown hK hP (hg _ q5_18) dX12_worked_172 ?_
                refine lv_iload hx hb dX12_worked_175 (lv_at hl 0 rfl) ?_
                refine lr_pile hx hb hK hP (i_in (by omega) (by omega)) dX12_worked_177 ?_
                refine lv_topi (fun x_18 ex_18 => ?_)
                have ex_18 : x_18 = c12_b26 x_14.toNatClampNeg := ex_18
                have hx_18 : x_18.toInt = (c12_b26 x_14.toNatClampNeg).toInt := by rw [ex_18]
                refine cS_p (As := [.int x_5, .int x_17, .int x_18]) (rest := [.int x_15, .ref (bd 26)]) ⟨hx, hb, hml, hown, hg⟩ (k_X12_twoOf l   x_5 x_17 x_18 ) ca_X12_twoOf q6_122 ⟨rfl, rfl⟩ ⟨Nat.le_of_ble_eq_true rfl, Nat.le_of_ble_eq_true rfl⟩ rfl hl.1 rfl (Nat.le_of_ble_eq_true rfl) ⟨Nat.zero_le _, Nat.zero_le _⟩ dX12_worked_178 (fun r_19 wr_19 => ?_)
                refine sr_pile hx hb hK hP hD hS (i_in (by omega) (by omega)) dX12_worked_181 (fun H locs hP hD hS => ?_)
                obtain ⟨x_20, ex_20⟩ : ∃ y : Int32, y = x5 + 1 := ⟨_, rfl⟩
                have fx_20 : x_20.toInt = x5.toInt + 1 := by rw [ex_20]; exact i_add (by first | omega | (show (_ : Int) ≤ x5.toInt + 1; omega)) (by first | omega | (show x5.toInt + 1 ≤ (_ : Int); omega))
                refine lv_iinc (v := x_20) (lv' := [(5, .int x_20), (4, .int x_14), (6, .int x_5), (0, .ref (bd 0)), (1, .int 0), (2, .int p2), (3, .int p3)]) hx hb dX12_worked_182 hl (k := 6) rfl (by rw [ex_20]; rfl) (by decide) rfl (fun ls hl => ?_)
                refine lv_goto (tgt := 12) hx hb dX12_worked_185 (by decide) ?_
                have q0_0 : (0 : Int32).toInt = 0 := rfl
                exact ih x_14 x_20 (upd c12_b26 x_15.toNatClampNeg r_19) _ _ (by omega) (by omega) (by omega) (by omega) (by rcases hs with ⟨q1, q⟩ | ⟨q1, q2, q3, q⟩ | ⟨q1, q2, q⟩ | ⟨q1, q2, q3, q4, q5, q⟩ <;> first | (exfalso; omega) | exact RHI_cast q (by have z1 : x5.toNatClampNeg = x5.toInt.toNat := rfl; have z2 : x_20.toNatClampNeg = x_20.toInt.toNat := rfl; omega) (by omega) (by omega)) (by omega) hP hD hS ls (lv_sub hl [3, 4, 5, 6, 1, 0] rfl)
              ·
                have kc_13 : x_5.toInt = (4 : Int) := i_eq c_13
                refine lv_aload_n hx hb dX12_worked_127 rfl (lv_at hl 1 rfl) ?_
                refine gr_pile hx hb hg hown hK hP (hg _ q5_18) dX12_worked_128 ?_
                refine lv_iload hx hb dX12_worked_131 (lv_at hl 5 rfl) ?_
                refine lv_iconst (v := 1) hx hb dX12_worked_133 (by decide) ?_
                refine lv_isub hx hb dX12_worked_134 ?_
                refine lv_topi (fun x_21 ex_21 => ?_)
                have fx_21 : x_21.toInt = x4.toInt - (1 : Int) := by rw [ex_21]; exact i_sub (by first | omega | (show (_ : Int) ≤ x4.toInt - (1 : Int); omega)) (by first | omega | (show x4.toInt - (1 : Int) ≤ (_ : Int); omega))
                refine lv_aload_n hx hb dX12_worked_135 rfl (lv_at hl 1 rfl) ?_
                refine gr_pile hx hb hg hown hK hP (hg _ q5_18) dX12_worked_136 ?_
                refine lv_iload hx hb dX12_worked_139 (lv_at hl 5 rfl) ?_
                refine lv_iconst (v := 1) hx hb dX12_worked_141 (by decide) ?_
                refine lv_isub hx hb dX12_worked_142 ?_
                refine lv_topi (fun x_22 ex_22 => ?_)
                have fx_22 : x_22.toInt = x4.toInt - (1 : Int) := by rw [ex_22]; exact i_sub (by first | omega | (show (_ : Int) ≤ x4.toInt - (1 : Int); omega)) (by first | omega | (show x4.toInt - (1 : Int) ≤ (_ : Int); omega))
                refine lr_pile hx hb hK hP (i_in (by omega) (by omega)) dX12_worked_143 ?_
                refine lv_topi (fun x_23 ex_23 => ?_)
                have ex_23 : x_23 = c12_b26 x_22.toNatClampNeg := ex_23
                have hx_23 : x_23.toInt = (c12_b26 x_22.toNatClampNeg).toInt := by rw [ex_23]
                refine lv_ineg hx hb dX12_worked_144 ?_
                refine lv_topi (fun x_24 ex_24 => ?_)
                refine sr_pile hx hb hK hP hD hS (i_in (by omega) (by omega)) dX12_worked_145 (fun H locs hP hD hS => ?_)
                refine lv_goto (tgt := 182) hx hb dX12_worked_146 (by decide) ?_
                obtain ⟨x_25, ex_25⟩ : ∃ y : Int32, y = x5 + 1 := ⟨_, rfl⟩
                have fx_25 : x_25.toInt = x5.toInt + 1 := by rw [ex_25]; exact i_add (by first | omega | (show (_ : Int) ≤ x5.toInt + 1; omega)) (by first | omega | (show x5.toInt + 1 ≤ (_ : Int); omega))
                refine lv_iinc (v := x_25) (lv' := [(5, .int x_25), (6, .int x_5), (0, .ref (bd 0)), (1, .int 0), (2, .int p2), (3, .int p3), (4, .int x4)]) hx hb dX12_worked_182 hl (k := 6) rfl (by rw [ex_25]; rfl) (by decide) rfl (fun ls hl => ?_)
                refine lv_goto (tgt := 12) hx hb dX12_worked_185 (by decide) ?_
                have q0_0 : (0 : Int32).toInt = 0 := rfl
                exact ih x4 x_25 (upd c12_b26 x_21.toNatClampNeg x_24) _ _ (by omega) (by omega) (by omega) (by omega) (by rcases hs with ⟨q1, q⟩ | ⟨q1, q2, q3, q⟩ | ⟨q1, q2, q⟩ | ⟨q1, q2, q3, q4, q5, q⟩ <;> first | (exfalso; omega) | exact RHI_cast q (by have z1 : x5.toNatClampNeg = x5.toInt.toNat := rfl; have z2 : x_25.toNatClampNeg = x_25.toInt.toNat := rfl; omega) (by omega) (by omega)) (by omega) hP hD hS ls (lv_sub hl [2, 3, 4, 5, 6, 0] rfl)
            ·
              have kc_12 : x_5.toInt = (3 : Int) := i_eq c_12
              refine lv_aload_n hx hb dX12_worked_92 rfl (lv_at hl 1 rfl) ?_
              refine gr_pile hx hb hg hown hK hP (hg _ q5_18) dX12_worked_93 ?_
              refine lv_iload hx hb dX12_worked_96 (lv_at hl 5 rfl) ?_
              refine lv_iconst (v := 1) hx hb dX12_worked_98 (by decide) ?_
              refine lv_isub hx hb dX12_worked_99 ?_
              refine lv_topi (fun x_26 ex_26 => ?_)
              have fx_26 : x_26.toInt = x4.toInt - (1 : Int) := by rw [ex_26]; exact i_sub (by first | omega | (show (_ : Int) ≤ x4.toInt - (1 : Int); omega)) (by first | omega | (show x4.toInt - (1 : Int) ≤ (_ : Int); omega))
              refine lv_aload_n hx hb dX12_worked_100 rfl (lv_at hl 1 rfl) ?_
              refine gr_pile hx hb hg hown hK hP (hg _ q5_18) dX12_worked_101 ?_
              refine lv_iload hx hb dX12_worked_104 (lv_at hl 5 rfl) ?_
              refine lv_iconst (v := 1) hx hb dX12_worked_106 (by decide) ?_
              refine lv_isub hx hb dX12_worked_107 ?_
              refine lv_topi (fun x_27 ex_27 => ?_)
              have fx_27 : x_27.toInt = x4.toInt - (1 : Int) := by rw [ex_27]; exact i_sub (by first | omega | (show (_ : Int) ≤ x4.toInt - (1 : Int); omega)) (by first | omega | (show x4.toInt - (1 : Int) ≤ (_ : Int); omega))
              refine lr_pile hx hb hK hP (i_in (by omega) (by omega)) dX12_worked_108 ?_
              refine lv_topi (fun x_28 ex_28 => ?_)
              have ex_28 : x_28 = c12_b26 x_27.toNatClampNeg := ex_28
              have hx_28 : x_28.toInt = (c12_b26 x_27.toNatClampNeg).toInt := by rw [ex_28]
              refine lv_if_ne (tgt := 116) hx hb dX12_worked_109 (by decide) (fun c_29 => ?_) (fun c_29 => ?_)
              ·
                have kc_29 : x_28.toInt ≠ (0 : Int) := i_ne c_29
                refine lv_iconst (v := 0) hx hb dX12_worked_116 (by decide) ?_
                refine sr_pile hx hb hK hP hD hS (i_in (by omega) (by omega)) dX12_worked_117 (fun H locs hP hD hS => ?_)
                refine lv_goto (tgt := 182) hx hb dX12_worked_118 (by decide) ?_
                obtain ⟨x_30, ex_30⟩ : ∃ y : Int32, y = x5 + 1 := ⟨_, rfl⟩
                have fx_30 : x_30.toInt = x5.toInt + 1 := by rw [ex_30]; exact i_add (by first | omega | (show (_ : Int) ≤ x5.toInt + 1; omega)) (by first | omega | (show x5.toInt + 1 ≤ (_ : Int); omega))
                refine lv_iinc (v := x_30) (lv' := [(5, .int x_30), (6, .int x_5), (0, .ref (bd 0)), (1, .int 0), (2, .int p2), (3, .int p3), (4, .int x4)]) hx hb dX12_worked_182 hl (k := 6) rfl (by rw [ex_30]; rfl) (by decide) rfl (fun ls hl => ?_)
                refine lv_goto (tgt := 12) hx hb dX12_worked_185 (by decide) ?_
                have q0_0 : (0 : Int32).toInt = 0 := rfl
                exact ih x4 x_30 (upd c12_b26 x_26.toNatClampNeg 0) _ _ (by omega) (by omega) (by omega) (by omega) (by rcases hs with ⟨q1, q⟩ | ⟨q1, q2, q3, q⟩ | ⟨q1, q2, q⟩ | ⟨q1, q2, q3, q4, q5, q⟩ <;> first | (exfalso; omega) | exact RHI_cast q (by have z1 : x5.toNatClampNeg = x5.toInt.toNat := rfl; have z2 : x_30.toNatClampNeg = x_30.toInt.toNat := rfl; omega) (by omega) (by omega)) (by omega) hP hD hS ls (lv_sub hl [2, 3, 4, 5, 6, 0] rfl)
              ·
                have kc_29 : x_28.toInt = (0 : Int) := i_eq c_29
                refine lv_iconst (v := 1) hx hb dX12_worked_112 (by decide) ?_
                refine lv_goto (tgt := 117) hx hb dX12_worked_113 (by decide) ?_
                refine sr_pile hx hb hK hP hD hS (i_in (by omega) (by omega)) dX12_worked_117 (fun H locs hP hD hS => ?_)
                refine lv_goto (tgt := 182) hx hb dX12_worked_118 (by decide) ?_
                obtain ⟨x_31, ex_31⟩ : ∃ y : Int32, y = x5 + 1 := ⟨_, rfl⟩
                have fx_31 : x_31.toInt = x5.toInt + 1 := by rw [ex_31]; exact i_add (by first | omega | (show (_ : Int) ≤ x5.toInt + 1; omega)) (by first | omega | (show x5.toInt + 1 ≤ (_ : Int); omega))
                refine lv_iinc (v := x_31) (lv' := [(5, .int x_31), (6, .int x_5), (0, .ref (bd 0)), (1, .int 0), (2, .int p2), (3, .int p3), (4, .int x4)]) hx hb dX12_worked_182 hl (k := 6) rfl (by rw [ex_31]; rfl) (by decide) rfl (fun ls hl => ?_)
                refine lv_goto (tgt := 12) hx hb dX12_worked_185 (by decide) ?_
                have q0_0 : (0 : Int32).toInt = 0 := rfl
                exact ih x4 x_31 (upd c12_b26 x_26.toNatClampNeg 1) _ _ (by omega) (by omega) (by omega) (by omega) (by rcases hs with ⟨q1, q⟩ | ⟨q1, q2, q3, q⟩ | ⟨q1, q2, q⟩ | ⟨q1, q2, q3, q4, q5, q⟩ <;> first | (exfalso; omega) | exact RHI_cast q (by have z1 : x5.toNatClampNeg = x5.toInt.toNat := rfl; have z2 : x_31.toNatClampNeg = x_31.toInt.toNat := rfl; omega) (by omega) (by omega)) (by omega) hP hD hS ls (lv_sub hl [2, 3, 4, 5, 6, 0] rfl)
          ·
            have kc_11 : x_5.toInt = (2 : Int) := i_eq c_11
            refine lv_aload_n hx hb dX12_worked_45 rfl (lv_at hl 1 rfl) ?_
            refine gr_pile hx hb hg hown hK hP (hg _ q5_18) dX12_worked_46 ?_
            refine lv_iload hx hb dX12_worked_49 (lv_at hl 5 rfl) ?_
            refine lv_iload hx hb dX12_worked_51 (lv_at hl 0 rfl) ?_
            refine lv_iconst (v := 1) hx hb dX12_worked_53 (by decide) ?_
            refine lv_icmp_ne (tgt := 67) hx hb dX12_worked_54 (by decide) (fun c_32 => ?_) (fun c_32 => ?_)
            ·
              have kc_32 : x_5.toInt ≠ (1 : Int) := i_ne c_32
              refine lv_aload_n hx hb dX12_worked_67 rfl (lv_at hl 1 rfl) ?_
              refine gr_facts hx hb hg hown hK hP (hg _ q5_17) dX12_worked_68 ?_
              refine lv_aload_n hx hb dX12_worked_71 rfl (lv_at hl 1 rfl) ?_
              refine gr_with hx hb hg hown hK hP (hg _ q5_13) dX12_worked_72 ?_
              refine lv_iload hx hb dX12_worked_75 (lv_at hl 6 rfl) ?_
              refine lr_with hx hb hK hP (i_in (by omega) (by omega)) dX12_worked_77 ?_
              refine lv_topi (fun x_33 ex_33 => ?_)
              have ex_33 : x_33 = (b 21) x5.toNatClampNeg := ex_33
              have hx_33 : x_33.toInt = ((b 21) x5.toNatClampNeg).toInt := by rw [ex_33]
              refine lr_facts hx hb hK hP (i_in (by omega) (by omega)) dX12_worked_78 ?_
              refine lv_topi (fun x_34 ex_34 => ?_)
              have ex_34 : x_34 = (b 25) x_33.toNatClampNeg := ex_34
              have hx_34 : x_34.toInt = ((b 25) x_33.toNatClampNeg).toInt := by rw [ex_34]
              refine sr_pile hx hb hK hP hD hS (i_in (by omega) (by omega)) dX12_worked_79 (fun H locs hP hD hS => ?_)
              obtain ⟨x_35, ex_35⟩ : ∃ y : Int32, y = x4 + 1 := ⟨_, rfl⟩
              have fx_35 : x_35.toInt = x4.toInt + 1 := by rw [ex_35]; exact i_add (by first | omega | (show (_ : Int) ≤ x4.toInt + 1; omega)) (by first | omega | (show x4.toInt + 1 ≤ (_ : Int); omega))
              refine lv_iinc (v := x_35) (lv' := [(4, .int x_35), (6, .int x_5), (0, .ref (bd 0)), (1, .int 0), (2, .int p2), (3, .int p3), (5, .int x5)]) hx hb dX12_worked_80 hl (k := 5) rfl (by rw [ex_35]; rfl) (by decide) rfl (fun ls hl => ?_)
              refine lv_goto (tgt := 182) hx hb dX12_worked_83 (by decide) ?_
              obtain ⟨x_36, ex_36⟩ : ∃ y : Int32, y = x5 + 1 := ⟨_, rfl⟩
              have fx_36 : x_36.toInt = x5.toInt + 1 := by rw [ex_36]; exact i_add (by first | omega | (show (_ : Int) ≤ x5.toInt + 1; omega)) (by first | omega | (show x5.toInt + 1 ≤ (_ : Int); omega))
              refine lv_iinc (v := x_36) (lv' := [(5, .int x_36), (4, .int x_35), (6, .int x_5), (0, .ref (bd 0)), (1, .int 0), (2, .int p2), (3, .int p3)]) hx hb dX12_worked_182 hl (k := 6) rfl (by rw [ex_36]; rfl) (by decide) rfl (fun ls hl => ?_)
              refine lv_goto (tgt := 12) hx hb dX12_worked_185 (by decide) ?_
              have q0_0 : (0 : Int32).toInt = 0 := rfl
              exact ih x_35 x_36 (upd c12_b26 x4.toNatClampNeg x_34) _ _ (by omega) (by omega) (by omega) (by omega) (by rcases hs with ⟨q1, q⟩ | ⟨q1, q2, q3, q⟩ | ⟨q1, q2, q⟩ | ⟨q1, q2, q3, q4, q5, q⟩ <;> first | (exfalso; omega) | exact RHI_cast q (by have z1 : x5.toNatClampNeg = x5.toInt.toNat := rfl; have z2 : x_36.toNatClampNeg = x_36.toInt.toNat := rfl; omega) (by omega) (by omega)) (by omega) hP hD hS ls (lv_sub hl [3, 4, 5, 6, 1, 0] rfl)
            ·
              have kc_32 : x_5.toInt = (1 : Int) := i_eq c_32
              exfalso; omega
  refine lv_iconst (v := 0) hx hb dX12_worked_0 (by decide) ?_
  refine lv_istore (lv' := [(4, .int 0), (0, .ref (bd 0)), (1, .int 0), (2, .int p2), (3, .int p3)]) hx hb dX12_worked_1 hl (by decide) rfl (fun ls hl => ?_)
  refine lv_sipush (v := 130) hx hb dX12_worked_3 (by decide) ?_
  refine lv_iload_n hx hb dX12_worked_6 rfl (lv_at hl 2 rfl) ?_
  refine lv_imul hx hb dX12_worked_7 ?_
  refine lv_topi (fun x_37 ex_37 => ?_)
  have fx_37 : x_37 = 0 := by rw [ex_37]; rfl
  subst fx_37
  refine lv_iload_n hx hb dX12_worked_8 rfl (lv_at hl 3 rfl) ?_
  refine lv_iadd hx hb dX12_worked_9 ?_
  refine lv_topi (fun x_38 ex_38 => ?_)
  have fx_38 : x_38.toInt = (0 : Int) + p2.toInt := by rw [ex_38]; exact i_add (by first | omega | (show (_ : Int) ≤ (0 : Int) + p2.toInt; omega)) (by first | omega | (show (0 : Int) + p2.toInt ≤ (_ : Int); omega))
  refine lv_istore (lv' := [(5, .int x_38), (4, .int 0), (0, .ref (bd 0)), (1, .int 0), (2, .int p2), (3, .int p3)]) hx hb dX12_worked_10 hl (by decide) rfl (fun ls hl => ?_)
  have q0_0 : (0 : Int32).toInt = 0 := rfl
  exact (hcut (((p3.toInt - x_38.toInt).toNat) + 1)) 0 x_38 (b 26) _ _ (by omega) (by omega) (by omega) (by omega) (by obtain ⟨h9, q⟩ := hseg; exact RHI_cast q (by have z1 : p2.toNatClampNeg = p2.toInt.toNat := rfl; have z2 : x_38.toNatClampNeg = x_38.toInt.toNat := rfl; omega) (by omega) (by rfl)) (Nat.lt_succ_self _) hP hD hS ls (lv_sub hl [2, 3, 4, 5, 1, 0] rfl)
set_option maxHeartbeats 4000000 in
set_option maxRecDepth 100000 in
theorem k_X12_gives (l : Launch) (D : va_G) (cs : Nat → ClassId) (A : Nat → Prop) (bd : Nat → Nat) (u : Nat → Int32) (b : Nat → Nat → Int32) (bw : Nat → Nat → Int64)   (hlaw : LAWOK (b 20) (b 21) (b 22) (b 23) (b 24)) (ib23_0 : AB (-32768) 32767 (b 23)) (ib24_0 : AB (-32768) 32767 (b 24)) (ib20_0 : AB (-128) 127 (b 20)) : Met l yX12_gives (Cond.code yX12_gives cX12_gives 4 (some .int) :: gw) ({ frames := 2, cells := 0, slots := 0, locals := 48 }) (va_Pc [.ref (bd 0), .int 0] (XPre D (TY cs) (RW cs bd u b bw) A)) (va_Qi (fun (r : Int32) (z : Nat → Int32) => True) (XPo D (fun (z : Nat → Int32) => RW cs bd u (va_up b 26 z) bw) A) A) 0 0 A := by
  refine Met.ofW (cc := cX12_gives) (maxL := 4) (ret := (some .int)) (by decide) rfl ?_
  intro p e s m args below meth c s₁ B hml hv
  obtain ⟨rfl, hP, hK, hD, hZ⟩ := hv
  have hx := B.exec
  have hb := B.bytes
  have hr := B.returns
  have hts := atoms_spec (ws := (Cond.code yX12_gives cX12_gives 4 (some .int) :: gw)) B.pre
  have hg : ∀ w ∈ gw, w.before ([.ref (bd 0), .int 0] : List Value).toArray s = true := fun w h => hts w (List.mem_cons_of_mem _ h)
  have hown : s.vm.findClass RX12 = some m.cls := findClass_of_methodNamed B.named
  have hlocks := B.notSynchronized
  have hS : va_S A s.heap s.heap [] := va_S.rf
  have hP : va_P D vwCl (RW cs bd u b bw) s.heap := hP
  have hlm := hlaw.1
  have hlm2 := hlaw.2.1
  have hl := lv_entry ([.ref (bd 0), .int 0]) (n := 4) (Nat.le_of_ble_eq_true rfl)
  rw [lg_entry_eq]
  generalize (lg_sl ([.ref (bd 0), .int 0]) ++ List.replicate (4 - (lg_sl ([.ref (bd 0), .int 0])).length) Slot.unset).toArray = ls at hl ⊢
  have hl : lv_has ls 4 [(0, .ref (bd 0)), (1, .int 0)] := hl
  have hcut : ∀ nk : Nat, (∀ (x2 : Int32) (x3 : Int32) (c7_b26 : Nat → Int32) (H : Heap) (locs : List Loc) (i3 : 0 ≤ x3.toInt) (i3b : x3.toInt ≤ 61) (hf3 : (x3.toInt = 0 → x2.toInt = 0) ∧ (0 < x3.toInt → x2.toInt = ((b 24) (x3.toInt.toNat - 1)).toInt)) (hmu : (((b 22) 0).toInt - x3.toInt).toNat < nk) (hP : va_P D vwCl (RW cs bd u (va_up b 26 c7_b26) bw) H) (hD : va_D A (RW cs bd u (va_up b 26 c7_b26) bw)) (hS : va_S A s.heap H locs) (ls : Array Slot) (hl : lv_has ls 4 [(0, .ref (bd 0)), (1, .int 0), (2, .int x2), (3, .int x3)]), W p l e (headSpec (Cond.code yX12_gives cX12_gives 4 (some .int) :: gw) ({ frames := 2, cells := 0, slots := 0, locals := 48 })).room s m ([.ref (bd 0), .int 0] : List Value).toArray below meth c H locs 0 0 (MQ below (va_Qi (fun (r : Int32) (z : Nat → Int32) => True) (XPo D (fun (z : Nat → Int32) => RW cs bd u (va_up b 26 z) bw) A) A) ([.ref (bd 0), .int 0] : List Value).toArray s 0 0 A) (F0 m 7 ls [])) := by
    intro nk
    induction nk with
    | zero => exact (fun x2 x3 c7_b26 H locs i3 i3b hf3 hmu hP hD hS ls hl => absurd hmu (Nat.not_lt_zero _))
    | succ nk ih =>
      intro x2 x3 c7_b26 H locs i3 i3b hf3 hmu hP hD hS ls hl
      refine lv_iload_n hx hb dX12_gives_7 rfl (lv_at hl 3 rfl) ?_
      refine lv_bipush (v := 61) hx hb dX12_gives_8 (by decide) ?_
      refine lv_iload_n hx hb dX12_gives_10 rfl (lv_at hl 1 rfl) ?_
      refine lv_imul hx hb dX12_gives_11 ?_
      refine lv_topi (fun x_1 ex_1 => ?_)
      have fx_1 : x_1 = 0 := by rw [ex_1]; rfl
      subst fx_1
      refine lv_aload_n hx hb dX12_gives_12 rfl (lv_at hl 0 rfl) ?_
      refine gr_lineMany hx hb hg hown hK hP (hg _ q5_14) dX12_gives_13 ?_
      refine lv_iload_n hx hb dX12_gives_16 rfl (lv_at hl 1 rfl) ?_
      refine lr_lineMany hx hb hK hP (i_in (by decide) (by decide)) dX12_gives_17 ?_
      refine lv_topi (fun x_2 ex_2 => ?_)
      have ex_2 : x_2 = (b 22) (0 : Int32).toNatClampNeg := ex_2
      have hx_2 : x_2.toInt = ((b 22) (0 : Int32).toNatClampNeg).toInt := by rw [ex_2]
      have nx_2 : x_2.toInt = ((b 22) 0).toInt := hx_2
      refine lv_iadd hx hb dX12_gives_18 ?_
      refine lv_topi (fun x_3 ex_3 => ?_)
      have fx_3 : x_3.toInt = (0 : Int) + x_2.toInt := by rw [ex_3]; exact i_add (by first | omega | (show (_ : Int) ≤ (0 : Int) + x_2.toInt; omega)) (by first | omega | (show (0 : Int) + x_2.toInt ≤ (_ : Int); omega))
      refine lv_icmp_ge (tgt := 78) hx hb dX12_gives_19 (by decide) (fun c_4 => ?_) (fun c_4 => ?_)
      ·
        have kc_4 : x_3.toInt ≤ x3.toInt := i_le c_4
        refine lv_iconst (v := 0) hx hb dX12_gives_78 (by decide) ?_
        have q0_0 : (0 : Int32).toInt = 0 := rfl
        exact W.iret (v := 0) hx hb hr (fun tt ht hW => ⟨⟨0, c7_b26, rfl, trivial, by rw [ht]; exact hP, hD⟩, hS.F ht⟩) hS.2.2 dX12_gives_79
      ·
        have kc_4 : x3.toInt < x_3.toInt := i_nle c_4
        have z3 : x3.toNatClampNeg = x3.toInt.toNat := rfl
        obtain ⟨lf, lt, le, l1, l2, l3, l4, l5, l6, l7, l8, l9⟩ := hlaw.2.2 x3.toNatClampNeg (by omega)
        have l0 : x2.toInt = (lf : Int) := (show x3.toInt = 0 ∨ 0 < x3.toInt by omega).elim (fun q => by have a1 := hf3.1 q; have a2 := l4 (by omega); omega) (fun q => (hf3.2 q).trans (l5 (by omega)))
        refine lv_aload_n hx hb dX12_gives_22 rfl (lv_at hl 0 rfl) ?_
        refine gr_testEnd hx hb hg hown hK hP (hg _ q5_15) dX12_gives_23 ?_
        refine lv_iload_n hx hb dX12_gives_26 rfl (lv_at hl 3 rfl) ?_
        refine lr_testEnd hx hb hK hP (i_in (by omega) (by omega)) dX12_gives_27 ?_
        refine lv_topi (fun x_5 ex_5 => ?_)
        have ex_5 : x_5 = (b 23) x3.toNatClampNeg := ex_5
        have hx_5 : x_5.toInt = ((b 23) x3.toNatClampNeg).toInt := by rw [ex_5]
        have bx_5 := ib23_0 x3.toNatClampNeg
        rw [← ex_5] at bx_5
        refine lv_iload_n hx hb dX12_gives_28 rfl (lv_at hl 2 rfl) ?_
        refine lv_icmp_eq (tgt := 47) hx hb dX12_gives_29 (by decide) (fun c_6 => ?_) (fun c_6 => ?_)
        ·
          have kc_6 : x_5.toInt = x2.toInt := i_eq c_6
          refine lv_aload_n hx hb dX12_gives_47 rfl (lv_at hl 0 rfl) ?_
          refine lv_iload_n hx hb dX12_gives_48 rfl (lv_at hl 1 rfl) ?_
          refine lv_aload_n hx hb dX12_gives_49 rfl (lv_at hl 0 rfl) ?_
          refine gr_testEnd hx hb hg hown hK hP (hg _ q5_15) dX12_gives_50 ?_
          refine lv_iload_n hx hb dX12_gives_53 rfl (lv_at hl 3 rfl) ?_
          refine lr_testEnd hx hb hK hP (i_in (by omega) (by omega)) dX12_gives_54 ?_
          refine lv_topi (fun x_7 ex_7 => ?_)
          have ex_7 : x_7 = (b 23) x3.toNatClampNeg := ex_7
          have hx_7 : x_7.toInt = ((b 23) x3.toNatClampNeg).toInt := by rw [ex_7]
          have bx_7 := ib23_0 x3.toNatClampNeg
          rw [← ex_7] at bx_7
          refine lv_aload_n hx hb dX12_gives_55 rfl (lv_at hl 0 rfl) ?_
          refine gr_lineEnd hx hb hg hown hK hP (hg _ q5_16) dX12_gives_56 ?_
          refine lv_iload_n hx hb dX12_gives_59 rfl (lv_at hl 3 rfl) ?_
          refine lr_lineEnd hx hb hK hP (i_in (by omega) (by omega)) dX12_gives_60 ?_
          refine lv_topi (fun x_8 ex_8 => ?_)
          have ex_8 : x_8 = (b 24) x3.toNatClampNeg := ex_8
          have hx_8 : x_8.toInt = ((b 24) x3.toNatClampNeg).toInt := by rw [ex_8]
          have bx_8 := ib24_0 x3.toNatClampNeg
          rw [← ex_8] at bx_8
          refine cV_i (As := [.int 0, .int x_7, .int x_8]) (rest := []) ⟨hx, hb, hml, hown, hg⟩ (k_X12_worked l D cs A bd u (va_up b 26 c7_b26) bw  x_7 x_8 (show 0 ≤ x_7.toInt by first | omega | decide) (show x_7.toInt ≤ x_8.toInt by first | omega | decide) (show x_8.toInt ≤ 125 by first | omega | decide) (SEG_run l9 (by (have z1 : x_7.toNatClampNeg = x_7.toInt.toNat := rfl); omega) (by omega)) ib20_0) ca_X12_worked q6_118 ⟨rfl, rfl⟩ ⟨Nat.le_of_ble_eq_true rfl, Nat.le_of_ble_eq_true rfl⟩ (rc_model hK hP) hK hP hD hS hZ rfl hl.1 rfl (Nat.le_of_ble_eq_true rfl) ⟨Nat.zero_le _, Nat.zero_le _⟩ dX12_gives_61 (fun r_9 o_b26_10 H locs wr_9 hP hD hS => ?_)
          have hP : va_P D vwCl (RW cs bd u (va_up b 26 o_b26_10) bw) H := hP
          have hD : va_D A (RW cs bd u (va_up b 26 o_b26_10) bw) := hD
          have wr_9_0 : True := wr_9
          exact W.iret (v := r_9) hx hb hr (fun tt ht hW => ⟨⟨r_9, o_b26_10, rfl, trivial, by rw [ht]; exact hP, hD⟩, hS.F ht⟩) hS.2.2 dX12_gives_64
        ·
          have kc_6 : x_5.toInt ≠ x2.toInt := i_ne c_6
          refine lv_aload_n hx hb dX12_gives_32 rfl (lv_at hl 0 rfl) ?_
          refine lv_iload_n hx hb dX12_gives_33 rfl (lv_at hl 1 rfl) ?_
          refine lv_iload_n hx hb dX12_gives_34 rfl (lv_at hl 2 rfl) ?_
          refine lv_aload_n hx hb dX12_gives_35 rfl (lv_at hl 0 rfl) ?_
          refine gr_testEnd hx hb hg hown hK hP (hg _ q5_15) dX12_gives_36 ?_
          refine lv_iload_n hx hb dX12_gives_39 rfl (lv_at hl 3 rfl) ?_
          refine lr_testEnd hx hb hK hP (i_in (by omega) (by omega)) dX12_gives_40 ?_
          refine lv_topi (fun x_11 ex_11 => ?_)
          have ex_11 : x_11 = (b 23) x3.toNatClampNeg := ex_11
          have hx_11 : x_11.toInt = ((b 23) x3.toNatClampNeg).toInt := by rw [ex_11]
          have bx_11 := ib23_0 x3.toNatClampNeg
          rw [← ex_11] at bx_11
          refine cV_i (As := [.int 0, .int x2, .int x_11]) (rest := []) ⟨hx, hb, hml, hown, hg⟩ (k_X12_worked l D cs A bd u (va_up b 26 c7_b26) bw  x2 x_11 (show 0 ≤ x2.toInt by first | omega | decide) (show x2.toInt ≤ x_11.toInt by first | omega | decide) (show x_11.toInt ≤ 125 by first | omega | decide) (SEG_run (l8 (by omega)) (by (have z1 : x2.toNatClampNeg = x2.toInt.toNat := rfl); omega) (by omega)) ib20_0) ca_X12_worked q6_118 ⟨rfl, rfl⟩ ⟨Nat.le_of_ble_eq_true rfl, Nat.le_of_ble_eq_true rfl⟩ (rc_model hK hP) hK hP hD hS hZ rfl hl.1 rfl (Nat.le_of_ble_eq_true rfl) ⟨Nat.zero_le _, Nat.zero_le _⟩ dX12_gives_41 (fun r_12 o_b26_13 H locs wr_12 hP hD hS => ?_)
          have hP : va_P D vwCl (RW cs bd u (va_up b 26 o_b26_13) bw) H := hP
          have hD : va_D A (RW cs bd u (va_up b 26 o_b26_13) bw) := hD
          have wr_12_0 : True := wr_12
          refine lv_if_eq (tgt := 65) hx hb dX12_gives_44 (by decide) (fun c_14 => ?_) (fun c_14 => ?_)
          ·
            have kc_14 : r_12.toInt = (0 : Int) := i_eq c_14
            refine lv_aload_n hx hb dX12_gives_65 rfl (lv_at hl 0 rfl) ?_
            refine gr_lineEnd hx hb hg hown hK hP (hg _ q5_16) dX12_gives_66 ?_
            refine lv_iload_n hx hb dX12_gives_69 rfl (lv_at hl 3 rfl) ?_
            refine lr_lineEnd hx hb hK hP (i_in (by omega) (by omega)) dX12_gives_70 ?_
            refine lv_topi (fun x_15 ex_15 => ?_)
            have ex_15 : x_15 = (b 24) x3.toNatClampNeg := ex_15
            have hx_15 : x_15.toInt = ((b 24) x3.toNatClampNeg).toInt := by rw [ex_15]
            have bx_15 := ib24_0 x3.toNatClampNeg
            rw [← ex_15] at bx_15
            refine lv_istore_n (lv' := [(2, .int x_15), (0, .ref (bd 0)), (1, .int 0), (3, .int x3)]) hx hb dX12_gives_71 rfl hl (by decide) rfl (fun ls hl => ?_)
            obtain ⟨x_16, ex_16⟩ : ∃ y : Int32, y = x3 + 1 := ⟨_, rfl⟩
            have fx_16 : x_16.toInt = x3.toInt + 1 := by rw [ex_16]; exact i_add (by first | omega | (show (_ : Int) ≤ x3.toInt + 1; omega)) (by first | omega | (show x3.toInt + 1 ≤ (_ : Int); omega))
            refine lv_iinc (v := x_16) (lv' := [(3, .int x_16), (2, .int x_15), (0, .ref (bd 0)), (1, .int 0)]) hx hb dX12_gives_72 hl (k := 3) rfl (by rw [ex_16]; rfl) (by decide) rfl (fun ls hl => ?_)
            refine lv_goto (tgt := 7) hx hb dX12_gives_75 (by decide) ?_
            have q0_0 : (0 : Int32).toInt = 0 := rfl
            exact ih x_15 x_16 o_b26_13 _ _ (by omega) (by omega) ⟨fun q => by omega, fun _ => by (rw [show x_16.toInt.toNat - 1 = x3.toNatClampNeg from (by omega)]; omega)⟩ (by omega) hP hD hS ls (lv_sub hl [2, 3, 1, 0] rfl)
          ·
            have kc_14 : r_12.toInt ≠ (0 : Int) := i_ne c_14
            refine lv_aload_n hx hb dX12_gives_47 rfl (lv_at hl 0 rfl) ?_
            refine lv_iload_n hx hb dX12_gives_48 rfl (lv_at hl 1 rfl) ?_
            refine lv_aload_n hx hb dX12_gives_49 rfl (lv_at hl 0 rfl) ?_
            refine gr_testEnd hx hb hg hown hK hP (hg _ q5_15) dX12_gives_50 ?_
            refine lv_iload_n hx hb dX12_gives_53 rfl (lv_at hl 3 rfl) ?_
            refine lr_testEnd hx hb hK hP (i_in (by omega) (by omega)) dX12_gives_54 ?_
            refine lv_topi (fun x_17 ex_17 => ?_)
            have ex_17 : x_17 = (b 23) x3.toNatClampNeg := ex_17
            have hx_17 : x_17.toInt = ((b 23) x3.toNatClampNeg).toInt := by rw [ex_17]
            have bx_17 := ib23_0 x3.toNatClampNeg
            rw [← ex_17] at bx_17
            refine lv_aload_n hx hb dX12_gives_55 rfl (lv_at hl 0 rfl) ?_
            refine gr_lineEnd hx hb hg hown hK hP (hg _ q5_16) dX12_gives_56 ?_
            refine lv_iload_n hx hb dX12_gives_59 rfl (lv_at hl 3 rfl) ?_
            refine lr_lineEnd hx hb hK hP (i_in (by omega) (by omega)) dX12_gives_60 ?_
            refine lv_topi (fun x_18 ex_18 => ?_)
            have ex_18 : x_18 = (b 24) x3.toNatClampNeg := ex_18
            have hx_18 : x_18.toInt = ((b 24) x3.toNatClampNeg).toInt := by rw [ex_18]
            have bx_18 := ib24_0 x3.toNatClampNeg
            rw [← ex_18] at bx_18
            refine cV_i (As := [.int 0, .int x_17, .int x_18]) (rest := []) ⟨hx, hb, hml, hown, hg⟩ (k_X12_worked l D cs A bd u (va_up b 26 o_b26_13) bw  x_17 x_18 (show 0 ≤ x_17.toInt by first | omega | decide) (show x_17.toInt ≤ x_18.toInt by first | omega | decide) (show x_18.toInt ≤ 125 by first | omega | decide) (SEG_run l9 (by (have z1 : x_17.toNatClampNeg = x_17.toInt.toNat := rfl); omega) (by omega)) ib20_0) ca_X12_worked q6_118 ⟨rfl, rfl⟩ ⟨Nat.le_of_ble_eq_true rfl, Nat.le_of_ble_eq_true rfl⟩ (rc_model hK hP) hK hP hD hS hZ rfl hl.1 rfl (Nat.le_of_ble_eq_true rfl) ⟨Nat.zero_le _, Nat.zero_le _⟩ dX12_gives_61 (fun r_19 o_b26_20 H locs wr_19 hP hD hS => ?_)
            have hP : va_P D vwCl (RW cs bd u (va_up b 26 o_b26_20) bw) H := hP
            have hD : va_D A (RW cs bd u (va_up b 26 o_b26_20) bw) := hD
            have wr_19_0 : True := wr_19
            exact W.iret (v := r_19) hx hb hr (fun tt ht hW => ⟨⟨r_19, o_b26_20, rfl, trivial, by rw [ht]; exact hP, hD⟩, hS.F ht⟩) hS.2.2 dX12_gives_64
  refine lv_iconst (v := 0) hx hb dX12_gives_0 (by decide) ?_
  refine lv_istore_n (lv' := [(2, .int 0), (0, .ref (bd 0)), (1, .int 0)]) hx hb dX12_gives_1 rfl hl (by decide) rfl (fun ls hl => ?_)
  refine lv_bipush (v := 61) hx hb dX12_gives_2 (by decide) ?_
  refine lv_iload_n hx hb dX12_gives_4 rfl (lv_at hl 2 rfl) ?_
  refine lv_imul hx hb dX12_gives_5 ?_
  refine lv_topi (fun x_21 ex_21 => ?_)
  have fx_21 : x_21 = 0 := by rw [ex_21]; rfl
  subst fx_21
  refine lv_istore_n (lv' := [(3, .int 0), (2, .int 0), (0, .ref (bd 0)), (1, .int 0)]) hx hb dX12_gives_6 rfl hl (by decide) rfl (fun ls hl => ?_)
  have q0_0 : (0 : Int32).toInt = 0 := rfl
  exact (hcut (((((b 22) 0).toInt - (0 : Int32).toInt).toNat) + 1)) 0 0 (b 26) _ _ (by omega) (by omega) ⟨fun _ => rfl, fun q => absurd q (by have q0 : (0 : Int32).toInt = 0 := rfl; omega)⟩ (Nat.lt_succ_self _) hP hD hS ls (lv_sub hl [2, 3, 1, 0] rfl)
set_option maxHeartbeats 4000000 in
set_option maxRecDepth 100000 in
theorem k_X12_loudOf (l : Launch) (D : va_G) (cs : Nat → ClassId) (A : Nat → Prop) (bd : Nat → Nat) (u : Nat → Int32) (b : Nat → Nat → Int32) (bw : Nat → Nat → Int64)  (p1 : Int32) (h1 : 0 ≤ p1.toInt) (h2 : p1.toInt < 8) (hlaw : LAWOK (b 20) (b 21) (b 22) (b 23) (b 24)) (iu1_0 : 0 ≤ (u 1).toInt) (iu1_1 : (u 1).toInt ≤ 8) (ib23_0 : AB (-32768) 32767 (b 23)) (ib24_0 : AB (-32768) 32767 (b 24)) (ib20_0 : AB (-128) 127 (b 20)) : Met l yX12_loudOf (Cond.code yX12_loudOf cX12_loudOf 3 (some .int) :: gw) ({ frames := 3, cells := 0, slots := 0, locals := 71 }) (va_Pc [.ref (bd 0), .int p1] (XPre D (TY cs) (RW cs bd u b bw) A)) (va_Qi (fun (r : Int32) (z : (Nat → Int32) × (Nat → Int32)) => (0 ≤ r.toInt) ∧ (r.toInt ≤ 99)) (XPo D (fun (z : (Nat → Int32) × (Nat → Int32)) => RW cs bd u (va_up (va_up b 25 z.1) 26 z.2) bw) A) A) 0 0 A := by
  refine Met.ofW (cc := cX12_loudOf) (maxL := 3) (ret := (some .int)) (by decide) rfl ?_
  intro p e s m args below meth c s₁ B hml hv
  obtain ⟨rfl, hP, hK, hD, hZ⟩ := hv
  have hx := B.exec
  have hb := B.bytes
  have hr := B.returns
  have hts := atoms_spec (ws := (Cond.code yX12_loudOf cX12_loudOf 3 (some .int) :: gw)) B.pre
  have hg : ∀ w ∈ gw, w.before ([.ref (bd 0), .int p1] : List Value).toArray s = true := fun w h => hts w (List.mem_cons_of_mem _ h)
  have hown : s.vm.findClass RX12 = some m.cls := findClass_of_methodNamed B.named
  have hlocks := B.notSynchronized
  have hS : va_S A s.heap s.heap [] := va_S.rf
  have hP : va_P D vwCl (RW cs bd u b bw) s.heap := hP
  have hl := lv_entry ([.ref (bd 0), .int p1]) (n := 3) (Nat.le_of_ble_eq_true rfl)
  rw [lg_entry_eq]
  generalize (lg_sl ([.ref (bd 0), .int p1]) ++ List.replicate (3 - (lg_sl ([.ref (bd 0), .int p1])).length) Slot.unset).toArray = ls at hl ⊢
  have hl : lv_has ls 3 [(0, .ref (bd 0)), (1, .int p1)] := hl
  refine lv_bipush (v := 10) hx hb dX12_loudOf_0 (by decide) ?_
  refine lv_aload_n hx hb dX12_loudOf_2 rfl (lv_at hl 0 rfl) ?_
  refine gr_lies1 hx hb hg hown hK hP (x := (u 31)) rfl (hg _ q5_23) dX12_loudOf_3 ?_
  refine lv_iadd hx hb dX12_loudOf_6 ?_
  refine lv_topi (fun x_1 ex_1 => ?_)
  refine lv_aload_n hx hb dX12_loudOf_7 rfl (lv_at hl 0 rfl) ?_
  refine gr_cellOf hx hb hg hown hK hP (hg _ q4_234) dX12_loudOf_8 ?_
  refine lv_iload_n hx hb dX12_loudOf_11 rfl (lv_at hl 1 rfl) ?_
  refine lr_cellOf hx hb hK hP (i_in (by omega) (by omega)) dX12_loudOf_12 ?_
  refine lv_topi (fun x_2 ex_2 => ?_)
  have ex_2 : x_2 = (b 2) p1.toNatClampNeg := ex_2
  have hx_2 : x_2.toInt = ((b 2) p1.toNatClampNeg).toInt := by rw [ex_2]
  refine lv_aload_n hx hb dX12_loudOf_13 rfl (lv_at hl 0 rfl) ?_
  refine gr_bee1 hx hb hg hown hK hP (x := (u 28)) rfl (hg _ q5_20) dX12_loudOf_14 ?_
  refine cS_p (As := [.int x_2, .int (u 28)]) (rest := [.int x_1]) ⟨hx, hb, hml, hown, hg⟩ (k_X12_far l   x_2 (u 28) ) ca_X12_far q6_101 ⟨rfl, rfl⟩ ⟨Nat.le_of_ble_eq_true rfl, Nat.le_of_ble_eq_true rfl⟩ rfl hl.1 rfl (Nat.le_of_ble_eq_true rfl) ⟨Nat.zero_le _, Nat.zero_le _⟩ dX12_loudOf_17 (fun r_3 wr_3 => ?_)
  refine lv_isub hx hb dX12_loudOf_20 ?_
  refine lv_topi (fun x_4 ex_4 => ?_)
  refine lv_aload_n hx hb dX12_loudOf_21 rfl (lv_at hl 0 rfl) ?_
  refine gr_cheek hx hb hg hown hK hP (hg _ q4_235) dX12_loudOf_22 ?_
  refine lv_iload_n hx hb dX12_loudOf_25 rfl (lv_at hl 1 rfl) ?_
  refine lr_cheek hx hb hK hP (i_in (by omega) (by omega)) dX12_loudOf_26 ?_
  refine lv_topi (fun x_5 ex_5 => ?_)
  have ex_5 : x_5 = (b 3) p1.toNatClampNeg := ex_5
  have hx_5 : x_5.toInt = ((b 3) p1.toNatClampNeg).toInt := by rw [ex_5]
  refine lv_iconst (v := 2) hx hb dX12_loudOf_27 (by decide) ?_
  refine lv_idiv hx hb dX12_loudOf_28 (by decide) ?_
  refine lv_topi (fun x_6 ex_6 => ?_)
  refine lv_isub hx hb dX12_loudOf_29 ?_
  refine lv_topi (fun x_7 ex_7 => ?_)
  refine lv_istore_n (lv' := [(2, .int x_7), (0, .ref (bd 0)), (1, .int p1)]) hx hb dX12_loudOf_30 rfl hl (by decide) rfl (fun ls hl => ?_)
  refine lv_aload_n hx hb dX12_loudOf_31 rfl (lv_at hl 1 rfl) ?_
  refine gr_hasLaw hx hb hg hown hK hP (x := (u 27)) rfl (hg _ q5_19) dX12_loudOf_32 ?_
  refine lv_if_eq (tgt := 126) hx hb dX12_loudOf_35 (by decide) (fun c_8 => ?_) (fun c_8 => ?_)
  ·
    have kc_8 : (u 27).toInt = (0 : Int) := i_eq c_8
    refine lv_iload_n hx hb dX12_loudOf_126 rfl (lv_at hl 0 rfl) ?_
    refine lv_if_ge (tgt := 134) hx hb dX12_loudOf_127 (by decide) (fun c_9 => ?_) (fun c_9 => ?_)
    ·
      have kc_9 : (0 : Int) ≤ x_7.toInt := i_le c_9
      refine lv_iload_n hx hb dX12_loudOf_134 rfl (lv_at hl 0 rfl) ?_
      refine lv_bipush (v := 99) hx hb dX12_loudOf_135 (by decide) ?_
      refine lv_icmp_le (tgt := 145) hx hb dX12_loudOf_137 (by decide) (fun c_10 => ?_) (fun c_10 => ?_)
      ·
        have kc_10 : x_7.toInt ≤ (99 : Int) := i_le c_10
        refine lv_iload_n hx hb dX12_loudOf_145 rfl (lv_at hl 0 rfl) ?_
        have hP : va_P D vwCl (RW cs bd u (va_up (va_up b 25 (b 25)) 26 (b 26)) bw) _ := hP
        have hD : va_D A (RW cs bd u (va_up (va_up b 25 (b 25)) 26 (b 26)) bw) := hD
        exact W.iret (v := x_7) hx hb hr (fun tt ht hW => ⟨⟨x_7, ⟨(b 25), (b 26)⟩, rfl, ⟨(by first | rfl | omega | trivial | assumption | (dsimp only; first | omega | assumption)), (by first | rfl | omega | trivial | assumption | (dsimp only; first | omega | assumption))⟩, by rw [ht]; exact hP, hD⟩, hS.F ht⟩) hS.2.2 dX12_loudOf_146
      ·
        have kc_10 : (99 : Int) < x_7.toInt := i_nle c_10
        refine lv_bipush (v := 99) hx hb dX12_loudOf_140 (by decide) ?_
        refine lv_goto (tgt := 146) hx hb dX12_loudOf_142 (by decide) ?_
        have q0_99 : (99 : Int32).toInt = 99 := rfl
        have hP : va_P D vwCl (RW cs bd u (va_up (va_up b 25 (b 25)) 26 (b 26)) bw) _ := hP
        have hD : va_D A (RW cs bd u (va_up (va_up b 25 (b 25)) 26 (b 26)) bw) := hD
        exact W.iret (v := 99) hx hb hr (fun tt ht hW => ⟨⟨99, ⟨(b 25), (b 26)⟩, rfl, ⟨(by first | rfl | omega | trivial | assumption | (dsimp only; first | omega | assumption)), (by first | rfl | omega | trivial | assumption | (dsimp only; first | omega | assumption))⟩, by rw [ht]; exact hP, hD⟩, hS.F ht⟩) hS.2.2 dX12_loudOf_146
    ·
      have kc_9 : x_7.toInt < (0 : Int) := i_nle c_9
      refine lv_iconst (v := 0) hx hb dX12_loudOf_130 (by decide) ?_
      refine lv_goto (tgt := 146) hx hb dX12_loudOf_131 (by decide) ?_
      have q0_0 : (0 : Int32).toInt = 0 := rfl
      have hP : va_P D vwCl (RW cs bd u (va_up (va_up b 25 (b 25)) 26 (b 26)) bw) _ := hP
      have hD : va_D A (RW cs bd u (va_up (va_up b 25 (b 25)) 26 (b 26)) bw) := hD
      exact W.iret (v := 0) hx hb hr (fun tt ht hW => ⟨⟨0, ⟨(b 25), (b 26)⟩, rfl, ⟨(by first | rfl | omega | trivial | assumption | (dsimp only; first | omega | assumption)), (by first | rfl | omega | trivial | assumption | (dsimp only; first | omega | assumption))⟩, by rw [ht]; exact hP, hD⟩, hS.F ht⟩) hS.2.2 dX12_loudOf_146
  ·
    have kc_8 : (u 27).toInt ≠ (0 : Int) := i_ne c_8
    refine lv_aload_n hx hb dX12_loudOf_38 rfl (lv_at hl 1 rfl) ?_
    refine gr_facts hx hb hg hown hK hP (hg _ q5_17) dX12_loudOf_39 ?_
    refine lv_iconst (v := 0) hx hb dX12_loudOf_42 (by decide) ?_
    refine lv_aload_n hx hb dX12_loudOf_43 rfl (lv_at hl 1 rfl) ?_
    refine gr_cheek hx hb hg hown hK hP (hg _ q4_235) dX12_loudOf_44 ?_
    refine lv_iload_n hx hb dX12_loudOf_47 rfl (lv_at hl 2 rfl) ?_
    refine lr_cheek hx hb hK hP (i_in (by omega) (by omega)) dX12_loudOf_48 ?_
    refine lv_topi (fun x_11 ex_11 => ?_)
    have ex_11 : x_11 = (b 3) p1.toNatClampNeg := ex_11
    have hx_11 : x_11.toInt = ((b 3) p1.toNatClampNeg).toInt := by rw [ex_11]
    refine sr_facts hx hb hK hP hD hS (i_in (by decide) (by decide)) dX12_loudOf_49 (fun H locs hP hD hS => ?_)
    refine lv_aload_n hx hb dX12_loudOf_50 rfl (lv_at hl 1 rfl) ?_
    refine gr_facts hx hb hg hown hK hP (hg _ q5_17) dX12_loudOf_51 ?_
    refine lv_iconst (v := 1) hx hb dX12_loudOf_54 (by decide) ?_
    refine lv_aload_n hx hb dX12_loudOf_55 rfl (lv_at hl 1 rfl) ?_
    refine gr_pads1 hx hb hg hown hK hP (hg _ q5_24) dX12_loudOf_56 ?_
    refine lv_iload_n hx hb dX12_loudOf_59 rfl (lv_at hl 2 rfl) ?_
    refine lr_pads1 hx hb hK hP (i_in (by omega) (by omega)) dX12_loudOf_60 ?_
    refine lv_topi (fun x_12 ex_12 => ?_)
    have ex_12 : x_12 = (b 32) p1.toNatClampNeg := ex_12
    have hx_12 : x_12.toInt = ((b 32) p1.toNatClampNeg).toInt := by rw [ex_12]
    refine sr_facts hx hb hK hP hD hS (i_in (by decide) (by decide)) dX12_loudOf_61 (fun H locs hP hD hS => ?_)
    refine lv_aload_n hx hb dX12_loudOf_62 rfl (lv_at hl 1 rfl) ?_
    refine gr_facts hx hb hg hown hK hP (hg _ q5_17) dX12_loudOf_63 ?_
    refine lv_iconst (v := 2) hx hb dX12_loudOf_66 (by decide) ?_
    refine lv_aload_n hx hb dX12_loudOf_67 rfl (lv_at hl 1 rfl) ?_
    refine gr_cellOf hx hb hg hown hK hP (hg _ q4_234) dX12_loudOf_68 ?_
    refine lv_iload_n hx hb dX12_loudOf_71 rfl (lv_at hl 2 rfl) ?_
    refine lr_cellOf hx hb hK hP (i_in (by omega) (by omega)) dX12_loudOf_72 ?_
    refine lv_topi (fun x_13 ex_13 => ?_)
    have ex_13 : x_13 = (b 2) p1.toNatClampNeg := ex_13
    have hx_13 : x_13.toInt = ((b 2) p1.toNatClampNeg).toInt := by rw [ex_13]
    refine lv_aload_n hx hb dX12_loudOf_73 rfl (lv_at hl 1 rfl) ?_
    refine gr_bee1 hx hb hg hown hK hP (x := (u 28)) rfl (hg _ q5_20) dX12_loudOf_74 ?_
    refine cS_p (As := [.int x_13, .int (u 28)]) (rest := [.int 2, .ref (bd 25)]) ⟨hx, hb, hml, hown, hg⟩ (k_X12_far l   x_13 (u 28) ) ca_X12_far q6_101 ⟨rfl, rfl⟩ ⟨Nat.le_of_ble_eq_true rfl, Nat.le_of_ble_eq_true rfl⟩ rfl hl.1 rfl (Nat.le_of_ble_eq_true rfl) ⟨Nat.zero_le _, Nat.zero_le _⟩ dX12_loudOf_77 (fun r_14 wr_14 => ?_)
    refine sr_facts hx hb hK hP hD hS (i_in (by decide) (by decide)) dX12_loudOf_80 (fun H locs hP hD hS => ?_)
    refine lv_aload_n hx hb dX12_loudOf_81 rfl (lv_at hl 1 rfl) ?_
    refine gr_facts hx hb hg hown hK hP (hg _ q5_17) dX12_loudOf_82 ?_
    refine lv_iconst (v := 3) hx hb dX12_loudOf_85 (by decide) ?_
    refine lv_aload_n hx hb dX12_loudOf_86 rfl (lv_at hl 1 rfl) ?_
    refine gr_hour1 hx hb hg hown hK hP (x := (u 30)) rfl (hg _ q5_22) dX12_loudOf_87 ?_
    refine sr_facts hx hb hK hP hD hS (i_in (by decide) (by decide)) dX12_loudOf_90 (fun H locs hP hD hS => ?_)
    refine lv_aload_n hx hb dX12_loudOf_91 rfl (lv_at hl 1 rfl) ?_
    refine gr_facts hx hb hg hown hK hP (hg _ q5_17) dX12_loudOf_92 ?_
    refine lv_iconst (v := 4) hx hb dX12_loudOf_95 (by decide) ?_
    refine lv_aload_n hx hb dX12_loudOf_96 rfl (lv_at hl 1 rfl) ?_
    refine gr_lies1 hx hb hg hown hK hP (x := (u 31)) rfl (hg _ q5_23) dX12_loudOf_97 ?_
    refine sr_facts hx hb hK hP hD hS (i_in (by decide) (by decide)) dX12_loudOf_100 (fun H locs hP hD hS => ?_)
    refine lv_aload_n hx hb dX12_loudOf_101 rfl (lv_at hl 1 rfl) ?_
    refine gr_facts hx hb hg hown hK hP (hg _ q5_17) dX12_loudOf_102 ?_
    refine lv_iconst (v := 5) hx hb dX12_loudOf_105 (by decide) ?_
    refine lv_aload_n hx hb dX12_loudOf_106 rfl (lv_at hl 1 rfl) ?_
    refine lv_aload_n hx hb dX12_loudOf_107 rfl (lv_at hl 1 rfl) ?_
    refine gr_cellOf hx hb hg hown hK hP (hg _ q4_234) dX12_loudOf_108 ?_
    refine lv_iload_n hx hb dX12_loudOf_111 rfl (lv_at hl 2 rfl) ?_
    refine lr_cellOf hx hb hK hP (i_in (by omega) (by omega)) dX12_loudOf_112 ?_
    refine lv_topi (fun x_15 ex_15 => ?_)
    have ex_15 : x_15 = (b 2) p1.toNatClampNeg := ex_15
    have hx_15 : x_15.toInt = ((b 2) p1.toNatClampNeg).toInt := by rw [ex_15]
    refine cV_ro (As := [.int x_15]) (rest := [.int 5, .ref (bd 25)]) ⟨hx, hb, hml, hown, hg⟩ (k_X12_within l D cs A bd u (va_up b 25 (upd (upd (upd (upd (upd (b 25) (0 : Int32).toNatClampNeg x_11) (1 : Int32).toNatClampNeg x_12) (2 : Int32).toNatClampNeg r_14) (3 : Int32).toNatClampNeg (u 30)) (4 : Int32).toNatClampNeg (u 31))) bw  x_15 (show 0 ≤ (u 1).toInt by first | omega | decide) (show (u 1).toInt ≤ 8 by first | omega | decide)) ca_X12_within q6_107 ⟨rfl, rfl⟩ ⟨Nat.le_of_ble_eq_true rfl, Nat.le_of_ble_eq_true rfl⟩ (rc_model hK hP) hK hP hD hS hZ rfl hl.1 rfl (Nat.le_of_ble_eq_true rfl) ⟨Nat.zero_le _, Nat.zero_le _⟩ dX12_loudOf_113 (fun r_16 wr_16 => ?_)
    have wr_16_0 : True := wr_16
    refine cS_p (As := [.int r_16]) (rest := [.int 5, .ref (bd 25)]) ⟨hx, hb, hml, hown, hg⟩ (k_X12_bitsOf l   r_16 ) ca_X12_bitsOf q6_111 ⟨rfl, rfl⟩ ⟨Nat.le_of_ble_eq_true rfl, Nat.le_of_ble_eq_true rfl⟩ rfl hl.1 rfl (Nat.le_of_ble_eq_true rfl) ⟨Nat.zero_le _, Nat.zero_le _⟩ dX12_loudOf_116 (fun r_17 wr_17 => ?_)
    refine sr_facts hx hb hK hP hD hS (i_in (by decide) (by decide)) dX12_loudOf_119 (fun H locs hP hD hS => ?_)
    refine lv_aload_n hx hb dX12_loudOf_120 rfl (lv_at hl 1 rfl) ?_
    refine lv_iconst (v := 0) hx hb dX12_loudOf_121 (by decide) ?_
    refine cV_i (As := [.int 0]) (rest := []) ⟨hx, hb, hml, hown, hg⟩ (k_X12_gives l D cs A bd u (va_up b 25 (upd (upd (upd (upd (upd (upd (b 25) (0 : Int32).toNatClampNeg x_11) (1 : Int32).toNatClampNeg x_12) (2 : Int32).toNatClampNeg r_14) (3 : Int32).toNatClampNeg (u 30)) (4 : Int32).toNatClampNeg (u 31)) (5 : Int32).toNatClampNeg r_17)) bw   hlaw ib23_0 ib24_0 ib20_0) ca_X12_gives q6_114 ⟨rfl, rfl⟩ ⟨Nat.le_of_ble_eq_true rfl, Nat.le_of_ble_eq_true rfl⟩ (rc_model hK hP) hK hP hD hS hZ rfl hl.1 rfl (Nat.le_of_ble_eq_true rfl) ⟨Nat.zero_le _, Nat.zero_le _⟩ dX12_loudOf_122 (fun r_18 o_b26_19 H locs wr_18 hP hD hS => ?_)
    have hP : va_P D vwCl (RW cs bd u (va_up (va_up b 25 (upd (upd (upd (upd (upd (upd (b 25) (0 : Int32).toNatClampNeg x_11) (1 : Int32).toNatClampNeg x_12) (2 : Int32).toNatClampNeg r_14) (3 : Int32).toNatClampNeg (u 30)) (4 : Int32).toNatClampNeg (u 31)) (5 : Int32).toNatClampNeg r_17)) 26 o_b26_19) bw) H := hP
    have hD : va_D A (RW cs bd u (va_up (va_up b 25 (upd (upd (upd (upd (upd (upd (b 25) (0 : Int32).toNatClampNeg x_11) (1 : Int32).toNatClampNeg x_12) (2 : Int32).toNatClampNeg r_14) (3 : Int32).toNatClampNeg (u 30)) (4 : Int32).toNatClampNeg (u 31)) (5 : Int32).toNatClampNeg r_17)) 26 o_b26_19) bw) := hD
    have wr_18_0 : True := wr_18
    refine lv_istore_n (lv' := [(2, .int r_18), (0, .ref (bd 0)), (1, .int p1)]) hx hb dX12_loudOf_125 rfl hl (by decide) rfl (fun ls hl => ?_)
    refine lv_iload_n hx hb dX12_loudOf_126 rfl (lv_at hl 0 rfl) ?_
    refine lv_if_ge (tgt := 134) hx hb dX12_loudOf_127 (by decide) (fun c_20 => ?_) (fun c_20 => ?_)
    ·
      have kc_20 : (0 : Int) ≤ r_18.toInt := i_le c_20
      refine lv_iload_n hx hb dX12_loudOf_134 rfl (lv_at hl 0 rfl) ?_
      refine lv_bipush (v := 99) hx hb dX12_loudOf_135 (by decide) ?_
      refine lv_icmp_le (tgt := 145) hx hb dX12_loudOf_137 (by decide) (fun c_21 => ?_) (fun c_21 => ?_)
      ·
        have kc_21 : r_18.toInt ≤ (99 : Int) := i_le c_21
        refine lv_iload_n hx hb dX12_loudOf_145 rfl (lv_at hl 0 rfl) ?_
        exact W.iret (v := r_18) hx hb hr (fun tt ht hW => ⟨⟨r_18, ⟨(upd (upd (upd (upd (upd (upd (b 25) (0 : Int32).toNatClampNeg x_11) (1 : Int32).toNatClampNeg x_12) (2 : Int32).toNatClampNeg r_14) (3 : Int32).toNatClampNeg (u 30)) (4 : Int32).toNatClampNeg (u 31)) (5 : Int32).toNatClampNeg r_17), o_b26_19⟩, rfl, ⟨(by first | rfl | omega | trivial | assumption | (dsimp only; first | omega | assumption)), (by first | rfl | omega | trivial | assumption | (dsimp only; first | omega | assumption))⟩, by rw [ht]; exact hP, hD⟩, hS.F ht⟩) hS.2.2 dX12_loudOf_146
      ·
        have kc_21 : (99 : Int) < r_18.toInt := i_nle c_21
        refine lv_bipush (v := 99) hx hb dX12_loudOf_140 (by decide) ?_
        refine lv_goto (tgt := 146) hx hb dX12_loudOf_142 (by decide) ?_
        have q0_99 : (99 : Int32).toInt = 99 := rfl
        exact W.iret (v := 99) hx hb hr (fun tt ht hW => ⟨⟨99, ⟨(upd (upd (upd (upd (upd (upd (b 25) (0 : Int32).toNatClampNeg x_11) (1 : Int32).toNatClampNeg x_12) (2 : Int32).toNatClampNeg r_14) (3 : Int32).toNatClampNeg (u 30)) (4 : Int32).toNatClampNeg (u 31)) (5 : Int32).toNatClampNeg r_17), o_b26_19⟩, rfl, ⟨(by first | rfl | omega | trivial | assumption | (dsimp only; first | omega | assumption)), (by first | rfl | omega | trivial | assumption | (dsimp only; first | omega | assumption))⟩, by rw [ht]; exact hP, hD⟩, hS.F ht⟩) hS.2.2 dX12_loudOf_146
    ·
      have kc_20 : r_18.toInt < (0 : Int) := i_nle c_20
      refine lv_iconst (v := 0) hx hb dX12_loudOf_130 (by decide) ?_
      refine lv_goto (tgt := 146) hx hb dX12_loudOf_131 (by decide) ?_
      have q0_0 : (0 : Int32).toInt = 0 := rfl
      exact W.iret (v := 0) hx hb hr (fun tt ht hW => ⟨⟨0, ⟨(upd (upd (upd (upd (upd (upd (b 25) (0 : Int32).toNatClampNeg x_11) (1 : Int32).toNatClampNeg x_12) (2 : Int32).toNatClampNeg r_14) (3 : Int32).toNatClampNeg (u 30)) (4 : Int32).toNatClampNeg (u 31)) (5 : Int32).toNatClampNeg r_17), o_b26_19⟩, rfl, ⟨(by first | rfl | omega | trivial | assumption | (dsimp only; first | omega | assumption)), (by first | rfl | omega | trivial | assumption | (dsimp only; first | omega | assumption))⟩, by rw [ht]; exact hP, hD⟩, hS.F ht⟩) hS.2.2 dX12_loudOf_146
set_option maxHeartbeats 4000000 in
set_option maxRecDepth 100000 in
theorem k_X12_flies (l : Launch) (D : va_G) (cs : Nat → ClassId) (A : Nat → Prop) (bd : Nat → Nat) (u : Nat → Int32) (b : Nat → Nat → Int32) (bw : Nat → Nat → Int64)  (p1 : Int32)  : Met l yX12_flies (Cond.code yX12_flies cX12_flies 5 none :: gw) ({ frames := 1, cells := 0, slots := 0, locals := 22 }) (va_Pc [.ref (bd 0), .int p1] (XPre D (TY cs) (RW cs bd u b bw) A)) (va_Qv (fun (z : Int32) => True) (XPo D (fun (z : Int32) => RW cs bd (va_up u 28 z) b bw) A) A) 0 0 A := by
  refine Met.ofW (cc := cX12_flies) (maxL := 5) (ret := none) (by decide) rfl ?_
  intro p e s m args below meth c s₁ B hml hv
  obtain ⟨rfl, hP, hK, hD, hZ⟩ := hv
  have hx := B.exec
  have hb := B.bytes
  have hr := B.returns
  have hts := atoms_spec (ws := (Cond.code yX12_flies cX12_flies 5 none :: gw)) B.pre
  have hg : ∀ w ∈ gw, w.before ([.ref (bd 0), .int p1] : List Value).toArray s = true := fun w h => hts w (List.mem_cons_of_mem _ h)
  have hown : s.vm.findClass RX12 = some m.cls := findClass_of_methodNamed B.named
  have hlocks := B.notSynchronized
  have hS : va_S A s.heap s.heap [] := va_S.rf
  have hP : va_P D vwCl (RW cs bd u b bw) s.heap := hP
  have hl := lv_entry ([.ref (bd 0), .int p1]) (n := 5) (Nat.le_of_ble_eq_true rfl)
  rw [lg_entry_eq]
  generalize (lg_sl ([.ref (bd 0), .int p1]) ++ List.replicate (5 - (lg_sl ([.ref (bd 0), .int p1])).length) Slot.unset).toArray = ls at hl ⊢
  have hl : lv_has ls 5 [(0, .ref (bd 0)), (1, .int p1)] := hl
  refine lv_aload_n hx hb dX12_flies_0 rfl (lv_at hl 0 rfl) ?_
  refine gr_bee1 hx hb hg hown hK hP (x := (u 28)) rfl (hg _ q5_20) dX12_flies_1 ?_
  refine lv_bipush (v := 16) hx hb dX12_flies_4 (by decide) ?_
  refine lv_irem hx hb dX12_flies_6 (by decide) ?_
  refine lv_topi (fun x_1 ex_1 => ?_)
  refine lv_iload_n hx hb dX12_flies_7 rfl (lv_at hl 1 rfl) ?_
  refine lv_bipush (v := 16) hx hb dX12_flies_8 (by decide) ?_
  refine lv_irem hx hb dX12_flies_10 (by decide) ?_
  refine lv_topi (fun x_2 ex_2 => ?_)
  refine lv_aload_n hx hb dX12_flies_11 rfl (lv_at hl 0 rfl) ?_
  refine gr_told hx hb hg hown hK hP (hg _ q4_238) dX12_flies_12 ?_
  refine lv_iconst (v := 3) hx hb dX12_flies_15 (by decide) ?_
  refine lr_told hx hb hK hP (i_in (by decide) (by decide)) dX12_flies_16 ?_
  refine lv_topi (fun x_3 ex_3 => ?_)
  have ex_3 : x_3 = (b 6) (3 : Int32).toNatClampNeg := ex_3
  have hx_3 : x_3.toInt = ((b 6) (3 : Int32).toNatClampNeg).toInt := by rw [ex_3]
  refine cS_p (As := [.int x_1, .int x_2, .int x_3]) (rest := []) ⟨hx, hb, hml, hown, hg⟩ (k_X12_nearer l   x_1 x_2 x_3 ) ca_X12_nearer q6_156 ⟨rfl, rfl⟩ ⟨Nat.le_of_ble_eq_true rfl, Nat.le_of_ble_eq_true rfl⟩ rfl hl.1 rfl (Nat.le_of_ble_eq_true rfl) ⟨Nat.zero_le _, Nat.zero_le _⟩ dX12_flies_17 (fun r_4 wr_4 => ?_)
  refine lv_istore_n (lv' := [(2, .int r_4), (0, .ref (bd 0)), (1, .int p1)]) hx hb dX12_flies_20 rfl hl (by decide) rfl (fun ls hl => ?_)
  refine lv_aload_n hx hb dX12_flies_21 rfl (lv_at hl 1 rfl) ?_
  refine gr_told hx hb hg hown hK hP (hg _ q4_238) dX12_flies_22 ?_
  refine lv_iconst (v := 3) hx hb dX12_flies_25 (by decide) ?_
  refine lr_told hx hb hK hP (i_in (by decide) (by decide)) dX12_flies_26 ?_
  refine lv_topi (fun x_5 ex_5 => ?_)
  have ex_5 : x_5 = (b 6) (3 : Int32).toNatClampNeg := ex_5
  have hx_5 : x_5.toInt = ((b 6) (3 : Int32).toNatClampNeg).toInt := by rw [ex_5]
  refine lv_iload_n hx hb dX12_flies_27 rfl (lv_at hl 0 rfl) ?_
  refine lv_aload_n hx hb dX12_flies_28 rfl (lv_at hl 1 rfl) ?_
  refine gr_bee1 hx hb hg hown hK hP (x := (u 28)) rfl (hg _ q5_20) dX12_flies_29 ?_
  refine lv_bipush (v := 16) hx hb dX12_flies_32 (by decide) ?_
  refine lv_irem hx hb dX12_flies_34 (by decide) ?_
  refine lv_topi (fun x_6 ex_6 => ?_)
  refine cS_p (As := [.int r_4, .int x_6]) (rest := [.int x_5]) ⟨hx, hb, hml, hown, hg⟩ (k_X12_apart l   r_4 x_6 ) ca_X12_apart q6_104 ⟨rfl, rfl⟩ ⟨Nat.le_of_ble_eq_true rfl, Nat.le_of_ble_eq_true rfl⟩ rfl hl.1 rfl (Nat.le_of_ble_eq_true rfl) ⟨Nat.zero_le _, Nat.zero_le _⟩ dX12_flies_35 (fun r_7 wr_7 => ?_)
  refine lv_isub hx hb dX12_flies_38 ?_
  refine lv_topi (fun x_8 ex_8 => ?_)
  refine lv_istore_n (lv' := [(3, .int x_8), (2, .int r_4), (0, .ref (bd 0)), (1, .int p1)]) hx hb dX12_flies_39 rfl hl (by decide) rfl (fun ls hl => ?_)
  refine lv_aload_n hx hb dX12_flies_40 rfl (lv_at hl 2 rfl) ?_
  refine gr_bee1 hx hb hg hown hK hP (x := (u 28)) rfl (hg _ q5_20) dX12_flies_41 ?_
  refine lv_bipush (v := 16) hx hb dX12_flies_44 (by decide) ?_
  refine lv_idiv hx hb dX12_flies_46 (by decide) ?_
  refine lv_topi (fun x_9 ex_9 => ?_)
  refine lv_iload_n hx hb dX12_flies_47 rfl (lv_at hl 3 rfl) ?_
  refine lv_bipush (v := 16) hx hb dX12_flies_48 (by decide) ?_
  refine lv_idiv hx hb dX12_flies_50 (by decide) ?_
  refine lv_topi (fun x_10 ex_10 => ?_)
  refine lv_iload_n hx hb dX12_flies_51 rfl (lv_at hl 0 rfl) ?_
  refine cS_p (As := [.int x_9, .int x_10, .int x_8]) (rest := []) ⟨hx, hb, hml, hown, hg⟩ (k_X12_nearer l   x_9 x_10 x_8 ) ca_X12_nearer q6_156 ⟨rfl, rfl⟩ ⟨Nat.le_of_ble_eq_true rfl, Nat.le_of_ble_eq_true rfl⟩ rfl hl.1 rfl (Nat.le_of_ble_eq_true rfl) ⟨Nat.zero_le _, Nat.zero_le _⟩ dX12_flies_52 (fun r_11 wr_11 => ?_)
  refine lv_istore (lv' := [(4, .int r_11), (3, .int x_8), (2, .int r_4), (0, .ref (bd 0)), (1, .int p1)]) hx hb dX12_flies_55 hl (by decide) rfl (fun ls hl => ?_)
  refine lv_aload_n hx hb dX12_flies_57 rfl (lv_at hl 3 rfl) ?_
  refine lv_bipush (v := 16) hx hb dX12_flies_58 (by decide) ?_
  refine lv_iload hx hb dX12_flies_60 (lv_at hl 0 rfl) ?_
  refine lv_imul hx hb dX12_flies_62 ?_
  refine lv_topi (fun x_12 ex_12 => ?_)
  refine lv_iload_n hx hb dX12_flies_63 rfl (lv_at hl 2 rfl) ?_
  refine lv_iadd hx hb dX12_flies_64 ?_
  refine lv_topi (fun x_13 ex_13 => ?_)
  refine pr_bee1 hx hb hg hown hK hP hD hS (hg _ q5_20) dX12_flies_65 (fun H locs hP hD hS => ?_)
  exact W.vret hx hb hr (fun tt ht hW => ⟨⟨x_13, rfl, trivial, by rw [ht]; exact hP, hD⟩, hS.F ht⟩) hS.2.2 dX12_flies_68
set_option maxHeartbeats 4000000 in
set_option maxRecDepth 100000 in
theorem k_X12_goSaying (l : Launch) (D : va_G) (cs : Nat → ClassId) (A : Nat → Prop) (bd : Nat → Nat) (u : Nat → Int32) (b : Nat → Nat → Int32) (bw : Nat → Nat → Int64)  (p1 : Int32) (p2 : Int32) (h1 : 0 ≤ p1.toInt) (h2 : p1.toInt < (u 1).toInt) (hlaw : LAWOK (b 20) (b 21) (b 22) (b 23) (b 24)) (iu1_0 : 0 ≤ (u 1).toInt) (iu1_1 : (u 1).toInt ≤ 8) (iu29_0 : -1 ≤ (u 29).toInt) (iu29_1 : (u 29).toInt < (u 1).toInt) (ib23_0 : AB (-32768) 32767 (b 23)) (ib24_0 : AB (-32768) 32767 (b 24)) (ib20_0 : AB (-128) 127 (b 20)) : Met l yX12_goSaying (Cond.code yX12_goSaying cX12_goSaying 4 (some .int) :: gw) ({ frames := 4, cells := 0, slots := 0, locals := 93 }) (va_Pc [.ref (bd 0), .int p1, .int p2] (XPre D (TY cs) (RW cs bd u b bw) A)) (va_Qi (fun (r : Int32) (z : Int32 × Int32 × Int32 × Int32 × Int32 × (Nat → Int32) × Int32 × (Nat → Int32) × (Nat → Int32)) => (r.toInt = -1 ∨ (0 ≤ r.toInt ∧ r.toInt < (u 1).toInt)) ∧ (-1 ≤ z.2.2.2.2.1.toInt) ∧ (z.2.2.2.2.1.toInt < (u 1).toInt)) (XPo D (fun (z : Int32 × Int32 × Int32 × Int32 × Int32 × (Nat → Int32) × Int32 × (Nat → Int32) × (Nat → Int32)) => RW cs bd (va_up (va_up (va_up (va_up (va_up (va_up u 33 z.1) 34 z.2.1) 30 z.2.2.1) 28 z.2.2.2.1) 29 z.2.2.2.2.1) 31 z.2.2.2.2.2.2.1) (va_up (va_up (va_up b 32 z.2.2.2.2.2.1) 25 z.2.2.2.2.2.2.2.1) 26 z.2.2.2.2.2.2.2.2) bw) A) A) 0 0 A := by
  refine Met.ofW (cc := cX12_goSaying) (maxL := 4) (ret := (some .int)) (by decide) rfl ?_
  intro p e s m args below meth c s₁ B hml hv
  obtain ⟨rfl, hP, hK, hD, hZ⟩ := hv
  have hx := B.exec
  have hb := B.bytes
  have hr := B.returns
  have hts := atoms_spec (ws := (Cond.code yX12_goSaying cX12_goSaying 4 (some .int) :: gw)) B.pre
  have hg : ∀ w ∈ gw, w.before ([.ref (bd 0), .int p1, .int p2] : List Value).toArray s = true := fun w h => hts w (List.mem_cons_of_mem _ h)
  have hown : s.vm.findClass RX12 = some m.cls := findClass_of_methodNamed B.named
  have hlocks := B.notSynchronized
  have hS : va_S A s.heap s.heap [] := va_S.rf
  have hP : va_P D vwCl (RW cs bd u b bw) s.heap := hP
  have hl := lv_entry ([.ref (bd 0), .int p1, .int p2]) (n := 4) (Nat.le_of_ble_eq_true rfl)
  rw [lg_entry_eq]
  generalize (lg_sl ([.ref (bd 0), .int p1, .int p2]) ++ List.replicate (4 - (lg_sl ([.ref (bd 0), .int p1, .int p2])).length) Slot.unset).toArray = ls at hl ⊢
  have hl : lv_has ls 4 [(0, .ref (bd 0)), (1, .int p1), (2, .int p2)] := hl
  refine lv_aload_n hx hb dX12_goSaying_0 rfl (lv_at hl 0 rfl) ?_
  refine lv_iconst (v := 0) hx hb dX12_goSaying_1 (by decide) ?_
  refine pr_hurt1 hx hb hg hown hK hP hD hS rfl rfl (hg _ q5_25) dX12_goSaying_2 (fun H locs hP hD hS => ?_)
  refine lv_aload_n hx hb dX12_goSaying_5 rfl (lv_at hl 0 rfl) ?_
  refine lv_iconst (v := 0) hx hb dX12_goSaying_6 (by decide) ?_
  refine pr_loud1 hx hb hg hown hK hP hD hS rfl rfl (hg _ q5_26) dX12_goSaying_7 (fun H locs hP hD hS => ?_)
  refine lv_iload_n hx hb dX12_goSaying_10 rfl (lv_at hl 2 rfl) ?_
  refine lv_if_eq (tgt := 53) hx hb dX12_goSaying_11 (by decide) (fun c_1 => ?_) (fun c_1 => ?_)
  ·
    have kc_1 : p2.toInt = (0 : Int) := i_eq c_1
    refine lv_aload_n hx hb dX12_goSaying_53 rfl (lv_at hl 0 rfl) ?_
    refine lv_aload_n hx hb dX12_goSaying_54 rfl (lv_at hl 0 rfl) ?_
    refine gr_hour1 hx hb hg hown hK hP (x := (u 30)) rfl (hg _ q5_22) dX12_goSaying_55 ?_
    refine lv_iconst (v := 1) hx hb dX12_goSaying_58 (by decide) ?_
    refine lv_iadd hx hb dX12_goSaying_59 ?_
    refine lv_topi (fun x_2 ex_2 => ?_)
    refine lv_bipush (v := 24) hx hb dX12_goSaying_60 (by decide) ?_
    refine lv_irem hx hb dX12_goSaying_62 (by decide) ?_
    refine lv_topi (fun x_3 ex_3 => ?_)
    refine pr_hour1 hx hb hg hown hK hP hD hS (hg _ q5_22) dX12_goSaying_63 (fun H locs hP hD hS => ?_)
    refine lv_aload_n hx hb dX12_goSaying_66 rfl (lv_at hl 0 rfl) ?_
    refine gr_liar1 hx hb hg hown hK hP (x := (u 29)) rfl (hg _ q5_21) dX12_goSaying_67 ?_
    refine lv_if_lt (tgt := 98) hx hb dX12_goSaying_70 (by decide) (fun c_4 => ?_) (fun c_4 => ?_)
    ·
      have kc_4 : (u 29).toInt < (0 : Int) := i_lt c_4
      refine lv_iconst (v := (-1)) hx hb dX12_goSaying_98 (by decide) ?_
      have q0_m1 : ((-1) : Int32).toInt = (-1) := rfl
      have q0_0 : (0 : Int32).toInt = 0 := rfl
      have q0_0 : (0 : Int32).toInt = 0 := rfl
      have hP : va_P D vwCl (RW cs bd (va_up (va_up (va_up (va_up (va_up (va_up u 33 0) 34 0) 30 x_3) 28 (u 28)) 29 (u 29)) 31 (u 31)) (va_up (va_up (va_up b 32 (b 32)) 25 (b 25)) 26 (b 26)) bw) _ := hP
      have hD : va_D A (RW cs bd (va_up (va_up (va_up (va_up (va_up (va_up u 33 0) 34 0) 30 x_3) 28 (u 28)) 29 (u 29)) 31 (u 31)) (va_up (va_up (va_up b 32 (b 32)) 25 (b 25)) 26 (b 26)) bw) := hD
      exact W.iret (v := (-1)) hx hb hr (fun tt ht hW => ⟨⟨(-1), ⟨0, 0, x_3, (u 28), (u 29), (b 32), (u 31), (b 25), (b 26)⟩, rfl, ⟨(by first | rfl | omega | trivial | assumption | (dsimp only; first | omega | assumption)), (show -1 ≤ (u 29).toInt by first | omega | assumption), (show (u 29).toInt < (u 1).toInt by first | omega | assumption)⟩, by rw [ht]; exact hP, hD⟩, hS.F ht⟩) hS.2.2 dX12_goSaying_99
    ·
      have kc_4 : (0 : Int) ≤ (u 29).toInt := i_nlt c_4
      refine lv_aload_n hx hb dX12_goSaying_73 rfl (lv_at hl 0 rfl) ?_
      refine gr_bee1 hx hb hg hown hK hP (x := (u 28)) rfl (hg _ q5_20) dX12_goSaying_74 ?_
      refine lv_aload_n hx hb dX12_goSaying_77 rfl (lv_at hl 0 rfl) ?_
      refine gr_cellOf hx hb hg hown hK hP (hg _ q4_234) dX12_goSaying_78 ?_
      refine lv_aload_n hx hb dX12_goSaying_81 rfl (lv_at hl 0 rfl) ?_
      refine gr_liar1 hx hb hg hown hK hP (x := (u 29)) rfl (hg _ q5_21) dX12_goSaying_82 ?_
      refine lr_cellOf hx hb hK hP (i_in (by omega) (by omega)) dX12_goSaying_85 ?_
      refine lv_topi (fun x_5 ex_5 => ?_)
      have ex_5 : x_5 = (b 2) (u 29).toNatClampNeg := ex_5
      have hx_5 : x_5.toInt = ((b 2) (u 29).toNatClampNeg).toInt := by rw [ex_5]
      refine cS_p (As := [.int (u 28), .int x_5]) (rest := []) ⟨hx, hb, hml, hown, hg⟩ (k_X12_far l   (u 28) x_5 ) ca_X12_far q6_101 ⟨rfl, rfl⟩ ⟨Nat.le_of_ble_eq_true rfl, Nat.le_of_ble_eq_true rfl⟩ rfl hl.1 rfl (Nat.le_of_ble_eq_true rfl) ⟨Nat.zero_le _, Nat.zero_le _⟩ dX12_goSaying_86 (fun r_6 wr_6 => ?_)
      refine lv_aload_n hx hb dX12_goSaying_89 rfl (lv_at hl 0 rfl) ?_
      refine gr_told hx hb hg hown hK hP (hg _ q4_238) dX12_goSaying_90 ?_
      refine lv_iconst (v := 1) hx hb dX12_goSaying_93 (by decide) ?_
      refine lr_told hx hb hK hP (i_in (by decide) (by decide)) dX12_goSaying_94 ?_
      refine lv_topi (fun x_7 ex_7 => ?_)
      have ex_7 : x_7 = (b 6) (1 : Int32).toNatClampNeg := ex_7
      have hx_7 : x_7.toInt = ((b 6) (1 : Int32).toNatClampNeg).toInt := by rw [ex_7]
      refine lv_icmp_le (tgt := 100) hx hb dX12_goSaying_95 (by decide) (fun c_8 => ?_) (fun c_8 => ?_)
      ·
        have kc_8 : r_6.toInt ≤ x_7.toInt := i_le c_8
        refine lv_aload_n hx hb dX12_goSaying_100 rfl (lv_at hl 0 rfl) ?_
        refine lv_aload_n hx hb dX12_goSaying_101 rfl (lv_at hl 0 rfl) ?_
        refine gr_cellOf hx hb hg hown hK hP (hg _ q4_234) dX12_goSaying_102 ?_
        refine lv_aload_n hx hb dX12_goSaying_105 rfl (lv_at hl 0 rfl) ?_
        refine gr_liar1 hx hb hg hown hK hP (x := (u 29)) rfl (hg _ q5_21) dX12_goSaying_106 ?_
        refine lr_cellOf hx hb hK hP (i_in (by omega) (by omega)) dX12_goSaying_109 ?_
        refine lv_topi (fun x_9 ex_9 => ?_)
        have ex_9 : x_9 = (b 2) (u 29).toNatClampNeg := ex_9
        have hx_9 : x_9.toInt = ((b 2) (u 29).toNatClampNeg).toInt := by rw [ex_9]
        refine cV_v (As := [.int x_9]) (rest := []) ⟨hx, hb, hml, hown, hg⟩ (k_X12_flies l D cs A bd (va_up (va_up (va_up u 33 0) 34 0) 30 x_3) b bw  x_9 ) ca_X12_flies q6_152 ⟨rfl, rfl⟩ ⟨Nat.le_of_ble_eq_true rfl, Nat.le_of_ble_eq_true rfl⟩ (rc_model hK hP) hK hP hD hS hZ rfl hl.1 rfl (Nat.le_of_ble_eq_true rfl) ⟨Nat.zero_le _, Nat.zero_le _⟩ dX12_goSaying_110 (fun o_u28_11 H locs wr_10 hP hD hS => ?_)
        have hP : va_P D vwCl (RW cs bd (va_up (va_up (va_up (va_up u 33 0) 34 0) 30 x_3) 28 o_u28_11) b bw) H := hP
        have hD : va_D A (RW cs bd (va_up (va_up (va_up (va_up u 33 0) 34 0) 30 x_3) 28 o_u28_11) b bw) := hD
        have wr_10_0 : True := wr_10
        refine lv_aload_n hx hb dX12_goSaying_113 rfl (lv_at hl 0 rfl) ?_
        refine gr_bee1 hx hb hg hown hK hP (x := o_u28_11) rfl (hg _ q5_20) dX12_goSaying_114 ?_
        refine lv_aload_n hx hb dX12_goSaying_117 rfl (lv_at hl 0 rfl) ?_
        refine gr_cellOf hx hb hg hown hK hP (hg _ q4_234) dX12_goSaying_118 ?_
        refine lv_aload_n hx hb dX12_goSaying_121 rfl (lv_at hl 0 rfl) ?_
        refine gr_liar1 hx hb hg hown hK hP (x := (u 29)) rfl (hg _ q5_21) dX12_goSaying_122 ?_
        refine lr_cellOf hx hb hK hP (i_in (by omega) (by omega)) dX12_goSaying_125 ?_
        refine lv_topi (fun x_12 ex_12 => ?_)
        have ex_12 : x_12 = (b 2) (u 29).toNatClampNeg := ex_12
        have hx_12 : x_12.toInt = ((b 2) (u 29).toNatClampNeg).toInt := by rw [ex_12]
        refine lv_icmp_eq (tgt := 131) hx hb dX12_goSaying_126 (by decide) (fun c_13 => ?_) (fun c_13 => ?_)
        ·
          have kc_13 : o_u28_11.toInt = x_12.toInt := i_eq c_13
          refine lv_aload_n hx hb dX12_goSaying_131 rfl (lv_at hl 0 rfl) ?_
          refine gr_liar1 hx hb hg hown hK hP (x := (u 29)) rfl (hg _ q5_21) dX12_goSaying_132 ?_
          refine lv_istore_n (lv' := [(3, .int (u 29)), (0, .ref (bd 0)), (1, .int p1), (2, .int p2)]) hx hb dX12_goSaying_135 rfl hl (by decide) rfl (fun ls hl => ?_)
          refine lv_aload_n hx hb dX12_goSaying_136 rfl (lv_at hl 1 rfl) ?_
          refine lv_iconst (v := (-1)) hx hb dX12_goSaying_137 (by decide) ?_
          refine pr_liar1 hx hb hg hown hK hP hD hS (hg _ q5_21) dX12_goSaying_138 (fun H locs hP hD hS => ?_)
          refine lv_aload_n hx hb dX12_goSaying_141 rfl (lv_at hl 1 rfl) ?_
          refine lv_aload_n hx hb dX12_goSaying_142 rfl (lv_at hl 1 rfl) ?_
          refine gr_pads1 hx hb hg hown hK hP (hg _ q5_24) dX12_goSaying_143 ?_
          refine lv_iload_n hx hb dX12_goSaying_146 rfl (lv_at hl 0 rfl) ?_
          refine lr_pads1 hx hb hK hP (i_in (by omega) (by omega)) dX12_goSaying_147 ?_
          refine lv_topi (fun x_14 ex_14 => ?_)
          have ex_14 : x_14 = (b 32) (u 29).toNatClampNeg := ex_14
          have hx_14 : x_14.toInt = ((b 32) (u 29).toNatClampNeg).toInt := by rw [ex_14]
          refine lv_if_ne (tgt := 155) hx hb dX12_goSaying_148 (by decide) (fun c_15 => ?_) (fun c_15 => ?_)
          ·
            have kc_15 : x_14.toInt ≠ (0 : Int) := i_ne c_15
            refine lv_iconst (v := 0) hx hb dX12_goSaying_155 (by decide) ?_
            refine pr_hurt1 hx hb hg hown hK hP hD hS rfl rfl (hg _ q5_25) dX12_goSaying_156 (fun H locs hP hD hS => ?_)
            refine lv_aload_n hx hb dX12_goSaying_159 rfl (lv_at hl 1 rfl) ?_
            refine gr_hurt1 hx hb hg hown hK hP (x := 0) rfl (hg _ q5_25) dX12_goSaying_160 ?_
            refine lv_if_ne (tgt := 176) hx hb dX12_goSaying_163 (by decide) (fun c_16 => absurd c_16 (by decide)) (fun c_16 => ?_)
            refine lv_aload_n hx hb dX12_goSaying_166 rfl (lv_at hl 1 rfl) ?_
            refine gr_pads1 hx hb hg hown hK hP (hg _ q5_24) dX12_goSaying_167 ?_
            refine lv_iload_n hx hb dX12_goSaying_170 rfl (lv_at hl 0 rfl) ?_
            refine lv_dup2_11 hx hb dX12_goSaying_171 rfl rfl ?_
            refine lr_pads1 hx hb hK hP (i_in (by omega) (by omega)) dX12_goSaying_172 ?_
            refine lv_topi (fun x_17 ex_17 => ?_)
            have ex_17 : x_17 = (b 32) (u 29).toNatClampNeg := ex_17
            have hx_17 : x_17.toInt = ((b 32) (u 29).toNatClampNeg).toInt := by rw [ex_17]
            refine lv_iconst (v := 1) hx hb dX12_goSaying_173 (by decide) ?_
            refine lv_isub hx hb dX12_goSaying_174 ?_
            refine lv_topi (fun x_18 ex_18 => ?_)
            refine sr_pads1 hx hb hK hP hD hS (i_in (by omega) (by omega)) dX12_goSaying_175 (fun H locs hP hD hS => ?_)
            refine lv_iload_n hx hb dX12_goSaying_176 rfl (lv_at hl 0 rfl) ?_
            have q0_0 : (0 : Int32).toInt = 0 := rfl
            have q0_0 : (0 : Int32).toInt = 0 := rfl
            have q0_m1 : ((-1) : Int32).toInt = (-1) := rfl
            have hP : va_P D vwCl (RW cs bd (va_up (va_up (va_up (va_up (va_up (va_up u 33 0) 34 0) 30 x_3) 28 o_u28_11) 29 (-1)) 31 (u 31)) (va_up (va_up (va_up b 32 (upd (b 32) (u 29).toNatClampNeg x_18)) 25 (b 25)) 26 (b 26)) bw) _ := hP
            have hD : va_D A (RW cs bd (va_up (va_up (va_up (va_up (va_up (va_up u 33 0) 34 0) 30 x_3) 28 o_u28_11) 29 (-1)) 31 (u 31)) (va_up (va_up (va_up b 32 (upd (b 32) (u 29).toNatClampNeg x_18)) 25 (b 25)) 26 (b 26)) bw) := hD
            exact W.iret (v := (u 29)) hx hb hr (fun tt ht hW => ⟨⟨(u 29), ⟨0, 0, x_3, o_u28_11, (-1), (upd (b 32) (u 29).toNatClampNeg x_18), (u 31), (b 25), (b 26)⟩, rfl, ⟨(by first | rfl | omega | trivial | assumption | (dsimp only; first | omega | assumption)), (show -1 ≤ (-1 : Int) by first | omega | assumption), (show (-1 : Int) < (u 1).toInt by first | omega | assumption)⟩, by rw [ht]; exact hP, hD⟩, hS.F ht⟩) hS.2.2 dX12_goSaying_177
          ·
            have kc_15 : x_14.toInt = (0 : Int) := i_eq c_15
            refine lv_iconst (v := 1) hx hb dX12_goSaying_151 (by decide) ?_
            refine lv_goto (tgt := 156) hx hb dX12_goSaying_152 (by decide) ?_
            refine pr_hurt1 hx hb hg hown hK hP hD hS rfl rfl (hg _ q5_25) dX12_goSaying_156 (fun H locs hP hD hS => ?_)
            refine lv_aload_n hx hb dX12_goSaying_159 rfl (lv_at hl 1 rfl) ?_
            refine gr_hurt1 hx hb hg hown hK hP (x := 1) rfl (hg _ q5_25) dX12_goSaying_160 ?_
            refine lv_if_ne (tgt := 176) hx hb dX12_goSaying_163 (by decide) (fun c_19 => ?_) (fun c_19 => absurd c_19 (by decide))
            refine lv_iload_n hx hb dX12_goSaying_176 rfl (lv_at hl 0 rfl) ?_
            have q0_1 : (1 : Int32).toInt = 1 := rfl
            have q0_0 : (0 : Int32).toInt = 0 := rfl
            have q0_m1 : ((-1) : Int32).toInt = (-1) := rfl
            have hP : va_P D vwCl (RW cs bd (va_up (va_up (va_up (va_up (va_up (va_up u 33 1) 34 0) 30 x_3) 28 o_u28_11) 29 (-1)) 31 (u 31)) (va_up (va_up (va_up b 32 (b 32)) 25 (b 25)) 26 (b 26)) bw) _ := hP
            have hD : va_D A (RW cs bd (va_up (va_up (va_up (va_up (va_up (va_up u 33 1) 34 0) 30 x_3) 28 o_u28_11) 29 (-1)) 31 (u 31)) (va_up (va_up (va_up b 32 (b 32)) 25 (b 25)) 26 (b 26)) bw) := hD
            exact W.iret (v := (u 29)) hx hb hr (fun tt ht hW => ⟨⟨(u 29), ⟨1, 0, x_3, o_u28_11, (-1), (b 32), (u 31), (b 25), (b 26)⟩, rfl, ⟨(by first | rfl | omega | trivial | assumption | (dsimp only; first | omega | assumption)), (show -1 ≤ (-1 : Int) by first | omega | assumption), (show (-1 : Int) < (u 1).toInt by first | omega | assumption)⟩, by rw [ht]; exact hP, hD⟩, hS.F ht⟩) hS.2.2 dX12_goSaying_177
        ·
          have kc_13 : o_u28_11.toInt ≠ x_12.toInt := i_ne c_13
          refine lv_iconst (v := (-1)) hx hb dX12_goSaying_129 (by decide) ?_
          have q0_m1 : ((-1) : Int32).toInt = (-1) := rfl
          have q0_0 : (0 : Int32).toInt = 0 := rfl
          have q0_0 : (0 : Int32).toInt = 0 := rfl
          have hP : va_P D vwCl (RW cs bd (va_up (va_up (va_up (va_up (va_up (va_up u 33 0) 34 0) 30 x_3) 28 o_u28_11) 29 (u 29)) 31 (u 31)) (va_up (va_up (va_up b 32 (b 32)) 25 (b 25)) 26 (b 26)) bw) _ := hP
          have hD : va_D A (RW cs bd (va_up (va_up (va_up (va_up (va_up (va_up u 33 0) 34 0) 30 x_3) 28 o_u28_11) 29 (u 29)) 31 (u 31)) (va_up (va_up (va_up b 32 (b 32)) 25 (b 25)) 26 (b 26)) bw) := hD
          exact W.iret (v := (-1)) hx hb hr (fun tt ht hW => ⟨⟨(-1), ⟨0, 0, x_3, o_u28_11, (u 29), (b 32), (u 31), (b 25), (b 26)⟩, rfl, ⟨(by first | rfl | omega | trivial | assumption | (dsimp only; first | omega | assumption)), (show -1 ≤ (u 29).toInt by first | omega | assumption), (show (u 29).toInt < (u 1).toInt by first | omega | assumption)⟩, by rw [ht]; exact hP, hD⟩, hS.F ht⟩) hS.2.2 dX12_goSaying_130
      ·
        have kc_8 : x_7.toInt < r_6.toInt := i_nle c_8
        refine lv_iconst (v := (-1)) hx hb dX12_goSaying_98 (by decide) ?_
        have q0_m1 : ((-1) : Int32).toInt = (-1) := rfl
        have q0_0 : (0 : Int32).toInt = 0 := rfl
        have q0_0 : (0 : Int32).toInt = 0 := rfl
        have hP : va_P D vwCl (RW cs bd (va_up (va_up (va_up (va_up (va_up (va_up u 33 0) 34 0) 30 x_3) 28 (u 28)) 29 (u 29)) 31 (u 31)) (va_up (va_up (va_up b 32 (b 32)) 25 (b 25)) 26 (b 26)) bw) _ := hP
        have hD : va_D A (RW cs bd (va_up (va_up (va_up (va_up (va_up (va_up u 33 0) 34 0) 30 x_3) 28 (u 28)) 29 (u 29)) 31 (u 31)) (va_up (va_up (va_up b 32 (b 32)) 25 (b 25)) 26 (b 26)) bw) := hD
        exact W.iret (v := (-1)) hx hb hr (fun tt ht hW => ⟨⟨(-1), ⟨0, 0, x_3, (u 28), (u 29), (b 32), (u 31), (b 25), (b 26)⟩, rfl, ⟨(by first | rfl | omega | trivial | assumption | (dsimp only; first | omega | assumption)), (show -1 ≤ (u 29).toInt by first | omega | assumption), (show (u 29).toInt < (u 1).toInt by first | omega | assumption)⟩, by rw [ht]; exact hP, hD⟩, hS.F ht⟩) hS.2.2 dX12_goSaying_99
  ·
    have kc_1 : p2.toInt ≠ (0 : Int) := i_ne c_1
    refine lv_aload_n hx hb dX12_goSaying_14 rfl (lv_at hl 0 rfl) ?_
    refine lv_aload_n hx hb dX12_goSaying_15 rfl (lv_at hl 0 rfl) ?_
    refine lv_iload_n hx hb dX12_goSaying_16 rfl (lv_at hl 1 rfl) ?_
    refine cV_i (As := [.int p1]) (rest := [.ref (bd 0)]) ⟨hx, hb, hml, hown, hg⟩ (k_X12_loudOf l D cs A bd (va_up (va_up u 33 0) 34 0) b bw  p1 (show 0 ≤ p1.toInt by first | omega | decide) (show p1.toInt < 8 by first | omega | decide) hlaw (show 0 ≤ (u 1).toInt by first | omega | decide) (show (u 1).toInt ≤ 8 by first | omega | decide) ib23_0 ib24_0 ib20_0) ca_X12_loudOf q6_97 ⟨rfl, rfl⟩ ⟨Nat.le_of_ble_eq_true rfl, Nat.le_of_ble_eq_true rfl⟩ (rc_model hK hP) hK hP hD hS hZ rfl hl.1 rfl (Nat.le_of_ble_eq_true rfl) ⟨Nat.zero_le _, Nat.zero_le _⟩ dX12_goSaying_17 (fun r_20 z_23 H locs wr_20 hP hD hS => ?_)
    obtain ⟨o_b25_21, o_b26_22⟩ := z_23
    have hP : va_P D vwCl (RW cs bd (va_up (va_up u 33 0) 34 0) (va_up (va_up b 25 o_b25_21) 26 o_b26_22) bw) H := hP
    have hD : va_D A (RW cs bd (va_up (va_up u 33 0) 34 0) (va_up (va_up b 25 o_b25_21) 26 o_b26_22) bw) := hD
    obtain ⟨wr_20_0, wr_20_1⟩ : (0 ≤ r_20.toInt) ∧ (r_20.toInt ≤ 99) := wr_20
    refine lv_if_le (tgt := 27) hx hb dX12_goSaying_20 (by decide) (fun c_24 => ?_) (fun c_24 => ?_)
    ·
      have kc_24 : r_20.toInt ≤ (0 : Int) := i_le c_24
      refine lv_iconst (v := 0) hx hb dX12_goSaying_27 (by decide) ?_
      refine pr_loud1 hx hb hg hown hK hP hD hS rfl rfl (hg _ q5_26) dX12_goSaying_28 (fun H locs hP hD hS => ?_)
      refine lv_aload_n hx hb dX12_goSaying_31 rfl (lv_at hl 0 rfl) ?_
      refine lv_dup hx hb dX12_goSaying_32 rfl ?_
      refine gr_lies1 hx hb hg hown hK hP (x := (u 31)) rfl (hg _ q5_23) dX12_goSaying_33 ?_
      refine lv_iconst (v := 1) hx hb dX12_goSaying_36 (by decide) ?_
      refine lv_iadd hx hb dX12_goSaying_37 ?_
      refine lv_topi (fun x_25 ex_25 => ?_)
      refine pr_lies1 hx hb hg hown hK hP hD hS (hg _ q5_23) dX12_goSaying_38 (fun H locs hP hD hS => ?_)
      refine lv_aload_n hx hb dX12_goSaying_41 rfl (lv_at hl 0 rfl) ?_
      refine gr_loud1 hx hb hg hown hK hP (x := 0) rfl (hg _ q5_26) dX12_goSaying_42 ?_
      refine lv_if_eq (tgt := 53) hx hb dX12_goSaying_45 (by decide) (fun c_26 => ?_) (fun c_26 => absurd c_26 (by decide))
      refine lv_aload_n hx hb dX12_goSaying_53 rfl (lv_at hl 0 rfl) ?_
      refine lv_aload_n hx hb dX12_goSaying_54 rfl (lv_at hl 0 rfl) ?_
      refine gr_hour1 hx hb hg hown hK hP (x := (u 30)) rfl (hg _ q5_22) dX12_goSaying_55 ?_
      refine lv_iconst (v := 1) hx hb dX12_goSaying_58 (by decide) ?_
      refine lv_iadd hx hb dX12_goSaying_59 ?_
      refine lv_topi (fun x_27 ex_27 => ?_)
      refine lv_bipush (v := 24) hx hb dX12_goSaying_60 (by decide) ?_
      refine lv_irem hx hb dX12_goSaying_62 (by decide) ?_
      refine lv_topi (fun x_28 ex_28 => ?_)
      refine pr_hour1 hx hb hg hown hK hP hD hS (hg _ q5_22) dX12_goSaying_63 (fun H locs hP hD hS => ?_)
      refine lv_aload_n hx hb dX12_goSaying_66 rfl (lv_at hl 0 rfl) ?_
      refine gr_liar1 hx hb hg hown hK hP (x := (u 29)) rfl (hg _ q5_21) dX12_goSaying_67 ?_
      refine lv_if_lt (tgt := 98) hx hb dX12_goSaying_70 (by decide) (fun c_29 => ?_) (fun c_29 => ?_)
      ·
        have kc_29 : (u 29).toInt < (0 : Int) := i_lt c_29
        refine lv_iconst (v := (-1)) hx hb dX12_goSaying_98 (by decide) ?_
        have q0_m1 : ((-1) : Int32).toInt = (-1) := rfl
        have q0_0 : (0 : Int32).toInt = 0 := rfl
        have q0_0 : (0 : Int32).toInt = 0 := rfl
        have hP : va_P D vwCl (RW cs bd (va_up (va_up (va_up (va_up (va_up (va_up u 33 0) 34 0) 30 x_28) 28 (u 28)) 29 (u 29)) 31 x_25) (va_up (va_up (va_up b 32 (b 32)) 25 o_b25_21) 26 o_b26_22) bw) _ := hP
        have hD : va_D A (RW cs bd (va_up (va_up (va_up (va_up (va_up (va_up u 33 0) 34 0) 30 x_28) 28 (u 28)) 29 (u 29)) 31 x_25) (va_up (va_up (va_up b 32 (b 32)) 25 o_b25_21) 26 o_b26_22) bw) := hD
        exact W.iret (v := (-1)) hx hb hr (fun tt ht hW => ⟨⟨(-1), ⟨0, 0, x_28, (u 28), (u 29), (b 32), x_25, o_b25_21, o_b26_22⟩, rfl, ⟨(by first | rfl | omega | trivial | assumption | (dsimp only; first | omega | assumption)), (show -1 ≤ (u 29).toInt by first | omega | assumption), (show (u 29).toInt < (u 1).toInt by first | omega | assumption)⟩, by rw [ht]; exact hP, hD⟩, hS.F ht⟩) hS.2.2 dX12_goSaying_99
      ·
        have kc_29 : (0 : Int) ≤ (u 29).toInt := i_nlt c_29
        refine lv_aload_n hx hb dX12_goSaying_73 rfl (lv_at hl 0 rfl) ?_
        refine gr_bee1 hx hb hg hown hK hP (x := (u 28)) rfl (hg _ q5_20) dX12_goSaying_74 ?_
        refine lv_aload_n hx hb dX12_goSaying_77 rfl (lv_at hl 0 rfl) ?_
        refine gr_cellOf hx hb hg hown hK hP (hg _ q4_234) dX12_goSaying_78 ?_
        refine lv_aload_n hx hb dX12_goSaying_81 rfl (lv_at hl 0 rfl) ?_
        refine gr_liar1 hx hb hg hown hK hP (x := (u 29)) rfl (hg _ q5_21) dX12_goSaying_82 ?_
        refine lr_cellOf hx hb hK hP (i_in (by omega) (by omega)) dX12_goSaying_85 ?_
        refine lv_topi (fun x_30 ex_30 => ?_)
        have ex_30 : x_30 = (b 2) (u 29).toNatClampNeg := ex_30
        have hx_30 : x_30.toInt = ((b 2) (u 29).toNatClampNeg).toInt := by rw [ex_30]
        refine cS_p (As := [.int (u 28), .int x_30]) (rest := []) ⟨hx, hb, hml, hown, hg⟩ (k_X12_far l   (u 28) x_30 ) ca_X12_far q6_101 ⟨rfl, rfl⟩ ⟨Nat.le_of_ble_eq_true rfl, Nat.le_of_ble_eq_true rfl⟩ rfl hl.1 rfl (Nat.le_of_ble_eq_true rfl) ⟨Nat.zero_le _, Nat.zero_le _⟩ dX12_goSaying_86 (fun r_31 wr_31 => ?_)
        refine lv_aload_n hx hb dX12_goSaying_89 rfl (lv_at hl 0 rfl) ?_
        refine gr_told hx hb hg hown hK hP (hg _ q4_238) dX12_goSaying_90 ?_
        refine lv_iconst (v := 1) hx hb dX12_goSaying_93 (by decide) ?_
        refine lr_told hx hb hK hP (i_in (by decide) (by decide)) dX12_goSaying_94 ?_
        refine lv_topi (fun x_32 ex_32 => ?_)
        have ex_32 : x_32 = (b 6) (1 : Int32).toNatClampNeg := ex_32
        have hx_32 : x_32.toInt = ((b 6) (1 : Int32).toNatClampNeg).toInt := by rw [ex_32]
        refine lv_icmp_le (tgt := 100) hx hb dX12_goSaying_95 (by decide) (fun c_33 => ?_) (fun c_33 => ?_)
        ·
          have kc_33 : r_31.toInt ≤ x_32.toInt := i_le c_33
          refine lv_aload_n hx hb dX12_goSaying_100 rfl (lv_at hl 0 rfl) ?_
          refine lv_aload_n hx hb dX12_goSaying_101 rfl (lv_at hl 0 rfl) ?_
          refine gr_cellOf hx hb hg hown hK hP (hg _ q4_234) dX12_goSaying_102 ?_
          refine lv_aload_n hx hb dX12_goSaying_105 rfl (lv_at hl 0 rfl) ?_
          refine gr_liar1 hx hb hg hown hK hP (x := (u 29)) rfl (hg _ q5_21) dX12_goSaying_106 ?_
          refine lr_cellOf hx hb hK hP (i_in (by omega) (by omega)) dX12_goSaying_109 ?_
          refine lv_topi (fun x_34 ex_34 => ?_)
          have ex_34 : x_34 = (b 2) (u 29).toNatClampNeg := ex_34
          have hx_34 : x_34.toInt = ((b 2) (u 29).toNatClampNeg).toInt := by rw [ex_34]
          refine cV_v (As := [.int x_34]) (rest := []) ⟨hx, hb, hml, hown, hg⟩ (k_X12_flies l D cs A bd (va_up (va_up (va_up (va_up u 33 0) 34 0) 31 x_25) 30 x_28) (va_up (va_up b 25 o_b25_21) 26 o_b26_22) bw  x_34 ) ca_X12_flies q6_152 ⟨rfl, rfl⟩ ⟨Nat.le_of_ble_eq_true rfl, Nat.le_of_ble_eq_true rfl⟩ (rc_model hK hP) hK hP hD hS hZ rfl hl.1 rfl (Nat.le_of_ble_eq_true rfl) ⟨Nat.zero_le _, Nat.zero_le _⟩ dX12_goSaying_110 (fun o_u28_36 H locs wr_35 hP hD hS => ?_)
          have hP : va_P D vwCl (RW cs bd (va_up (va_up (va_up (va_up (va_up u 33 0) 34 0) 31 x_25) 30 x_28) 28 o_u28_36) (va_up (va_up b 25 o_b25_21) 26 o_b26_22) bw) H := hP
          have hD : va_D A (RW cs bd (va_up (va_up (va_up (va_up (va_up u 33 0) 34 0) 31 x_25) 30 x_28) 28 o_u28_36) (va_up (va_up b 25 o_b25_21) 26 o_b26_22) bw) := hD
          have wr_35_0 : True := wr_35
          refine lv_aload_n hx hb dX12_goSaying_113 rfl (lv_at hl 0 rfl) ?_
          refine gr_bee1 hx hb hg hown hK hP (x := o_u28_36) rfl (hg _ q5_20) dX12_goSaying_114 ?_
          refine lv_aload_n hx hb dX12_goSaying_117 rfl (lv_at hl 0 rfl) ?_
          refine gr_cellOf hx hb hg hown hK hP (hg _ q4_234) dX12_goSaying_118 ?_
          refine lv_aload_n hx hb dX12_goSaying_121 rfl (lv_at hl 0 rfl) ?_
          refine gr_liar1 hx hb hg hown hK hP (x := (u 29)) rfl (hg _ q5_21) dX12_goSaying_122 ?_
          refine lr_cellOf hx hb hK hP (i_in (by omega) (by omega)) dX12_goSaying_125 ?_
          refine lv_topi (fun x_37 ex_37 => ?_)
          have ex_37 : x_37 = (b 2) (u 29).toNatClampNeg := ex_37
          have hx_37 : x_37.toInt = ((b 2) (u 29).toNatClampNeg).toInt := by rw [ex_37]
          refine lv_icmp_eq (tgt := 131) hx hb dX12_goSaying_126 (by decide) (fun c_38 => ?_) (fun c_38 => ?_)
          ·
            have kc_38 : o_u28_36.toInt = x_37.toInt := i_eq c_38
            refine lv_aload_n hx hb dX12_goSaying_131 rfl (lv_at hl 0 rfl) ?_
            refine gr_liar1 hx hb hg hown hK hP (x := (u 29)) rfl (hg _ q5_21) dX12_goSaying_132 ?_
            refine lv_istore_n (lv' := [(3, .int (u 29)), (0, .ref (bd 0)), (1, .int p1), (2, .int p2)]) hx hb dX12_goSaying_135 rfl hl (by decide) rfl (fun ls hl => ?_)
            refine lv_aload_n hx hb dX12_goSaying_136 rfl (lv_at hl 1 rfl) ?_
            refine lv_iconst (v := (-1)) hx hb dX12_goSaying_137 (by decide) ?_
            refine pr_liar1 hx hb hg hown hK hP hD hS (hg _ q5_21) dX12_goSaying_138 (fun H locs hP hD hS => ?_)
            refine lv_aload_n hx hb dX12_goSaying_141 rfl (lv_at hl 1 rfl) ?_
            refine lv_aload_n hx hb dX12_goSaying_142 rfl (lv_at hl 1 rfl) ?_
            refine gr_pads1 hx hb hg hown hK hP (hg _ q5_24) dX12_goSaying_143 ?_
            refine lv_iload_n hx hb dX12_goSaying_146 rfl (lv_at hl 0 rfl) ?_
            refine lr_pads1 hx hb hK hP (i_in (by omega) (by omega)) dX12_goSaying_147 ?_
            refine lv_topi (fun x_39 ex_39 => ?_)
            have ex_39 : x_39 = (b 32) (u 29).toNatClampNeg := ex_39
            have hx_39 : x_39.toInt = ((b 32) (u 29).toNatClampNeg).toInt := by rw [ex_39]
            refine lv_if_ne (tgt := 155) hx hb dX12_goSaying_148 (by decide) (fun c_40 => ?_) (fun c_40 => ?_)
            ·
              have kc_40 : x_39.toInt ≠ (0 : Int) := i_ne c_40
              refine lv_iconst (v := 0) hx hb dX12_goSaying_155 (by decide) ?_
              refine pr_hurt1 hx hb hg hown hK hP hD hS rfl rfl (hg _ q5_25) dX12_goSaying_156 (fun H locs hP hD hS => ?_)
              refine lv_aload_n hx hb dX12_goSaying_159 rfl (lv_at hl 1 rfl) ?_
              refine gr_hurt1 hx hb hg hown hK hP (x := 0) rfl (hg _ q5_25) dX12_goSaying_160 ?_
              refine lv_if_ne (tgt := 176) hx hb dX12_goSaying_163 (by decide) (fun c_41 => absurd c_41 (by decide)) (fun c_41 => ?_)
              refine lv_aload_n hx hb dX12_goSaying_166 rfl (lv_at hl 1 rfl) ?_
              refine gr_pads1 hx hb hg hown hK hP (hg _ q5_24) dX12_goSaying_167 ?_
              refine lv_iload_n hx hb dX12_goSaying_170 rfl (lv_at hl 0 rfl) ?_
              refine lv_dup2_11 hx hb dX12_goSaying_171 rfl rfl ?_
              refine lr_pads1 hx hb hK hP (i_in (by omega) (by omega)) dX12_goSaying_172 ?_
              refine lv_topi (fun x_42 ex_42 => ?_)
              have ex_42 : x_42 = (b 32) (u 29).toNatClampNeg := ex_42
              have hx_42 : x_42.toInt = ((b 32) (u 29).toNatClampNeg).toInt := by rw [ex_42]
              refine lv_iconst (v := 1) hx hb dX12_goSaying_173 (by decide) ?_
              refine lv_isub hx hb dX12_goSaying_174 ?_
              refine lv_topi (fun x_43 ex_43 => ?_)
              refine sr_pads1 hx hb hK hP hD hS (i_in (by omega) (by omega)) dX12_goSaying_175 (fun H locs hP hD hS => ?_)
              refine lv_iload_n hx hb dX12_goSaying_176 rfl (lv_at hl 0 rfl) ?_
              have q0_0 : (0 : Int32).toInt = 0 := rfl
              have q0_0 : (0 : Int32).toInt = 0 := rfl
              have q0_m1 : ((-1) : Int32).toInt = (-1) := rfl
              have hP : va_P D vwCl (RW cs bd (va_up (va_up (va_up (va_up (va_up (va_up u 33 0) 34 0) 30 x_28) 28 o_u28_36) 29 (-1)) 31 x_25) (va_up (va_up (va_up b 32 (upd (b 32) (u 29).toNatClampNeg x_43)) 25 o_b25_21) 26 o_b26_22) bw) _ := hP
              have hD : va_D A (RW cs bd (va_up (va_up (va_up (va_up (va_up (va_up u 33 0) 34 0) 30 x_28) 28 o_u28_36) 29 (-1)) 31 x_25) (va_up (va_up (va_up b 32 (upd (b 32) (u 29).toNatClampNeg x_43)) 25 o_b25_21) 26 o_b26_22) bw) := hD
              exact W.iret (v := (u 29)) hx hb hr (fun tt ht hW => ⟨⟨(u 29), ⟨0, 0, x_28, o_u28_36, (-1), (upd (b 32) (u 29).toNatClampNeg x_43), x_25, o_b25_21, o_b26_22⟩, rfl, ⟨(by first | rfl | omega | trivial | assumption | (dsimp only; first | omega | assumption)), (show -1 ≤ (-1 : Int) by first | omega | assumption), (show (-1 : Int) < (u 1).toInt by first | omega | assumption)⟩, by rw [ht]; exact hP, hD⟩, hS.F ht⟩) hS.2.2 dX12_goSaying_177
            ·
              have kc_40 : x_39.toInt = (0 : Int) := i_eq c_40
              refine lv_iconst (v := 1) hx hb dX12_goSaying_151 (by decide) ?_
              refine lv_goto (tgt := 156) hx hb dX12_goSaying_152 (by decide) ?_
              refine pr_hurt1 hx hb hg hown hK hP hD hS rfl rfl (hg _ q5_25) dX12_goSaying_156 (fun H locs hP hD hS => ?_)
              refine lv_aload_n hx hb dX12_goSaying_159 rfl (lv_at hl 1 rfl) ?_
              refine gr_hurt1 hx hb hg hown hK hP (x := 1) rfl (hg _ q5_25) dX12_goSaying_160 ?_
              refine lv_if_ne (tgt := 176) hx hb dX12_goSaying_163 (by decide) (fun c_44 => ?_) (fun c_44 => absurd c_44 (by decide))
              refine lv_iload_n hx hb dX12_goSaying_176 rfl (lv_at hl 0 rfl) ?_
              have q0_1 : (1 : Int32).toInt = 1 := rfl
              have q0_0 : (0 : Int32).toInt = 0 := rfl
              have q0_m1 : ((-1) : Int32).toInt = (-1) := rfl
              have hP : va_P D vwCl (RW cs bd (va_up (va_up (va_up (va_up (va_up (va_up u 33 1) 34 0) 30 x_28) 28 o_u28_36) 29 (-1)) 31 x_25) (va_up (va_up (va_up b 32 (b 32)) 25 o_b25_21) 26 o_b26_22) bw) _ := hP
              have hD : va_D A (RW cs bd (va_up (va_up (va_up (va_up (va_up (va_up u 33 1) 34 0) 30 x_28) 28 o_u28_36) 29 (-1)) 31 x_25) (va_up (va_up (va_up b 32 (b 32)) 25 o_b25_21) 26 o_b26_22) bw) := hD
              exact W.iret (v := (u 29)) hx hb hr (fun tt ht hW => ⟨⟨(u 29), ⟨1, 0, x_28, o_u28_36, (-1), (b 32), x_25, o_b25_21, o_b26_22⟩, rfl, ⟨(by first | rfl | omega | trivial | assumption | (dsimp only; first | omega | assumption)), (show -1 ≤ (-1 : Int) by first | omega | assumption), (show (-1 : Int) < (u 1).toInt by first | omega | assumption)⟩, by rw [ht]; exact hP, hD⟩, hS.F ht⟩) hS.2.2 dX12_goSaying_177
          ·
            have kc_38 : o_u28_36.toInt ≠ x_37.toInt := i_ne c_38
            refine lv_iconst (v := (-1)) hx hb dX12_goSaying_129 (by decide) ?_
            have q0_m1 : ((-1) : Int32).toInt = (-1) := rfl
            have q0_0 : (0 : Int32).toInt = 0 := rfl
            have q0_0 : (0 : Int32).toInt = 0 := rfl
            have hP : va_P D vwCl (RW cs bd (va_up (va_up (va_up (va_up (va_up (va_up u 33 0) 34 0) 30 x_28) 28 o_u28_36) 29 (u 29)) 31 x_25) (va_up (va_up (va_up b 32 (b 32)) 25 o_b25_21) 26 o_b26_22) bw) _ := hP
            have hD : va_D A (RW cs bd (va_up (va_up (va_up (va_up (va_up (va_up u 33 0) 34 0) 30 x_28) 28 o_u28_36) 29 (u 29)) 31 x_25) (va_up (va_up (va_up b 32 (b 32)) 25 o_b25_21) 26 o_b26_22) bw) := hD
            exact W.iret (v := (-1)) hx hb hr (fun tt ht hW => ⟨⟨(-1), ⟨0, 0, x_28, o_u28_36, (u 29), (b 32), x_25, o_b25_21, o_b26_22⟩, rfl, ⟨(by first | rfl | omega | trivial | assumption | (dsimp only; first | omega | assumption)), (show -1 ≤ (u 29).toInt by first | omega | assumption), (show (u 29).toInt < (u 1).toInt by first | omega | assumption)⟩, by rw [ht]; exact hP, hD⟩, hS.F ht⟩) hS.2.2 dX12_goSaying_130
        ·
          have kc_33 : x_32.toInt < r_31.toInt := i_nle c_33
          refine lv_iconst (v := (-1)) hx hb dX12_goSaying_98 (by decide) ?_
          have q0_m1 : ((-1) : Int32).toInt = (-1) := rfl
          have q0_0 : (0 : Int32).toInt = 0 := rfl
          have q0_0 : (0 : Int32).toInt = 0 := rfl
          have hP : va_P D vwCl (RW cs bd (va_up (va_up (va_up (va_up (va_up (va_up u 33 0) 34 0) 30 x_28) 28 (u 28)) 29 (u 29)) 31 x_25) (va_up (va_up (va_up b 32 (b 32)) 25 o_b25_21) 26 o_b26_22) bw) _ := hP
          have hD : va_D A (RW cs bd (va_up (va_up (va_up (va_up (va_up (va_up u 33 0) 34 0) 30 x_28) 28 (u 28)) 29 (u 29)) 31 x_25) (va_up (va_up (va_up b 32 (b 32)) 25 o_b25_21) 26 o_b26_22) bw) := hD
          exact W.iret (v := (-1)) hx hb hr (fun tt ht hW => ⟨⟨(-1), ⟨0, 0, x_28, (u 28), (u 29), (b 32), x_25, o_b25_21, o_b26_22⟩, rfl, ⟨(by first | rfl | omega | trivial | assumption | (dsimp only; first | omega | assumption)), (show -1 ≤ (u 29).toInt by first | omega | assumption), (show (u 29).toInt < (u 1).toInt by first | omega | assumption)⟩, by rw [ht]; exact hP, hD⟩, hS.F ht⟩) hS.2.2 dX12_goSaying_99
    ·
      have kc_24 : (0 : Int) < r_20.toInt := i_nle c_24
      refine lv_iconst (v := 1) hx hb dX12_goSaying_23 (by decide) ?_
      refine lv_goto (tgt := 28) hx hb dX12_goSaying_24 (by decide) ?_
      refine pr_loud1 hx hb hg hown hK hP hD hS rfl rfl (hg _ q5_26) dX12_goSaying_28 (fun H locs hP hD hS => ?_)
      refine lv_aload_n hx hb dX12_goSaying_31 rfl (lv_at hl 0 rfl) ?_
      refine lv_dup hx hb dX12_goSaying_32 rfl ?_
      refine gr_lies1 hx hb hg hown hK hP (x := (u 31)) rfl (hg _ q5_23) dX12_goSaying_33 ?_
      refine lv_iconst (v := 1) hx hb dX12_goSaying_36 (by decide) ?_
      refine lv_iadd hx hb dX12_goSaying_37 ?_
      refine lv_topi (fun x_45 ex_45 => ?_)
      refine pr_lies1 hx hb hg hown hK hP hD hS (hg _ q5_23) dX12_goSaying_38 (fun H locs hP hD hS => ?_)
      refine lv_aload_n hx hb dX12_goSaying_41 rfl (lv_at hl 0 rfl) ?_
      refine gr_loud1 hx hb hg hown hK hP (x := 1) rfl (hg _ q5_26) dX12_goSaying_42 ?_
      refine lv_if_eq (tgt := 53) hx hb dX12_goSaying_45 (by decide) (fun c_46 => absurd c_46 (by decide)) (fun c_46 => ?_)
      refine lv_aload_n hx hb dX12_goSaying_48 rfl (lv_at hl 0 rfl) ?_
      refine lv_iload_n hx hb dX12_goSaying_49 rfl (lv_at hl 1 rfl) ?_
      refine pr_liar1 hx hb hg hown hK hP hD hS (hg _ q5_21) dX12_goSaying_50 (fun H locs hP hD hS => ?_)
      refine lv_aload_n hx hb dX12_goSaying_53 rfl (lv_at hl 0 rfl) ?_
      refine lv_aload_n hx hb dX12_goSaying_54 rfl (lv_at hl 0 rfl) ?_
      refine gr_hour1 hx hb hg hown hK hP (x := (u 30)) rfl (hg _ q5_22) dX12_goSaying_55 ?_
      refine lv_iconst (v := 1) hx hb dX12_goSaying_58 (by decide) ?_
      refine lv_iadd hx hb dX12_goSaying_59 ?_
      refine lv_topi (fun x_47 ex_47 => ?_)
      refine lv_bipush (v := 24) hx hb dX12_goSaying_60 (by decide) ?_
      refine lv_irem hx hb dX12_goSaying_62 (by decide) ?_
      refine lv_topi (fun x_48 ex_48 => ?_)
      refine pr_hour1 hx hb hg hown hK hP hD hS (hg _ q5_22) dX12_goSaying_63 (fun H locs hP hD hS => ?_)
      refine lv_aload_n hx hb dX12_goSaying_66 rfl (lv_at hl 0 rfl) ?_
      refine gr_liar1 hx hb hg hown hK hP (x := p1) rfl (hg _ q5_21) dX12_goSaying_67 ?_
      refine lv_if_lt (tgt := 98) hx hb dX12_goSaying_70 (by decide) (fun c_49 => ?_) (fun c_49 => ?_)
      ·
        have kc_49 : p1.toInt < (0 : Int) := i_lt c_49
        exfalso; omega
      ·
        have kc_49 : (0 : Int) ≤ p1.toInt := i_nlt c_49
        refine lv_aload_n hx hb dX12_goSaying_73 rfl (lv_at hl 0 rfl) ?_
        refine gr_bee1 hx hb hg hown hK hP (x := (u 28)) rfl (hg _ q5_20) dX12_goSaying_74 ?_
        refine lv_aload_n hx hb dX12_goSaying_77 rfl (lv_at hl 0 rfl) ?_
        refine gr_cellOf hx hb hg hown hK hP (hg _ q4_234) dX12_goSaying_78 ?_
        refine lv_aload_n hx hb dX12_goSaying_81 rfl (lv_at hl 0 rfl) ?_
        refine gr_liar1 hx hb hg hown hK hP (x := p1) rfl (hg _ q5_21) dX12_goSaying_82 ?_
        refine lr_cellOf hx hb hK hP (i_in (by omega) (by omega)) dX12_goSaying_85 ?_
        refine lv_topi (fun x_50 ex_50 => ?_)
        have ex_50 : x_50 = (b 2) p1.toNatClampNeg := ex_50
        have hx_50 : x_50.toInt = ((b 2) p1.toNatClampNeg).toInt := by rw [ex_50]
        refine cS_p (As := [.int (u 28), .int x_50]) (rest := []) ⟨hx, hb, hml, hown, hg⟩ (k_X12_far l   (u 28) x_50 ) ca_X12_far q6_101 ⟨rfl, rfl⟩ ⟨Nat.le_of_ble_eq_true rfl, Nat.le_of_ble_eq_true rfl⟩ rfl hl.1 rfl (Nat.le_of_ble_eq_true rfl) ⟨Nat.zero_le _, Nat.zero_le _⟩ dX12_goSaying_86 (fun r_51 wr_51 => ?_)
        refine lv_aload_n hx hb dX12_goSaying_89 rfl (lv_at hl 0 rfl) ?_
        refine gr_told hx hb hg hown hK hP (hg _ q4_238) dX12_goSaying_90 ?_
        refine lv_iconst (v := 1) hx hb dX12_goSaying_93 (by decide) ?_
        refine lr_told hx hb hK hP (i_in (by decide) (by decide)) dX12_goSaying_94 ?_
        refine lv_topi (fun x_52 ex_52 => ?_)
        have ex_52 : x_52 = (b 6) (1 : Int32).toNatClampNeg := ex_52
        have hx_52 : x_52.toInt = ((b 6) (1 : Int32).toNatClampNeg).toInt := by rw [ex_52]
        refine lv_icmp_le (tgt := 100) hx hb dX12_goSaying_95 (by decide) (fun c_53 => ?_) (fun c_53 => ?_)
        ·
          have kc_53 : r_51.toInt ≤ x_52.toInt := i_le c_53
          refine lv_aload_n hx hb dX12_goSaying_100 rfl (lv_at hl 0 rfl) ?_
          refine lv_aload_n hx hb dX12_goSaying_101 rfl (lv_at hl 0 rfl) ?_
          refine gr_cellOf hx hb hg hown hK hP (hg _ q4_234) dX12_goSaying_102 ?_
          refine lv_aload_n hx hb dX12_goSaying_105 rfl (lv_at hl 0 rfl) ?_
          refine gr_liar1 hx hb hg hown hK hP (x := p1) rfl (hg _ q5_21) dX12_goSaying_106 ?_
          refine lr_cellOf hx hb hK hP (i_in (by omega) (by omega)) dX12_goSaying_109 ?_
          refine lv_topi (fun x_54 ex_54 => ?_)
          have ex_54 : x_54 = (b 2) p1.toNatClampNeg := ex_54
          have hx_54 : x_54.toInt = ((b 2) p1.toNatClampNeg).toInt := by rw [ex_54]
          refine cV_v (As := [.int x_54]) (rest := []) ⟨hx, hb, hml, hown, hg⟩ (k_X12_flies l D cs A bd (va_up (va_up (va_up (va_up (va_up u 33 0) 34 1) 31 x_45) 29 p1) 30 x_48) (va_up (va_up b 25 o_b25_21) 26 o_b26_22) bw  x_54 ) ca_X12_flies q6_152 ⟨rfl, rfl⟩ ⟨Nat.le_of_ble_eq_true rfl, Nat.le_of_ble_eq_true rfl⟩ (rc_model hK hP) hK hP hD hS hZ rfl hl.1 rfl (Nat.le_of_ble_eq_true rfl) ⟨Nat.zero_le _, Nat.zero_le _⟩ dX12_goSaying_110 (fun o_u28_56 H locs wr_55 hP hD hS => ?_)
          have hP : va_P D vwCl (RW cs bd (va_up (va_up (va_up (va_up (va_up (va_up u 33 0) 34 1) 31 x_45) 29 p1) 30 x_48) 28 o_u28_56) (va_up (va_up b 25 o_b25_21) 26 o_b26_22) bw) H := hP
          have hD : va_D A (RW cs bd (va_up (va_up (va_up (va_up (va_up (va_up u 33 0) 34 1) 31 x_45) 29 p1) 30 x_48) 28 o_u28_56) (va_up (va_up b 25 o_b25_21) 26 o_b26_22) bw) := hD
          have wr_55_0 : True := wr_55
          refine lv_aload_n hx hb dX12_goSaying_113 rfl (lv_at hl 0 rfl) ?_
          refine gr_bee1 hx hb hg hown hK hP (x := o_u28_56) rfl (hg _ q5_20) dX12_goSaying_114 ?_
          refine lv_aload_n hx hb dX12_goSaying_117 rfl (lv_at hl 0 rfl) ?_
          refine gr_cellOf hx hb hg hown hK hP (hg _ q4_234) dX12_goSaying_118 ?_
          refine lv_aload_n hx hb dX12_goSaying_121 rfl (lv_at hl 0 rfl) ?_
          refine gr_liar1 hx hb hg hown hK hP (x := p1) rfl (hg _ q5_21) dX12_goSaying_122 ?_
          refine lr_cellOf hx hb hK hP (i_in (by omega) (by omega)) dX12_goSaying_125 ?_
          refine lv_topi (fun x_57 ex_57 => ?_)
          have ex_57 : x_57 = (b 2) p1.toNatClampNeg := ex_57
          have hx_57 : x_57.toInt = ((b 2) p1.toNatClampNeg).toInt := by rw [ex_57]
          refine lv_icmp_eq (tgt := 131) hx hb dX12_goSaying_126 (by decide) (fun c_58 => ?_) (fun c_58 => ?_)
          ·
            have kc_58 : o_u28_56.toInt = x_57.toInt := i_eq c_58
            refine lv_aload_n hx hb dX12_goSaying_131 rfl (lv_at hl 0 rfl) ?_
            refine gr_liar1 hx hb hg hown hK hP (x := p1) rfl (hg _ q5_21) dX12_goSaying_132 ?_
            refine lv_istore_n (lv' := [(3, .int p1), (0, .ref (bd 0)), (1, .int p1), (2, .int p2)]) hx hb dX12_goSaying_135 rfl hl (by decide) rfl (fun ls hl => ?_)
            refine lv_aload_n hx hb dX12_goSaying_136 rfl (lv_at hl 1 rfl) ?_
            refine lv_iconst (v := (-1)) hx hb dX12_goSaying_137 (by decide) ?_
            refine pr_liar1 hx hb hg hown hK hP hD hS (hg _ q5_21) dX12_goSaying_138 (fun H locs hP hD hS => ?_)
            refine lv_aload_n hx hb dX12_goSaying_141 rfl (lv_at hl 1 rfl) ?_
            refine lv_aload_n hx hb dX12_goSaying_142 rfl (lv_at hl 1 rfl) ?_
            refine gr_pads1 hx hb hg hown hK hP (hg _ q5_24) dX12_goSaying_143 ?_
            refine lv_iload_n hx hb dX12_goSaying_146 rfl (lv_at hl 0 rfl) ?_
            refine lr_pads1 hx hb hK hP (i_in (by omega) (by omega)) dX12_goSaying_147 ?_
            refine lv_topi (fun x_59 ex_59 => ?_)
            have ex_59 : x_59 = (b 32) p1.toNatClampNeg := ex_59
            have hx_59 : x_59.toInt = ((b 32) p1.toNatClampNeg).toInt := by rw [ex_59]
            refine lv_if_ne (tgt := 155) hx hb dX12_goSaying_148 (by decide) (fun c_60 => ?_) (fun c_60 => ?_)
            ·
              have kc_60 : x_59.toInt ≠ (0 : Int) := i_ne c_60
              refine lv_iconst (v := 0) hx hb dX12_goSaying_155 (by decide) ?_
              refine pr_hurt1 hx hb hg hown hK hP hD hS rfl rfl (hg _ q5_25) dX12_goSaying_156 (fun H locs hP hD hS => ?_)
              refine lv_aload_n hx hb dX12_goSaying_159 rfl (lv_at hl 1 rfl) ?_
              refine gr_hurt1 hx hb hg hown hK hP (x := 0) rfl (hg _ q5_25) dX12_goSaying_160 ?_
              refine lv_if_ne (tgt := 176) hx hb dX12_goSaying_163 (by decide) (fun c_61 => absurd c_61 (by decide)) (fun c_61 => ?_)
              refine lv_aload_n hx hb dX12_goSaying_166 rfl (lv_at hl 1 rfl) ?_
              refine gr_pads1 hx hb hg hown hK hP (hg _ q5_24) dX12_goSaying_167 ?_
              refine lv_iload_n hx hb dX12_goSaying_170 rfl (lv_at hl 0 rfl) ?_
              refine lv_dup2_11 hx hb dX12_goSaying_171 rfl rfl ?_
              refine lr_pads1 hx hb hK hP (i_in (by omega) (by omega)) dX12_goSaying_172 ?_
              refine lv_topi (fun x_62 ex_62 => ?_)
              have ex_62 : x_62 = (b 32) p1.toNatClampNeg := ex_62
              have hx_62 : x_62.toInt = ((b 32) p1.toNatClampNeg).toInt := by rw [ex_62]
              refine lv_iconst (v := 1) hx hb dX12_goSaying_173 (by decide) ?_
              refine lv_isub hx hb dX12_goSaying_174 ?_
              refine lv_topi (fun x_63 ex_63 => ?_)
              refine sr_pads1 hx hb hK hP hD hS (i_in (by omega) (by omega)) dX12_goSaying_175 (fun H locs hP hD hS => ?_)
              refine lv_iload_n hx hb dX12_goSaying_176 rfl (lv_at hl 0 rfl) ?_
              have q0_0 : (0 : Int32).toInt = 0 := rfl
              have q0_1 : (1 : Int32).toInt = 1 := rfl
              have q0_m1 : ((-1) : Int32).toInt = (-1) := rfl
              have hP : va_P D vwCl (RW cs bd (va_up (va_up (va_up (va_up (va_up (va_up u 33 0) 34 1) 30 x_48) 28 o_u28_56) 29 (-1)) 31 x_45) (va_up (va_up (va_up b 32 (upd (b 32) p1.toNatClampNeg x_63)) 25 o_b25_21) 26 o_b26_22) bw) _ := hP
              have hD : va_D A (RW cs bd (va_up (va_up (va_up (va_up (va_up (va_up u 33 0) 34 1) 30 x_48) 28 o_u28_56) 29 (-1)) 31 x_45) (va_up (va_up (va_up b 32 (upd (b 32) p1.toNatClampNeg x_63)) 25 o_b25_21) 26 o_b26_22) bw) := hD
              exact W.iret (v := p1) hx hb hr (fun tt ht hW => ⟨⟨p1, ⟨0, 1, x_48, o_u28_56, (-1), (upd (b 32) p1.toNatClampNeg x_63), x_45, o_b25_21, o_b26_22⟩, rfl, ⟨(by first | rfl | omega | trivial | assumption | (dsimp only; first | omega | assumption)), (show -1 ≤ (-1 : Int) by first | omega | assumption), (show (-1 : Int) < (u 1).toInt by first | omega | assumption)⟩, by rw [ht]; exact hP, hD⟩, hS.F ht⟩) hS.2.2 dX12_goSaying_177
            ·
              have kc_60 : x_59.toInt = (0 : Int) := i_eq c_60
              refine lv_iconst (v := 1) hx hb dX12_goSaying_151 (by decide) ?_
              refine lv_goto (tgt := 156) hx hb dX12_goSaying_152 (by decide) ?_
              refine pr_hurt1 hx hb hg hown hK hP hD hS rfl rfl (hg _ q5_25) dX12_goSaying_156 (fun H locs hP hD hS => ?_)
              refine lv_aload_n hx hb dX12_goSaying_159 rfl (lv_at hl 1 rfl) ?_
              refine gr_hurt1 hx hb hg hown hK hP (x := 1) rfl (hg _ q5_25) dX12_goSaying_160 ?_
              refine lv_if_ne (tgt := 176) hx hb dX12_goSaying_163 (by decide) (fun c_64 => ?_) (fun c_64 => absurd c_64 (by decide))
              refine lv_iload_n hx hb dX12_goSaying_176 rfl (lv_at hl 0 rfl) ?_
              have q0_1 : (1 : Int32).toInt = 1 := rfl
              have q0_1 : (1 : Int32).toInt = 1 := rfl
              have q0_m1 : ((-1) : Int32).toInt = (-1) := rfl
              have hP : va_P D vwCl (RW cs bd (va_up (va_up (va_up (va_up (va_up (va_up u 33 1) 34 1) 30 x_48) 28 o_u28_56) 29 (-1)) 31 x_45) (va_up (va_up (va_up b 32 (b 32)) 25 o_b25_21) 26 o_b26_22) bw) _ := hP
              have hD : va_D A (RW cs bd (va_up (va_up (va_up (va_up (va_up (va_up u 33 1) 34 1) 30 x_48) 28 o_u28_56) 29 (-1)) 31 x_45) (va_up (va_up (va_up b 32 (b 32)) 25 o_b25_21) 26 o_b26_22) bw) := hD
              exact W.iret (v := p1) hx hb hr (fun tt ht hW => ⟨⟨p1, ⟨1, 1, x_48, o_u28_56, (-1), (b 32), x_45, o_b25_21, o_b26_22⟩, rfl, ⟨(by first | rfl | omega | trivial | assumption | (dsimp only; first | omega | assumption)), (show -1 ≤ (-1 : Int) by first | omega | assumption), (show (-1 : Int) < (u 1).toInt by first | omega | assumption)⟩, by rw [ht]; exact hP, hD⟩, hS.F ht⟩) hS.2.2 dX12_goSaying_177
          ·
            have kc_58 : o_u28_56.toInt ≠ x_57.toInt := i_ne c_58
            refine lv_iconst (v := (-1)) hx hb dX12_goSaying_129 (by decide) ?_
            have q0_m1 : ((-1) : Int32).toInt = (-1) := rfl
            have q0_0 : (0 : Int32).toInt = 0 := rfl
            have q0_1 : (1 : Int32).toInt = 1 := rfl
            have hP : va_P D vwCl (RW cs bd (va_up (va_up (va_up (va_up (va_up (va_up u 33 0) 34 1) 30 x_48) 28 o_u28_56) 29 p1) 31 x_45) (va_up (va_up (va_up b 32 (b 32)) 25 o_b25_21) 26 o_b26_22) bw) _ := hP
            have hD : va_D A (RW cs bd (va_up (va_up (va_up (va_up (va_up (va_up u 33 0) 34 1) 30 x_48) 28 o_u28_56) 29 p1) 31 x_45) (va_up (va_up (va_up b 32 (b 32)) 25 o_b25_21) 26 o_b26_22) bw) := hD
            exact W.iret (v := (-1)) hx hb hr (fun tt ht hW => ⟨⟨(-1), ⟨0, 1, x_48, o_u28_56, p1, (b 32), x_45, o_b25_21, o_b26_22⟩, rfl, ⟨(by first | rfl | omega | trivial | assumption | (dsimp only; first | omega | assumption)), (show -1 ≤ p1.toInt by first | omega | assumption), (show p1.toInt < (u 1).toInt by first | omega | assumption)⟩, by rw [ht]; exact hP, hD⟩, hS.F ht⟩) hS.2.2 dX12_goSaying_130
        ·
          have kc_53 : x_52.toInt < r_51.toInt := i_nle c_53
          refine lv_iconst (v := (-1)) hx hb dX12_goSaying_98 (by decide) ?_
          have q0_m1 : ((-1) : Int32).toInt = (-1) := rfl
          have q0_0 : (0 : Int32).toInt = 0 := rfl
          have q0_1 : (1 : Int32).toInt = 1 := rfl
          have hP : va_P D vwCl (RW cs bd (va_up (va_up (va_up (va_up (va_up (va_up u 33 0) 34 1) 30 x_48) 28 (u 28)) 29 p1) 31 x_45) (va_up (va_up (va_up b 32 (b 32)) 25 o_b25_21) 26 o_b26_22) bw) _ := hP
          have hD : va_D A (RW cs bd (va_up (va_up (va_up (va_up (va_up (va_up u 33 0) 34 1) 30 x_48) 28 (u 28)) 29 p1) 31 x_45) (va_up (va_up (va_up b 32 (b 32)) 25 o_b25_21) 26 o_b26_22) bw) := hD
          exact W.iret (v := (-1)) hx hb hr (fun tt ht hW => ⟨⟨(-1), ⟨0, 1, x_48, (u 28), p1, (b 32), x_45, o_b25_21, o_b26_22⟩, rfl, ⟨(by first | rfl | omega | trivial | assumption | (dsimp only; first | omega | assumption)), (show -1 ≤ p1.toInt by first | omega | assumption), (show p1.toInt < (u 1).toInt by first | omega | assumption)⟩, by rw [ht]; exact hP, hD⟩, hS.F ht⟩) hS.2.2 dX12_goSaying_99
set_option maxHeartbeats 4000000 in
set_option maxRecDepth 100000 in
theorem k_X12_loud (l : Launch) (D : va_G) (cs : Nat → ClassId) (A : Nat → Prop) (bd : Nat → Nat) (u : Nat → Int32) (b : Nat → Nat → Int32) (bw : Nat → Nat → Int64)  (p1 : Int32) (hlaw : LAWOK (b 20) (b 21) (b 22) (b 23) (b 24)) (iu1_0 : 0 ≤ (u 1).toInt) (iu1_1 : (u 1).toInt ≤ 8) (iu7_0 : -1 ≤ (u 7).toInt) (iu7_1 : (u 7).toInt < (u 1).toInt) (ib23_0 : AB (-32768) 32767 (b 23)) (ib24_0 : AB (-32768) 32767 (b 24)) (ib20_0 : AB (-128) 127 (b 20)) : Met l yX12_loud (Cond.code yX12_loud cX12_loud 2 (some .int) :: gw) ({ frames := 4, cells := 0, slots := 0, locals := 93 }) (va_Pc [.ref (bd 0), .int p1] (XPre D (TY cs) (RW cs bd u b bw) A)) (va_Qi (fun (r : Int32) (z : Int32 × Int32 × Int32 × Int32 × (Nat → Int32) × (Nat → Int32) × (Nat → Int32)) => True) (XPo D (fun (z : Int32 × Int32 × Int32 × Int32 × (Nat → Int32) × (Nat → Int32) × (Nat → Int32)) => RW cs bd (va_up (va_up (va_up (va_up u 28 z.1) 29 z.2.1) 30 z.2.2.1) 31 z.2.2.2.1) (va_up (va_up (va_up b 32 z.2.2.2.2.1) 25 z.2.2.2.2.2.1) 26 z.2.2.2.2.2.2) bw) A) A) 0 0 A := by
  refine Met.ofW (cc := cX12_loud) (maxL := 2) (ret := (some .int)) (by decide) rfl ?_
  intro p e s m args below meth c s₁ B hml hv
  obtain ⟨rfl, hP, hK, hD, hZ⟩ := hv
  have hx := B.exec
  have hb := B.bytes
  have hr := B.returns
  have hts := atoms_spec (ws := (Cond.code yX12_loud cX12_loud 2 (some .int) :: gw)) B.pre
  have hg : ∀ w ∈ gw, w.before ([.ref (bd 0), .int p1] : List Value).toArray s = true := fun w h => hts w (List.mem_cons_of_mem _ h)
  have hown : s.vm.findClass RX12 = some m.cls := findClass_of_methodNamed B.named
  have hlocks := B.notSynchronized
  have hS : va_S A s.heap s.heap [] := va_S.rf
  have hP : va_P D vwCl (RW cs bd u b bw) s.heap := hP
  have hl := lv_entry ([.ref (bd 0), .int p1]) (n := 2) (Nat.le_of_ble_eq_true rfl)
  rw [lg_entry_eq]
  generalize (lg_sl ([.ref (bd 0), .int p1]) ++ List.replicate (2 - (lg_sl ([.ref (bd 0), .int p1])).length) Slot.unset).toArray = ls at hl ⊢
  have hl : lv_has ls 2 [(0, .ref (bd 0)), (1, .int p1)] := hl
  refine lv_aload_n hx hb dX12_loud_0 rfl (lv_at hl 0 rfl) ?_
  refine lv_iload_n hx hb dX12_loud_1 rfl (lv_at hl 1 rfl) ?_
  refine cV_ro (As := [.int p1]) (rest := []) ⟨hx, hb, hml, hown, hg⟩ (k_X12_isOne l D cs A bd u b bw  p1 (show 0 ≤ (u 1).toInt by first | omega | decide) (show (u 1).toInt ≤ 8 by first | omega | decide)) ca_X12_isOne q6_7 ⟨rfl, rfl⟩ ⟨Nat.le_of_ble_eq_true rfl, Nat.le_of_ble_eq_true rfl⟩ (rc_model hK hP) hK hP hD hS hZ rfl hl.1 rfl (Nat.le_of_ble_eq_true rfl) ⟨Nat.zero_le _, Nat.zero_le _⟩ dX12_loud_2 (fun r_1 wr_1 => ?_)
  have wr_1_0 : (r_1.toInt = 1 ∧ 0 ≤ p1.toInt ∧ p1.toInt < (u 1).toInt) ∨ (r_1.toInt = 0 ∧ ¬ (0 ≤ p1.toInt ∧ p1.toInt < (u 1).toInt)) := wr_1
  refine lv_if_ne (tgt := 10) hx hb dX12_loud_5 (by decide) (fun c_2 => ?_) (fun c_2 => ?_)
  ·
    have kc_2 : r_1.toInt ≠ (0 : Int) := i_ne c_2
    refine lv_aload_n hx hb dX12_loud_10 rfl (lv_at hl 0 rfl) ?_
    refine lv_iconst (v := 0) hx hb dX12_loud_11 (by decide) ?_
    refine cV_v (As := [.int 0]) (rest := []) ⟨hx, hb, hml, hown, hg⟩ (k_X12_layNow l D cs A bd u b bw  0 (show 0 ≤ (u 1).toInt by first | omega | decide) (show (u 1).toInt ≤ 8 by first | omega | decide) (show -1 ≤ (u 7).toInt by first | omega | decide) (show (u 7).toInt < (u 1).toInt by first | omega | decide)) ca_X12_layNow q6_93 ⟨rfl, rfl⟩ ⟨Nat.le_of_ble_eq_true rfl, Nat.le_of_ble_eq_true rfl⟩ (rc_model hK hP) hK hP hD hS hZ rfl hl.1 rfl (Nat.le_of_ble_eq_true rfl) ⟨Nat.zero_le _, Nat.zero_le _⟩ dX12_loud_12 (fun z_9 H locs wr_3 hP hD hS => ?_)
    obtain ⟨o_u28_4, o_u29_5, o_u30_6, o_u31_7, o_b32_8⟩ := z_9
    have hP : va_P D vwCl (RW cs bd (va_up (va_up (va_up (va_up u 28 o_u28_4) 29 o_u29_5) 30 o_u30_6) 31 o_u31_7) (va_up b 32 o_b32_8) bw) H := hP
    have hD : va_D A (RW cs bd (va_up (va_up (va_up (va_up u 28 o_u28_4) 29 o_u29_5) 30 o_u30_6) 31 o_u31_7) (va_up b 32 o_b32_8) bw) := hD
    obtain ⟨wr_3_0, wr_3_1, wr_3_2⟩ : (o_u31_7 = (0 : Int32)) ∧ (-1 ≤ o_u29_5.toInt) ∧ (o_u29_5.toInt < (u 1).toInt) := wr_3
    refine lv_aload_n hx hb dX12_loud_15 rfl (lv_at hl 0 rfl) ?_
    refine lv_iload_n hx hb dX12_loud_16 rfl (lv_at hl 1 rfl) ?_
    refine cV_i (As := [.int p1]) (rest := []) ⟨hx, hb, hml, hown, hg⟩ (k_X12_loudOf l D cs A bd (va_up (va_up (va_up (va_up u 28 o_u28_4) 29 o_u29_5) 30 o_u30_6) 31 o_u31_7) (va_up b 32 o_b32_8) bw  p1 (show 0 ≤ p1.toInt by first | omega | decide) (show p1.toInt < 8 by first | omega | decide) hlaw (show 0 ≤ (u 1).toInt by first | omega | decide) (show (u 1).toInt ≤ 8 by first | omega | decide) ib23_0 ib24_0 ib20_0) ca_X12_loudOf q6_97 ⟨rfl, rfl⟩ ⟨Nat.le_of_ble_eq_true rfl, Nat.le_of_ble_eq_true rfl⟩ (rc_model hK hP) hK hP hD hS hZ rfl hl.1 rfl (Nat.le_of_ble_eq_true rfl) ⟨Nat.zero_le _, Nat.zero_le _⟩ dX12_loud_17 (fun r_10 z_13 H locs wr_10 hP hD hS => ?_)
    obtain ⟨o_b25_11, o_b26_12⟩ := z_13
    have hP : va_P D vwCl (RW cs bd (va_up (va_up (va_up (va_up u 28 o_u28_4) 29 o_u29_5) 30 o_u30_6) 31 o_u31_7) (va_up (va_up (va_up b 32 o_b32_8) 25 o_b25_11) 26 o_b26_12) bw) H := hP
    have hD : va_D A (RW cs bd (va_up (va_up (va_up (va_up u 28 o_u28_4) 29 o_u29_5) 30 o_u30_6) 31 o_u31_7) (va_up (va_up (va_up b 32 o_b32_8) 25 o_b25_11) 26 o_b26_12) bw) := hD
    obtain ⟨wr_10_0, wr_10_1⟩ : (0 ≤ r_10.toInt) ∧ (r_10.toInt ≤ 99) := wr_10
    exact W.iret (v := r_10) hx hb hr (fun tt ht hW => ⟨⟨r_10, ⟨o_u28_4, o_u29_5, o_u30_6, o_u31_7, o_b32_8, o_b25_11, o_b26_12⟩, rfl, trivial, by rw [ht]; exact hP, hD⟩, hS.F ht⟩) hS.2.2 dX12_loud_20
  ·
    have kc_2 : r_1.toInt = (0 : Int) := i_eq c_2
    refine lv_iconst (v := (-1)) hx hb dX12_loud_8 (by decide) ?_
    have q0_m1 : ((-1) : Int32).toInt = (-1) := rfl
    have hP : va_P D vwCl (RW cs bd (va_up (va_up (va_up (va_up u 28 (u 28)) 29 (u 29)) 30 (u 30)) 31 (u 31)) (va_up (va_up (va_up b 32 (b 32)) 25 (b 25)) 26 (b 26)) bw) _ := hP
    have hD : va_D A (RW cs bd (va_up (va_up (va_up (va_up u 28 (u 28)) 29 (u 29)) 30 (u 30)) 31 (u 31)) (va_up (va_up (va_up b 32 (b 32)) 25 (b 25)) 26 (b 26)) bw) := hD
    exact W.iret (v := (-1)) hx hb hr (fun tt ht hW => ⟨⟨(-1), ⟨(u 28), (u 29), (u 30), (u 31), (b 32), (b 25), (b 26)⟩, rfl, trivial, by rw [ht]; exact hP, hD⟩, hS.F ht⟩) hS.2.2 dX12_loud_9
set_option maxHeartbeats 4000000 in
set_option maxRecDepth 100000 in
theorem k_X12_rowFault (l : Launch) (D : va_G) (cs : Nat → ClassId) (A : Nat → Prop) (bd : Nat → Nat) (u : Nat → Int32) (b : Nat → Nat → Int32) (bw : Nat → Nat → Int64)  (p1 : Int32) (p2 : Int32) (h1 : 0 ≤ p1.toInt) (h2 : p1.toInt < 6) (ib66_0 : AB (-6) 49 (b 66)) : Met l yX12_rowFault (Cond.code yX12_rowFault cX12_rowFault 3 (some .int) :: gw) ({ frames := 0, cells := 0, slots := 0, locals := 0 }) (va_Pc [.ref (bd 0), .int p1, .int p2] (XPre D (TY cs) (RW cs bd u b bw) A)) (vp_Si (fun (r : Int32) => (r.toInt = 0 ∨ r.toInt = -11 ∨ r.toInt = -12))) 0 0 (fun _ => False) := by
  refine Met.ofW (cc := cX12_rowFault) (maxL := 3) (ret := (some .int)) (by decide) rfl ?_
  intro p e s m args below meth c s₁ B hml hv
  obtain ⟨rfl, hP, hK, hD, hZ⟩ := hv
  have hx := B.exec
  have hb := B.bytes
  have hr := B.returns
  have hts := atoms_spec (ws := (Cond.code yX12_rowFault cX12_rowFault 3 (some .int) :: gw)) B.pre
  have hg : ∀ w ∈ gw, w.before ([.ref (bd 0), .int p1, .int p2] : List Value).toArray s = true := fun w h => hts w (List.mem_cons_of_mem _ h)
  have hown : s.vm.findClass RX12 = some m.cls := findClass_of_methodNamed B.named
  have hlocks := B.notSynchronized
  have hS : va_S A s.heap s.heap [] := va_S.rf
  have hl := lv_entry ([.ref (bd 0), .int p1, .int p2]) (n := 3) (Nat.le_of_ble_eq_true rfl)
  rw [lg_entry_eq]
  generalize (lg_sl ([.ref (bd 0), .int p1, .int p2]) ++ List.replicate (3 - (lg_sl ([.ref (bd 0), .int p1, .int p2])).length) Slot.unset).toArray = ls at hl ⊢
  have hl : lv_has ls 3 [(0, .ref (bd 0)), (1, .int p1), (2, .int p2)] := hl
  refine lv_aload_n hx hb dX12_rowFault_0 rfl (lv_at hl 0 rfl) ?_
  refine gr_holds hx hb hg hown hK hP (hg _ q5_58) dX12_rowFault_1 ?_
  refine lv_iload_n hx hb dX12_rowFault_4 rfl (lv_at hl 1 rfl) ?_
  refine lr_holds hx hb hK hP (i_in (by omega) (by omega)) dX12_rowFault_5 ?_
  refine lv_topi (fun x_1 ex_1 => ?_)
  have ex_1 : x_1 = (b 66) p1.toNatClampNeg := ex_1
  have hx_1 : x_1.toInt = ((b 66) p1.toNatClampNeg).toInt := by rw [ex_1]
  have bx_1 := ib66_0 p1.toNatClampNeg
  rw [← ex_1] at bx_1
  refine lv_iconst (v := (-1)) hx hb dX12_rowFault_6 (by decide) ?_
  refine lv_icmp_ne (tgt := 15) hx hb dX12_rowFault_7 (by decide) (fun c_2 => ?_) (fun c_2 => ?_)
  ·
    have kc_2 : x_1.toInt ≠ (-1 : Int) := i_ne c_2
    refine lv_aload_n hx hb dX12_rowFault_15 rfl (lv_at hl 0 rfl) ?_
    refine gr_holds hx hb hg hown hK hP (hg _ q5_58) dX12_rowFault_16 ?_
    refine lv_iload_n hx hb dX12_rowFault_19 rfl (lv_at hl 1 rfl) ?_
    refine lr_holds hx hb hK hP (i_in (by omega) (by omega)) dX12_rowFault_20 ?_
    refine lv_topi (fun x_3 ex_3 => ?_)
    have ex_3 : x_3 = (b 66) p1.toNatClampNeg := ex_3
    have hx_3 : x_3.toInt = ((b 66) p1.toNatClampNeg).toInt := by rw [ex_3]
    have bx_3 := ib66_0 p1.toNatClampNeg
    rw [← ex_3] at bx_3
    refine lv_bipush (v := (-2)) hx hb dX12_rowFault_21 (by decide) ?_
    refine lv_iload_n hx hb dX12_rowFault_23 rfl (lv_at hl 2 rfl) ?_
    refine lv_isub hx hb dX12_rowFault_24 ?_
    refine lv_topi (fun x_4 ex_4 => ?_)
    refine lv_icmp_ne (tgt := 32) hx hb dX12_rowFault_25 (by decide) (fun c_5 => ?_) (fun c_5 => ?_)
    ·
      have kc_5 : x_3.toInt ≠ x_4.toInt := i_ne c_5
      refine lv_bipush (v := (-12)) hx hb dX12_rowFault_32 (by decide) ?_
      have q0_m12 : ((-12) : Int32).toInt = (-12) := rfl
      exact W.iret (v := (-12)) hx hb hr (fun tt ht hW => ⟨(-12), rfl, (by first | rfl | omega | trivial | assumption | (dsimp only; first | omega | assumption)), ht⟩) (fun _ h => by cases h) dX12_rowFault_34
    ·
      have kc_5 : x_3.toInt = x_4.toInt := i_eq c_5
      refine lv_iconst (v := 0) hx hb dX12_rowFault_28 (by decide) ?_
      refine lv_goto (tgt := 34) hx hb dX12_rowFault_29 (by decide) ?_
      have q0_0 : (0 : Int32).toInt = 0 := rfl
      exact W.iret (v := 0) hx hb hr (fun tt ht hW => ⟨0, rfl, (by first | rfl | omega | trivial | assumption | (dsimp only; first | omega | assumption)), ht⟩) (fun _ h => by cases h) dX12_rowFault_34
  ·
    have kc_2 : x_1.toInt = (-1 : Int) := i_eq c_2
    refine lv_bipush (v := (-11)) hx hb dX12_rowFault_10 (by decide) ?_
    refine lv_goto (tgt := 34) hx hb dX12_rowFault_12 (by decide) ?_
    have q0_m11 : ((-11) : Int32).toInt = (-11) := rfl
    exact W.iret (v := (-11)) hx hb hr (fun tt ht hW => ⟨(-11), rfl, (by first | rfl | omega | trivial | assumption | (dsimp only; first | omega | assumption)), ht⟩) (fun _ h => by cases h) dX12_rowFault_34
set_option maxHeartbeats 4000000 in
set_option maxRecDepth 100000 in
theorem k_X12_at (l : Launch) (D : va_G) (cs : Nat → ClassId) (A : Nat → Prop) (bd : Nat → Nat) (u : Nat → Int32) (b : Nat → Nat → Int32) (bw : Nat → Nat → Int64)  (p1 : Int32) (p2 : Int32) (h1 : 0 ≤ p1.toInt) (h2 : p1.toInt < 6) (h3 : 0 ≤ p2.toInt) (h4 : p2.toInt < 60) : Met l yX12_at (Cond.code yX12_at cX12_at 3 (some .int) :: gw) ({ frames := 0, cells := 0, slots := 0, locals := 0 }) (va_Pc [.ref (bd 0), .int p1, .int p2] (XPre D (TY cs) (RW cs bd u b bw) A)) (vp_Si (fun (r : Int32) => (r.toInt = ((bw 68) (60 * p1.toInt.toNat + p2.toInt.toNat)).toInt32.toInt))) 0 0 (fun _ => False) := by
  refine Met.ofW (cc := cX12_at) (maxL := 3) (ret := (some .int)) (by decide) rfl ?_
  intro p e s m args below meth c s₁ B hml hv
  obtain ⟨rfl, hP, hK, hD, hZ⟩ := hv
  have hx := B.exec
  have hb := B.bytes
  have hr := B.returns
  have hts := atoms_spec (ws := (Cond.code yX12_at cX12_at 3 (some .int) :: gw)) B.pre
  have hg : ∀ w ∈ gw, w.before ([.ref (bd 0), .int p1, .int p2] : List Value).toArray s = true := fun w h => hts w (List.mem_cons_of_mem _ h)
  have hown : s.vm.findClass RX12 = some m.cls := findClass_of_methodNamed B.named
  have hlocks := B.notSynchronized
  have hS : va_S A s.heap s.heap [] := va_S.rf
  have hl := lv_entry ([.ref (bd 0), .int p1, .int p2]) (n := 3) (Nat.le_of_ble_eq_true rfl)
  rw [lg_entry_eq]
  generalize (lg_sl ([.ref (bd 0), .int p1, .int p2]) ++ List.replicate (3 - (lg_sl ([.ref (bd 0), .int p1, .int p2])).length) Slot.unset).toArray = ls at hl ⊢
  have hl : lv_has ls 3 [(0, .ref (bd 0)), (1, .int p1), (2, .int p2)] := hl
  refine lv_aload_n hx hb dX12_at_0 rfl (lv_at hl 0 rfl) ?_
  refine gr_elements hx hb hg hown hK hP (hg _ q5_60) dX12_at_1 ?_
  refine lv_bipush (v := 60) hx hb dX12_at_4 (by decide) ?_
  refine lv_iload_n hx hb dX12_at_6 rfl (lv_at hl 1 rfl) ?_
  refine lv_imul hx hb dX12_at_7 ?_
  refine lv_topi (fun x_1 ex_1 => ?_)
  have fx_1 : x_1.toInt = (60 : Int) * p1.toInt := by rw [ex_1]; exact i_mul (by first | omega | (show _ ≤ (60 : Int) * p1.toInt; omega)) (by first | omega | (show (60 : Int) * p1.toInt ≤ _; omega))
  refine lv_iload_n hx hb dX12_at_8 rfl (lv_at hl 2 rfl) ?_
  refine lv_iadd hx hb dX12_at_9 ?_
  refine lv_topi (fun x_2 ex_2 => ?_)
  have fx_2 : x_2.toInt = x_1.toInt + p2.toInt := by rw [ex_2]; exact i_add (by first | omega | (show (_ : Int) ≤ x_1.toInt + p2.toInt; omega)) (by first | omega | (show x_1.toInt + p2.toInt ≤ (_ : Int); omega))
  refine lr_elements hx hb hK hP (i_in (by omega) (by omega)) dX12_at_10 ?_
  refine lv_topl (fun x_3 ex_3 => ?_)
  have ex_3 : x_3 = (bw 68) x_2.toNatClampNeg := ex_3
  refine lv_l2i hx hb dX12_at_11 rfl ?_
  refine lv_topi (fun x_4 ex_4 => ?_)
  exact W.iret (v := x_4) hx hb hr (fun tt ht hW => ⟨x_4, rfl, (by rw [ex_4, ex_3, show x_2.toNatClampNeg = 60 * p1.toInt.toNat + p2.toInt.toNat from (by show x_2.toInt.toNat = _; omega)]), ht⟩) (fun _ h => by cases h) dX12_at_12
set_option maxHeartbeats 4000000 in
set_option maxRecDepth 100000 in
theorem k_X12_longOf (l : Launch) (D : va_G) (cs : Nat → ClassId) (A : Nat → Prop) (bd : Nat → Nat) (u : Nat → Int32) (b : Nat → Nat → Int32) (bw : Nat → Nat → Int64)  (p1 : Int32) (p2 : Int32) (h1 : 0 ≤ p1.toInt) (h2 : p1.toInt < 6) (h3 : p2.toInt ≤ 24) (ib67_0 : AB 0 60 (b 67)) (iu1_0 : 0 ≤ (u 1).toInt) (iu1_1 : (u 1).toInt ≤ 8) : Met l yX12_longOf (Cond.code yX12_longOf cX12_longOf 4 (some .int) :: gw) ({ frames := 2, cells := 0, slots := 0, locals := 43 }) (va_Pc [.ref (bd 0), .int p1, .int p2] (XPre D (TY cs) (RW cs bd u b bw) A)) (vp_Si (fun (r : Int32) => (0 ≤ r.toInt) ∧ (r.toInt ≤ 24) ∧ (LOKD r (bw 68) p1 (u 1)))) 0 0 (fun _ => False) := by
  refine Met.ofW (cc := cX12_longOf) (maxL := 4) (ret := (some .int)) (by decide) rfl ?_
  intro p e s m args below meth c s₁ B hml hv
  obtain ⟨rfl, hP, hK, hD, hZ⟩ := hv
  have hx := B.exec
  have hb := B.bytes
  have hr := B.returns
  have hts := atoms_spec (ws := (Cond.code yX12_longOf cX12_longOf 4 (some .int) :: gw)) B.pre
  have hg : ∀ w ∈ gw, w.before ([.ref (bd 0), .int p1, .int p2] : List Value).toArray s = true := fun w h => hts w (List.mem_cons_of_mem _ h)
  have hown : s.vm.findClass RX12 = some m.cls := findClass_of_methodNamed B.named
  have hlocks := B.notSynchronized
  have hS : va_S A s.heap s.heap [] := va_S.rf
  have hl := lv_entry ([.ref (bd 0), .int p1, .int p2]) (n := 4) (Nat.le_of_ble_eq_true rfl)
  rw [lg_entry_eq]
  generalize (lg_sl ([.ref (bd 0), .int p1, .int p2]) ++ List.replicate (4 - (lg_sl ([.ref (bd 0), .int p1, .int p2])).length) Slot.unset).toArray = ls at hl ⊢
  have hl : lv_has ls 4 [(0, .ref (bd 0)), (1, .int p1), (2, .int p2)] := hl
  have hcut : ∀ nk : Nat, (∀ (x3 : Int32) (i3 : 0 ≤ x3.toInt) (i3b : x3.toInt ≤ 24) (hlk : LOKD x3 (bw 68) p1 (u 1)) (hmu : (24 - x3.toInt).toNat < nk) (ls : Array Slot) (hl : lv_has ls 4 [(0, .ref (bd 0)), (1, .int p1), (2, .int p2), (3, .int x3)]), W p l e (headSpec (Cond.code yX12_longOf cX12_longOf 4 (some .int) :: gw) ({ frames := 2, cells := 0, slots := 0, locals := 43 })).room s m ([.ref (bd 0), .int p1, .int p2] : List Value).toArray below meth c s.heap [] 0 0 (MQ below (vp_Si (fun (r : Int32) => (0 ≤ r.toInt) ∧ (r.toInt ≤ 24) ∧ (LOKD r (bw 68) p1 (u 1)))) ([.ref (bd 0), .int p1, .int p2] : List Value).toArray s 0 0 (fun _ => False)) (F0 m 2 ls [])) := by
    intro nk
    induction nk with
    | zero => exact (fun x3 i3 i3b hlk hmu ls hl => absurd hmu (Nat.not_lt_zero _))
    | succ nk ih =>
      intro x3 i3 i3b hlk hmu ls hl
      refine lv_iload_n hx hb dX12_longOf_2 rfl (lv_at hl 3 rfl) ?_
      refine lv_iload_n hx hb dX12_longOf_3 rfl (lv_at hl 2 rfl) ?_
      refine lv_icmp_ge (tgt := 47) hx hb dX12_longOf_4 (by decide) (fun c_1 => ?_) (fun c_1 => ?_)
      ·
        have kc_1 : p2.toInt ≤ x3.toInt := i_le c_1
        refine lv_iload_n hx hb dX12_longOf_47 rfl (lv_at hl 3 rfl) ?_
        exact W.iret (v := x3) hx hb hr (fun tt ht hW => ⟨x3, rfl, ⟨(by first | rfl | omega | trivial | assumption | (dsimp only; first | omega | assumption)), (by first | rfl | omega | trivial | assumption | (dsimp only; first | omega | assumption)), hlk⟩, ht⟩) (fun _ h => by cases h) dX12_longOf_48
      ·
        have kc_1 : x3.toInt < p2.toInt := i_nle c_1
        refine lv_iload_n hx hb dX12_longOf_7 rfl (lv_at hl 3 rfl) ?_
        refine lv_aload_n hx hb dX12_longOf_8 rfl (lv_at hl 0 rfl) ?_
        refine gr_size hx hb hg hown hK hP (hg _ q5_59) dX12_longOf_9 ?_
        refine lv_iload_n hx hb dX12_longOf_12 rfl (lv_at hl 1 rfl) ?_
        refine lr_size hx hb hK hP (i_in (by omega) (by omega)) dX12_longOf_13 ?_
        refine lv_topi (fun x_2 ex_2 => ?_)
        have ex_2 : x_2 = (b 67) p1.toNatClampNeg := ex_2
        have hx_2 : x_2.toInt = ((b 67) p1.toNatClampNeg).toInt := by rw [ex_2]
        have bx_2 := ib67_0 p1.toNatClampNeg
        rw [← ex_2] at bx_2
        refine lv_icmp_ge (tgt := 47) hx hb dX12_longOf_14 (by decide) (fun c_3 => ?_) (fun c_3 => ?_)
        ·
          have kc_3 : x_2.toInt ≤ x3.toInt := i_le c_3
          refine lv_iload_n hx hb dX12_longOf_47 rfl (lv_at hl 3 rfl) ?_
          exact W.iret (v := x3) hx hb hr (fun tt ht hW => ⟨x3, rfl, ⟨(by first | rfl | omega | trivial | assumption | (dsimp only; first | omega | assumption)), (by first | rfl | omega | trivial | assumption | (dsimp only; first | omega | assumption)), hlk⟩, ht⟩) (fun _ h => by cases h) dX12_longOf_48
        ·
          have kc_3 : x3.toInt < x_2.toInt := i_nle c_3
          refine lv_aload_n hx hb dX12_longOf_17 rfl (lv_at hl 0 rfl) ?_
          refine lv_iload_n hx hb dX12_longOf_18 rfl (lv_at hl 1 rfl) ?_
          refine lv_iload_n hx hb dX12_longOf_19 rfl (lv_at hl 3 rfl) ?_
          refine cV_ro (As := [.int p1, .int x3]) (rest := []) ⟨hx, hb, hml, hown, hg⟩ (k_X12_at l D cs A bd u b bw  p1 x3 (show 0 ≤ p1.toInt by first | omega | decide) (show p1.toInt < 6 by first | omega | decide) (show 0 ≤ x3.toInt by first | omega | decide) (show x3.toInt < 60 by first | omega | decide)) ca_X12_at q6_144 ⟨rfl, rfl⟩ ⟨Nat.le_of_ble_eq_true rfl, Nat.le_of_ble_eq_true rfl⟩ (rc_model hK hP) hK hP hD hS hZ rfl hl.1 rfl (Nat.le_of_ble_eq_true rfl) ⟨Nat.zero_le _, Nat.zero_le _⟩ dX12_longOf_20 (fun r_4 wr_4 => ?_)
          have wr_4_0 : r_4.toInt = ((bw 68) (60 * p1.toInt.toNat + x3.toInt.toNat)).toInt32.toInt := wr_4
          refine lv_if_lt (tgt := 47) hx hb dX12_longOf_23 (by decide) (fun c_5 => ?_) (fun c_5 => ?_)
          ·
            have kc_5 : r_4.toInt < (0 : Int) := i_lt c_5
            refine lv_iload_n hx hb dX12_longOf_47 rfl (lv_at hl 3 rfl) ?_
            exact W.iret (v := x3) hx hb hr (fun tt ht hW => ⟨x3, rfl, ⟨(by first | rfl | omega | trivial | assumption | (dsimp only; first | omega | assumption)), (by first | rfl | omega | trivial | assumption | (dsimp only; first | omega | assumption)), hlk⟩, ht⟩) (fun _ h => by cases h) dX12_longOf_48
          ·
            have kc_5 : (0 : Int) ≤ r_4.toInt := i_nlt c_5
            refine lv_aload_n hx hb dX12_longOf_26 rfl (lv_at hl 0 rfl) ?_
            refine lv_aload_n hx hb dX12_longOf_27 rfl (lv_at hl 0 rfl) ?_
            refine lv_iload_n hx hb dX12_longOf_28 rfl (lv_at hl 1 rfl) ?_
            refine lv_iload_n hx hb dX12_longOf_29 rfl (lv_at hl 3 rfl) ?_
            refine cV_ro (As := [.int p1, .int x3]) (rest := [.ref (bd 0)]) ⟨hx, hb, hml, hown, hg⟩ (k_X12_at l D cs A bd u b bw  p1 x3 (show 0 ≤ p1.toInt by first | omega | decide) (show p1.toInt < 6 by first | omega | decide) (show 0 ≤ x3.toInt by first | omega | decide) (show x3.toInt < 60 by first | omega | decide)) ca_X12_at q6_144 ⟨rfl, rfl⟩ ⟨Nat.le_of_ble_eq_true rfl, Nat.le_of_ble_eq_true rfl⟩ (rc_model hK hP) hK hP hD hS hZ rfl hl.1 rfl (Nat.le_of_ble_eq_true rfl) ⟨Nat.zero_le _, Nat.zero_le _⟩ dX12_longOf_30 (fun r_6 wr_6 => ?_)
            have wr_6_0 : r_6.toInt = ((bw 68) (60 * p1.toInt.toNat + x3.toInt.toNat)).toInt32.toInt := wr_6
            refine lv_iconst (v := 2) hx hb dX12_longOf_33 (by decide) ?_
            refine lv_idiv hx hb dX12_longOf_34 (by decide) ?_
            refine lv_topi (fun x_7 ex_7 => ?_)
            have fx_7 : x_7.toInt = r_6.toInt / (2 : Int) := by rw [ex_7]; exact i_div (by omega) (by first | omega | decide)
            refine cV_ro (As := [.int x_7]) (rest := []) ⟨hx, hb, hml, hown, hg⟩ (k_X12_isOne l D cs A bd u b bw  x_7 (show 0 ≤ (u 1).toInt by first | omega | decide) (show (u 1).toInt ≤ 8 by first | omega | decide)) ca_X12_isOne q6_7 ⟨rfl, rfl⟩ ⟨Nat.le_of_ble_eq_true rfl, Nat.le_of_ble_eq_true rfl⟩ (rc_model hK hP) hK hP hD hS hZ rfl hl.1 rfl (Nat.le_of_ble_eq_true rfl) ⟨Nat.zero_le _, Nat.zero_le _⟩ dX12_longOf_35 (fun r_8 wr_8 => ?_)
            have wr_8_0 : (r_8.toInt = 1 ∧ 0 ≤ x_7.toInt ∧ x_7.toInt < (u 1).toInt) ∨ (r_8.toInt = 0 ∧ ¬ (0 ≤ x_7.toInt ∧ x_7.toInt < (u 1).toInt)) := wr_8
            refine lv_if_eq (tgt := 47) hx hb dX12_longOf_38 (by decide) (fun c_9 => ?_) (fun c_9 => ?_)
            ·
              have kc_9 : r_8.toInt = (0 : Int) := i_eq c_9
              refine lv_iload_n hx hb dX12_longOf_47 rfl (lv_at hl 3 rfl) ?_
              exact W.iret (v := x3) hx hb hr (fun tt ht hW => ⟨x3, rfl, ⟨(by first | rfl | omega | trivial | assumption | (dsimp only; first | omega | assumption)), (by first | rfl | omega | trivial | assumption | (dsimp only; first | omega | assumption)), hlk⟩, ht⟩) (fun _ h => by cases h) dX12_longOf_48
            ·
              have kc_9 : r_8.toInt ≠ (0 : Int) := i_ne c_9
              obtain ⟨x_10, ex_10⟩ : ∃ y : Int32, y = x3 + 1 := ⟨_, rfl⟩
              have fx_10 : x_10.toInt = x3.toInt + 1 := by rw [ex_10]; exact i_add (by first | omega | (show (_ : Int) ≤ x3.toInt + 1; omega)) (by first | omega | (show x3.toInt + 1 ≤ (_ : Int); omega))
              refine lv_iinc (v := x_10) (lv' := [(3, .int x_10), (0, .ref (bd 0)), (1, .int p1), (2, .int p2)]) hx hb dX12_longOf_41 hl (k := 3) rfl (by rw [ex_10]; rfl) (by decide) rfl (fun ls hl => ?_)
              refine lv_goto (tgt := 2) hx hb dX12_longOf_44 (by decide) ?_
              exact ih x_10 (by omega) (by omega) (fun j hj => (Classical.em (j = x3.toInt.toNat)).elim (fun q => by rw [q]; omega) (fun q => hlk j (by omega))) (by omega) ls (lv_sub hl [1, 2, 3, 0] rfl)
  refine lv_iconst (v := 0) hx hb dX12_longOf_0 (by decide) ?_
  refine lv_istore_n (lv' := [(3, .int 0), (0, .ref (bd 0)), (1, .int p1), (2, .int p2)]) hx hb dX12_longOf_1 rfl hl (by decide) rfl (fun ls hl => ?_)
  have q0_0 : (0 : Int32).toInt = 0 := rfl
  exact (hcut (((24 - (0 : Int32).toInt).toNat) + 1)) 0 (by omega) (by omega) (fun j hj => absurd hj (by have q : (0 : Int32).toInt = 0 := rfl; omega)) (Nat.lt_succ_self _) ls (lv_sub hl [1, 2, 3, 0] rfl)
set_option maxHeartbeats 4000000 in
set_option maxRecDepth 100000 in
theorem k_X12_goDay (l : Launch) (D : va_G) (cs : Nat → ClassId) (A : Nat → Prop) (bd : Nat → Nat) (u : Nat → Int32) (b : Nat → Nat → Int32) (bw : Nat → Nat → Int64)  (p1 : Int32) (p2 : Int32) (h1 : 0 ≤ p1.toInt) (h2 : p1.toInt < 6) (h3 : p2.toInt ≤ 24) (hlaw : LAWOK (b 20) (b 21) (b 22) (b 23) (b 24)) (iu1_0 : 0 ≤ (u 1).toInt) (iu1_1 : (u 1).toInt ≤ 8) (ib67_0 : AB 0 60 (b 67)) (ib23_0 : AB (-32768) 32767 (b 23)) (ib24_0 : AB (-32768) 32767 (b 24)) (ib20_0 : AB (-128) 127 (b 20)) (iu7_0 : -1 ≤ (u 7).toInt) (iu7_1 : (u 7).toInt < (u 1).toInt) : Met l yX12_goDay (Cond.code yX12_goDay cX12_goDay 6 none :: gw) ({ frames := 5, cells := 0, slots := 0, locals := 116 }) (va_Pc [.ref (bd 0), .int p1, .int p2] (XPre D (TY cs) (RW cs bd u b bw) A)) (va_Qv (fun (z : Int32 × Int32 × Int32 × Int32 × Int32 × Int32 × Int32 × (Nat → Int32) × (Nat → Int32) × (Nat → Int32) × (Nat → Int32) × (Nat → Int32) × (Nat → Int32)) => (-1 ≤ z.2.2.2.2.1.toInt) ∧ (z.2.2.2.2.1.toInt < (u 1).toInt)) (XPo D (fun (z : Int32 × Int32 × Int32 × Int32 × Int32 × Int32 × Int32 × (Nat → Int32) × (Nat → Int32) × (Nat → Int32) × (Nat → Int32) × (Nat → Int32) × (Nat → Int32)) => RW cs bd (va_up (va_up (va_up (va_up (va_up (va_up (va_up u 33 z.1) 34 z.2.1) 30 z.2.2.1) 28 z.2.2.2.1) 29 z.2.2.2.2.1) 31 z.2.2.2.2.2.1) 35 z.2.2.2.2.2.2.1) (va_up (va_up (va_up (va_up (va_up (va_up b 32 z.2.2.2.2.2.2.2.1) 25 z.2.2.2.2.2.2.2.2.1) 26 z.2.2.2.2.2.2.2.2.2.1) 36 z.2.2.2.2.2.2.2.2.2.2.1) 37 z.2.2.2.2.2.2.2.2.2.2.2.1) 38 z.2.2.2.2.2.2.2.2.2.2.2.2) bw) A) A) 0 0 A := by
  refine Met.ofW (cc := cX12_goDay) (maxL := 6) (ret := none) (by decide) rfl ?_
  intro p e s m args below meth c s₁ B hml hv
  obtain ⟨rfl, hP, hK, hD, hZ⟩ := hv
  have hx := B.exec
  have hb := B.bytes
  have hr := B.returns
  have hts := atoms_spec (ws := (Cond.code yX12_goDay cX12_goDay 6 none :: gw)) B.pre
  have hg : ∀ w ∈ gw, w.before ([.ref (bd 0), .int p1, .int p2] : List Value).toArray s = true := fun w h => hts w (List.mem_cons_of_mem _ h)
  have hown : s.vm.findClass RX12 = some m.cls := findClass_of_methodNamed B.named
  have hlocks := B.notSynchronized
  have hS : va_S A s.heap s.heap [] := va_S.rf
  have hP : va_P D vwCl (RW cs bd u b bw) s.heap := hP
  have hl := lv_entry ([.ref (bd 0), .int p1, .int p2]) (n := 6) (Nat.le_of_ble_eq_true rfl)
  rw [lg_entry_eq]
  generalize (lg_sl ([.ref (bd 0), .int p1, .int p2]) ++ List.replicate (6 - (lg_sl ([.ref (bd 0), .int p1, .int p2])).length) Slot.unset).toArray = ls at hl ⊢
  have hl : lv_has ls 6 [(0, .ref (bd 0)), (1, .int p1), (2, .int p2)] := hl
  have hcut : ∀ nk : Nat, (∀ (x3 : Int32) (c12_b36 : Nat → Int32) (c12_b37 : Nat → Int32) (c12_b38 : Nat → Int32) (c12_u28 : Int32) (c12_u29 : Int32) (c12_u30 : Int32) (c12_u31 : Int32) (c12_u35 : Int32) (c12_b32 : Nat → Int32) (H : Heap) (locs : List Loc) (i3 : 0 ≤ x3.toInt) (ju29_0 : -1 ≤ c12_u29.toInt) (ju29_1 : c12_u29.toInt < (u 1).toInt) (hmu : 100 + ((u 1).toInt - x3.toInt).toNat < nk) (hP : va_P D vwCl (RW cs bd (va_up (va_up (va_up (va_up (va_up u 28 c12_u28) 29 c12_u29) 30 c12_u30) 31 c12_u31) 35 c12_u35) (va_up (va_up (va_up (va_up b 36 c12_b36) 37 c12_b37) 38 c12_b38) 32 c12_b32) bw) H) (hD : va_D A (RW cs bd (va_up (va_up (va_up (va_up (va_up u 28 c12_u28) 29 c12_u29) 30 c12_u30) 31 c12_u31) 35 c12_u35) (va_up (va_up (va_up (va_up b 36 c12_b36) 37 c12_b37) 38 c12_b38) 32 c12_b32) bw)) (hS : va_S A s.heap H locs) (ls : Array Slot) (hl : lv_has ls 6 [(0, .ref (bd 0)), (1, .int p1), (2, .int p2), (3, .int x3)]), W p l e (headSpec (Cond.code yX12_goDay cX12_goDay 6 none :: gw) ({ frames := 5, cells := 0, slots := 0, locals := 116 })).room s m ([.ref (bd 0), .int p1, .int p2] : List Value).toArray below meth c H locs 0 0 (MQ below (va_Qv (fun (z : Int32 × Int32 × Int32 × Int32 × Int32 × Int32 × Int32 × (Nat → Int32) × (Nat → Int32) × (Nat → Int32) × (Nat → Int32) × (Nat → Int32) × (Nat → Int32)) => (-1 ≤ z.2.2.2.2.1.toInt) ∧ (z.2.2.2.2.1.toInt < (u 1).toInt)) (XPo D (fun (z : Int32 × Int32 × Int32 × Int32 × Int32 × Int32 × Int32 × (Nat → Int32) × (Nat → Int32) × (Nat → Int32) × (Nat → Int32) × (Nat → Int32) × (Nat → Int32)) => RW cs bd (va_up (va_up (va_up (va_up (va_up (va_up (va_up u 33 z.1) 34 z.2.1) 30 z.2.2.1) 28 z.2.2.2.1) 29 z.2.2.2.2.1) 31 z.2.2.2.2.2.1) 35 z.2.2.2.2.2.2.1) (va_up (va_up (va_up (va_up (va_up (va_up b 32 z.2.2.2.2.2.2.2.1) 25 z.2.2.2.2.2.2.2.2.1) 26 z.2.2.2.2.2.2.2.2.2.1) 36 z.2.2.2.2.2.2.2.2.2.2.1) 37 z.2.2.2.2.2.2.2.2.2.2.2.1) 38 z.2.2.2.2.2.2.2.2.2.2.2.2) bw) A) A) ([.ref (bd 0), .int p1, .int p2] : List Value).toArray s 0 0 A) (F0 m 12 ls [])) ∧ (∀ (x3 : Int32) (x4 : Int32) (c58_u33 : Int32) (c58_u34 : Int32) (c58_u30 : Int32) (c58_u28 : Int32) (c58_u29 : Int32) (c58_u31 : Int32) (c58_b32 : Nat → Int32) (c58_b25 : Nat → Int32) (c58_b26 : Nat → Int32) (c58_b36 : Nat → Int32) (c58_b37 : Nat → Int32) (c58_b38 : Nat → Int32) (c58_u35 : Int32) (H : Heap) (locs : List Loc) (i4 : 0 ≤ x4.toInt) (i3b : x3.toInt ≤ 24) (hlk : LOKD x3 (bw 68) p1 (u 1)) (ju29_0 : -1 ≤ c58_u29.toInt) (ju29_1 : c58_u29.toInt < (u 1).toInt) (hmu : (x3.toInt - x4.toInt).toNat < nk) (hP : va_P D vwCl (RW cs bd (va_up (va_up (va_up (va_up (va_up (va_up (va_up u 33 c58_u33) 34 c58_u34) 30 c58_u30) 28 c58_u28) 29 c58_u29) 31 c58_u31) 35 c58_u35) (va_up (va_up (va_up (va_up (va_up (va_up b 32 c58_b32) 25 c58_b25) 26 c58_b26) 36 c58_b36) 37 c58_b37) 38 c58_b38) bw) H) (hD : va_D A (RW cs bd (va_up (va_up (va_up (va_up (va_up (va_up (va_up u 33 c58_u33) 34 c58_u34) 30 c58_u30) 28 c58_u28) 29 c58_u29) 31 c58_u31) 35 c58_u35) (va_up (va_up (va_up (va_up (va_up (va_up b 32 c58_b32) 25 c58_b25) 26 c58_b26) 36 c58_b36) 37 c58_b37) 38 c58_b38) bw)) (hS : va_S A s.heap H locs) (ls : Array Slot) (hl : lv_has ls 6 [(0, .ref (bd 0)), (1, .int p1), (2, .int p2), (3, .int x3), (4, .int x4)]), W p l e (headSpec (Cond.code yX12_goDay cX12_goDay 6 none :: gw) ({ frames := 5, cells := 0, slots := 0, locals := 116 })).room s m ([.ref (bd 0), .int p1, .int p2] : List Value).toArray below meth c H locs 0 0 (MQ below (va_Qv (fun (z : Int32 × Int32 × Int32 × Int32 × Int32 × Int32 × Int32 × (Nat → Int32) × (Nat → Int32) × (Nat → Int32) × (Nat → Int32) × (Nat → Int32) × (Nat → Int32)) => (-1 ≤ z.2.2.2.2.1.toInt) ∧ (z.2.2.2.2.1.toInt < (u 1).toInt)) (XPo D (fun (z : Int32 × Int32 × Int32 × Int32 × Int32 × Int32 × Int32 × (Nat → Int32) × (Nat → Int32) × (Nat → Int32) × (Nat → Int32) × (Nat → Int32) × (Nat → Int32)) => RW cs bd (va_up (va_up (va_up (va_up (va_up (va_up (va_up u 33 z.1) 34 z.2.1) 30 z.2.2.1) 28 z.2.2.2.1) 29 z.2.2.2.2.1) 31 z.2.2.2.2.2.1) 35 z.2.2.2.2.2.2.1) (va_up (va_up (va_up (va_up (va_up (va_up b 32 z.2.2.2.2.2.2.2.1) 25 z.2.2.2.2.2.2.2.2.1) 26 z.2.2.2.2.2.2.2.2.2.1) 36 z.2.2.2.2.2.2.2.2.2.2.1) 37 z.2.2.2.2.2.2.2.2.2.2.2.1) 38 z.2.2.2.2.2.2.2.2.2.2.2.2) bw) A) A) ([.ref (bd 0), .int p1, .int p2] : List Value).toArray s 0 0 A) (F0 m 58 ls [])) := by
    intro nk
    induction nk with
    | zero => exact ⟨(fun x3 c12_b36 c12_b37 c12_b38 c12_u28 c12_u29 c12_u30 c12_u31 c12_u35 c12_b32 H locs i3 ju29_0 ju29_1 hmu hP hD hS ls hl => absurd hmu (Nat.not_lt_zero _)), (fun x3 x4 c58_u33 c58_u34 c58_u30 c58_u28 c58_u29 c58_u31 c58_b32 c58_b25 c58_b26 c58_b36 c58_b37 c58_b38 c58_u35 H locs i4 i3b hlk ju29_0 ju29_1 hmu hP hD hS ls hl => absurd hmu (Nat.not_lt_zero _))⟩
    | succ nk ih =>
      refine ⟨?_, ?_⟩
      ·
        intro x3 c12_b36 c12_b37 c12_b38 c12_u28 c12_u29 c12_u30 c12_u31 c12_u35 c12_b32 H locs i3 ju29_0 ju29_1 hmu hP hD hS ls hl
        refine lv_iload_n hx hb dX12_goDay_12 rfl (lv_at hl 3 rfl) ?_
        refine lv_aload_n hx hb dX12_goDay_13 rfl (lv_at hl 0 rfl) ?_
        refine gr_people1 hx hb hg hown hK hP (x := (u 1)) rfl (hg _ q4_233) dX12_goDay_14 ?_
        refine lv_icmp_ge (tgt := 48) hx hb dX12_goDay_17 (by decide) (fun c_1 => ?_) (fun c_1 => ?_)
        ·
          have kc_1 : (u 1).toInt ≤ x3.toInt := i_le c_1
          refine lv_aload_n hx hb dX12_goDay_48 rfl (lv_at hl 0 rfl) ?_
          refine lv_iload_n hx hb dX12_goDay_49 rfl (lv_at hl 1 rfl) ?_
          refine lv_iload_n hx hb dX12_goDay_50 rfl (lv_at hl 2 rfl) ?_
          refine cV_ro (As := [.int p1, .int p2]) (rest := []) ⟨hx, hb, hml, hown, hg⟩ (k_X12_longOf l D cs A bd (va_up (va_up (va_up (va_up (va_up u 28 c12_u28) 29 c12_u29) 30 c12_u30) 31 c12_u31) 35 c12_u35) (va_up (va_up (va_up (va_up b 36 c12_b36) 37 c12_b37) 38 c12_b38) 32 c12_b32) bw  p1 p2 (show 0 ≤ p1.toInt by first | omega | decide) (show p1.toInt < 6 by first | omega | decide) (show p2.toInt ≤ 24 by first | omega | decide) ib67_0 (show 0 ≤ (u 1).toInt by first | omega | decide) (show (u 1).toInt ≤ 8 by first | omega | decide)) ca_X12_longOf q6_140 ⟨rfl, rfl⟩ ⟨Nat.le_of_ble_eq_true rfl, Nat.le_of_ble_eq_true rfl⟩ (rc_model hK hP) hK hP hD hS hZ rfl hl.1 rfl (Nat.le_of_ble_eq_true rfl) ⟨Nat.zero_le _, Nat.zero_le _⟩ dX12_goDay_51 (fun r_2 wr_2 => ?_)
          obtain ⟨wr_2_0, wr_2_1, wr_2_2⟩ : (0 ≤ r_2.toInt) ∧ (r_2.toInt ≤ 24) ∧ (LOKD r_2 (bw 68) p1 (u 1)) := wr_2
          refine lv_istore_n (lv' := [(3, .int r_2), (0, .ref (bd 0)), (1, .int p1), (2, .int p2)]) hx hb dX12_goDay_54 rfl hl (by decide) rfl (fun ls hl => ?_)
          refine lv_iconst (v := 0) hx hb dX12_goDay_55 (by decide) ?_
          refine lv_istore (lv' := [(4, .int 0), (3, .int r_2), (0, .ref (bd 0)), (1, .int p1), (2, .int p2)]) hx hb dX12_goDay_56 hl (by decide) rfl (fun ls hl => ?_)
          have q0_0 : (0 : Int32).toInt = 0 := rfl
          exact ih.2 r_2 0 (u 33) (u 34) c12_u30 c12_u28 c12_u29 c12_u31 c12_b32 (b 25) (b 26) c12_b36 c12_b37 c12_b38 c12_u35 _ _ (by omega) (by omega) (by assumption) (show -1 ≤ c12_u29.toInt by first | omega | assumption) (show c12_u29.toInt < (u 1).toInt by first | omega | assumption) (by omega) hP hD hS ls (lv_sub hl [2, 3, 4, 1, 0] rfl)
        ·
          have kc_1 : x3.toInt < (u 1).toInt := i_nle c_1
          refine lv_aload_n hx hb dX12_goDay_20 rfl (lv_at hl 0 rfl) ?_
          refine gr_stungOf hx hb hg hown hK hP (hg _ q5_28) dX12_goDay_21 ?_
          refine lv_iload_n hx hb dX12_goDay_24 rfl (lv_at hl 3 rfl) ?_
          refine lv_iconst (v := 0) hx hb dX12_goDay_25 (by decide) ?_
          refine sr_stungOf hx hb hK hP hD hS (i_in (by omega) (by omega)) dX12_goDay_26 (fun H locs hP hD hS => ?_)
          refine lv_aload_n hx hb dX12_goDay_27 rfl (lv_at hl 0 rfl) ?_
          refine gr_hurtOf hx hb hg hown hK hP (hg _ q5_29) dX12_goDay_28 ?_
          refine lv_iload_n hx hb dX12_goDay_31 rfl (lv_at hl 3 rfl) ?_
          refine lv_iconst (v := 0) hx hb dX12_goDay_32 (by decide) ?_
          refine sr_hurtOf hx hb hK hP hD hS (i_in (by omega) (by omega)) dX12_goDay_33 (fun H locs hP hD hS => ?_)
          refine lv_aload_n hx hb dX12_goDay_34 rfl (lv_at hl 0 rfl) ?_
          refine gr_firstOf hx hb hg hown hK hP (hg _ q5_30) dX12_goDay_35 ?_
          refine lv_iload_n hx hb dX12_goDay_38 rfl (lv_at hl 3 rfl) ?_
          refine lv_bipush (v := (-2)) hx hb dX12_goDay_39 (by decide) ?_
          refine sr_firstOf hx hb hK hP hD hS (i_in (by omega) (by omega)) dX12_goDay_41 (fun H locs hP hD hS => ?_)
          obtain ⟨x_3, ex_3⟩ : ∃ y : Int32, y = x3 + 1 := ⟨_, rfl⟩
          have fx_3 : x_3.toInt = x3.toInt + 1 := by rw [ex_3]; exact i_add (by first | omega | (show (_ : Int) ≤ x3.toInt + 1; omega)) (by first | omega | (show x3.toInt + 1 ≤ (_ : Int); omega))
          refine lv_iinc (v := x_3) (lv' := [(3, .int x_3), (0, .ref (bd 0)), (1, .int p1), (2, .int p2)]) hx hb dX12_goDay_42 hl (k := 3) rfl (by rw [ex_3]; rfl) (by decide) rfl (fun ls hl => ?_)
          refine lv_goto (tgt := 12) hx hb dX12_goDay_45 (by decide) ?_
          exact ih.1 x_3 (upd c12_b36 x3.toNatClampNeg 0) (upd c12_b37 x3.toNatClampNeg 0) (upd c12_b38 x3.toNatClampNeg (-2)) c12_u28 c12_u29 c12_u30 c12_u31 c12_u35 c12_b32 _ _ (by omega) (show -1 ≤ c12_u29.toInt by first | omega | assumption) (show c12_u29.toInt < (u 1).toInt by first | omega | assumption) (by omega) hP hD hS ls (lv_sub hl [1, 2, 3, 0] rfl)
      ·
        intro x3 x4 c58_u33 c58_u34 c58_u30 c58_u28 c58_u29 c58_u31 c58_b32 c58_b25 c58_b26 c58_b36 c58_b37 c58_b38 c58_u35 H locs i4 i3b hlk ju29_0 ju29_1 hmu hP hD hS ls hl
        refine lv_iload hx hb dX12_goDay_58 (lv_at hl 4 rfl) ?_
        refine lv_iload_n hx hb dX12_goDay_60 rfl (lv_at hl 3 rfl) ?_
        refine lv_icmp_ge (tgt := 179) hx hb dX12_goDay_61 (by decide) (fun c_4 => ?_) (fun c_4 => ?_)
        ·
          have kc_4 : x3.toInt ≤ x4.toInt := i_le c_4
          exact W.vret hx hb hr (fun tt ht hW => ⟨⟨⟨c58_u33, c58_u34, c58_u30, c58_u28, c58_u29, c58_u31, c58_u35, c58_b32, c58_b25, c58_b26, c58_b36, c58_b37, c58_b38⟩, rfl, ⟨(show -1 ≤ c58_u29.toInt by first | omega | assumption), (show c58_u29.toInt < (u 1).toInt by first | omega | assumption)⟩, by rw [ht]; exact hP, hD⟩, hS.F ht⟩) hS.2.2 dX12_goDay_179
        ·
          have kc_4 : x4.toInt < x3.toInt := i_nle c_4
          refine lv_aload_n hx hb dX12_goDay_64 rfl (lv_at hl 0 rfl) ?_
          refine lv_aload_n hx hb dX12_goDay_65 rfl (lv_at hl 0 rfl) ?_
          refine lv_iload_n hx hb dX12_goDay_66 rfl (lv_at hl 1 rfl) ?_
          refine lv_iload hx hb dX12_goDay_67 (lv_at hl 4 rfl) ?_
          refine cV_ro (As := [.int p1, .int x4]) (rest := [.ref (bd 0)]) ⟨hx, hb, hml, hown, hg⟩ (k_X12_at l D cs A bd (va_up (va_up (va_up (va_up (va_up (va_up (va_up u 33 c58_u33) 34 c58_u34) 30 c58_u30) 28 c58_u28) 29 c58_u29) 31 c58_u31) 35 c58_u35) (va_up (va_up (va_up (va_up (va_up (va_up b 32 c58_b32) 25 c58_b25) 26 c58_b26) 36 c58_b36) 37 c58_b37) 38 c58_b38) bw  p1 x4 (show 0 ≤ p1.toInt by first | omega | decide) (show p1.toInt < 6 by first | omega | decide) (show 0 ≤ x4.toInt by first | omega | decide) (show x4.toInt < 60 by first | omega | decide)) ca_X12_at q6_144 ⟨rfl, rfl⟩ ⟨Nat.le_of_ble_eq_true rfl, Nat.le_of_ble_eq_true rfl⟩ (rc_model hK hP) hK hP hD hS hZ rfl hl.1 rfl (Nat.le_of_ble_eq_true rfl) ⟨Nat.zero_le _, Nat.zero_le _⟩ dX12_goDay_69 (fun r_5 wr_5 => ?_)
          have wr_5_0 : r_5.toInt = ((bw 68) (60 * p1.toInt.toNat + x4.toInt.toNat)).toInt32.toInt := wr_5
          have hl_6 := hlk (x4).toInt.toNat (by omega)
          refine lv_iconst (v := 2) hx hb dX12_goDay_72 (by decide) ?_
          refine lv_idiv hx hb dX12_goDay_73 (by decide) ?_
          refine lv_topi (fun x_7 ex_7 => ?_)
          have fx_7 : x_7.toInt = r_5.toInt / (2 : Int) := by rw [ex_7]; exact i_div (by omega) (by first | omega | decide)
          refine lv_aload_n hx hb dX12_goDay_74 rfl (lv_at hl 0 rfl) ?_
          refine lv_iload_n hx hb dX12_goDay_75 rfl (lv_at hl 1 rfl) ?_
          refine lv_iload hx hb dX12_goDay_76 (lv_at hl 4 rfl) ?_
          refine cV_ro (As := [.int p1, .int x4]) (rest := [.int x_7, .ref (bd 0)]) ⟨hx, hb, hml, hown, hg⟩ (k_X12_at l D cs A bd (va_up (va_up (va_up (va_up (va_up (va_up (va_up u 33 c58_u33) 34 c58_u34) 30 c58_u30) 28 c58_u28) 29 c58_u29) 31 c58_u31) 35 c58_u35) (va_up (va_up (va_up (va_up (va_up (va_up b 32 c58_b32) 25 c58_b25) 26 c58_b26) 36 c58_b36) 37 c58_b37) 38 c58_b38) bw  p1 x4 (show 0 ≤ p1.toInt by first | omega | decide) (show p1.toInt < 6 by first | omega | decide) (show 0 ≤ x4.toInt by first | omega | decide) (show x4.toInt < 60 by first | omega | decide)) ca_X12_at q6_144 ⟨rfl, rfl⟩ ⟨Nat.le_of_ble_eq_true rfl, Nat.le_of_ble_eq_true rfl⟩ (rc_model hK hP) hK hP hD hS hZ rfl hl.1 rfl (Nat.le_of_ble_eq_true rfl) ⟨Nat.zero_le _, Nat.zero_le _⟩ dX12_goDay_78 (fun r_8 wr_8 => ?_)
          have wr_8_0 : r_8.toInt = ((bw 68) (60 * p1.toInt.toNat + x4.toInt.toNat)).toInt32.toInt := wr_8
          refine lv_iconst (v := 2) hx hb dX12_goDay_81 (by decide) ?_
          refine lv_irem hx hb dX12_goDay_82 (by decide) ?_
          refine lv_topi (fun x_9 ex_9 => ?_)
          have fx_9 : x_9.toInt = r_8.toInt % (2 : Int) := by rw [ex_9]; exact i_rem (by omega) (by first | omega | decide)
          refine lv_iconst (v := 1) hx hb dX12_goDay_83 (by decide) ?_
          refine lv_icmp_ne (tgt := 91) hx hb dX12_goDay_84 (by decide) (fun c_10 => ?_) (fun c_10 => ?_)
          ·
            have kc_10 : x_9.toInt ≠ (1 : Int) := i_ne c_10
            refine lv_iconst (v := 0) hx hb dX12_goDay_91 (by decide) ?_
            refine cV_i (As := [.int x_7, .int 0]) (rest := []) ⟨hx, hb, hml, hown, hg⟩ (k_X12_goSaying l D cs A bd (va_up (va_up (va_up (va_up (va_up (va_up (va_up u 33 c58_u33) 34 c58_u34) 30 c58_u30) 28 c58_u28) 29 c58_u29) 31 c58_u31) 35 c58_u35) (va_up (va_up (va_up (va_up (va_up (va_up b 32 c58_b32) 25 c58_b25) 26 c58_b26) 36 c58_b36) 37 c58_b37) 38 c58_b38) bw  x_7 0 (show 0 ≤ x_7.toInt by first | omega | decide) (show x_7.toInt < (u 1).toInt by first | omega | decide) hlaw (show 0 ≤ (u 1).toInt by first | omega | decide) (show (u 1).toInt ≤ 8 by first | omega | decide) (show -1 ≤ c58_u29.toInt by first | omega | decide) (show c58_u29.toInt < (u 1).toInt by first | omega | decide) ib23_0 ib24_0 ib20_0) ca_X12_goSaying q6_148 ⟨rfl, rfl⟩ ⟨Nat.le_of_ble_eq_true rfl, Nat.le_of_ble_eq_true rfl⟩ (rc_model hK hP) hK hP hD hS hZ rfl hl.1 rfl (Nat.le_of_ble_eq_true rfl) ⟨Nat.zero_le _, Nat.zero_le _⟩ dX12_goDay_92 (fun r_11 z_21 H locs wr_11 hP hD hS => ?_)
            obtain ⟨o_u33_12, o_u34_13, o_u30_14, o_u28_15, o_u29_16, o_b32_17, o_u31_18, o_b25_19, o_b26_20⟩ := z_21
            have hP : va_P D vwCl (RW cs bd (va_up (va_up (va_up (va_up (va_up (va_up (va_up u 35 c58_u35) 33 o_u33_12) 34 o_u34_13) 30 o_u30_14) 28 o_u28_15) 29 o_u29_16) 31 o_u31_18) (va_up (va_up (va_up (va_up (va_up (va_up b 36 c58_b36) 37 c58_b37) 38 c58_b38) 32 o_b32_17) 25 o_b25_19) 26 o_b26_20) bw) H := hP
            have hD : va_D A (RW cs bd (va_up (va_up (va_up (va_up (va_up (va_up (va_up u 35 c58_u35) 33 o_u33_12) 34 o_u34_13) 30 o_u30_14) 28 o_u28_15) 29 o_u29_16) 31 o_u31_18) (va_up (va_up (va_up (va_up (va_up (va_up b 36 c58_b36) 37 c58_b37) 38 c58_b38) 32 o_b32_17) 25 o_b25_19) 26 o_b26_20) bw) := hD
            obtain ⟨wr_11_0, wr_11_1, wr_11_2⟩ : (r_11.toInt = -1 ∨ (0 ≤ r_11.toInt ∧ r_11.toInt < (u 1).toInt)) ∧ (-1 ≤ o_u29_16.toInt) ∧ (o_u29_16.toInt < (u 1).toInt) := wr_11
            refine lv_istore (lv' := [(5, .int r_11), (0, .ref (bd 0)), (1, .int p1), (2, .int p2), (3, .int x3), (4, .int x4)]) hx hb dX12_goDay_95 hl (by decide) rfl (fun ls hl => ?_)
            refine lv_aload_n hx hb dX12_goDay_97 rfl (lv_at hl 1 rfl) ?_
            refine gr_loud1 hx hb hg hown hK hP (x := o_u34_13) rfl (hg _ q5_26) dX12_goDay_98 ?_
            refine lv_if_eq (tgt := 117) hx hb dX12_goDay_101 (by decide) (fun c_22 => ?_) (fun c_22 => ?_)
            ·
              have kc_22 : o_u34_13.toInt = (0 : Int) := i_eq c_22
              refine lv_iload hx hb dX12_goDay_117 (lv_at hl 0 rfl) ?_
              refine lv_if_ge (tgt := 125) hx hb dX12_goDay_119 (by decide) (fun c_23 => ?_) (fun c_23 => ?_)
              ·
                have kc_23 : (0 : Int) ≤ r_11.toInt := i_le c_23
                refine lv_aload_n hx hb dX12_goDay_125 rfl (lv_at hl 1 rfl) ?_
                refine gr_stungOf hx hb hg hown hK hP (hg _ q5_28) dX12_goDay_126 ?_
                refine lv_iload hx hb dX12_goDay_129 (lv_at hl 0 rfl) ?_
                refine lr_stungOf hx hb hK hP (i_in (by omega) (by omega)) dX12_goDay_131 ?_
                refine lv_topi (fun x_24 ex_24 => ?_)
                have ex_24 : x_24 = c58_b36 r_11.toNatClampNeg := ex_24
                have hx_24 : x_24.toInt = (c58_b36 r_11.toNatClampNeg).toInt := by rw [ex_24]
                refine lv_if_ne (tgt := 144) hx hb dX12_goDay_132 (by decide) (fun c_25 => ?_) (fun c_25 => ?_)
                ·
                  have kc_25 : x_24.toInt ≠ (0 : Int) := i_ne c_25
                  refine lv_aload_n hx hb dX12_goDay_144 rfl (lv_at hl 1 rfl) ?_
                  refine gr_stungOf hx hb hg hown hK hP (hg _ q5_28) dX12_goDay_145 ?_
                  refine lv_iload hx hb dX12_goDay_148 (lv_at hl 0 rfl) ?_
                  refine lv_dup2_11 hx hb dX12_goDay_150 rfl rfl ?_
                  refine lr_stungOf hx hb hK hP (i_in (by omega) (by omega)) dX12_goDay_151 ?_
                  refine lv_topi (fun x_26 ex_26 => ?_)
                  have ex_26 : x_26 = c58_b36 r_11.toNatClampNeg := ex_26
                  have hx_26 : x_26.toInt = (c58_b36 r_11.toNatClampNeg).toInt := by rw [ex_26]
                  refine lv_iconst (v := 1) hx hb dX12_goDay_152 (by decide) ?_
                  refine lv_iadd hx hb dX12_goDay_153 ?_
                  refine lv_topi (fun x_27 ex_27 => ?_)
                  refine sr_stungOf hx hb hK hP hD hS (i_in (by omega) (by omega)) dX12_goDay_154 (fun H locs hP hD hS => ?_)
                  refine lv_aload_n hx hb dX12_goDay_155 rfl (lv_at hl 1 rfl) ?_
                  refine gr_hurt1 hx hb hg hown hK hP (x := o_u33_12) rfl (hg _ q5_25) dX12_goDay_156 ?_
                  refine lv_if_eq (tgt := 173) hx hb dX12_goDay_159 (by decide) (fun c_28 => ?_) (fun c_28 => ?_)
                  ·
                    have kc_28 : o_u33_12.toInt = (0 : Int) := i_eq c_28
                    obtain ⟨x_29, ex_29⟩ : ∃ y : Int32, y = x4 + 1 := ⟨_, rfl⟩
                    have fx_29 : x_29.toInt = x4.toInt + 1 := by rw [ex_29]; exact i_add (by first | omega | (show (_ : Int) ≤ x4.toInt + 1; omega)) (by first | omega | (show x4.toInt + 1 ≤ (_ : Int); omega))
                    refine lv_iinc (v := x_29) (lv' := [(4, .int x_29), (5, .int r_11), (0, .ref (bd 0)), (1, .int p1), (2, .int p2), (3, .int x3)]) hx hb dX12_goDay_173 hl (k := 5) rfl (by rw [ex_29]; rfl) (by decide) rfl (fun ls hl => ?_)
                    refine lv_goto (tgt := 58) hx hb dX12_goDay_176 (by decide) ?_
                    exact ih.2 x3 x_29 o_u33_12 o_u34_13 o_u30_14 o_u28_15 o_u29_16 o_u31_18 o_b32_17 o_b25_19 o_b26_20 (upd c58_b36 r_11.toNatClampNeg x_27) c58_b37 c58_b38 c58_u35 _ _ (by omega) (by omega) (by assumption) (show -1 ≤ o_u29_16.toInt by first | omega | assumption) (show o_u29_16.toInt < (u 1).toInt by first | omega | assumption) (by omega) hP hD hS ls (lv_sub hl [2, 3, 4, 5, 0] rfl)
                  ·
                    have kc_28 : o_u33_12.toInt ≠ (0 : Int) := i_ne c_28
                    refine lv_aload_n hx hb dX12_goDay_162 rfl (lv_at hl 1 rfl) ?_
                    refine gr_hurtOf hx hb hg hown hK hP (hg _ q5_29) dX12_goDay_163 ?_
                    refine lv_iload hx hb dX12_goDay_166 (lv_at hl 0 rfl) ?_
                    refine lv_dup2_11 hx hb dX12_goDay_168 rfl rfl ?_
                    refine lr_hurtOf hx hb hK hP (i_in (by omega) (by omega)) dX12_goDay_169 ?_
                    refine lv_topi (fun x_30 ex_30 => ?_)
                    have ex_30 : x_30 = c58_b37 r_11.toNatClampNeg := ex_30
                    have hx_30 : x_30.toInt = (c58_b37 r_11.toNatClampNeg).toInt := by rw [ex_30]
                    refine lv_iconst (v := 1) hx hb dX12_goDay_170 (by decide) ?_
                    refine lv_iadd hx hb dX12_goDay_171 ?_
                    refine lv_topi (fun x_31 ex_31 => ?_)
                    refine sr_hurtOf hx hb hK hP hD hS (i_in (by omega) (by omega)) dX12_goDay_172 (fun H locs hP hD hS => ?_)
                    obtain ⟨x_32, ex_32⟩ : ∃ y : Int32, y = x4 + 1 := ⟨_, rfl⟩
                    have fx_32 : x_32.toInt = x4.toInt + 1 := by rw [ex_32]; exact i_add (by first | omega | (show (_ : Int) ≤ x4.toInt + 1; omega)) (by first | omega | (show x4.toInt + 1 ≤ (_ : Int); omega))
                    refine lv_iinc (v := x_32) (lv' := [(4, .int x_32), (5, .int r_11), (0, .ref (bd 0)), (1, .int p1), (2, .int p2), (3, .int x3)]) hx hb dX12_goDay_173 hl (k := 5) rfl (by rw [ex_32]; rfl) (by decide) rfl (fun ls hl => ?_)
                    refine lv_goto (tgt := 58) hx hb dX12_goDay_176 (by decide) ?_
                    exact ih.2 x3 x_32 o_u33_12 o_u34_13 o_u30_14 o_u28_15 o_u29_16 o_u31_18 o_b32_17 o_b25_19 o_b26_20 (upd c58_b36 r_11.toNatClampNeg x_27) (upd c58_b37 r_11.toNatClampNeg x_31) c58_b38 c58_u35 _ _ (by omega) (by omega) (by assumption) (show -1 ≤ o_u29_16.toInt by first | omega | assumption) (show o_u29_16.toInt < (u 1).toInt by first | omega | assumption) (by omega) hP hD hS ls (lv_sub hl [2, 3, 4, 5, 0] rfl)
                ·
                  have kc_25 : x_24.toInt = (0 : Int) := i_eq c_25
                  refine lv_aload_n hx hb dX12_goDay_135 rfl (lv_at hl 1 rfl) ?_
                  refine gr_firstOf hx hb hg hown hK hP (hg _ q5_30) dX12_goDay_136 ?_
                  refine lv_iload hx hb dX12_goDay_139 (lv_at hl 0 rfl) ?_
                  refine lv_iload hx hb dX12_goDay_141 (lv_at hl 5 rfl) ?_
                  refine sr_firstOf hx hb hK hP hD hS (i_in (by omega) (by omega)) dX12_goDay_143 (fun H locs hP hD hS => ?_)
                  refine lv_aload_n hx hb dX12_goDay_144 rfl (lv_at hl 1 rfl) ?_
                  refine gr_stungOf hx hb hg hown hK hP (hg _ q5_28) dX12_goDay_145 ?_
                  refine lv_iload hx hb dX12_goDay_148 (lv_at hl 0 rfl) ?_
                  refine lv_dup2_11 hx hb dX12_goDay_150 rfl rfl ?_
                  refine lr_stungOf hx hb hK hP (i_in (by omega) (by omega)) dX12_goDay_151 ?_
                  refine lv_topi (fun x_33 ex_33 => ?_)
                  have ex_33 : x_33 = c58_b36 r_11.toNatClampNeg := ex_33
                  have hx_33 : x_33.toInt = (c58_b36 r_11.toNatClampNeg).toInt := by rw [ex_33]
                  refine lv_iconst (v := 1) hx hb dX12_goDay_152 (by decide) ?_
                  refine lv_iadd hx hb dX12_goDay_153 ?_
                  refine lv_topi (fun x_34 ex_34 => ?_)
                  refine sr_stungOf hx hb hK hP hD hS (i_in (by omega) (by omega)) dX12_goDay_154 (fun H locs hP hD hS => ?_)
                  refine lv_aload_n hx hb dX12_goDay_155 rfl (lv_at hl 1 rfl) ?_
                  refine gr_hurt1 hx hb hg hown hK hP (x := o_u33_12) rfl (hg _ q5_25) dX12_goDay_156 ?_
                  refine lv_if_eq (tgt := 173) hx hb dX12_goDay_159 (by decide) (fun c_35 => ?_) (fun c_35 => ?_)
                  ·
                    have kc_35 : o_u33_12.toInt = (0 : Int) := i_eq c_35
                    obtain ⟨x_36, ex_36⟩ : ∃ y : Int32, y = x4 + 1 := ⟨_, rfl⟩
                    have fx_36 : x_36.toInt = x4.toInt + 1 := by rw [ex_36]; exact i_add (by first | omega | (show (_ : Int) ≤ x4.toInt + 1; omega)) (by first | omega | (show x4.toInt + 1 ≤ (_ : Int); omega))
                    refine lv_iinc (v := x_36) (lv' := [(4, .int x_36), (5, .int r_11), (0, .ref (bd 0)), (1, .int p1), (2, .int p2), (3, .int x3)]) hx hb dX12_goDay_173 hl (k := 5) rfl (by rw [ex_36]; rfl) (by decide) rfl (fun ls hl => ?_)
                    refine lv_goto (tgt := 58) hx hb dX12_goDay_176 (by decide) ?_
                    exact ih.2 x3 x_36 o_u33_12 o_u34_13 o_u30_14 o_u28_15 o_u29_16 o_u31_18 o_b32_17 o_b25_19 o_b26_20 (upd c58_b36 r_11.toNatClampNeg x_34) c58_b37 (upd c58_b38 r_11.toNatClampNeg x4) c58_u35 _ _ (by omega) (by omega) (by assumption) (show -1 ≤ o_u29_16.toInt by first | omega | assumption) (show o_u29_16.toInt < (u 1).toInt by first | omega | assumption) (by omega) hP hD hS ls (lv_sub hl [2, 3, 4, 5, 0] rfl)
                  ·
                    have kc_35 : o_u33_12.toInt ≠ (0 : Int) := i_ne c_35
                    refine lv_aload_n hx hb dX12_goDay_162 rfl (lv_at hl 1 rfl) ?_
                    refine gr_hurtOf hx hb hg hown hK hP (hg _ q5_29) dX12_goDay_163 ?_
                    refine lv_iload hx hb dX12_goDay_166 (lv_at hl 0 rfl) ?_
                    refine lv_dup2_11 hx hb dX12_goDay_168 rfl rfl ?_
                    refine lr_hurtOf hx hb hK hP (i_in (by omega) (by omega)) dX12_goDay_169 ?_
                    refine lv_topi (fun x_37 ex_37 => ?_)
                    have ex_37 : x_37 = c58_b37 r_11.toNatClampNeg := ex_37
                    have hx_37 : x_37.toInt = (c58_b37 r_11.toNatClampNeg).toInt := by rw [ex_37]
                    refine lv_iconst (v := 1) hx hb dX12_goDay_170 (by decide) ?_
                    refine lv_iadd hx hb dX12_goDay_171 ?_
                    refine lv_topi (fun x_38 ex_38 => ?_)
                    refine sr_hurtOf hx hb hK hP hD hS (i_in (by omega) (by omega)) dX12_goDay_172 (fun H locs hP hD hS => ?_)
                    obtain ⟨x_39, ex_39⟩ : ∃ y : Int32, y = x4 + 1 := ⟨_, rfl⟩
                    have fx_39 : x_39.toInt = x4.toInt + 1 := by rw [ex_39]; exact i_add (by first | omega | (show (_ : Int) ≤ x4.toInt + 1; omega)) (by first | omega | (show x4.toInt + 1 ≤ (_ : Int); omega))
                    refine lv_iinc (v := x_39) (lv' := [(4, .int x_39), (5, .int r_11), (0, .ref (bd 0)), (1, .int p1), (2, .int p2), (3, .int x3)]) hx hb dX12_goDay_173 hl (k := 5) rfl (by rw [ex_39]; rfl) (by decide) rfl (fun ls hl => ?_)
                    refine lv_goto (tgt := 58) hx hb dX12_goDay_176 (by decide) ?_
                    exact ih.2 x3 x_39 o_u33_12 o_u34_13 o_u30_14 o_u28_15 o_u29_16 o_u31_18 o_b32_17 o_b25_19 o_b26_20 (upd c58_b36 r_11.toNatClampNeg x_34) (upd c58_b37 r_11.toNatClampNeg x_38) (upd c58_b38 r_11.toNatClampNeg x4) c58_u35 _ _ (by omega) (by omega) (by assumption) (show -1 ≤ o_u29_16.toInt by first | omega | assumption) (show o_u29_16.toInt < (u 1).toInt by first | omega | assumption) (by omega) hP hD hS ls (lv_sub hl [2, 3, 4, 5, 0] rfl)
              ·
                have kc_23 : r_11.toInt < (0 : Int) := i_nle c_23
                refine lv_goto (tgt := 173) hx hb dX12_goDay_122 (by decide) ?_
                obtain ⟨x_40, ex_40⟩ : ∃ y : Int32, y = x4 + 1 := ⟨_, rfl⟩
                have fx_40 : x_40.toInt = x4.toInt + 1 := by rw [ex_40]; exact i_add (by first | omega | (show (_ : Int) ≤ x4.toInt + 1; omega)) (by first | omega | (show x4.toInt + 1 ≤ (_ : Int); omega))
                refine lv_iinc (v := x_40) (lv' := [(4, .int x_40), (5, .int r_11), (0, .ref (bd 0)), (1, .int p1), (2, .int p2), (3, .int x3)]) hx hb dX12_goDay_173 hl (k := 5) rfl (by rw [ex_40]; rfl) (by decide) rfl (fun ls hl => ?_)
                refine lv_goto (tgt := 58) hx hb dX12_goDay_176 (by decide) ?_
                exact ih.2 x3 x_40 o_u33_12 o_u34_13 o_u30_14 o_u28_15 o_u29_16 o_u31_18 o_b32_17 o_b25_19 o_b26_20 c58_b36 c58_b37 c58_b38 c58_u35 _ _ (by omega) (by omega) (by assumption) (show -1 ≤ o_u29_16.toInt by first | omega | assumption) (show o_u29_16.toInt < (u 1).toInt by first | omega | assumption) (by omega) hP hD hS ls (lv_sub hl [2, 3, 4, 5, 0] rfl)
            ·
              have kc_22 : o_u34_13.toInt ≠ (0 : Int) := i_ne c_22
              refine lv_aload_n hx hb dX12_goDay_104 rfl (lv_at hl 1 rfl) ?_
              refine lv_dup hx hb dX12_goDay_105 rfl ?_
              refine gr_loudBits hx hb hg hown hK hP (x := c58_u35) rfl (hg _ q5_27) dX12_goDay_106 ?_
              refine lv_iconst (v := 1) hx hb dX12_goDay_109 (by decide) ?_
              refine lv_iload hx hb dX12_goDay_110 (lv_at hl 5 rfl) ?_
              refine lv_ishl hx hb dX12_goDay_112 ?_
              refine lv_topi (fun x_41 ex_41 => ?_)
              refine lv_ior hx hb dX12_goDay_113 ?_
              refine lv_topi (fun x_42 ex_42 => ?_)
              refine pr_loudBits hx hb hg hown hK hP hD hS (hg _ q5_27) dX12_goDay_114 (fun H locs hP hD hS => ?_)
              refine lv_iload hx hb dX12_goDay_117 (lv_at hl 0 rfl) ?_
              refine lv_if_ge (tgt := 125) hx hb dX12_goDay_119 (by decide) (fun c_43 => ?_) (fun c_43 => ?_)
              ·
                have kc_43 : (0 : Int) ≤ r_11.toInt := i_le c_43
                refine lv_aload_n hx hb dX12_goDay_125 rfl (lv_at hl 1 rfl) ?_
                refine gr_stungOf hx hb hg hown hK hP (hg _ q5_28) dX12_goDay_126 ?_
                refine lv_iload hx hb dX12_goDay_129 (lv_at hl 0 rfl) ?_
                refine lr_stungOf hx hb hK hP (i_in (by omega) (by omega)) dX12_goDay_131 ?_
                refine lv_topi (fun x_44 ex_44 => ?_)
                have ex_44 : x_44 = c58_b36 r_11.toNatClampNeg := ex_44
                have hx_44 : x_44.toInt = (c58_b36 r_11.toNatClampNeg).toInt := by rw [ex_44]
                refine lv_if_ne (tgt := 144) hx hb dX12_goDay_132 (by decide) (fun c_45 => ?_) (fun c_45 => ?_)
                ·
                  have kc_45 : x_44.toInt ≠ (0 : Int) := i_ne c_45
                  refine lv_aload_n hx hb dX12_goDay_144 rfl (lv_at hl 1 rfl) ?_
                  refine gr_stungOf hx hb hg hown hK hP (hg _ q5_28) dX12_goDay_145 ?_
                  refine lv_iload hx hb dX12_goDay_148 (lv_at hl 0 rfl) ?_
                  refine lv_dup2_11 hx hb dX12_goDay_150 rfl rfl ?_
                  refine lr_stungOf hx hb hK hP (i_in (by omega) (by omega)) dX12_goDay_151 ?_
                  refine lv_topi (fun x_46 ex_46 => ?_)
                  have ex_46 : x_46 = c58_b36 r_11.toNatClampNeg := ex_46
                  have hx_46 : x_46.toInt = (c58_b36 r_11.toNatClampNeg).toInt := by rw [ex_46]
                  refine lv_iconst (v := 1) hx hb dX12_goDay_152 (by decide) ?_
                  refine lv_iadd hx hb dX12_goDay_153 ?_
                  refine lv_topi (fun x_47 ex_47 => ?_)
                  refine sr_stungOf hx hb hK hP hD hS (i_in (by omega) (by omega)) dX12_goDay_154 (fun H locs hP hD hS => ?_)
                  refine lv_aload_n hx hb dX12_goDay_155 rfl (lv_at hl 1 rfl) ?_
                  refine gr_hurt1 hx hb hg hown hK hP (x := o_u33_12) rfl (hg _ q5_25) dX12_goDay_156 ?_
                  refine lv_if_eq (tgt := 173) hx hb dX12_goDay_159 (by decide) (fun c_48 => ?_) (fun c_48 => ?_)
                  ·
                    have kc_48 : o_u33_12.toInt = (0 : Int) := i_eq c_48
                    obtain ⟨x_49, ex_49⟩ : ∃ y : Int32, y = x4 + 1 := ⟨_, rfl⟩
                    have fx_49 : x_49.toInt = x4.toInt + 1 := by rw [ex_49]; exact i_add (by first | omega | (show (_ : Int) ≤ x4.toInt + 1; omega)) (by first | omega | (show x4.toInt + 1 ≤ (_ : Int); omega))
                    refine lv_iinc (v := x_49) (lv' := [(4, .int x_49), (5, .int r_11), (0, .ref (bd 0)), (1, .int p1), (2, .int p2), (3, .int x3)]) hx hb dX12_goDay_173 hl (k := 5) rfl (by rw [ex_49]; rfl) (by decide) rfl (fun ls hl => ?_)
                    refine lv_goto (tgt := 58) hx hb dX12_goDay_176 (by decide) ?_
                    exact ih.2 x3 x_49 o_u33_12 o_u34_13 o_u30_14 o_u28_15 o_u29_16 o_u31_18 o_b32_17 o_b25_19 o_b26_20 (upd c58_b36 r_11.toNatClampNeg x_47) c58_b37 c58_b38 x_42 _ _ (by omega) (by omega) (by assumption) (show -1 ≤ o_u29_16.toInt by first | omega | assumption) (show o_u29_16.toInt < (u 1).toInt by first | omega | assumption) (by omega) hP hD hS ls (lv_sub hl [2, 3, 4, 5, 0] rfl)
                  ·
                    have kc_48 : o_u33_12.toInt ≠ (0 : Int) := i_ne c_48
                    refine lv_aload_n hx hb dX12_goDay_162 rfl (lv_at hl 1 rfl) ?_
                    refine gr_hurtOf hx hb hg hown hK hP (hg _ q5_29) dX12_goDay_163 ?_
                    refine lv_iload hx hb dX12_goDay_166 (lv_at hl 0 rfl) ?_
                    refine lv_dup2_11 hx hb dX12_goDay_168 rfl rfl ?_
                    refine lr_hurtOf hx hb hK hP (i_in (by omega) (by omega)) dX12_goDay_169 ?_
                    refine lv_topi (fun x_50 ex_50 => ?_)
                    have ex_50 : x_50 = c58_b37 r_11.toNatClampNeg := ex_50
                    have hx_50 : x_50.toInt = (c58_b37 r_11.toNatClampNeg).toInt := by rw [ex_50]
                    refine lv_iconst (v := 1) hx hb dX12_goDay_170 (by decide) ?_
                    refine lv_iadd hx hb dX12_goDay_171 ?_
                    refine lv_topi (fun x_51 ex_51 => ?_)
                    refine sr_hurtOf hx hb hK hP hD hS (i_in (by omega) (by omega)) dX12_goDay_172 (fun H locs hP hD hS => ?_)
                    obtain ⟨x_52, ex_52⟩ : ∃ y : Int32, y = x4 + 1 := ⟨_, rfl⟩
                    have fx_52 : x_52.toInt = x4.toInt + 1 := by rw [ex_52]; exact i_add (by first | omega | (show (_ : Int) ≤ x4.toInt + 1; omega)) (by first | omega | (show x4.toInt + 1 ≤ (_ : Int); omega))
                    refine lv_iinc (v := x_52) (lv' := [(4, .int x_52), (5, .int r_11), (0, .ref (bd 0)), (1, .int p1), (2, .int p2), (3, .int x3)]) hx hb dX12_goDay_173 hl (k := 5) rfl (by rw [ex_52]; rfl) (by decide) rfl (fun ls hl => ?_)
                    refine lv_goto (tgt := 58) hx hb dX12_goDay_176 (by decide) ?_
                    exact ih.2 x3 x_52 o_u33_12 o_u34_13 o_u30_14 o_u28_15 o_u29_16 o_u31_18 o_b32_17 o_b25_19 o_b26_20 (upd c58_b36 r_11.toNatClampNeg x_47) (upd c58_b37 r_11.toNatClampNeg x_51) c58_b38 x_42 _ _ (by omega) (by omega) (by assumption) (show -1 ≤ o_u29_16.toInt by first | omega | assumption) (show o_u29_16.toInt < (u 1).toInt by first | omega | assumption) (by omega) hP hD hS ls (lv_sub hl [2, 3, 4, 5, 0] rfl)
                ·
                  have kc_45 : x_44.toInt = (0 : Int) := i_eq c_45
                  refine lv_aload_n hx hb dX12_goDay_135 rfl (lv_at hl 1 rfl) ?_
                  refine gr_firstOf hx hb hg hown hK hP (hg _ q5_30) dX12_goDay_136 ?_
                  refine lv_iload hx hb dX12_goDay_139 (lv_at hl 0 rfl) ?_
                  refine lv_iload hx hb dX12_goDay_141 (lv_at hl 5 rfl) ?_
                  refine sr_firstOf hx hb hK hP hD hS (i_in (by omega) (by omega)) dX12_goDay_143 (fun H locs hP hD hS => ?_)
                  refine lv_aload_n hx hb dX12_goDay_144 rfl (lv_at hl 1 rfl) ?_
                  refine gr_stungOf hx hb hg hown hK hP (hg _ q5_28) dX12_goDay_145 ?_
                  refine lv_iload hx hb dX12_goDay_148 (lv_at hl 0 rfl) ?_
                  refine lv_dup2_11 hx hb dX12_goDay_150 rfl rfl ?_
                  refine lr_stungOf hx hb hK hP (i_in (by omega) (by omega)) dX12_goDay_151 ?_
                  refine lv_topi (fun x_53 ex_53 => ?_)
                  have ex_53 : x_53 = c58_b36 r_11.toNatClampNeg := ex_53
                  have hx_53 : x_53.toInt = (c58_b36 r_11.toNatClampNeg).toInt := by rw [ex_53]
                  refine lv_iconst (v := 1) hx hb dX12_goDay_152 (by decide) ?_
                  refine lv_iadd hx hb dX12_goDay_153 ?_
                  refine lv_topi (fun x_54 ex_54 => ?_)
                  refine sr_stungOf hx hb hK hP hD hS (i_in (by omega) (by omega)) dX12_goDay_154 (fun H locs hP hD hS => ?_)
                  refine lv_aload_n hx hb dX12_goDay_155 rfl (lv_at hl 1 rfl) ?_
                  refine gr_hurt1 hx hb hg hown hK hP (x := o_u33_12) rfl (hg _ q5_25) dX12_goDay_156 ?_
                  refine lv_if_eq (tgt := 173) hx hb dX12_goDay_159 (by decide) (fun c_55 => ?_) (fun c_55 => ?_)
                  ·
                    have kc_55 : o_u33_12.toInt = (0 : Int) := i_eq c_55
                    obtain ⟨x_56, ex_56⟩ : ∃ y : Int32, y = x4 + 1 := ⟨_, rfl⟩
                    have fx_56 : x_56.toInt = x4.toInt + 1 := by rw [ex_56]; exact i_add (by first | omega | (show (_ : Int) ≤ x4.toInt + 1; omega)) (by first | omega | (show x4.toInt + 1 ≤ (_ : Int); omega))
                    refine lv_iinc (v := x_56) (lv' := [(4, .int x_56), (5, .int r_11), (0, .ref (bd 0)), (1, .int p1), (2, .int p2), (3, .int x3)]) hx hb dX12_goDay_173 hl (k := 5) rfl (by rw [ex_56]; rfl) (by decide) rfl (fun ls hl => ?_)
                    refine lv_goto (tgt := 58) hx hb dX12_goDay_176 (by decide) ?_
                    exact ih.2 x3 x_56 o_u33_12 o_u34_13 o_u30_14 o_u28_15 o_u29_16 o_u31_18 o_b32_17 o_b25_19 o_b26_20 (upd c58_b36 r_11.toNatClampNeg x_54) c58_b37 (upd c58_b38 r_11.toNatClampNeg x4) x_42 _ _ (by omega) (by omega) (by assumption) (show -1 ≤ o_u29_16.toInt by first | omega | assumption) (show o_u29_16.toInt < (u 1).toInt by first | omega | assumption) (by omega) hP hD hS ls (lv_sub hl [2, 3, 4, 5, 0] rfl)
                  ·
                    have kc_55 : o_u33_12.toInt ≠ (0 : Int) := i_ne c_55
                    refine lv_aload_n hx hb dX12_goDay_162 rfl (lv_at hl 1 rfl) ?_
                    refine gr_hurtOf hx hb hg hown hK hP (hg _ q5_29) dX12_goDay_163 ?_
                    refine lv_iload hx hb dX12_goDay_166 (lv_at hl 0 rfl) ?_
                    refine lv_dup2_11 hx hb dX12_goDay_168 rfl rfl ?_
                    refine lr_hurtOf hx hb hK hP (i_in (by omega) (by omega)) dX12_goDay_169 ?_
                    refine lv_topi (fun x_57 ex_57 => ?_)
                    have ex_57 : x_57 = c58_b37 r_11.toNatClampNeg := ex_57
                    have hx_57 : x_57.toInt = (c58_b37 r_11.toNatClampNeg).toInt := by rw [ex_57]
                    refine lv_iconst (v := 1) hx hb dX12_goDay_170 (by decide) ?_
                    refine lv_iadd hx hb dX12_goDay_171 ?_
                    refine lv_topi (fun x_58 ex_58 => ?_)
                    refine sr_hurtOf hx hb hK hP hD hS (i_in (by omega) (by omega)) dX12_goDay_172 (fun H locs hP hD hS => ?_)
                    obtain ⟨x_59, ex_59⟩ : ∃ y : Int32, y = x4 + 1 := ⟨_, rfl⟩
                    have fx_59 : x_59.toInt = x4.toInt + 1 := by rw [ex_59]; exact i_add (by first | omega | (show (_ : Int) ≤ x4.toInt + 1; omega)) (by first | omega | (show x4.toInt + 1 ≤ (_ : Int); omega))
                    refine lv_iinc (v := x_59) (lv' := [(4, .int x_59), (5, .int r_11), (0, .ref (bd 0)), (1, .int p1), (2, .int p2), (3, .int x3)]) hx hb dX12_goDay_173 hl (k := 5) rfl (by rw [ex_59]; rfl) (by decide) rfl (fun ls hl => ?_)
                    refine lv_goto (tgt := 58) hx hb dX12_goDay_176 (by decide) ?_
                    exact ih.2 x3 x_59 o_u33_12 o_u34_13 o_u30_14 o_u28_15 o_u29_16 o_u31_18 o_b32_17 o_b25_19 o_b26_20 (upd c58_b36 r_11.toNatClampNeg x_54) (upd c58_b37 r_11.toNatClampNeg x_58) (upd c58_b38 r_11.toNatClampNeg x4) x_42 _ _ (by omega) (by omega) (by assumption) (show -1 ≤ o_u29_16.toInt by first | omega | assumption) (show o_u29_16.toInt < (u 1).toInt by first | omega | assumption) (by omega) hP hD hS ls (lv_sub hl [2, 3, 4, 5, 0] rfl)
              ·
                have kc_43 : r_11.toInt < (0 : Int) := i_nle c_43
                refine lv_goto (tgt := 173) hx hb dX12_goDay_122 (by decide) ?_
                obtain ⟨x_60, ex_60⟩ : ∃ y : Int32, y = x4 + 1 := ⟨_, rfl⟩
                have fx_60 : x_60.toInt = x4.toInt + 1 := by rw [ex_60]; exact i_add (by first | omega | (show (_ : Int) ≤ x4.toInt + 1; omega)) (by first | omega | (show x4.toInt + 1 ≤ (_ : Int); omega))
                refine lv_iinc (v := x_60) (lv' := [(4, .int x_60), (5, .int r_11), (0, .ref (bd 0)), (1, .int p1), (2, .int p2), (3, .int x3)]) hx hb dX12_goDay_173 hl (k := 5) rfl (by rw [ex_60]; rfl) (by decide) rfl (fun ls hl => ?_)
                refine lv_goto (tgt := 58) hx hb dX12_goDay_176 (by decide) ?_
                exact ih.2 x3 x_60 o_u33_12 o_u34_13 o_u30_14 o_u28_15 o_u29_16 o_u31_18 o_b32_17 o_b25_19 o_b26_20 c58_b36 c58_b37 c58_b38 x_42 _ _ (by omega) (by omega) (by assumption) (show -1 ≤ o_u29_16.toInt by first | omega | assumption) (show o_u29_16.toInt < (u 1).toInt by first | omega | assumption) (by omega) hP hD hS ls (lv_sub hl [2, 3, 4, 5, 0] rfl)
          ·
            have kc_10 : x_9.toInt = (1 : Int) := i_eq c_10
            refine lv_iconst (v := 1) hx hb dX12_goDay_87 (by decide) ?_
            refine lv_goto (tgt := 92) hx hb dX12_goDay_88 (by decide) ?_
            refine cV_i (As := [.int x_7, .int 1]) (rest := []) ⟨hx, hb, hml, hown, hg⟩ (k_X12_goSaying l D cs A bd (va_up (va_up (va_up (va_up (va_up (va_up (va_up u 33 c58_u33) 34 c58_u34) 30 c58_u30) 28 c58_u28) 29 c58_u29) 31 c58_u31) 35 c58_u35) (va_up (va_up (va_up (va_up (va_up (va_up b 32 c58_b32) 25 c58_b25) 26 c58_b26) 36 c58_b36) 37 c58_b37) 38 c58_b38) bw  x_7 1 (show 0 ≤ x_7.toInt by first | omega | decide) (show x_7.toInt < (u 1).toInt by first | omega | decide) hlaw (show 0 ≤ (u 1).toInt by first | omega | decide) (show (u 1).toInt ≤ 8 by first | omega | decide) (show -1 ≤ c58_u29.toInt by first | omega | decide) (show c58_u29.toInt < (u 1).toInt by first | omega | decide) ib23_0 ib24_0 ib20_0) ca_X12_goSaying q6_148 ⟨rfl, rfl⟩ ⟨Nat.le_of_ble_eq_true rfl, Nat.le_of_ble_eq_true rfl⟩ (rc_model hK hP) hK hP hD hS hZ rfl hl.1 rfl (Nat.le_of_ble_eq_true rfl) ⟨Nat.zero_le _, Nat.zero_le _⟩ dX12_goDay_92 (fun r_61 z_71 H locs wr_61 hP hD hS => ?_)
            obtain ⟨o_u33_62, o_u34_63, o_u30_64, o_u28_65, o_u29_66, o_b32_67, o_u31_68, o_b25_69, o_b26_70⟩ := z_71
            have hP : va_P D vwCl (RW cs bd (va_up (va_up (va_up (va_up (va_up (va_up (va_up u 35 c58_u35) 33 o_u33_62) 34 o_u34_63) 30 o_u30_64) 28 o_u28_65) 29 o_u29_66) 31 o_u31_68) (va_up (va_up (va_up (va_up (va_up (va_up b 36 c58_b36) 37 c58_b37) 38 c58_b38) 32 o_b32_67) 25 o_b25_69) 26 o_b26_70) bw) H := hP
            have hD : va_D A (RW cs bd (va_up (va_up (va_up (va_up (va_up (va_up (va_up u 35 c58_u35) 33 o_u33_62) 34 o_u34_63) 30 o_u30_64) 28 o_u28_65) 29 o_u29_66) 31 o_u31_68) (va_up (va_up (va_up (va_up (va_up (va_up b 36 c58_b36) 37 c58_b37) 38 c58_b38) 32 o_b32_67) 25 o_b25_69) 26 o_b26_70) bw) := hD
            obtain ⟨wr_61_0, wr_61_1, wr_61_2⟩ : (r_61.toInt = -1 ∨ (0 ≤ r_61.toInt ∧ r_61.toInt < (u 1).toInt)) ∧ (-1 ≤ o_u29_66.toInt) ∧ (o_u29_66.toInt < (u 1).toInt) := wr_61
            refine lv_istore (lv' := [(5, .int r_61), (0, .ref (bd 0)), (1, .int p1), (2, .int p2), (3, .int x3), (4, .int x4)]) hx hb dX12_goDay_95 hl (by decide) rfl (fun ls hl => ?_)
            refine lv_aload_n hx hb dX12_goDay_97 rfl (lv_at hl 1 rfl) ?_
            refine gr_loud1 hx hb hg hown hK hP (x := o_u34_63) rfl (hg _ q5_26) dX12_goDay_98 ?_
            refine lv_if_eq (tgt := 117) hx hb dX12_goDay_101 (by decide) (fun c_72 => ?_) (fun c_72 => ?_)
            ·
              have kc_72 : o_u34_63.toInt = (0 : Int) := i_eq c_72
              refine lv_iload hx hb dX12_goDay_117 (lv_at hl 0 rfl) ?_
              refine lv_if_ge (tgt := 125) hx hb dX12_goDay_119 (by decide) (fun c_73 => ?_) (fun c_73 => ?_)
              ·
                have kc_73 : (0 : Int) ≤ r_61.toInt := i_le c_73
                refine lv_aload_n hx hb dX12_goDay_125 rfl (lv_at hl 1 rfl) ?_
                refine gr_stungOf hx hb hg hown hK hP (hg _ q5_28) dX12_goDay_126 ?_
                refine lv_iload hx hb dX12_goDay_129 (lv_at hl 0 rfl) ?_
                refine lr_stungOf hx hb hK hP (i_in (by omega) (by omega)) dX12_goDay_131 ?_
                refine lv_topi (fun x_74 ex_74 => ?_)
                have ex_74 : x_74 = c58_b36 r_61.toNatClampNeg := ex_74
                have hx_74 : x_74.toInt = (c58_b36 r_61.toNatClampNeg).toInt := by rw [ex_74]
                refine lv_if_ne (tgt := 144) hx hb dX12_goDay_132 (by decide) (fun c_75 => ?_) (fun c_75 => ?_)
                ·
                  have kc_75 : x_74.toInt ≠ (0 : Int) := i_ne c_75
                  refine lv_aload_n hx hb dX12_goDay_144 rfl (lv_at hl 1 rfl) ?_
                  refine gr_stungOf hx hb hg hown hK hP (hg _ q5_28) dX12_goDay_145 ?_
                  refine lv_iload hx hb dX12_goDay_148 (lv_at hl 0 rfl) ?_
                  refine lv_dup2_11 hx hb dX12_goDay_150 rfl rfl ?_
                  refine lr_stungOf hx hb hK hP (i_in (by omega) (by omega)) dX12_goDay_151 ?_
                  refine lv_topi (fun x_76 ex_76 => ?_)
                  have ex_76 : x_76 = c58_b36 r_61.toNatClampNeg := ex_76
                  have hx_76 : x_76.toInt = (c58_b36 r_61.toNatClampNeg).toInt := by rw [ex_76]
                  refine lv_iconst (v := 1) hx hb dX12_goDay_152 (by decide) ?_
                  refine lv_iadd hx hb dX12_goDay_153 ?_
                  refine lv_topi (fun x_77 ex_77 => ?_)
                  refine sr_stungOf hx hb hK hP hD hS (i_in (by omega) (by omega)) dX12_goDay_154 (fun H locs hP hD hS => ?_)
                  refine lv_aload_n hx hb dX12_goDay_155 rfl (lv_at hl 1 rfl) ?_
                  refine gr_hurt1 hx hb hg hown hK hP (x := o_u33_62) rfl (hg _ q5_25) dX12_goDay_156 ?_
                  refine lv_if_eq (tgt := 173) hx hb dX12_goDay_159 (by decide) (fun c_78 => ?_) (fun c_78 => ?_)
                  ·
                    have kc_78 : o_u33_62.toInt = (0 : Int) := i_eq c_78
                    obtain ⟨x_79, ex_79⟩ : ∃ y : Int32, y = x4 + 1 := ⟨_, rfl⟩
                    have fx_79 : x_79.toInt = x4.toInt + 1 := by rw [ex_79]; exact i_add (by first | omega | (show (_ : Int) ≤ x4.toInt + 1; omega)) (by first | omega | (show x4.toInt + 1 ≤ (_ : Int); omega))
                    refine lv_iinc (v := x_79) (lv' := [(4, .int x_79), (5, .int r_61), (0, .ref (bd 0)), (1, .int p1), (2, .int p2), (3, .int x3)]) hx hb dX12_goDay_173 hl (k := 5) rfl (by rw [ex_79]; rfl) (by decide) rfl (fun ls hl => ?_)
                    refine lv_goto (tgt := 58) hx hb dX12_goDay_176 (by decide) ?_
                    exact ih.2 x3 x_79 o_u33_62 o_u34_63 o_u30_64 o_u28_65 o_u29_66 o_u31_68 o_b32_67 o_b25_69 o_b26_70 (upd c58_b36 r_61.toNatClampNeg x_77) c58_b37 c58_b38 c58_u35 _ _ (by omega) (by omega) (by assumption) (show -1 ≤ o_u29_66.toInt by first | omega | assumption) (show o_u29_66.toInt < (u 1).toInt by first | omega | assumption) (by omega) hP hD hS ls (lv_sub hl [2, 3, 4, 5, 0] rfl)
                  ·
                    have kc_78 : o_u33_62.toInt ≠ (0 : Int) := i_ne c_78
                    refine lv_aload_n hx hb dX12_goDay_162 rfl (lv_at hl 1 rfl) ?_
                    refine gr_hurtOf hx hb hg hown hK hP (hg _ q5_29) dX12_goDay_163 ?_
                    refine lv_iload hx hb dX12_goDay_166 (lv_at hl 0 rfl) ?_
                    refine lv_dup2_11 hx hb dX12_goDay_168 rfl rfl ?_
                    refine lr_hurtOf hx hb hK hP (i_in (by omega) (by omega)) dX12_goDay_169 ?_
                    refine lv_topi (fun x_80 ex_80 => ?_)
                    have ex_80 : x_80 = c58_b37 r_61.toNatClampNeg := ex_80
                    have hx_80 : x_80.toInt = (c58_b37 r_61.toNatClampNeg).toInt := by rw [ex_80]
                    refine lv_iconst (v := 1) hx hb dX12_goDay_170 (by decide) ?_
                    refine lv_iadd hx hb dX12_goDay_171 ?_
                    refine lv_topi (fun x_81 ex_81 => ?_)
                    refine sr_hurtOf hx hb hK hP hD hS (i_in (by omega) (by omega)) dX12_goDay_172 (fun H locs hP hD hS => ?_)
                    obtain ⟨x_82, ex_82⟩ : ∃ y : Int32, y = x4 + 1 := ⟨_, rfl⟩
                    have fx_82 : x_82.toInt = x4.toInt + 1 := by rw [ex_82]; exact i_add (by first | omega | (show (_ : Int) ≤ x4.toInt + 1; omega)) (by first | omega | (show x4.toInt + 1 ≤ (_ : Int); omega))
                    refine lv_iinc (v := x_82) (lv' := [(4, .int x_82), (5, .int r_61), (0, .ref (bd 0)), (1, .int p1), (2, .int p2), (3, .int x3)]) hx hb dX12_goDay_173 hl (k := 5) rfl (by rw [ex_82]; rfl) (by decide) rfl (fun ls hl => ?_)
                    refine lv_goto (tgt := 58) hx hb dX12_goDay_176 (by decide) ?_
                    exact ih.2 x3 x_82 o_u33_62 o_u34_63 o_u30_64 o_u28_65 o_u29_66 o_u31_68 o_b32_67 o_b25_69 o_b26_70 (upd c58_b36 r_61.toNatClampNeg x_77) (upd c58_b37 r_61.toNatClampNeg x_81) c58_b38 c58_u35 _ _ (by omega) (by omega) (by assumption) (show -1 ≤ o_u29_66.toInt by first | omega | assumption) (show o_u29_66.toInt < (u 1).toInt by first | omega | assumption) (by omega) hP hD hS ls (lv_sub hl [2, 3, 4, 5, 0] rfl)
                ·
                  have kc_75 : x_74.toInt = (0 : Int) := i_eq c_75
                  refine lv_aload_n hx hb dX12_goDay_135 rfl (lv_at hl 1 rfl) ?_
                  refine gr_firstOf hx hb hg hown hK hP (hg _ q5_30) dX12_goDay_136 ?_
                  refine lv_iload hx hb dX12_goDay_139 (lv_at hl 0 rfl) ?_
                  refine lv_iload hx hb dX12_goDay_141 (lv_at hl 5 rfl) ?_
                  refine sr_firstOf hx hb hK hP hD hS (i_in (by omega) (by omega)) dX12_goDay_143 (fun H locs hP hD hS => ?_)
                  refine lv_aload_n hx hb dX12_goDay_144 rfl (lv_at hl 1 rfl) ?_
                  refine gr_stungOf hx hb hg hown hK hP (hg _ q5_28) dX12_goDay_145 ?_
                  refine lv_iload hx hb dX12_goDay_148 (lv_at hl 0 rfl) ?_
                  refine lv_dup2_11 hx hb dX12_goDay_150 rfl rfl ?_
                  refine lr_stungOf hx hb hK hP (i_in (by omega) (by omega)) dX12_goDay_151 ?_
                  refine lv_topi (fun x_83 ex_83 => ?_)
                  have ex_83 : x_83 = c58_b36 r_61.toNatClampNeg := ex_83
                  have hx_83 : x_83.toInt = (c58_b36 r_61.toNatClampNeg).toInt := by rw [ex_83]
                  refine lv_iconst (v := 1) hx hb dX12_goDay_152 (by decide) ?_
                  refine lv_iadd hx hb dX12_goDay_153 ?_
                  refine lv_topi (fun x_84 ex_84 => ?_)
                  refine sr_stungOf hx hb hK hP hD hS (i_in (by omega) (by omega)) dX12_goDay_154 (fun H locs hP hD hS => ?_)
                  refine lv_aload_n hx hb dX12_goDay_155 rfl (lv_at hl 1 rfl) ?_
                  refine gr_hurt1 hx hb hg hown hK hP (x := o_u33_62) rfl (hg _ q5_25) dX12_goDay_156 ?_
                  refine lv_if_eq (tgt := 173) hx hb dX12_goDay_159 (by decide) (fun c_85 => ?_) (fun c_85 => ?_)
                  ·
                    have kc_85 : o_u33_62.toInt = (0 : Int) := i_eq c_85
                    obtain ⟨x_86, ex_86⟩ : ∃ y : Int32, y = x4 + 1 := ⟨_, rfl⟩
                    have fx_86 : x_86.toInt = x4.toInt + 1 := by rw [ex_86]; exact i_add (by first | omega | (show (_ : Int) ≤ x4.toInt + 1; omega)) (by first | omega | (show x4.toInt + 1 ≤ (_ : Int); omega))
                    refine lv_iinc (v := x_86) (lv' := [(4, .int x_86), (5, .int r_61), (0, .ref (bd 0)), (1, .int p1), (2, .int p2), (3, .int x3)]) hx hb dX12_goDay_173 hl (k := 5) rfl (by rw [ex_86]; rfl) (by decide) rfl (fun ls hl => ?_)
                    refine lv_goto (tgt := 58) hx hb dX12_goDay_176 (by decide) ?_
                    exact ih.2 x3 x_86 o_u33_62 o_u34_63 o_u30_64 o_u28_65 o_u29_66 o_u31_68 o_b32_67 o_b25_69 o_b26_70 (upd c58_b36 r_61.toNatClampNeg x_84) c58_b37 (upd c58_b38 r_61.toNatClampNeg x4) c58_u35 _ _ (by omega) (by omega) (by assumption) (show -1 ≤ o_u29_66.toInt by first | omega | assumption) (show o_u29_66.toInt < (u 1).toInt by first | omega | assumption) (by omega) hP hD hS ls (lv_sub hl [2, 3, 4, 5, 0] rfl)
                  ·
                    have kc_85 : o_u33_62.toInt ≠ (0 : Int) := i_ne c_85
                    refine lv_aload_n hx hb dX12_goDay_162 rfl (lv_at hl 1 rfl) ?_
                    refine gr_hurtOf hx hb hg hown hK hP (hg _ q5_29) dX12_goDay_163 ?_
                    refine lv_iload hx hb dX12_goDay_166 (lv_at hl 0 rfl) ?_
                    refine lv_dup2_11 hx hb dX12_goDay_168 rfl rfl ?_
                    refine lr_hurtOf hx hb hK hP (i_in (by omega) (by omega)) dX12_goDay_169 ?_
                    refine lv_topi (fun x_87 ex_87 => ?_)
                    have ex_87 : x_87 = c58_b37 r_61.toNatClampNeg := ex_87
                    have hx_87 : x_87.toInt = (c58_b37 r_61.toNatClampNeg).toInt := by rw [ex_87]
                    refine lv_iconst (v := 1) hx hb dX12_goDay_170 (by decide) ?_
                    refine lv_iadd hx hb dX12_goDay_171 ?_
                    refine lv_topi (fun x_88 ex_88 => ?_)
                    refine sr_hurtOf hx hb hK hP hD hS (i_in (by omega) (by omega)) dX12_goDay_172 (fun H locs hP hD hS => ?_)
                    obtain ⟨x_89, ex_89⟩ : ∃ y : Int32, y = x4 + 1 := ⟨_, rfl⟩
                    have fx_89 : x_89.toInt = x4.toInt + 1 := by rw [ex_89]; exact i_add (by first | omega | (show (_ : Int) ≤ x4.toInt + 1; omega)) (by first | omega | (show x4.toInt + 1 ≤ (_ : Int); omega))
                    refine lv_iinc (v := x_89) (lv' := [(4, .int x_89), (5, .int r_61), (0, .ref (bd 0)), (1, .int p1), (2, .int p2), (3, .int x3)]) hx hb dX12_goDay_173 hl (k := 5) rfl (by rw [ex_89]; rfl) (by decide) rfl (fun ls hl => ?_)
                    refine lv_goto (tgt := 58) hx hb dX12_goDay_176 (by decide) ?_
                    exact ih.2 x3 x_89 o_u33_62 o_u34_63 o_u30_64 o_u28_65 o_u29_66 o_u31_68 o_b32_67 o_b25_69 o_b26_70 (upd c58_b36 r_61.toNatClampNeg x_84) (upd c58_b37 r_61.toNatClampNeg x_88) (upd c58_b38 r_61.toNatClampNeg x4) c58_u35 _ _ (by omega) (by omega) (by assumption) (show -1 ≤ o_u29_66.toInt by first | omega | assumption) (show o_u29_66.toInt < (u 1).toInt by first | omega | assumption) (by omega) hP hD hS ls (lv_sub hl [2, 3, 4, 5, 0] rfl)
              ·
                have kc_73 : r_61.toInt < (0 : Int) := i_nle c_73
                refine lv_goto (tgt := 173) hx hb dX12_goDay_122 (by decide) ?_
                obtain ⟨x_90, ex_90⟩ : ∃ y : Int32, y = x4 + 1 := ⟨_, rfl⟩
                have fx_90 : x_90.toInt = x4.toInt + 1 := by rw [ex_90]; exact i_add (by first | omega | (show (_ : Int) ≤ x4.toInt + 1; omega)) (by first | omega | (show x4.toInt + 1 ≤ (_ : Int); omega))
                refine lv_iinc (v := x_90) (lv' := [(4, .int x_90), (5, .int r_61), (0, .ref (bd 0)), (1, .int p1), (2, .int p2), (3, .int x3)]) hx hb dX12_goDay_173 hl (k := 5) rfl (by rw [ex_90]; rfl) (by decide) rfl (fun ls hl => ?_)
                refine lv_goto (tgt := 58) hx hb dX12_goDay_176 (by decide) ?_
                exact ih.2 x3 x_90 o_u33_62 o_u34_63 o_u30_64 o_u28_65 o_u29_66 o_u31_68 o_b32_67 o_b25_69 o_b26_70 c58_b36 c58_b37 c58_b38 c58_u35 _ _ (by omega) (by omega) (by assumption) (show -1 ≤ o_u29_66.toInt by first | omega | assumption) (show o_u29_66.toInt < (u 1).toInt by first | omega | assumption) (by omega) hP hD hS ls (lv_sub hl [2, 3, 4, 5, 0] rfl)
            ·
              have kc_72 : o_u34_63.toInt ≠ (0 : Int) := i_ne c_72
              refine lv_aload_n hx hb dX12_goDay_104 rfl (lv_at hl 1 rfl) ?_
              refine lv_dup hx hb dX12_goDay_105 rfl ?_
              refine gr_loudBits hx hb hg hown hK hP (x := c58_u35) rfl (hg _ q5_27) dX12_goDay_106 ?_
              refine lv_iconst (v := 1) hx hb dX12_goDay_109 (by decide) ?_
              refine lv_iload hx hb dX12_goDay_110 (lv_at hl 5 rfl) ?_
              refine lv_ishl hx hb dX12_goDay_112 ?_
              refine lv_topi (fun x_91 ex_91 => ?_)
              refine lv_ior hx hb dX12_goDay_113 ?_
              refine lv_topi (fun x_92 ex_92 => ?_)
              refine pr_loudBits hx hb hg hown hK hP hD hS (hg _ q5_27) dX12_goDay_114 (fun H locs hP hD hS => ?_)
              refine lv_iload hx hb dX12_goDay_117 (lv_at hl 0 rfl) ?_
              refine lv_if_ge (tgt := 125) hx hb dX12_goDay_119 (by decide) (fun c_93 => ?_) (fun c_93 => ?_)
              ·
                have kc_93 : (0 : Int) ≤ r_61.toInt := i_le c_93
                refine lv_aload_n hx hb dX12_goDay_125 rfl (lv_at hl 1 rfl) ?_
                refine gr_stungOf hx hb hg hown hK hP (hg _ q5_28) dX12_goDay_126 ?_
                refine lv_iload hx hb dX12_goDay_129 (lv_at hl 0 rfl) ?_
                refine lr_stungOf hx hb hK hP (i_in (by omega) (by omega)) dX12_goDay_131 ?_
                refine lv_topi (fun x_94 ex_94 => ?_)
                have ex_94 : x_94 = c58_b36 r_61.toNatClampNeg := ex_94
                have hx_94 : x_94.toInt = (c58_b36 r_61.toNatClampNeg).toInt := by rw [ex_94]
                refine lv_if_ne (tgt := 144) hx hb dX12_goDay_132 (by decide) (fun c_95 => ?_) (fun c_95 => ?_)
                ·
                  have kc_95 : x_94.toInt ≠ (0 : Int) := i_ne c_95
                  refine lv_aload_n hx hb dX12_goDay_144 rfl (lv_at hl 1 rfl) ?_
                  refine gr_stungOf hx hb hg hown hK hP (hg _ q5_28) dX12_goDay_145 ?_
                  refine lv_iload hx hb dX12_goDay_148 (lv_at hl 0 rfl) ?_
                  refine lv_dup2_11 hx hb dX12_goDay_150 rfl rfl ?_
                  refine lr_stungOf hx hb hK hP (i_in (by omega) (by omega)) dX12_goDay_151 ?_
                  refine lv_topi (fun x_96 ex_96 => ?_)
                  have ex_96 : x_96 = c58_b36 r_61.toNatClampNeg := ex_96
                  have hx_96 : x_96.toInt = (c58_b36 r_61.toNatClampNeg).toInt := by rw [ex_96]
                  refine lv_iconst (v := 1) hx hb dX12_goDay_152 (by decide) ?_
                  refine lv_iadd hx hb dX12_goDay_153 ?_
                  refine lv_topi (fun x_97 ex_97 => ?_)
                  refine sr_stungOf hx hb hK hP hD hS (i_in (by omega) (by omega)) dX12_goDay_154 (fun H locs hP hD hS => ?_)
                  refine lv_aload_n hx hb dX12_goDay_155 rfl (lv_at hl 1 rfl) ?_
                  refine gr_hurt1 hx hb hg hown hK hP (x := o_u33_62) rfl (hg _ q5_25) dX12_goDay_156 ?_
                  refine lv_if_eq (tgt := 173) hx hb dX12_goDay_159 (by decide) (fun c_98 => ?_) (fun c_98 => ?_)
                  ·
                    have kc_98 : o_u33_62.toInt = (0 : Int) := i_eq c_98
                    obtain ⟨x_99, ex_99⟩ : ∃ y : Int32, y = x4 + 1 := ⟨_, rfl⟩
                    have fx_99 : x_99.toInt = x4.toInt + 1 := by rw [ex_99]; exact i_add (by first | omega | (show (_ : Int) ≤ x4.toInt + 1; omega)) (by first | omega | (show x4.toInt + 1 ≤ (_ : Int); omega))
                    refine lv_iinc (v := x_99) (lv' := [(4, .int x_99), (5, .int r_61), (0, .ref (bd 0)), (1, .int p1), (2, .int p2), (3, .int x3)]) hx hb dX12_goDay_173 hl (k := 5) rfl (by rw [ex_99]; rfl) (by decide) rfl (fun ls hl => ?_)
                    refine lv_goto (tgt := 58) hx hb dX12_goDay_176 (by decide) ?_
                    exact ih.2 x3 x_99 o_u33_62 o_u34_63 o_u30_64 o_u28_65 o_u29_66 o_u31_68 o_b32_67 o_b25_69 o_b26_70 (upd c58_b36 r_61.toNatClampNeg x_97) c58_b37 c58_b38 x_92 _ _ (by omega) (by omega) (by assumption) (show -1 ≤ o_u29_66.toInt by first | omega | assumption) (show o_u29_66.toInt < (u 1).toInt by first | omega | assumption) (by omega) hP hD hS ls (lv_sub hl [2, 3, 4, 5, 0] rfl)
                  ·
                    have kc_98 : o_u33_62.toInt ≠ (0 : Int) := i_ne c_98
                    refine lv_aload_n hx hb dX12_goDay_162 rfl (lv_at hl 1 rfl) ?_
                    refine gr_hurtOf hx hb hg hown hK hP (hg _ q5_29) dX12_goDay_163 ?_
                    refine lv_iload hx hb dX12_goDay_166 (lv_at hl 0 rfl) ?_
                    refine lv_dup2_11 hx hb dX12_goDay_168 rfl rfl ?_
                    refine lr_hurtOf hx hb hK hP (i_in (by omega) (by omega)) dX12_goDay_169 ?_
                    refine lv_topi (fun x_100 ex_100 => ?_)
                    have ex_100 : x_100 = c58_b37 r_61.toNatClampNeg := ex_100
                    have hx_100 : x_100.toInt = (c58_b37 r_61.toNatClampNeg).toInt := by rw [ex_100]
                    refine lv_iconst (v := 1) hx hb dX12_goDay_170 (by decide) ?_
                    refine lv_iadd hx hb dX12_goDay_171 ?_
                    refine lv_topi (fun x_101 ex_101 => ?_)
                    refine sr_hurtOf hx hb hK hP hD hS (i_in (by omega) (by omega)) dX12_goDay_172 (fun H locs hP hD hS => ?_)
                    obtain ⟨x_102, ex_102⟩ : ∃ y : Int32, y = x4 + 1 := ⟨_, rfl⟩
                    have fx_102 : x_102.toInt = x4.toInt + 1 := by rw [ex_102]; exact i_add (by first | omega | (show (_ : Int) ≤ x4.toInt + 1; omega)) (by first | omega | (show x4.toInt + 1 ≤ (_ : Int); omega))
                    refine lv_iinc (v := x_102) (lv' := [(4, .int x_102), (5, .int r_61), (0, .ref (bd 0)), (1, .int p1), (2, .int p2), (3, .int x3)]) hx hb dX12_goDay_173 hl (k := 5) rfl (by rw [ex_102]; rfl) (by decide) rfl (fun ls hl => ?_)
                    refine lv_goto (tgt := 58) hx hb dX12_goDay_176 (by decide) ?_
                    exact ih.2 x3 x_102 o_u33_62 o_u34_63 o_u30_64 o_u28_65 o_u29_66 o_u31_68 o_b32_67 o_b25_69 o_b26_70 (upd c58_b36 r_61.toNatClampNeg x_97) (upd c58_b37 r_61.toNatClampNeg x_101) c58_b38 x_92 _ _ (by omega) (by omega) (by assumption) (show -1 ≤ o_u29_66.toInt by first | omega | assumption) (show o_u29_66.toInt < (u 1).toInt by first | omega | assumption) (by omega) hP hD hS ls (lv_sub hl [2, 3, 4, 5, 0] rfl)
                ·
                  have kc_95 : x_94.toInt = (0 : Int) := i_eq c_95
                  refine lv_aload_n hx hb dX12_goDay_135 rfl (lv_at hl 1 rfl) ?_
                  refine gr_firstOf hx hb hg hown hK hP (hg _ q5_30) dX12_goDay_136 ?_
                  refine lv_iload hx hb dX12_goDay_139 (lv_at hl 0 rfl) ?_
                  refine lv_iload hx hb dX12_goDay_141 (lv_at hl 5 rfl) ?_
                  refine sr_firstOf hx hb hK hP hD hS (i_in (by omega) (by omega)) dX12_goDay_143 (fun H locs hP hD hS => ?_)
                  refine lv_aload_n hx hb dX12_goDay_144 rfl (lv_at hl 1 rfl) ?_
                  refine gr_stungOf hx hb hg hown hK hP (hg _ q5_28) dX12_goDay_145 ?_
                  refine lv_iload hx hb dX12_goDay_148 (lv_at hl 0 rfl) ?_
                  refine lv_dup2_11 hx hb dX12_goDay_150 rfl rfl ?_
                  refine lr_stungOf hx hb hK hP (i_in (by omega) (by omega)) dX12_goDay_151 ?_
                  refine lv_topi (fun x_103 ex_103 => ?_)
                  have ex_103 : x_103 = c58_b36 r_61.toNatClampNeg := ex_103
                  have hx_103 : x_103.toInt = (c58_b36 r_61.toNatClampNeg).toInt := by rw [ex_103]
                  refine lv_iconst (v := 1) hx hb dX12_goDay_152 (by decide) ?_
                  refine lv_iadd hx hb dX12_goDay_153 ?_
                  refine lv_topi (fun x_104 ex_104 => ?_)
                  refine sr_stungOf hx hb hK hP hD hS (i_in (by omega) (by omega)) dX12_goDay_154 (fun H locs hP hD hS => ?_)
                  refine lv_aload_n hx hb dX12_goDay_155 rfl (lv_at hl 1 rfl) ?_
                  refine gr_hurt1 hx hb hg hown hK hP (x := o_u33_62) rfl (hg _ q5_25) dX12_goDay_156 ?_
                  refine lv_if_eq (tgt := 173) hx hb dX12_goDay_159 (by decide) (fun c_105 => ?_) (fun c_105 => ?_)
                  ·
                    have kc_105 : o_u33_62.toInt = (0 : Int) := i_eq c_105
                    obtain ⟨x_106, ex_106⟩ : ∃ y : Int32, y = x4 + 1 := ⟨_, rfl⟩
                    have fx_106 : x_106.toInt = x4.toInt + 1 := by rw [ex_106]; exact i_add (by first | omega | (show (_ : Int) ≤ x4.toInt + 1; omega)) (by first | omega | (show x4.toInt + 1 ≤ (_ : Int); omega))
                    refine lv_iinc (v := x_106) (lv' := [(4, .int x_106), (5, .int r_61), (0, .ref (bd 0)), (1, .int p1), (2, .int p2), (3, .int x3)]) hx hb dX12_goDay_173 hl (k := 5) rfl (by rw [ex_106]; rfl) (by decide) rfl (fun ls hl => ?_)
                    refine lv_goto (tgt := 58) hx hb dX12_goDay_176 (by decide) ?_
                    exact ih.2 x3 x_106 o_u33_62 o_u34_63 o_u30_64 o_u28_65 o_u29_66 o_u31_68 o_b32_67 o_b25_69 o_b26_70 (upd c58_b36 r_61.toNatClampNeg x_104) c58_b37 (upd c58_b38 r_61.toNatClampNeg x4) x_92 _ _ (by omega) (by omega) (by assumption) (show -1 ≤ o_u29_66.toInt by first | omega | assumption) (show o_u29_66.toInt < (u 1).toInt by first | omega | assumption) (by omega) hP hD hS ls (lv_sub hl [2, 3, 4, 5, 0] rfl)
                  ·
                    have kc_105 : o_u33_62.toInt ≠ (0 : Int) := i_ne c_105
                    refine lv_aload_n hx hb dX12_goDay_162 rfl (lv_at hl 1 rfl) ?_
                    refine gr_hurtOf hx hb hg hown hK hP (hg _ q5_29) dX12_goDay_163 ?_
                    refine lv_iload hx hb dX12_goDay_166 (lv_at hl 0 rfl) ?_
                    refine lv_dup2_11 hx hb dX12_goDay_168 rfl rfl ?_
                    refine lr_hurtOf hx hb hK hP (i_in (by omega) (by omega)) dX12_goDay_169 ?_
                    refine lv_topi (fun x_107 ex_107 => ?_)
                    have ex_107 : x_107 = c58_b37 r_61.toNatClampNeg := ex_107
                    have hx_107 : x_107.toInt = (c58_b37 r_61.toNatClampNeg).toInt := by rw [ex_107]
                    refine lv_iconst (v := 1) hx hb dX12_goDay_170 (by decide) ?_
                    refine lv_iadd hx hb dX12_goDay_171 ?_
                    refine lv_topi (fun x_108 ex_108 => ?_)
                    refine sr_hurtOf hx hb hK hP hD hS (i_in (by omega) (by omega)) dX12_goDay_172 (fun H locs hP hD hS => ?_)
                    obtain ⟨x_109, ex_109⟩ : ∃ y : Int32, y = x4 + 1 := ⟨_, rfl⟩
                    have fx_109 : x_109.toInt = x4.toInt + 1 := by rw [ex_109]; exact i_add (by first | omega | (show (_ : Int) ≤ x4.toInt + 1; omega)) (by first | omega | (show x4.toInt + 1 ≤ (_ : Int); omega))
                    refine lv_iinc (v := x_109) (lv' := [(4, .int x_109), (5, .int r_61), (0, .ref (bd 0)), (1, .int p1), (2, .int p2), (3, .int x3)]) hx hb dX12_goDay_173 hl (k := 5) rfl (by rw [ex_109]; rfl) (by decide) rfl (fun ls hl => ?_)
                    refine lv_goto (tgt := 58) hx hb dX12_goDay_176 (by decide) ?_
                    exact ih.2 x3 x_109 o_u33_62 o_u34_63 o_u30_64 o_u28_65 o_u29_66 o_u31_68 o_b32_67 o_b25_69 o_b26_70 (upd c58_b36 r_61.toNatClampNeg x_104) (upd c58_b37 r_61.toNatClampNeg x_108) (upd c58_b38 r_61.toNatClampNeg x4) x_92 _ _ (by omega) (by omega) (by assumption) (show -1 ≤ o_u29_66.toInt by first | omega | assumption) (show o_u29_66.toInt < (u 1).toInt by first | omega | assumption) (by omega) hP hD hS ls (lv_sub hl [2, 3, 4, 5, 0] rfl)
              ·
                have kc_93 : r_61.toInt < (0 : Int) := i_nle c_93
                refine lv_goto (tgt := 173) hx hb dX12_goDay_122 (by decide) ?_
                obtain ⟨x_110, ex_110⟩ : ∃ y : Int32, y = x4 + 1 := ⟨_, rfl⟩
                have fx_110 : x_110.toInt = x4.toInt + 1 := by rw [ex_110]; exact i_add (by first | omega | (show (_ : Int) ≤ x4.toInt + 1; omega)) (by first | omega | (show x4.toInt + 1 ≤ (_ : Int); omega))
                refine lv_iinc (v := x_110) (lv' := [(4, .int x_110), (5, .int r_61), (0, .ref (bd 0)), (1, .int p1), (2, .int p2), (3, .int x3)]) hx hb dX12_goDay_173 hl (k := 5) rfl (by rw [ex_110]; rfl) (by decide) rfl (fun ls hl => ?_)
                refine lv_goto (tgt := 58) hx hb dX12_goDay_176 (by decide) ?_
                exact ih.2 x3 x_110 o_u33_62 o_u34_63 o_u30_64 o_u28_65 o_u29_66 o_u31_68 o_b32_67 o_b25_69 o_b26_70 c58_b36 c58_b37 c58_b38 x_92 _ _ (by omega) (by omega) (by assumption) (show -1 ≤ o_u29_66.toInt by first | omega | assumption) (show o_u29_66.toInt < (u 1).toInt by first | omega | assumption) (by omega) hP hD hS ls (lv_sub hl [2, 3, 4, 5, 0] rfl)
  refine lv_aload_n hx hb dX12_goDay_0 rfl (lv_at hl 0 rfl) ?_
  refine lv_iconst (v := 0) hx hb dX12_goDay_1 (by decide) ?_
  refine cV_v (As := [.int 0]) (rest := []) ⟨hx, hb, hml, hown, hg⟩ (k_X12_layNow l D cs A bd u b bw  0 (show 0 ≤ (u 1).toInt by first | omega | decide) (show (u 1).toInt ≤ 8 by first | omega | decide) (show -1 ≤ (u 7).toInt by first | omega | decide) (show (u 7).toInt < (u 1).toInt by first | omega | decide)) ca_X12_layNow q6_93 ⟨rfl, rfl⟩ ⟨Nat.le_of_ble_eq_true rfl, Nat.le_of_ble_eq_true rfl⟩ (rc_model hK hP) hK hP hD hS hZ rfl hl.1 rfl (Nat.le_of_ble_eq_true rfl) ⟨Nat.zero_le _, Nat.zero_le _⟩ dX12_goDay_2 (fun z_117 H locs wr_111 hP hD hS => ?_)
  obtain ⟨o_u28_112, o_u29_113, o_u30_114, o_u31_115, o_b32_116⟩ := z_117
  have hP : va_P D vwCl (RW cs bd (va_up (va_up (va_up (va_up u 28 o_u28_112) 29 o_u29_113) 30 o_u30_114) 31 o_u31_115) (va_up b 32 o_b32_116) bw) H := hP
  have hD : va_D A (RW cs bd (va_up (va_up (va_up (va_up u 28 o_u28_112) 29 o_u29_113) 30 o_u30_114) 31 o_u31_115) (va_up b 32 o_b32_116) bw) := hD
  obtain ⟨wr_111_0, wr_111_1, wr_111_2⟩ : (o_u31_115 = (0 : Int32)) ∧ (-1 ≤ o_u29_113.toInt) ∧ (o_u29_113.toInt < (u 1).toInt) := wr_111
  refine lv_aload_n hx hb dX12_goDay_5 rfl (lv_at hl 0 rfl) ?_
  refine lv_iconst (v := 0) hx hb dX12_goDay_6 (by decide) ?_
  refine pr_loudBits hx hb hg hown hK hP hD hS (hg _ q5_27) dX12_goDay_7 (fun H locs hP hD hS => ?_)
  refine lv_iconst (v := 0) hx hb dX12_goDay_10 (by decide) ?_
  refine lv_istore_n (lv' := [(3, .int 0), (0, .ref (bd 0)), (1, .int p1), (2, .int p2)]) hx hb dX12_goDay_11 rfl hl (by decide) rfl (fun ls hl => ?_)
  have q0_0 : (0 : Int32).toInt = 0 := rfl
  exact (hcut ((100 + ((u 1).toInt - (0 : Int32).toInt).toNat) + 1)).1 0 (b 36) (b 37) (b 38) o_u28_112 o_u29_113 o_u30_114 o_u31_115 0 o_b32_116 _ _ (by omega) (show -1 ≤ o_u29_113.toInt by first | omega | assumption) (show o_u29_113.toInt < (u 1).toInt by first | omega | assumption) (Nat.lt_succ_self _) hP hD hS ls (lv_sub hl [1, 2, 3, 0] rfl)
set_option maxHeartbeats 4000000 in
set_option maxRecDepth 100000 in
theorem k_X12_day (l : Launch) (D : va_G) (cs : Nat → ClassId) (A : Nat → Prop) (bd : Nat → Nat) (u : Nat → Int32) (b : Nat → Nat → Int32) (bw : Nat → Nat → Int64)  (p1 : Int32) (p2 : Int32) (p3 : Int32) (hlaw : LAWOK (b 20) (b 21) (b 22) (b 23) (b 24)) (ib66_0 : AB (-6) 49 (b 66)) (iu1_0 : 0 ≤ (u 1).toInt) (iu1_1 : (u 1).toInt ≤ 8) (ib67_0 : AB 0 60 (b 67)) (ib23_0 : AB (-32768) 32767 (b 23)) (ib24_0 : AB (-32768) 32767 (b 24)) (ib20_0 : AB (-128) 127 (b 20)) (iu7_0 : -1 ≤ (u 7).toInt) (iu7_1 : (u 7).toInt < (u 1).toInt) : Met l yX12_day (Cond.code yX12_day cX12_day 4 (some .int) :: gw) ({ frames := 6, cells := 0, slots := 0, locals := 141 }) (va_Pc [.ref (bd 0), .int p1, .int p2, .int p3] (XPre D (TY cs) (RW cs bd u b bw) A)) (va_Qi (fun (r : Int32) (z : Int32 × Int32 × Int32 × Int32 × Int32 × Int32 × Int32 × (Nat → Int32) × (Nat → Int32) × (Nat → Int32) × (Nat → Int32) × (Nat → Int32) × (Nat → Int32)) => True) (XPo D (fun (z : Int32 × Int32 × Int32 × Int32 × Int32 × Int32 × Int32 × (Nat → Int32) × (Nat → Int32) × (Nat → Int32) × (Nat → Int32) × (Nat → Int32) × (Nat → Int32)) => RW cs bd (va_up (va_up (va_up (va_up (va_up (va_up (va_up u 33 z.1) 34 z.2.1) 30 z.2.2.1) 28 z.2.2.2.1) 29 z.2.2.2.2.1) 31 z.2.2.2.2.2.1) 35 z.2.2.2.2.2.2.1) (va_up (va_up (va_up (va_up (va_up (va_up b 32 z.2.2.2.2.2.2.2.1) 25 z.2.2.2.2.2.2.2.2.1) 26 z.2.2.2.2.2.2.2.2.2.1) 36 z.2.2.2.2.2.2.2.2.2.2.1) 37 z.2.2.2.2.2.2.2.2.2.2.2.1) 38 z.2.2.2.2.2.2.2.2.2.2.2.2) bw) A) A) 0 0 A := by
  refine Met.ofW (cc := cX12_day) (maxL := 4) (ret := (some .int)) (by decide) rfl ?_
  intro p e s m args below meth c s₁ B hml hv
  obtain ⟨rfl, hP, hK, hD, hZ⟩ := hv
  have hx := B.exec
  have hb := B.bytes
  have hr := B.returns
  have hts := atoms_spec (ws := (Cond.code yX12_day cX12_day 4 (some .int) :: gw)) B.pre
  have hg : ∀ w ∈ gw, w.before ([.ref (bd 0), .int p1, .int p2, .int p3] : List Value).toArray s = true := fun w h => hts w (List.mem_cons_of_mem _ h)
  have hown : s.vm.findClass RX12 = some m.cls := findClass_of_methodNamed B.named
  have hlocks := B.notSynchronized
  have hS : va_S A s.heap s.heap [] := va_S.rf
  have hP : va_P D vwCl (RW cs bd u b bw) s.heap := hP
  have hl := lv_entry ([.ref (bd 0), .int p1, .int p2, .int p3]) (n := 4) (Nat.le_of_ble_eq_true rfl)
  rw [lg_entry_eq]
  generalize (lg_sl ([.ref (bd 0), .int p1, .int p2, .int p3]) ++ List.replicate (4 - (lg_sl ([.ref (bd 0), .int p1, .int p2, .int p3])).length) Slot.unset).toArray = ls at hl ⊢
  have hl : lv_has ls 4 [(0, .ref (bd 0)), (1, .int p1), (2, .int p2), (3, .int p3)] := hl
  refine lv_iload_n hx hb dX12_day_0 rfl (lv_at hl 1 rfl) ?_
  refine cS_p (As := [.int p1]) (rest := []) ⟨hx, hb, hml, hown, hg⟩ (k_X12_isShelf l   p1 ) ca_X12_isShelf q5_223 ⟨rfl, rfl⟩ ⟨Nat.le_of_ble_eq_true rfl, Nat.le_of_ble_eq_true rfl⟩ rfl hl.1 rfl (Nat.le_of_ble_eq_true rfl) ⟨Nat.zero_le _, Nat.zero_le _⟩ dX12_day_1 (fun r_1 wr_1 => ?_)
  have wr_1 : (r_1.toInt = 1 ∧ 0 ≤ p1.toInt ∧ p1.toInt < 6) ∨ (r_1.toInt = 0 ∧ ¬ (0 ≤ p1.toInt ∧ p1.toInt < 6)) := wr_1
  refine lv_if_eq (tgt := 23) hx hb dX12_day_4 (by decide) (fun c_2 => ?_) (fun c_2 => ?_)
  ·
    have kc_2 : r_1.toInt = (0 : Int) := i_eq c_2
    refine lv_iconst (v := (-1)) hx hb dX12_day_23 (by decide) ?_
    have q0_m1 : ((-1) : Int32).toInt = (-1) := rfl
    have hP : va_P D vwCl (RW cs bd (va_up (va_up (va_up (va_up (va_up (va_up (va_up u 33 (u 33)) 34 (u 34)) 30 (u 30)) 28 (u 28)) 29 (u 29)) 31 (u 31)) 35 (u 35)) (va_up (va_up (va_up (va_up (va_up (va_up b 32 (b 32)) 25 (b 25)) 26 (b 26)) 36 (b 36)) 37 (b 37)) 38 (b 38)) bw) _ := hP
    have hD : va_D A (RW cs bd (va_up (va_up (va_up (va_up (va_up (va_up (va_up u 33 (u 33)) 34 (u 34)) 30 (u 30)) 28 (u 28)) 29 (u 29)) 31 (u 31)) 35 (u 35)) (va_up (va_up (va_up (va_up (va_up (va_up b 32 (b 32)) 25 (b 25)) 26 (b 26)) 36 (b 36)) 37 (b 37)) 38 (b 38)) bw) := hD
    exact W.iret (v := (-1)) hx hb hr (fun tt ht hW => ⟨⟨(-1), ⟨(u 33), (u 34), (u 30), (u 28), (u 29), (u 31), (u 35), (b 32), (b 25), (b 26), (b 36), (b 37), (b 38)⟩, rfl, trivial, by rw [ht]; exact hP, hD⟩, hS.F ht⟩) hS.2.2 dX12_day_24
  ·
    have kc_2 : r_1.toInt ≠ (0 : Int) := i_ne c_2
    refine lv_iload_n hx hb dX12_day_7 rfl (lv_at hl 2 rfl) ?_
    refine cS_p (As := [.int p2]) (rest := []) ⟨hx, hb, hml, hown, hg⟩ (k_X12_areMany l   p2 ) ca_X12_areMany q6_129 ⟨rfl, rfl⟩ ⟨Nat.le_of_ble_eq_true rfl, Nat.le_of_ble_eq_true rfl⟩ rfl hl.1 rfl (Nat.le_of_ble_eq_true rfl) ⟨Nat.zero_le _, Nat.zero_le _⟩ dX12_day_8 (fun r_3 wr_3 => ?_)
    have wr_3 : (r_3.toInt = 1 ∧ 0 ≤ p2.toInt ∧ p2.toInt ≤ 24) ∨ (r_3.toInt = 0 ∧ ¬ (0 ≤ p2.toInt ∧ p2.toInt ≤ 24)) := wr_3
    refine lv_if_eq (tgt := 23) hx hb dX12_day_11 (by decide) (fun c_4 => ?_) (fun c_4 => ?_)
    ·
      have kc_4 : r_3.toInt = (0 : Int) := i_eq c_4
      refine lv_iconst (v := (-1)) hx hb dX12_day_23 (by decide) ?_
      have q0_m1 : ((-1) : Int32).toInt = (-1) := rfl
      have hP : va_P D vwCl (RW cs bd (va_up (va_up (va_up (va_up (va_up (va_up (va_up u 33 (u 33)) 34 (u 34)) 30 (u 30)) 28 (u 28)) 29 (u 29)) 31 (u 31)) 35 (u 35)) (va_up (va_up (va_up (va_up (va_up (va_up b 32 (b 32)) 25 (b 25)) 26 (b 26)) 36 (b 36)) 37 (b 37)) 38 (b 38)) bw) _ := hP
      have hD : va_D A (RW cs bd (va_up (va_up (va_up (va_up (va_up (va_up (va_up u 33 (u 33)) 34 (u 34)) 30 (u 30)) 28 (u 28)) 29 (u 29)) 31 (u 31)) 35 (u 35)) (va_up (va_up (va_up (va_up (va_up (va_up b 32 (b 32)) 25 (b 25)) 26 (b 26)) 36 (b 36)) 37 (b 37)) 38 (b 38)) bw) := hD
      exact W.iret (v := (-1)) hx hb hr (fun tt ht hW => ⟨⟨(-1), ⟨(u 33), (u 34), (u 30), (u 28), (u 29), (u 31), (u 35), (b 32), (b 25), (b 26), (b 36), (b 37), (b 38)⟩, rfl, trivial, by rw [ht]; exact hP, hD⟩, hS.F ht⟩) hS.2.2 dX12_day_24
    ·
      have kc_4 : r_3.toInt ≠ (0 : Int) := i_ne c_4
      refine lv_iload_n hx hb dX12_day_14 rfl (lv_at hl 3 rfl) ?_
      refine lv_iconst (v := 0) hx hb dX12_day_15 (by decide) ?_
      refine lv_iconst (v := 2) hx hb dX12_day_16 (by decide) ?_
      refine cS_p (As := [.int p3, .int 0, .int 2]) (rest := []) ⟨hx, hb, hml, hown, hg⟩ (k_X12_in l   p3 0 2 ) ca_X12_in q5_212 ⟨rfl, rfl⟩ ⟨Nat.le_of_ble_eq_true rfl, Nat.le_of_ble_eq_true rfl⟩ rfl hl.1 rfl (Nat.le_of_ble_eq_true rfl) ⟨Nat.zero_le _, Nat.zero_le _⟩ dX12_day_17 (fun r_5 wr_5 => ?_)
      have wr_5 : (r_5.toInt = 1 ∧ (0 : Int) ≤ p3.toInt ∧ p3.toInt ≤ (2 : Int)) ∨ (r_5.toInt = 0 ∧ ¬ ((0 : Int) ≤ p3.toInt ∧ p3.toInt ≤ (2 : Int))) := wr_5
      refine lv_if_ne (tgt := 25) hx hb dX12_day_20 (by decide) (fun c_6 => ?_) (fun c_6 => ?_)
      ·
        have kc_6 : r_5.toInt ≠ (0 : Int) := i_ne c_6
        refine lv_aload_n hx hb dX12_day_25 rfl (lv_at hl 0 rfl) ?_
        refine lv_iload_n hx hb dX12_day_26 rfl (lv_at hl 1 rfl) ?_
        refine lv_iconst (v := 0) hx hb dX12_day_27 (by decide) ?_
        refine cV_ro (As := [.int p1, .int 0]) (rest := []) ⟨hx, hb, hml, hown, hg⟩ (k_X12_rowFault l D cs A bd u b bw  p1 0 (show 0 ≤ p1.toInt by first | omega | decide) (show p1.toInt < 6 by first | omega | decide) ib66_0) ca_X12_rowFault q6_132 ⟨rfl, rfl⟩ ⟨Nat.le_of_ble_eq_true rfl, Nat.le_of_ble_eq_true rfl⟩ (rc_model hK hP) hK hP hD hS hZ rfl hl.1 rfl (Nat.le_of_ble_eq_true rfl) ⟨Nat.zero_le _, Nat.zero_le _⟩ dX12_day_28 (fun r_7 wr_7 => ?_)
        have wr_7_0 : r_7.toInt = 0 ∨ r_7.toInt = -11 ∨ r_7.toInt = -12 := wr_7
        refine lv_if_ge (tgt := 41) hx hb dX12_day_31 (by decide) (fun c_8 => ?_) (fun c_8 => ?_)
        ·
          have kc_8 : (0 : Int) ≤ r_7.toInt := i_le c_8
          refine lv_aload_n hx hb dX12_day_41 rfl (lv_at hl 0 rfl) ?_
          refine lv_iload_n hx hb dX12_day_42 rfl (lv_at hl 1 rfl) ?_
          refine lv_iload_n hx hb dX12_day_43 rfl (lv_at hl 2 rfl) ?_
          refine cV_v (As := [.int p1, .int p2]) (rest := []) ⟨hx, hb, hml, hown, hg⟩ (k_X12_goDay l D cs A bd u b bw  p1 p2 (show 0 ≤ p1.toInt by first | omega | decide) (show p1.toInt < 6 by first | omega | decide) (show p2.toInt ≤ 24 by first | omega | decide) hlaw (show 0 ≤ (u 1).toInt by first | omega | decide) (show (u 1).toInt ≤ 8 by first | omega | decide) ib67_0 ib23_0 ib24_0 ib20_0 (show -1 ≤ (u 7).toInt by first | omega | decide) (show (u 7).toInt < (u 1).toInt by first | omega | decide)) ca_X12_goDay q6_136 ⟨rfl, rfl⟩ ⟨Nat.le_of_ble_eq_true rfl, Nat.le_of_ble_eq_true rfl⟩ (rc_model hK hP) hK hP hD hS hZ rfl hl.1 rfl (Nat.le_of_ble_eq_true rfl) ⟨Nat.zero_le _, Nat.zero_le _⟩ dX12_day_44 (fun z_23 H locs wr_9 hP hD hS => ?_)
          obtain ⟨o_u33_10, o_u34_11, o_u30_12, o_u28_13, o_u29_14, o_u31_15, o_u35_16, o_b32_17, o_b25_18, o_b26_19, o_b36_20, o_b37_21, o_b38_22⟩ := z_23
          have hP : va_P D vwCl (RW cs bd (va_up (va_up (va_up (va_up (va_up (va_up (va_up u 33 o_u33_10) 34 o_u34_11) 30 o_u30_12) 28 o_u28_13) 29 o_u29_14) 31 o_u31_15) 35 o_u35_16) (va_up (va_up (va_up (va_up (va_up (va_up b 32 o_b32_17) 25 o_b25_18) 26 o_b26_19) 36 o_b36_20) 37 o_b37_21) 38 o_b38_22) bw) H := hP
          have hD : va_D A (RW cs bd (va_up (va_up (va_up (va_up (va_up (va_up (va_up u 33 o_u33_10) 34 o_u34_11) 30 o_u30_12) 28 o_u28_13) 29 o_u29_14) 31 o_u31_15) 35 o_u35_16) (va_up (va_up (va_up (va_up (va_up (va_up b 32 o_b32_17) 25 o_b25_18) 26 o_b26_19) 36 o_b36_20) 37 o_b37_21) 38 o_b38_22) bw) := hD
          obtain ⟨wr_9_0, wr_9_1⟩ : (-1 ≤ o_u29_14.toInt) ∧ (o_u29_14.toInt < (u 1).toInt) := wr_9
          refine lv_iload_n hx hb dX12_day_47 rfl (lv_at hl 3 rfl) ?_
          refine lv_if_ne (tgt := 70) hx hb dX12_day_48 (by decide) (fun c_24 => ?_) (fun c_24 => ?_)
          ·
            have kc_24 : p3.toInt ≠ (0 : Int) := i_ne c_24
            refine lv_iload_n hx hb dX12_day_70 rfl (lv_at hl 3 rfl) ?_
            refine lv_iconst (v := 1) hx hb dX12_day_71 (by decide) ?_
            refine lv_icmp_ne (tgt := 82) hx hb dX12_day_72 (by decide) (fun c_25 => ?_) (fun c_25 => ?_)
            ·
              have kc_25 : p3.toInt ≠ (1 : Int) := i_ne c_25
              refine lv_aload_n hx hb dX12_day_82 rfl (lv_at hl 0 rfl) ?_
              refine gr_loudBits hx hb hg hown hK hP (x := o_u35_16) rfl (hg _ q5_27) dX12_day_83 ?_
              exact W.iret (v := o_u35_16) hx hb hr (fun tt ht hW => ⟨⟨o_u35_16, ⟨o_u33_10, o_u34_11, o_u30_12, o_u28_13, o_u29_14, o_u31_15, o_u35_16, o_b32_17, o_b25_18, o_b26_19, o_b36_20, o_b37_21, o_b38_22⟩, rfl, trivial, by rw [ht]; exact hP, hD⟩, hS.F ht⟩) hS.2.2 dX12_day_86
            ·
              have kc_25 : p3.toInt = (1 : Int) := i_eq c_25
              refine lv_aload_n hx hb dX12_day_75 rfl (lv_at hl 0 rfl) ?_
              refine gr_bee1 hx hb hg hown hK hP (x := o_u28_13) rfl (hg _ q5_20) dX12_day_76 ?_
              refine lv_goto (tgt := 86) hx hb dX12_day_79 (by decide) ?_
              exact W.iret (v := o_u28_13) hx hb hr (fun tt ht hW => ⟨⟨o_u28_13, ⟨o_u33_10, o_u34_11, o_u30_12, o_u28_13, o_u29_14, o_u31_15, o_u35_16, o_b32_17, o_b25_18, o_b26_19, o_b36_20, o_b37_21, o_b38_22⟩, rfl, trivial, by rw [ht]; exact hP, hD⟩, hS.F ht⟩) hS.2.2 dX12_day_86
          ·
            have kc_24 : p3.toInt = (0 : Int) := i_eq c_24
            refine lv_aload_n hx hb dX12_day_51 rfl (lv_at hl 0 rfl) ?_
            refine gr_liar1 hx hb hg hown hK hP (x := o_u29_14) rfl (hg _ q5_21) dX12_day_52 ?_
            refine lv_if_ge (tgt := 63) hx hb dX12_day_55 (by decide) (fun c_26 => ?_) (fun c_26 => ?_)
            ·
              have kc_26 : (0 : Int) ≤ o_u29_14.toInt := i_le c_26
              refine lv_aload_n hx hb dX12_day_63 rfl (lv_at hl 0 rfl) ?_
              refine gr_liar1 hx hb hg hown hK hP (x := o_u29_14) rfl (hg _ q5_21) dX12_day_64 ?_
              refine lv_goto (tgt := 86) hx hb dX12_day_67 (by decide) ?_
              exact W.iret (v := o_u29_14) hx hb hr (fun tt ht hW => ⟨⟨o_u29_14, ⟨o_u33_10, o_u34_11, o_u30_12, o_u28_13, o_u29_14, o_u31_15, o_u35_16, o_b32_17, o_b25_18, o_b26_19, o_b36_20, o_b37_21, o_b38_22⟩, rfl, trivial, by rw [ht]; exact hP, hD⟩, hS.F ht⟩) hS.2.2 dX12_day_86
            ·
              have kc_26 : o_u29_14.toInt < (0 : Int) := i_nle c_26
              refine lv_bipush (v := (-2)) hx hb dX12_day_58 (by decide) ?_
              refine lv_goto (tgt := 86) hx hb dX12_day_60 (by decide) ?_
              have q0_m2 : ((-2) : Int32).toInt = (-2) := rfl
              exact W.iret (v := (-2)) hx hb hr (fun tt ht hW => ⟨⟨(-2), ⟨o_u33_10, o_u34_11, o_u30_12, o_u28_13, o_u29_14, o_u31_15, o_u35_16, o_b32_17, o_b25_18, o_b26_19, o_b36_20, o_b37_21, o_b38_22⟩, rfl, trivial, by rw [ht]; exact hP, hD⟩, hS.F ht⟩) hS.2.2 dX12_day_86
        ·
          have kc_8 : r_7.toInt < (0 : Int) := i_nle c_8
          refine lv_aload_n hx hb dX12_day_34 rfl (lv_at hl 0 rfl) ?_
          refine lv_iload_n hx hb dX12_day_35 rfl (lv_at hl 1 rfl) ?_
          refine lv_iconst (v := 0) hx hb dX12_day_36 (by decide) ?_
          refine cV_ro (As := [.int p1, .int 0]) (rest := []) ⟨hx, hb, hml, hown, hg⟩ (k_X12_rowFault l D cs A bd u b bw  p1 0 (show 0 ≤ p1.toInt by first | omega | decide) (show p1.toInt < 6 by first | omega | decide) ib66_0) ca_X12_rowFault q6_132 ⟨rfl, rfl⟩ ⟨Nat.le_of_ble_eq_true rfl, Nat.le_of_ble_eq_true rfl⟩ (rc_model hK hP) hK hP hD hS hZ rfl hl.1 rfl (Nat.le_of_ble_eq_true rfl) ⟨Nat.zero_le _, Nat.zero_le _⟩ dX12_day_37 (fun r_27 wr_27 => ?_)
          have wr_27_0 : r_27.toInt = 0 ∨ r_27.toInt = -11 ∨ r_27.toInt = -12 := wr_27
          have hP : va_P D vwCl (RW cs bd (va_up (va_up (va_up (va_up (va_up (va_up (va_up u 33 (u 33)) 34 (u 34)) 30 (u 30)) 28 (u 28)) 29 (u 29)) 31 (u 31)) 35 (u 35)) (va_up (va_up (va_up (va_up (va_up (va_up b 32 (b 32)) 25 (b 25)) 26 (b 26)) 36 (b 36)) 37 (b 37)) 38 (b 38)) bw) _ := hP
          have hD : va_D A (RW cs bd (va_up (va_up (va_up (va_up (va_up (va_up (va_up u 33 (u 33)) 34 (u 34)) 30 (u 30)) 28 (u 28)) 29 (u 29)) 31 (u 31)) 35 (u 35)) (va_up (va_up (va_up (va_up (va_up (va_up b 32 (b 32)) 25 (b 25)) 26 (b 26)) 36 (b 36)) 37 (b 37)) 38 (b 38)) bw) := hD
          exact W.iret (v := r_27) hx hb hr (fun tt ht hW => ⟨⟨r_27, ⟨(u 33), (u 34), (u 30), (u 28), (u 29), (u 31), (u 35), (b 32), (b 25), (b 26), (b 36), (b 37), (b 38)⟩, rfl, trivial, by rw [ht]; exact hP, hD⟩, hS.F ht⟩) hS.2.2 dX12_day_40
      ·
        have kc_6 : r_5.toInt = (0 : Int) := i_eq c_6
        refine lv_iconst (v := (-1)) hx hb dX12_day_23 (by decide) ?_
        have q0_m1 : ((-1) : Int32).toInt = (-1) := rfl
        have hP : va_P D vwCl (RW cs bd (va_up (va_up (va_up (va_up (va_up (va_up (va_up u 33 (u 33)) 34 (u 34)) 30 (u 30)) 28 (u 28)) 29 (u 29)) 31 (u 31)) 35 (u 35)) (va_up (va_up (va_up (va_up (va_up (va_up b 32 (b 32)) 25 (b 25)) 26 (b 26)) 36 (b 36)) 37 (b 37)) 38 (b 38)) bw) _ := hP
        have hD : va_D A (RW cs bd (va_up (va_up (va_up (va_up (va_up (va_up (va_up u 33 (u 33)) 34 (u 34)) 30 (u 30)) 28 (u 28)) 29 (u 29)) 31 (u 31)) 35 (u 35)) (va_up (va_up (va_up (va_up (va_up (va_up b 32 (b 32)) 25 (b 25)) 26 (b 26)) 36 (b 36)) 37 (b 37)) 38 (b 38)) bw) := hD
        exact W.iret (v := (-1)) hx hb hr (fun tt ht hW => ⟨⟨(-1), ⟨(u 33), (u 34), (u 30), (u 28), (u 29), (u 31), (u 35), (b 32), (b 25), (b 26), (b 36), (b 37), (b 38)⟩, rfl, trivial, by rw [ht]; exact hP, hD⟩, hS.F ht⟩) hS.2.2 dX12_day_24
set_option maxHeartbeats 4000000 in
set_option maxRecDepth 100000 in
theorem k_X12_stung (l : Launch) (D : va_G) (cs : Nat → ClassId) (A : Nat → Prop) (bd : Nat → Nat) (u : Nat → Int32) (b : Nat → Nat → Int32) (bw : Nat → Nat → Int64)  (p1 : Int32) (p2 : Int32) (p3 : Int32) (p4 : Int32) (hlaw : LAWOK (b 20) (b 21) (b 22) (b 23) (b 24)) (iu1_0 : 0 ≤ (u 1).toInt) (iu1_1 : (u 1).toInt ≤ 8) (ib66_0 : AB (-6) 49 (b 66)) (ib67_0 : AB 0 60 (b 67)) (ib23_0 : AB (-32768) 32767 (b 23)) (ib24_0 : AB (-32768) 32767 (b 24)) (ib20_0 : AB (-128) 127 (b 20)) (iu7_0 : -1 ≤ (u 7).toInt) (iu7_1 : (u 7).toInt < (u 1).toInt) : Met l yX12_stung (Cond.code yX12_stung cX12_stung 5 (some .int) :: gw) ({ frames := 6, cells := 0, slots := 0, locals := 141 }) (va_Pc [.ref (bd 0), .int p1, .int p2, .int p3, .int p4] (XPre D (TY cs) (RW cs bd u b bw) A)) (va_Qi (fun (r : Int32) (z : Int32 × Int32 × Int32 × Int32 × Int32 × Int32 × Int32 × (Nat → Int32) × (Nat → Int32) × (Nat → Int32) × (Nat → Int32) × (Nat → Int32) × (Nat → Int32)) => True) (XPo D (fun (z : Int32 × Int32 × Int32 × Int32 × Int32 × Int32 × Int32 × (Nat → Int32) × (Nat → Int32) × (Nat → Int32) × (Nat → Int32) × (Nat → Int32) × (Nat → Int32)) => RW cs bd (va_up (va_up (va_up (va_up (va_up (va_up (va_up u 33 z.1) 34 z.2.1) 30 z.2.2.1) 28 z.2.2.2.1) 29 z.2.2.2.2.1) 31 z.2.2.2.2.2.1) 35 z.2.2.2.2.2.2.1) (va_up (va_up (va_up (va_up (va_up (va_up b 32 z.2.2.2.2.2.2.2.1) 25 z.2.2.2.2.2.2.2.2.1) 26 z.2.2.2.2.2.2.2.2.2.1) 36 z.2.2.2.2.2.2.2.2.2.2.1) 37 z.2.2.2.2.2.2.2.2.2.2.2.1) 38 z.2.2.2.2.2.2.2.2.2.2.2.2) bw) A) A) 0 0 A := by
  refine Met.ofW (cc := cX12_stung) (maxL := 5) (ret := (some .int)) (by decide) rfl ?_
  intro p e s m args below meth c s₁ B hml hv
  obtain ⟨rfl, hP, hK, hD, hZ⟩ := hv
  have hx := B.exec
  have hb := B.bytes
  have hr := B.returns
  have hts := atoms_spec (ws := (Cond.code yX12_stung cX12_stung 5 (some .int) :: gw)) B.pre
  have hg : ∀ w ∈ gw, w.before ([.ref (bd 0), .int p1, .int p2, .int p3, .int p4] : List Value).toArray s = true := fun w h => hts w (List.mem_cons_of_mem _ h)
  have hown : s.vm.findClass RX12 = some m.cls := findClass_of_methodNamed B.named
  have hlocks := B.notSynchronized
  have hS : va_S A s.heap s.heap [] := va_S.rf
  have hP : va_P D vwCl (RW cs bd u b bw) s.heap := hP
  have hl := lv_entry ([.ref (bd 0), .int p1, .int p2, .int p3, .int p4]) (n := 5) (Nat.le_of_ble_eq_true rfl)
  rw [lg_entry_eq]
  generalize (lg_sl ([.ref (bd 0), .int p1, .int p2, .int p3, .int p4]) ++ List.replicate (5 - (lg_sl ([.ref (bd 0), .int p1, .int p2, .int p3, .int p4])).length) Slot.unset).toArray = ls at hl ⊢
  have hl : lv_has ls 5 [(0, .ref (bd 0)), (1, .int p1), (2, .int p2), (3, .int p3), (4, .int p4)] := hl
  refine lv_iload_n hx hb dX12_stung_0 rfl (lv_at hl 1 rfl) ?_
  refine cS_p (As := [.int p1]) (rest := []) ⟨hx, hb, hml, hown, hg⟩ (k_X12_isShelf l   p1 ) ca_X12_isShelf q5_223 ⟨rfl, rfl⟩ ⟨Nat.le_of_ble_eq_true rfl, Nat.le_of_ble_eq_true rfl⟩ rfl hl.1 rfl (Nat.le_of_ble_eq_true rfl) ⟨Nat.zero_le _, Nat.zero_le _⟩ dX12_stung_1 (fun r_1 wr_1 => ?_)
  have wr_1 : (r_1.toInt = 1 ∧ 0 ≤ p1.toInt ∧ p1.toInt < 6) ∨ (r_1.toInt = 0 ∧ ¬ (0 ≤ p1.toInt ∧ p1.toInt < 6)) := wr_1
  refine lv_if_eq (tgt := 32) hx hb dX12_stung_4 (by decide) (fun c_2 => ?_) (fun c_2 => ?_)
  ·
    have kc_2 : r_1.toInt = (0 : Int) := i_eq c_2
    refine lv_iconst (v := (-1)) hx hb dX12_stung_32 (by decide) ?_
    have q0_m1 : ((-1) : Int32).toInt = (-1) := rfl
    have hP : va_P D vwCl (RW cs bd (va_up (va_up (va_up (va_up (va_up (va_up (va_up u 33 (u 33)) 34 (u 34)) 30 (u 30)) 28 (u 28)) 29 (u 29)) 31 (u 31)) 35 (u 35)) (va_up (va_up (va_up (va_up (va_up (va_up b 32 (b 32)) 25 (b 25)) 26 (b 26)) 36 (b 36)) 37 (b 37)) 38 (b 38)) bw) _ := hP
    have hD : va_D A (RW cs bd (va_up (va_up (va_up (va_up (va_up (va_up (va_up u 33 (u 33)) 34 (u 34)) 30 (u 30)) 28 (u 28)) 29 (u 29)) 31 (u 31)) 35 (u 35)) (va_up (va_up (va_up (va_up (va_up (va_up b 32 (b 32)) 25 (b 25)) 26 (b 26)) 36 (b 36)) 37 (b 37)) 38 (b 38)) bw) := hD
    exact W.iret (v := (-1)) hx hb hr (fun tt ht hW => ⟨⟨(-1), ⟨(u 33), (u 34), (u 30), (u 28), (u 29), (u 31), (u 35), (b 32), (b 25), (b 26), (b 36), (b 37), (b 38)⟩, rfl, trivial, by rw [ht]; exact hP, hD⟩, hS.F ht⟩) hS.2.2 dX12_stung_33
  ·
    have kc_2 : r_1.toInt ≠ (0 : Int) := i_ne c_2
    refine lv_iload_n hx hb dX12_stung_7 rfl (lv_at hl 2 rfl) ?_
    refine cS_p (As := [.int p2]) (rest := []) ⟨hx, hb, hml, hown, hg⟩ (k_X12_areMany l   p2 ) ca_X12_areMany q6_129 ⟨rfl, rfl⟩ ⟨Nat.le_of_ble_eq_true rfl, Nat.le_of_ble_eq_true rfl⟩ rfl hl.1 rfl (Nat.le_of_ble_eq_true rfl) ⟨Nat.zero_le _, Nat.zero_le _⟩ dX12_stung_8 (fun r_3 wr_3 => ?_)
    have wr_3 : (r_3.toInt = 1 ∧ 0 ≤ p2.toInt ∧ p2.toInt ≤ 24) ∨ (r_3.toInt = 0 ∧ ¬ (0 ≤ p2.toInt ∧ p2.toInt ≤ 24)) := wr_3
    refine lv_if_eq (tgt := 32) hx hb dX12_stung_11 (by decide) (fun c_4 => ?_) (fun c_4 => ?_)
    ·
      have kc_4 : r_3.toInt = (0 : Int) := i_eq c_4
      refine lv_iconst (v := (-1)) hx hb dX12_stung_32 (by decide) ?_
      have q0_m1 : ((-1) : Int32).toInt = (-1) := rfl
      have hP : va_P D vwCl (RW cs bd (va_up (va_up (va_up (va_up (va_up (va_up (va_up u 33 (u 33)) 34 (u 34)) 30 (u 30)) 28 (u 28)) 29 (u 29)) 31 (u 31)) 35 (u 35)) (va_up (va_up (va_up (va_up (va_up (va_up b 32 (b 32)) 25 (b 25)) 26 (b 26)) 36 (b 36)) 37 (b 37)) 38 (b 38)) bw) _ := hP
      have hD : va_D A (RW cs bd (va_up (va_up (va_up (va_up (va_up (va_up (va_up u 33 (u 33)) 34 (u 34)) 30 (u 30)) 28 (u 28)) 29 (u 29)) 31 (u 31)) 35 (u 35)) (va_up (va_up (va_up (va_up (va_up (va_up b 32 (b 32)) 25 (b 25)) 26 (b 26)) 36 (b 36)) 37 (b 37)) 38 (b 38)) bw) := hD
      exact W.iret (v := (-1)) hx hb hr (fun tt ht hW => ⟨⟨(-1), ⟨(u 33), (u 34), (u 30), (u 28), (u 29), (u 31), (u 35), (b 32), (b 25), (b 26), (b 36), (b 37), (b 38)⟩, rfl, trivial, by rw [ht]; exact hP, hD⟩, hS.F ht⟩) hS.2.2 dX12_stung_33
    ·
      have kc_4 : r_3.toInt ≠ (0 : Int) := i_ne c_4
      refine lv_aload_n hx hb dX12_stung_14 rfl (lv_at hl 0 rfl) ?_
      refine lv_iload_n hx hb dX12_stung_15 rfl (lv_at hl 3 rfl) ?_
      refine cV_ro (As := [.int p3]) (rest := []) ⟨hx, hb, hml, hown, hg⟩ (k_X12_isOne l D cs A bd u b bw  p3 (show 0 ≤ (u 1).toInt by first | omega | decide) (show (u 1).toInt ≤ 8 by first | omega | decide)) ca_X12_isOne q6_7 ⟨rfl, rfl⟩ ⟨Nat.le_of_ble_eq_true rfl, Nat.le_of_ble_eq_true rfl⟩ (rc_model hK hP) hK hP hD hS hZ rfl hl.1 rfl (Nat.le_of_ble_eq_true rfl) ⟨Nat.zero_le _, Nat.zero_le _⟩ dX12_stung_16 (fun r_5 wr_5 => ?_)
      have wr_5_0 : (r_5.toInt = 1 ∧ 0 ≤ p3.toInt ∧ p3.toInt < (u 1).toInt) ∨ (r_5.toInt = 0 ∧ ¬ (0 ≤ p3.toInt ∧ p3.toInt < (u 1).toInt)) := wr_5
      refine lv_if_eq (tgt := 32) hx hb dX12_stung_19 (by decide) (fun c_6 => ?_) (fun c_6 => ?_)
      ·
        have kc_6 : r_5.toInt = (0 : Int) := i_eq c_6
        refine lv_iconst (v := (-1)) hx hb dX12_stung_32 (by decide) ?_
        have q0_m1 : ((-1) : Int32).toInt = (-1) := rfl
        have hP : va_P D vwCl (RW cs bd (va_up (va_up (va_up (va_up (va_up (va_up (va_up u 33 (u 33)) 34 (u 34)) 30 (u 30)) 28 (u 28)) 29 (u 29)) 31 (u 31)) 35 (u 35)) (va_up (va_up (va_up (va_up (va_up (va_up b 32 (b 32)) 25 (b 25)) 26 (b 26)) 36 (b 36)) 37 (b 37)) 38 (b 38)) bw) _ := hP
        have hD : va_D A (RW cs bd (va_up (va_up (va_up (va_up (va_up (va_up (va_up u 33 (u 33)) 34 (u 34)) 30 (u 30)) 28 (u 28)) 29 (u 29)) 31 (u 31)) 35 (u 35)) (va_up (va_up (va_up (va_up (va_up (va_up b 32 (b 32)) 25 (b 25)) 26 (b 26)) 36 (b 36)) 37 (b 37)) 38 (b 38)) bw) := hD
        exact W.iret (v := (-1)) hx hb hr (fun tt ht hW => ⟨⟨(-1), ⟨(u 33), (u 34), (u 30), (u 28), (u 29), (u 31), (u 35), (b 32), (b 25), (b 26), (b 36), (b 37), (b 38)⟩, rfl, trivial, by rw [ht]; exact hP, hD⟩, hS.F ht⟩) hS.2.2 dX12_stung_33
      ·
        have kc_6 : r_5.toInt ≠ (0 : Int) := i_ne c_6
        refine lv_iload hx hb dX12_stung_22 (lv_at hl 4 rfl) ?_
        refine lv_iconst (v := 0) hx hb dX12_stung_24 (by decide) ?_
        refine lv_iconst (v := 2) hx hb dX12_stung_25 (by decide) ?_
        refine cS_p (As := [.int p4, .int 0, .int 2]) (rest := []) ⟨hx, hb, hml, hown, hg⟩ (k_X12_in l   p4 0 2 ) ca_X12_in q5_212 ⟨rfl, rfl⟩ ⟨Nat.le_of_ble_eq_true rfl, Nat.le_of_ble_eq_true rfl⟩ rfl hl.1 rfl (Nat.le_of_ble_eq_true rfl) ⟨Nat.zero_le _, Nat.zero_le _⟩ dX12_stung_26 (fun r_7 wr_7 => ?_)
        have wr_7 : (r_7.toInt = 1 ∧ (0 : Int) ≤ p4.toInt ∧ p4.toInt ≤ (2 : Int)) ∨ (r_7.toInt = 0 ∧ ¬ ((0 : Int) ≤ p4.toInt ∧ p4.toInt ≤ (2 : Int))) := wr_7
        refine lv_if_ne (tgt := 34) hx hb dX12_stung_29 (by decide) (fun c_8 => ?_) (fun c_8 => ?_)
        ·
          have kc_8 : r_7.toInt ≠ (0 : Int) := i_ne c_8
          refine lv_aload_n hx hb dX12_stung_34 rfl (lv_at hl 0 rfl) ?_
          refine lv_iload_n hx hb dX12_stung_35 rfl (lv_at hl 1 rfl) ?_
          refine lv_iconst (v := 0) hx hb dX12_stung_36 (by decide) ?_
          refine cV_ro (As := [.int p1, .int 0]) (rest := []) ⟨hx, hb, hml, hown, hg⟩ (k_X12_rowFault l D cs A bd u b bw  p1 0 (show 0 ≤ p1.toInt by first | omega | decide) (show p1.toInt < 6 by first | omega | decide) ib66_0) ca_X12_rowFault q6_132 ⟨rfl, rfl⟩ ⟨Nat.le_of_ble_eq_true rfl, Nat.le_of_ble_eq_true rfl⟩ (rc_model hK hP) hK hP hD hS hZ rfl hl.1 rfl (Nat.le_of_ble_eq_true rfl) ⟨Nat.zero_le _, Nat.zero_le _⟩ dX12_stung_37 (fun r_9 wr_9 => ?_)
          have wr_9_0 : r_9.toInt = 0 ∨ r_9.toInt = -11 ∨ r_9.toInt = -12 := wr_9
          refine lv_if_ge (tgt := 50) hx hb dX12_stung_40 (by decide) (fun c_10 => ?_) (fun c_10 => ?_)
          ·
            have kc_10 : (0 : Int) ≤ r_9.toInt := i_le c_10
            refine lv_aload_n hx hb dX12_stung_50 rfl (lv_at hl 0 rfl) ?_
            refine lv_iload_n hx hb dX12_stung_51 rfl (lv_at hl 1 rfl) ?_
            refine lv_iload_n hx hb dX12_stung_52 rfl (lv_at hl 2 rfl) ?_
            refine cV_v (As := [.int p1, .int p2]) (rest := []) ⟨hx, hb, hml, hown, hg⟩ (k_X12_goDay l D cs A bd u b bw  p1 p2 (show 0 ≤ p1.toInt by first | omega | decide) (show p1.toInt < 6 by first | omega | decide) (show p2.toInt ≤ 24 by first | omega | decide) hlaw (show 0 ≤ (u 1).toInt by first | omega | decide) (show (u 1).toInt ≤ 8 by first | omega | decide) ib67_0 ib23_0 ib24_0 ib20_0 (show -1 ≤ (u 7).toInt by first | omega | decide) (show (u 7).toInt < (u 1).toInt by first | omega | decide)) ca_X12_goDay q6_136 ⟨rfl, rfl⟩ ⟨Nat.le_of_ble_eq_true rfl, Nat.le_of_ble_eq_true rfl⟩ (rc_model hK hP) hK hP hD hS hZ rfl hl.1 rfl (Nat.le_of_ble_eq_true rfl) ⟨Nat.zero_le _, Nat.zero_le _⟩ dX12_stung_53 (fun z_25 H locs wr_11 hP hD hS => ?_)
            obtain ⟨o_u33_12, o_u34_13, o_u30_14, o_u28_15, o_u29_16, o_u31_17, o_u35_18, o_b32_19, o_b25_20, o_b26_21, o_b36_22, o_b37_23, o_b38_24⟩ := z_25
            have hP : va_P D vwCl (RW cs bd (va_up (va_up (va_up (va_up (va_up (va_up (va_up u 33 o_u33_12) 34 o_u34_13) 30 o_u30_14) 28 o_u28_15) 29 o_u29_16) 31 o_u31_17) 35 o_u35_18) (va_up (va_up (va_up (va_up (va_up (va_up b 32 o_b32_19) 25 o_b25_20) 26 o_b26_21) 36 o_b36_22) 37 o_b37_23) 38 o_b38_24) bw) H := hP
            have hD : va_D A (RW cs bd (va_up (va_up (va_up (va_up (va_up (va_up (va_up u 33 o_u33_12) 34 o_u34_13) 30 o_u30_14) 28 o_u28_15) 29 o_u29_16) 31 o_u31_17) 35 o_u35_18) (va_up (va_up (va_up (va_up (va_up (va_up b 32 o_b32_19) 25 o_b25_20) 26 o_b26_21) 36 o_b36_22) 37 o_b37_23) 38 o_b38_24) bw) := hD
            obtain ⟨wr_11_0, wr_11_1⟩ : (-1 ≤ o_u29_16.toInt) ∧ (o_u29_16.toInt < (u 1).toInt) := wr_11
            refine lv_iload hx hb dX12_stung_56 (lv_at hl 4 rfl) ?_
            refine lv_if_ne (tgt := 70) hx hb dX12_stung_58 (by decide) (fun c_26 => ?_) (fun c_26 => ?_)
            ·
              have kc_26 : p4.toInt ≠ (0 : Int) := i_ne c_26
              refine lv_iload hx hb dX12_stung_70 (lv_at hl 4 rfl) ?_
              refine lv_iconst (v := 1) hx hb dX12_stung_72 (by decide) ?_
              refine lv_icmp_ne (tgt := 85) hx hb dX12_stung_73 (by decide) (fun c_27 => ?_) (fun c_27 => ?_)
              ·
                have kc_27 : p4.toInt ≠ (1 : Int) := i_ne c_27
                refine lv_aload_n hx hb dX12_stung_85 rfl (lv_at hl 0 rfl) ?_
                refine gr_firstOf hx hb hg hown hK hP (hg _ q5_30) dX12_stung_86 ?_
                refine lv_iload_n hx hb dX12_stung_89 rfl (lv_at hl 3 rfl) ?_
                refine lr_firstOf hx hb hK hP (i_in (by omega) (by omega)) dX12_stung_90 ?_
                refine lv_topi (fun x_28 ex_28 => ?_)
                have ex_28 : x_28 = o_b38_24 p3.toNatClampNeg := ex_28
                have hx_28 : x_28.toInt = (o_b38_24 p3.toNatClampNeg).toInt := by rw [ex_28]
                exact W.iret (v := x_28) hx hb hr (fun tt ht hW => ⟨⟨x_28, ⟨o_u33_12, o_u34_13, o_u30_14, o_u28_15, o_u29_16, o_u31_17, o_u35_18, o_b32_19, o_b25_20, o_b26_21, o_b36_22, o_b37_23, o_b38_24⟩, rfl, trivial, by rw [ht]; exact hP, hD⟩, hS.F ht⟩) hS.2.2 dX12_stung_91
              ·
                have kc_27 : p4.toInt = (1 : Int) := i_eq c_27
                refine lv_aload_n hx hb dX12_stung_76 rfl (lv_at hl 0 rfl) ?_
                refine gr_hurtOf hx hb hg hown hK hP (hg _ q5_29) dX12_stung_77 ?_
                refine lv_iload_n hx hb dX12_stung_80 rfl (lv_at hl 3 rfl) ?_
                refine lr_hurtOf hx hb hK hP (i_in (by omega) (by omega)) dX12_stung_81 ?_
                refine lv_topi (fun x_29 ex_29 => ?_)
                have ex_29 : x_29 = o_b37_23 p3.toNatClampNeg := ex_29
                have hx_29 : x_29.toInt = (o_b37_23 p3.toNatClampNeg).toInt := by rw [ex_29]
                refine lv_goto (tgt := 91) hx hb dX12_stung_82 (by decide) ?_
                exact W.iret (v := x_29) hx hb hr (fun tt ht hW => ⟨⟨x_29, ⟨o_u33_12, o_u34_13, o_u30_14, o_u28_15, o_u29_16, o_u31_17, o_u35_18, o_b32_19, o_b25_20, o_b26_21, o_b36_22, o_b37_23, o_b38_24⟩, rfl, trivial, by rw [ht]; exact hP, hD⟩, hS.F ht⟩) hS.2.2 dX12_stung_91
            ·
              have kc_26 : p4.toInt = (0 : Int) := i_eq c_26
              refine lv_aload_n hx hb dX12_stung_61 rfl (lv_at hl 0 rfl) ?_
              refine gr_stungOf hx hb hg hown hK hP (hg _ q5_28) dX12_stung_62 ?_
              refine lv_iload_n hx hb dX12_stung_65 rfl (lv_at hl 3 rfl) ?_
              refine lr_stungOf hx hb hK hP (i_in (by omega) (by omega)) dX12_stung_66 ?_
              refine lv_topi (fun x_30 ex_30 => ?_)
              have ex_30 : x_30 = o_b36_22 p3.toNatClampNeg := ex_30
              have hx_30 : x_30.toInt = (o_b36_22 p3.toNatClampNeg).toInt := by rw [ex_30]
              refine lv_goto (tgt := 91) hx hb dX12_stung_67 (by decide) ?_
              exact W.iret (v := x_30) hx hb hr (fun tt ht hW => ⟨⟨x_30, ⟨o_u33_12, o_u34_13, o_u30_14, o_u28_15, o_u29_16, o_u31_17, o_u35_18, o_b32_19, o_b25_20, o_b26_21, o_b36_22, o_b37_23, o_b38_24⟩, rfl, trivial, by rw [ht]; exact hP, hD⟩, hS.F ht⟩) hS.2.2 dX12_stung_91
          ·
            have kc_10 : r_9.toInt < (0 : Int) := i_nle c_10
            refine lv_aload_n hx hb dX12_stung_43 rfl (lv_at hl 0 rfl) ?_
            refine lv_iload_n hx hb dX12_stung_44 rfl (lv_at hl 1 rfl) ?_
            refine lv_iconst (v := 0) hx hb dX12_stung_45 (by decide) ?_
            refine cV_ro (As := [.int p1, .int 0]) (rest := []) ⟨hx, hb, hml, hown, hg⟩ (k_X12_rowFault l D cs A bd u b bw  p1 0 (show 0 ≤ p1.toInt by first | omega | decide) (show p1.toInt < 6 by first | omega | decide) ib66_0) ca_X12_rowFault q6_132 ⟨rfl, rfl⟩ ⟨Nat.le_of_ble_eq_true rfl, Nat.le_of_ble_eq_true rfl⟩ (rc_model hK hP) hK hP hD hS hZ rfl hl.1 rfl (Nat.le_of_ble_eq_true rfl) ⟨Nat.zero_le _, Nat.zero_le _⟩ dX12_stung_46 (fun r_31 wr_31 => ?_)
            have wr_31_0 : r_31.toInt = 0 ∨ r_31.toInt = -11 ∨ r_31.toInt = -12 := wr_31
            have hP : va_P D vwCl (RW cs bd (va_up (va_up (va_up (va_up (va_up (va_up (va_up u 33 (u 33)) 34 (u 34)) 30 (u 30)) 28 (u 28)) 29 (u 29)) 31 (u 31)) 35 (u 35)) (va_up (va_up (va_up (va_up (va_up (va_up b 32 (b 32)) 25 (b 25)) 26 (b 26)) 36 (b 36)) 37 (b 37)) 38 (b 38)) bw) _ := hP
            have hD : va_D A (RW cs bd (va_up (va_up (va_up (va_up (va_up (va_up (va_up u 33 (u 33)) 34 (u 34)) 30 (u 30)) 28 (u 28)) 29 (u 29)) 31 (u 31)) 35 (u 35)) (va_up (va_up (va_up (va_up (va_up (va_up b 32 (b 32)) 25 (b 25)) 26 (b 26)) 36 (b 36)) 37 (b 37)) 38 (b 38)) bw) := hD
            exact W.iret (v := r_31) hx hb hr (fun tt ht hW => ⟨⟨r_31, ⟨(u 33), (u 34), (u 30), (u 28), (u 29), (u 31), (u 35), (b 32), (b 25), (b 26), (b 36), (b 37), (b 38)⟩, rfl, trivial, by rw [ht]; exact hP, hD⟩, hS.F ht⟩) hS.2.2 dX12_stung_49
        ·
          have kc_8 : r_7.toInt = (0 : Int) := i_eq c_8
          refine lv_iconst (v := (-1)) hx hb dX12_stung_32 (by decide) ?_
          have q0_m1 : ((-1) : Int32).toInt = (-1) := rfl
          have hP : va_P D vwCl (RW cs bd (va_up (va_up (va_up (va_up (va_up (va_up (va_up u 33 (u 33)) 34 (u 34)) 30 (u 30)) 28 (u 28)) 29 (u 29)) 31 (u 31)) 35 (u 35)) (va_up (va_up (va_up (va_up (va_up (va_up b 32 (b 32)) 25 (b 25)) 26 (b 26)) 36 (b 36)) 37 (b 37)) 38 (b 38)) bw) _ := hP
          have hD : va_D A (RW cs bd (va_up (va_up (va_up (va_up (va_up (va_up (va_up u 33 (u 33)) 34 (u 34)) 30 (u 30)) 28 (u 28)) 29 (u 29)) 31 (u 31)) 35 (u 35)) (va_up (va_up (va_up (va_up (va_up (va_up b 32 (b 32)) 25 (b 25)) 26 (b 26)) 36 (b 36)) 37 (b 37)) 38 (b 38)) bw) := hD
          exact W.iret (v := (-1)) hx hb hr (fun tt ht hW => ⟨⟨(-1), ⟨(u 33), (u 34), (u 30), (u 28), (u 29), (u 31), (u 35), (b 32), (b 25), (b 26), (b 36), (b 37), (b 38)⟩, rfl, trivial, by rw [ht]; exact hP, hD⟩, hS.F ht⟩) hS.2.2 dX12_stung_33
set_option maxHeartbeats 4000000 in
set_option maxRecDepth 100000 in
theorem k_X12_stungBehind (l : Launch) (D : va_G) (cs : Nat → ClassId) (A : Nat → Prop) (bd : Nat → Nat) (u : Nat → Int32) (b : Nat → Nat → Int32) (bw : Nat → Nat → Int64)  (p1 : Int32) (p2 : Int32) (h1 : 0 ≤ p1.toInt) (h2 : p1.toInt < (u 1).toInt) (hlaw : LAWOK (b 20) (b 21) (b 22) (b 23) (b 24)) (h24 : p2.toInt ≤ 24) (iu1_0 : 0 ≤ (u 1).toInt) (iu1_1 : (u 1).toInt ≤ 8) (iu29_0 : -1 ≤ (u 29).toInt) (iu29_1 : (u 29).toInt < (u 1).toInt) (ib23_0 : AB (-32768) 32767 (b 23)) (ib24_0 : AB (-32768) 32767 (b 24)) (ib20_0 : AB (-128) 127 (b 20)) : Met l yX12_stungBehind (Cond.code yX12_stungBehind cX12_stungBehind 4 (some .int) :: gw) ({ frames := 5, cells := 0, slots := 0, locals := 116 }) (va_Pc [.ref (bd 0), .int p1, .int p2] (XPre D (TY cs) (RW cs bd u b bw) A)) (va_Qi (fun (r : Int32) (z : Int32 × Int32 × Int32 × Int32 × Int32 × Int32 × (Nat → Int32) × (Nat → Int32) × (Nat → Int32)) => (-1 ≤ z.2.2.2.2.1.toInt) ∧ (z.2.2.2.2.1.toInt < (u 1).toInt)) (XPo D (fun (z : Int32 × Int32 × Int32 × Int32 × Int32 × Int32 × (Nat → Int32) × (Nat → Int32) × (Nat → Int32)) => RW cs bd (va_up (va_up (va_up (va_up (va_up (va_up u 33 z.1) 34 z.2.1) 30 z.2.2.1) 28 z.2.2.2.1) 29 z.2.2.2.2.1) 31 z.2.2.2.2.2.1) (va_up (va_up (va_up b 32 z.2.2.2.2.2.2.1) 25 z.2.2.2.2.2.2.2.1) 26 z.2.2.2.2.2.2.2.2) bw) A) A) 0 0 A := by
  refine Met.ofW (cc := cX12_stungBehind) (maxL := 4) (ret := (some .int)) (by decide) rfl ?_
  intro p e s m args below meth c s₁ B hml hv
  obtain ⟨rfl, hP, hK, hD, hZ⟩ := hv
  have hx := B.exec
  have hb := B.bytes
  have hr := B.returns
  have hts := atoms_spec (ws := (Cond.code yX12_stungBehind cX12_stungBehind 4 (some .int) :: gw)) B.pre
  have hg : ∀ w ∈ gw, w.before ([.ref (bd 0), .int p1, .int p2] : List Value).toArray s = true := fun w h => hts w (List.mem_cons_of_mem _ h)
  have hown : s.vm.findClass RX12 = some m.cls := findClass_of_methodNamed B.named
  have hlocks := B.notSynchronized
  have hS : va_S A s.heap s.heap [] := va_S.rf
  have hP : va_P D vwCl (RW cs bd u b bw) s.heap := hP
  have hl := lv_entry ([.ref (bd 0), .int p1, .int p2]) (n := 4) (Nat.le_of_ble_eq_true rfl)
  rw [lg_entry_eq]
  generalize (lg_sl ([.ref (bd 0), .int p1, .int p2]) ++ List.replicate (4 - (lg_sl ([.ref (bd 0), .int p1, .int p2])).length) Slot.unset).toArray = ls at hl ⊢
  have hl : lv_has ls 4 [(0, .ref (bd 0)), (1, .int p1), (2, .int p2)] := hl
  have hcut : ∀ nk : Nat, (∀ (x3 : Int32) (c14_u33 : Int32) (c14_u34 : Int32) (c14_u30 : Int32) (c14_u28 : Int32) (c14_u29 : Int32) (c14_u31 : Int32) (c14_b32 : Nat → Int32) (c14_b25 : Nat → Int32) (c14_b26 : Nat → Int32) (H : Heap) (locs : List Loc) (i3 : 1 ≤ x3.toInt) (i3b : x3.toInt ≤ 25) (ju29_0 : -1 ≤ c14_u29.toInt) (ju29_1 : c14_u29.toInt < (u 1).toInt) (hmu : (25 - x3.toInt).toNat < nk) (hP : va_P D vwCl (RW cs bd (va_up (va_up (va_up (va_up (va_up (va_up u 33 c14_u33) 34 c14_u34) 30 c14_u30) 28 c14_u28) 29 c14_u29) 31 c14_u31) (va_up (va_up (va_up b 32 c14_b32) 25 c14_b25) 26 c14_b26) bw) H) (hD : va_D A (RW cs bd (va_up (va_up (va_up (va_up (va_up (va_up u 33 c14_u33) 34 c14_u34) 30 c14_u30) 28 c14_u28) 29 c14_u29) 31 c14_u31) (va_up (va_up (va_up b 32 c14_b32) 25 c14_b25) 26 c14_b26) bw)) (hS : va_S A s.heap H locs) (ls : Array Slot) (hl : lv_has ls 4 [(0, .ref (bd 0)), (1, .int p1), (2, .int p2), (3, .int x3)]), W p l e (headSpec (Cond.code yX12_stungBehind cX12_stungBehind 4 (some .int) :: gw) ({ frames := 5, cells := 0, slots := 0, locals := 116 })).room s m ([.ref (bd 0), .int p1, .int p2] : List Value).toArray below meth c H locs 0 0 (MQ below (va_Qi (fun (r : Int32) (z : Int32 × Int32 × Int32 × Int32 × Int32 × Int32 × (Nat → Int32) × (Nat → Int32) × (Nat → Int32)) => (-1 ≤ z.2.2.2.2.1.toInt) ∧ (z.2.2.2.2.1.toInt < (u 1).toInt)) (XPo D (fun (z : Int32 × Int32 × Int32 × Int32 × Int32 × Int32 × (Nat → Int32) × (Nat → Int32) × (Nat → Int32)) => RW cs bd (va_up (va_up (va_up (va_up (va_up (va_up u 33 z.1) 34 z.2.1) 30 z.2.2.1) 28 z.2.2.2.1) 29 z.2.2.2.2.1) 31 z.2.2.2.2.2.1) (va_up (va_up (va_up b 32 z.2.2.2.2.2.2.1) 25 z.2.2.2.2.2.2.2.1) 26 z.2.2.2.2.2.2.2.2) bw) A) A) ([.ref (bd 0), .int p1, .int p2] : List Value).toArray s 0 0 A) (F0 m 14 ls [])) := by
    intro nk
    induction nk with
    | zero => exact (fun x3 c14_u33 c14_u34 c14_u30 c14_u28 c14_u29 c14_u31 c14_b32 c14_b25 c14_b26 H locs i3 i3b ju29_0 ju29_1 hmu hP hD hS ls hl => absurd hmu (Nat.not_lt_zero _))
    | succ nk ih =>
      intro x3 c14_u33 c14_u34 c14_u30 c14_u28 c14_u29 c14_u31 c14_b32 c14_b25 c14_b26 H locs i3 i3b ju29_0 ju29_1 hmu hP hD hS ls hl
      refine lv_iload_n hx hb dX12_stungBehind_14 rfl (lv_at hl 3 rfl) ?_
      refine lv_iload_n hx hb dX12_stungBehind_15 rfl (lv_at hl 2 rfl) ?_
      refine lv_icmp_gt (tgt := 37) hx hb dX12_stungBehind_16 (by decide) (fun c_1 => ?_) (fun c_1 => ?_)
      ·
        have kc_1 : p2.toInt < x3.toInt := i_lt c_1
        refine lv_bipush (v := (-2)) hx hb dX12_stungBehind_37 (by decide) ?_
        have q0_m2 : ((-2) : Int32).toInt = (-2) := rfl
        exact W.iret (v := (-2)) hx hb hr (fun tt ht hW => ⟨⟨(-2), ⟨c14_u33, c14_u34, c14_u30, c14_u28, c14_u29, c14_u31, c14_b32, c14_b25, c14_b26⟩, rfl, ⟨(show -1 ≤ c14_u29.toInt by first | omega | assumption), (show c14_u29.toInt < (u 1).toInt by first | omega | assumption)⟩, by rw [ht]; exact hP, hD⟩, hS.F ht⟩) hS.2.2 dX12_stungBehind_39
      ·
        have kc_1 : x3.toInt ≤ p2.toInt := i_nlt c_1
        refine lv_aload_n hx hb dX12_stungBehind_19 rfl (lv_at hl 0 rfl) ?_
        refine lv_iload_n hx hb dX12_stungBehind_20 rfl (lv_at hl 1 rfl) ?_
        refine lv_iconst (v := 0) hx hb dX12_stungBehind_21 (by decide) ?_
        refine cV_i (As := [.int p1, .int 0]) (rest := []) ⟨hx, hb, hml, hown, hg⟩ (k_X12_goSaying l D cs A bd (va_up (va_up (va_up (va_up (va_up (va_up u 33 c14_u33) 34 c14_u34) 30 c14_u30) 28 c14_u28) 29 c14_u29) 31 c14_u31) (va_up (va_up (va_up b 32 c14_b32) 25 c14_b25) 26 c14_b26) bw  p1 0 (show 0 ≤ p1.toInt by first | omega | decide) (show p1.toInt < (u 1).toInt by first | omega | decide) hlaw (show 0 ≤ (u 1).toInt by first | omega | decide) (show (u 1).toInt ≤ 8 by first | omega | decide) (show -1 ≤ c14_u29.toInt by first | omega | decide) (show c14_u29.toInt < (u 1).toInt by first | omega | decide) ib23_0 ib24_0 ib20_0) ca_X12_goSaying q6_148 ⟨rfl, rfl⟩ ⟨Nat.le_of_ble_eq_true rfl, Nat.le_of_ble_eq_true rfl⟩ (rc_model hK hP) hK hP hD hS hZ rfl hl.1 rfl (Nat.le_of_ble_eq_true rfl) ⟨Nat.zero_le _, Nat.zero_le _⟩ dX12_stungBehind_22 (fun r_2 z_12 H locs wr_2 hP hD hS => ?_)
        obtain ⟨o_u33_3, o_u34_4, o_u30_5, o_u28_6, o_u29_7, o_b32_8, o_u31_9, o_b25_10, o_b26_11⟩ := z_12
        have hP : va_P D vwCl (RW cs bd (va_up (va_up (va_up (va_up (va_up (va_up u 33 o_u33_3) 34 o_u34_4) 30 o_u30_5) 28 o_u28_6) 29 o_u29_7) 31 o_u31_9) (va_up (va_up (va_up b 32 o_b32_8) 25 o_b25_10) 26 o_b26_11) bw) H := hP
        have hD : va_D A (RW cs bd (va_up (va_up (va_up (va_up (va_up (va_up u 33 o_u33_3) 34 o_u34_4) 30 o_u30_5) 28 o_u28_6) 29 o_u29_7) 31 o_u31_9) (va_up (va_up (va_up b 32 o_b32_8) 25 o_b25_10) 26 o_b26_11) bw) := hD
        obtain ⟨wr_2_0, wr_2_1, wr_2_2⟩ : (r_2.toInt = -1 ∨ (0 ≤ r_2.toInt ∧ r_2.toInt < (u 1).toInt)) ∧ (-1 ≤ o_u29_7.toInt) ∧ (o_u29_7.toInt < (u 1).toInt) := wr_2
        refine lv_iload_n hx hb dX12_stungBehind_25 rfl (lv_at hl 1 rfl) ?_
        refine lv_icmp_ne (tgt := 31) hx hb dX12_stungBehind_26 (by decide) (fun c_13 => ?_) (fun c_13 => ?_)
        ·
          have kc_13 : r_2.toInt ≠ p1.toInt := i_ne c_13
          obtain ⟨x_14, ex_14⟩ : ∃ y : Int32, y = x3 + 1 := ⟨_, rfl⟩
          have fx_14 : x_14.toInt = x3.toInt + 1 := by rw [ex_14]; exact i_add (by first | omega | (show (_ : Int) ≤ x3.toInt + 1; omega)) (by first | omega | (show x3.toInt + 1 ≤ (_ : Int); omega))
          refine lv_iinc (v := x_14) (lv' := [(3, .int x_14), (0, .ref (bd 0)), (1, .int p1), (2, .int p2)]) hx hb dX12_stungBehind_31 hl (k := 3) rfl (by rw [ex_14]; rfl) (by decide) rfl (fun ls hl => ?_)
          refine lv_goto (tgt := 14) hx hb dX12_stungBehind_34 (by decide) ?_
          exact ih x_14 o_u33_3 o_u34_4 o_u30_5 o_u28_6 o_u29_7 o_u31_9 o_b32_8 o_b25_10 o_b26_11 _ _ (by omega) (by omega) (show -1 ≤ o_u29_7.toInt by first | omega | assumption) (show o_u29_7.toInt < (u 1).toInt by first | omega | assumption) (by omega) hP hD hS ls (lv_sub hl [1, 2, 3, 0] rfl)
        ·
          have kc_13 : r_2.toInt = p1.toInt := i_eq c_13
          refine lv_iload_n hx hb dX12_stungBehind_29 rfl (lv_at hl 3 rfl) ?_
          exact W.iret (v := x3) hx hb hr (fun tt ht hW => ⟨⟨x3, ⟨o_u33_3, o_u34_4, o_u30_5, o_u28_6, o_u29_7, o_u31_9, o_b32_8, o_b25_10, o_b26_11⟩, rfl, ⟨(show -1 ≤ o_u29_7.toInt by first | omega | assumption), (show o_u29_7.toInt < (u 1).toInt by first | omega | assumption)⟩, by rw [ht]; exact hP, hD⟩, hS.F ht⟩) hS.2.2 dX12_stungBehind_30
  refine lv_aload_n hx hb dX12_stungBehind_0 rfl (lv_at hl 0 rfl) ?_
  refine lv_iload_n hx hb dX12_stungBehind_1 rfl (lv_at hl 1 rfl) ?_
  refine lv_iconst (v := 1) hx hb dX12_stungBehind_2 (by decide) ?_
  refine cV_i (As := [.int p1, .int 1]) (rest := []) ⟨hx, hb, hml, hown, hg⟩ (k_X12_goSaying l D cs A bd u b bw  p1 1 (show 0 ≤ p1.toInt by first | omega | decide) (show p1.toInt < (u 1).toInt by first | omega | decide) hlaw (show 0 ≤ (u 1).toInt by first | omega | decide) (show (u 1).toInt ≤ 8 by first | omega | decide) (show -1 ≤ (u 29).toInt by first | omega | decide) (show (u 29).toInt < (u 1).toInt by first | omega | decide) ib23_0 ib24_0 ib20_0) ca_X12_goSaying q6_148 ⟨rfl, rfl⟩ ⟨Nat.le_of_ble_eq_true rfl, Nat.le_of_ble_eq_true rfl⟩ (rc_model hK hP) hK hP hD hS hZ rfl hl.1 rfl (Nat.le_of_ble_eq_true rfl) ⟨Nat.zero_le _, Nat.zero_le _⟩ dX12_stungBehind_3 (fun r_15 z_25 H locs wr_15 hP hD hS => ?_)
  obtain ⟨o_u33_16, o_u34_17, o_u30_18, o_u28_19, o_u29_20, o_b32_21, o_u31_22, o_b25_23, o_b26_24⟩ := z_25
  have hP : va_P D vwCl (RW cs bd (va_up (va_up (va_up (va_up (va_up (va_up u 33 o_u33_16) 34 o_u34_17) 30 o_u30_18) 28 o_u28_19) 29 o_u29_20) 31 o_u31_22) (va_up (va_up (va_up b 32 o_b32_21) 25 o_b25_23) 26 o_b26_24) bw) H := hP
  have hD : va_D A (RW cs bd (va_up (va_up (va_up (va_up (va_up (va_up u 33 o_u33_16) 34 o_u34_17) 30 o_u30_18) 28 o_u28_19) 29 o_u29_20) 31 o_u31_22) (va_up (va_up (va_up b 32 o_b32_21) 25 o_b25_23) 26 o_b26_24) bw) := hD
  obtain ⟨wr_15_0, wr_15_1, wr_15_2⟩ : (r_15.toInt = -1 ∨ (0 ≤ r_15.toInt ∧ r_15.toInt < (u 1).toInt)) ∧ (-1 ≤ o_u29_20.toInt) ∧ (o_u29_20.toInt < (u 1).toInt) := wr_15
  refine lv_iload_n hx hb dX12_stungBehind_6 rfl (lv_at hl 1 rfl) ?_
  refine lv_icmp_ne (tgt := 12) hx hb dX12_stungBehind_7 (by decide) (fun c_26 => ?_) (fun c_26 => ?_)
  ·
    have kc_26 : r_15.toInt ≠ p1.toInt := i_ne c_26
    refine lv_iconst (v := 1) hx hb dX12_stungBehind_12 (by decide) ?_
    refine lv_istore_n (lv' := [(3, .int 1), (0, .ref (bd 0)), (1, .int p1), (2, .int p2)]) hx hb dX12_stungBehind_13 rfl hl (by decide) rfl (fun ls hl => ?_)
    have q0_1 : (1 : Int32).toInt = 1 := rfl
    exact (hcut (((25 - (1 : Int32).toInt).toNat) + 1)) 1 o_u33_16 o_u34_17 o_u30_18 o_u28_19 o_u29_20 o_u31_22 o_b32_21 o_b25_23 o_b26_24 _ _ (by omega) (by omega) (show -1 ≤ o_u29_20.toInt by first | omega | assumption) (show o_u29_20.toInt < (u 1).toInt by first | omega | assumption) (Nat.lt_succ_self _) hP hD hS ls (lv_sub hl [1, 2, 3, 0] rfl)
  ·
    have kc_26 : r_15.toInt = p1.toInt := i_eq c_26
    refine lv_iconst (v := 0) hx hb dX12_stungBehind_10 (by decide) ?_
    have q0_0 : (0 : Int32).toInt = 0 := rfl
    exact W.iret (v := 0) hx hb hr (fun tt ht hW => ⟨⟨0, ⟨o_u33_16, o_u34_17, o_u30_18, o_u28_19, o_u29_20, o_u31_22, o_b32_21, o_b25_23, o_b26_24⟩, rfl, ⟨(show -1 ≤ o_u29_20.toInt by first | omega | assumption), (show o_u29_20.toInt < (u 1).toInt by first | omega | assumption)⟩, by rw [ht]; exact hP, hD⟩, hS.F ht⟩) hS.2.2 dX12_stungBehind_11
set_option maxHeartbeats 4000000 in
set_option maxRecDepth 100000 in
theorem k_X12_soon (l : Launch) (D : va_G) (cs : Nat → ClassId) (A : Nat → Prop) (bd : Nat → Nat) (u : Nat → Int32) (b : Nat → Nat → Int32) (bw : Nat → Nat → Int64)  (p1 : Int32) (hlaw : LAWOK (b 20) (b 21) (b 22) (b 23) (b 24)) (iu1_0 : 0 ≤ (u 1).toInt) (iu1_1 : (u 1).toInt ≤ 8) (iu7_0 : -1 ≤ (u 7).toInt) (iu7_1 : (u 7).toInt < (u 1).toInt) (ib23_0 : AB (-32768) 32767 (b 23)) (ib24_0 : AB (-32768) 32767 (b 24)) (ib20_0 : AB (-128) 127 (b 20)) : Met l yX12_soon (Cond.code yX12_soon cX12_soon 2 (some .int) :: gw) ({ frames := 6, cells := 0, slots := 0, locals := 139 }) (va_Pc [.ref (bd 0), .int p1] (XPre D (TY cs) (RW cs bd u b bw) A)) (va_Qi (fun (r : Int32) (z : Int32 × Int32 × Int32 × Int32 × Int32 × Int32 × (Nat → Int32) × (Nat → Int32) × (Nat → Int32)) => True) (XPo D (fun (z : Int32 × Int32 × Int32 × Int32 × Int32 × Int32 × (Nat → Int32) × (Nat → Int32) × (Nat → Int32)) => RW cs bd (va_up (va_up (va_up (va_up (va_up (va_up u 33 z.1) 34 z.2.1) 30 z.2.2.1) 28 z.2.2.2.1) 29 z.2.2.2.2.1) 31 z.2.2.2.2.2.1) (va_up (va_up (va_up b 32 z.2.2.2.2.2.2.1) 25 z.2.2.2.2.2.2.2.1) 26 z.2.2.2.2.2.2.2.2) bw) A) A) 0 0 A := by
  refine Met.ofW (cc := cX12_soon) (maxL := 2) (ret := (some .int)) (by decide) rfl ?_
  intro p e s m args below meth c s₁ B hml hv
  obtain ⟨rfl, hP, hK, hD, hZ⟩ := hv
  have hx := B.exec
  have hb := B.bytes
  have hr := B.returns
  have hts := atoms_spec (ws := (Cond.code yX12_soon cX12_soon 2 (some .int) :: gw)) B.pre
  have hg : ∀ w ∈ gw, w.before ([.ref (bd 0), .int p1] : List Value).toArray s = true := fun w h => hts w (List.mem_cons_of_mem _ h)
  have hown : s.vm.findClass RX12 = some m.cls := findClass_of_methodNamed B.named
  have hlocks := B.notSynchronized
  have hS : va_S A s.heap s.heap [] := va_S.rf
  have hP : va_P D vwCl (RW cs bd u b bw) s.heap := hP
  have hl := lv_entry ([.ref (bd 0), .int p1]) (n := 2) (Nat.le_of_ble_eq_true rfl)
  rw [lg_entry_eq]
  generalize (lg_sl ([.ref (bd 0), .int p1]) ++ List.replicate (2 - (lg_sl ([.ref (bd 0), .int p1])).length) Slot.unset).toArray = ls at hl ⊢
  have hl : lv_has ls 2 [(0, .ref (bd 0)), (1, .int p1)] := hl
  refine lv_aload_n hx hb dX12_soon_0 rfl (lv_at hl 0 rfl) ?_
  refine lv_iload_n hx hb dX12_soon_1 rfl (lv_at hl 1 rfl) ?_
  refine cV_ro (As := [.int p1]) (rest := []) ⟨hx, hb, hml, hown, hg⟩ (k_X12_isOne l D cs A bd u b bw  p1 (show 0 ≤ (u 1).toInt by first | omega | decide) (show (u 1).toInt ≤ 8 by first | omega | decide)) ca_X12_isOne q6_7 ⟨rfl, rfl⟩ ⟨Nat.le_of_ble_eq_true rfl, Nat.le_of_ble_eq_true rfl⟩ (rc_model hK hP) hK hP hD hS hZ rfl hl.1 rfl (Nat.le_of_ble_eq_true rfl) ⟨Nat.zero_le _, Nat.zero_le _⟩ dX12_soon_2 (fun r_1 wr_1 => ?_)
  have wr_1_0 : (r_1.toInt = 1 ∧ 0 ≤ p1.toInt ∧ p1.toInt < (u 1).toInt) ∨ (r_1.toInt = 0 ∧ ¬ (0 ≤ p1.toInt ∧ p1.toInt < (u 1).toInt)) := wr_1
  refine lv_if_ne (tgt := 10) hx hb dX12_soon_5 (by decide) (fun c_2 => ?_) (fun c_2 => ?_)
  ·
    have kc_2 : r_1.toInt ≠ (0 : Int) := i_ne c_2
    refine lv_aload_n hx hb dX12_soon_10 rfl (lv_at hl 0 rfl) ?_
    refine lv_iconst (v := 0) hx hb dX12_soon_11 (by decide) ?_
    refine cV_v (As := [.int 0]) (rest := []) ⟨hx, hb, hml, hown, hg⟩ (k_X12_layNow l D cs A bd u b bw  0 (show 0 ≤ (u 1).toInt by first | omega | decide) (show (u 1).toInt ≤ 8 by first | omega | decide) (show -1 ≤ (u 7).toInt by first | omega | decide) (show (u 7).toInt < (u 1).toInt by first | omega | decide)) ca_X12_layNow q6_93 ⟨rfl, rfl⟩ ⟨Nat.le_of_ble_eq_true rfl, Nat.le_of_ble_eq_true rfl⟩ (rc_model hK hP) hK hP hD hS hZ rfl hl.1 rfl (Nat.le_of_ble_eq_true rfl) ⟨Nat.zero_le _, Nat.zero_le _⟩ dX12_soon_12 (fun z_9 H locs wr_3 hP hD hS => ?_)
    obtain ⟨o_u28_4, o_u29_5, o_u30_6, o_u31_7, o_b32_8⟩ := z_9
    have hP : va_P D vwCl (RW cs bd (va_up (va_up (va_up (va_up u 28 o_u28_4) 29 o_u29_5) 30 o_u30_6) 31 o_u31_7) (va_up b 32 o_b32_8) bw) H := hP
    have hD : va_D A (RW cs bd (va_up (va_up (va_up (va_up u 28 o_u28_4) 29 o_u29_5) 30 o_u30_6) 31 o_u31_7) (va_up b 32 o_b32_8) bw) := hD
    obtain ⟨wr_3_0, wr_3_1, wr_3_2⟩ : (o_u31_7 = (0 : Int32)) ∧ (-1 ≤ o_u29_5.toInt) ∧ (o_u29_5.toInt < (u 1).toInt) := wr_3
    refine lv_aload_n hx hb dX12_soon_15 rfl (lv_at hl 0 rfl) ?_
    refine lv_iload_n hx hb dX12_soon_16 rfl (lv_at hl 1 rfl) ?_
    refine cV_i (As := [.int p1]) (rest := []) ⟨hx, hb, hml, hown, hg⟩ (k_X12_loudOf l D cs A bd (va_up (va_up (va_up (va_up u 28 o_u28_4) 29 o_u29_5) 30 o_u30_6) 31 o_u31_7) (va_up b 32 o_b32_8) bw  p1 (show 0 ≤ p1.toInt by first | omega | decide) (show p1.toInt < 8 by first | omega | decide) hlaw (show 0 ≤ (u 1).toInt by first | omega | decide) (show (u 1).toInt ≤ 8 by first | omega | decide) ib23_0 ib24_0 ib20_0) ca_X12_loudOf q6_97 ⟨rfl, rfl⟩ ⟨Nat.le_of_ble_eq_true rfl, Nat.le_of_ble_eq_true rfl⟩ (rc_model hK hP) hK hP hD hS hZ rfl hl.1 rfl (Nat.le_of_ble_eq_true rfl) ⟨Nat.zero_le _, Nat.zero_le _⟩ dX12_soon_17 (fun r_10 z_13 H locs wr_10 hP hD hS => ?_)
    obtain ⟨o_b25_11, o_b26_12⟩ := z_13
    have hP : va_P D vwCl (RW cs bd (va_up (va_up (va_up (va_up u 28 o_u28_4) 29 o_u29_5) 30 o_u30_6) 31 o_u31_7) (va_up (va_up (va_up b 32 o_b32_8) 25 o_b25_11) 26 o_b26_12) bw) H := hP
    have hD : va_D A (RW cs bd (va_up (va_up (va_up (va_up u 28 o_u28_4) 29 o_u29_5) 30 o_u30_6) 31 o_u31_7) (va_up (va_up (va_up b 32 o_b32_8) 25 o_b25_11) 26 o_b26_12) bw) := hD
    obtain ⟨wr_10_0, wr_10_1⟩ : (0 ≤ r_10.toInt) ∧ (r_10.toInt ≤ 99) := wr_10
    refine lv_if_ne (tgt := 28) hx hb dX12_soon_20 (by decide) (fun c_14 => ?_) (fun c_14 => ?_)
    ·
      have kc_14 : r_10.toInt ≠ (0 : Int) := i_ne c_14
      refine lv_aload_n hx hb dX12_soon_28 rfl (lv_at hl 0 rfl) ?_
      refine lv_iload_n hx hb dX12_soon_29 rfl (lv_at hl 1 rfl) ?_
      refine lv_bipush (v := 24) hx hb dX12_soon_30 (by decide) ?_
      refine cV_i (As := [.int p1, .int 24]) (rest := []) ⟨hx, hb, hml, hown, hg⟩ (k_X12_stungBehind l D cs A bd (va_up (va_up (va_up (va_up u 28 o_u28_4) 29 o_u29_5) 30 o_u30_6) 31 o_u31_7) (va_up (va_up (va_up b 32 o_b32_8) 25 o_b25_11) 26 o_b26_12) bw  p1 24 (show 0 ≤ p1.toInt by first | omega | decide) (show p1.toInt < (u 1).toInt by first | omega | decide) hlaw (show (24 : Int) ≤ 24 by first | omega | decide) (show 0 ≤ (u 1).toInt by first | omega | decide) (show (u 1).toInt ≤ 8 by first | omega | decide) (show -1 ≤ o_u29_5.toInt by first | omega | decide) (show o_u29_5.toInt < (u 1).toInt by first | omega | decide) ib23_0 ib24_0 ib20_0) ca_X12_stungBehind q6_171 ⟨rfl, rfl⟩ ⟨Nat.le_of_ble_eq_true rfl, Nat.le_of_ble_eq_true rfl⟩ (rc_model hK hP) hK hP hD hS hZ rfl hl.1 rfl (Nat.le_of_ble_eq_true rfl) ⟨Nat.zero_le _, Nat.zero_le _⟩ dX12_soon_32 (fun r_15 z_25 H locs wr_15 hP hD hS => ?_)
      obtain ⟨o_u33_16, o_u34_17, o_u30_18, o_u28_19, o_u29_20, o_u31_21, o_b32_22, o_b25_23, o_b26_24⟩ := z_25
      have hP : va_P D vwCl (RW cs bd (va_up (va_up (va_up (va_up (va_up (va_up u 33 o_u33_16) 34 o_u34_17) 30 o_u30_18) 28 o_u28_19) 29 o_u29_20) 31 o_u31_21) (va_up (va_up (va_up b 32 o_b32_22) 25 o_b25_23) 26 o_b26_24) bw) H := hP
      have hD : va_D A (RW cs bd (va_up (va_up (va_up (va_up (va_up (va_up u 33 o_u33_16) 34 o_u34_17) 30 o_u30_18) 28 o_u28_19) 29 o_u29_20) 31 o_u31_21) (va_up (va_up (va_up b 32 o_b32_22) 25 o_b25_23) 26 o_b26_24) bw) := hD
      obtain ⟨wr_15_0, wr_15_1⟩ : (-1 ≤ o_u29_20.toInt) ∧ (o_u29_20.toInt < (u 1).toInt) := wr_15
      exact W.iret (v := r_15) hx hb hr (fun tt ht hW => ⟨⟨r_15, ⟨o_u33_16, o_u34_17, o_u30_18, o_u28_19, o_u29_20, o_u31_21, o_b32_22, o_b25_23, o_b26_24⟩, rfl, trivial, by rw [ht]; exact hP, hD⟩, hS.F ht⟩) hS.2.2 dX12_soon_35
    ·
      have kc_14 : r_10.toInt = (0 : Int) := i_eq c_14
      refine lv_bipush (v := (-2)) hx hb dX12_soon_23 (by decide) ?_
      refine lv_goto (tgt := 35) hx hb dX12_soon_25 (by decide) ?_
      have q0_m2 : ((-2) : Int32).toInt = (-2) := rfl
      have hP : va_P D vwCl (RW cs bd (va_up (va_up (va_up (va_up (va_up (va_up u 33 (u 33)) 34 (u 34)) 30 o_u30_6) 28 o_u28_4) 29 o_u29_5) 31 o_u31_7) (va_up (va_up (va_up b 32 o_b32_8) 25 o_b25_11) 26 o_b26_12) bw) _ := hP
      have hD : va_D A (RW cs bd (va_up (va_up (va_up (va_up (va_up (va_up u 33 (u 33)) 34 (u 34)) 30 o_u30_6) 28 o_u28_4) 29 o_u29_5) 31 o_u31_7) (va_up (va_up (va_up b 32 o_b32_8) 25 o_b25_11) 26 o_b26_12) bw) := hD
      exact W.iret (v := (-2)) hx hb hr (fun tt ht hW => ⟨⟨(-2), ⟨(u 33), (u 34), o_u30_6, o_u28_4, o_u29_5, o_u31_7, o_b32_8, o_b25_11, o_b26_12⟩, rfl, trivial, by rw [ht]; exact hP, hD⟩, hS.F ht⟩) hS.2.2 dX12_soon_35
  ·
    have kc_2 : r_1.toInt = (0 : Int) := i_eq c_2
    refine lv_iconst (v := (-1)) hx hb dX12_soon_8 (by decide) ?_
    have q0_m1 : ((-1) : Int32).toInt = (-1) := rfl
    have hP : va_P D vwCl (RW cs bd (va_up (va_up (va_up (va_up (va_up (va_up u 33 (u 33)) 34 (u 34)) 30 (u 30)) 28 (u 28)) 29 (u 29)) 31 (u 31)) (va_up (va_up (va_up b 32 (b 32)) 25 (b 25)) 26 (b 26)) bw) _ := hP
    have hD : va_D A (RW cs bd (va_up (va_up (va_up (va_up (va_up (va_up u 33 (u 33)) 34 (u 34)) 30 (u 30)) 28 (u 28)) 29 (u 29)) 31 (u 31)) (va_up (va_up (va_up b 32 (b 32)) 25 (b 25)) 26 (b 26)) bw) := hD
    exact W.iret (v := (-1)) hx hb hr (fun tt ht hW => ⟨⟨(-1), ⟨(u 33), (u 34), (u 30), (u 28), (u 29), (u 31), (b 32), (b 25), (b 26)⟩, rfl, trivial, by rw [ht]; exact hP, hD⟩, hS.F ht⟩) hS.2.2 dX12_soon_9
set_option maxHeartbeats 4000000 in
set_option maxRecDepth 100000 in
theorem k_X12_passOn (l : Launch) (D : va_G) (cs : Nat → ClassId) (A : Nat → Prop) (bd : Nat → Nat) (u : Nat → Int32) (b : Nat → Nat → Int32) (bw : Nat → Nat → Int64)  (p1 : Int32) (p2 : Int32) (p3 : Int32) (hlaw : LAWOK (b 20) (b 21) (b 22) (b 23) (b 24)) (iu1_0 : 0 ≤ (u 1).toInt) (iu1_1 : (u 1).toInt ≤ 8) (ib67_0 : AB 0 60 (b 67)) (ib23_0 : AB (-32768) 32767 (b 23)) (ib24_0 : AB (-32768) 32767 (b 24)) (ib20_0 : AB (-128) 127 (b 20)) (iu7_0 : -1 ≤ (u 7).toInt) (iu7_1 : (u 7).toInt < (u 1).toInt) (ib66_0 : AB (-6) 49 (b 66)) : Met l yX12_passOn (Cond.code yX12_passOn cX12_passOn 8 (some .int) :: gw) ({ frames := 6, cells := 0, slots := 0, locals := 141 }) (va_Pc [.ref (bd 0), .int p1, .int p2, .int p3] (XPre D (TY cs) (RW cs bd u b bw) A)) (va_Qi (fun (r : Int32) (z : Int32 × Int32 × Int32 × Int32 × Int32 × Int32 × Int32 × (Nat → Int32) × (Nat → Int32) × (Nat → Int32) × (Nat → Int32) × (Nat → Int32) × (Nat → Int32)) => True) (XPo D (fun (z : Int32 × Int32 × Int32 × Int32 × Int32 × Int32 × Int32 × (Nat → Int32) × (Nat → Int32) × (Nat → Int32) × (Nat → Int32) × (Nat → Int32) × (Nat → Int32)) => RW cs bd (va_up (va_up (va_up (va_up (va_up (va_up (va_up u 35 z.1) 33 z.2.1) 34 z.2.2.1) 30 z.2.2.2.1) 28 z.2.2.2.2.1) 29 z.2.2.2.2.2.1) 31 z.2.2.2.2.2.2.1) (va_up (va_up (va_up (va_up (va_up (va_up b 36 z.2.2.2.2.2.2.2.1) 37 z.2.2.2.2.2.2.2.2.1) 38 z.2.2.2.2.2.2.2.2.2.1) 32 z.2.2.2.2.2.2.2.2.2.2.1) 25 z.2.2.2.2.2.2.2.2.2.2.2.1) 26 z.2.2.2.2.2.2.2.2.2.2.2.2) bw) A) A) 0 0 A := by
  refine Met.ofW (cc := cX12_passOn) (maxL := 8) (ret := (some .int)) (by decide) rfl ?_
  intro p e s m args below meth c s₁ B hml hv
  obtain ⟨rfl, hP, hK, hD, hZ⟩ := hv
  have hx := B.exec
  have hb := B.bytes
  have hr := B.returns
  have hts := atoms_spec (ws := (Cond.code yX12_passOn cX12_passOn 8 (some .int) :: gw)) B.pre
  have hg : ∀ w ∈ gw, w.before ([.ref (bd 0), .int p1, .int p2, .int p3] : List Value).toArray s = true := fun w h => hts w (List.mem_cons_of_mem _ h)
  have hown : s.vm.findClass RX12 = some m.cls := findClass_of_methodNamed B.named
  have hlocks := B.notSynchronized
  have hS : va_S A s.heap s.heap [] := va_S.rf
  have hP : va_P D vwCl (RW cs bd u b bw) s.heap := hP
  have hl := lv_entry ([.ref (bd 0), .int p1, .int p2, .int p3]) (n := 8) (Nat.le_of_ble_eq_true rfl)
  rw [lg_entry_eq]
  generalize (lg_sl ([.ref (bd 0), .int p1, .int p2, .int p3]) ++ List.replicate (8 - (lg_sl ([.ref (bd 0), .int p1, .int p2, .int p3])).length) Slot.unset).toArray = ls at hl ⊢
  have hl : lv_has ls 8 [(0, .ref (bd 0)), (1, .int p1), (2, .int p2), (3, .int p3)] := hl
  have hcut : ∀ nk : Nat, (∀ (x4 : Int32) (x5 : Int32) (x6 : Int32) (c53_u35 : Int32) (c53_u33 : Int32) (c53_u34 : Int32) (c53_u30 : Int32) (c53_u28 : Int32) (c53_u29 : Int32) (c53_u31 : Int32) (c53_b36 : Nat → Int32) (c53_b37 : Nat → Int32) (c53_b38 : Nat → Int32) (c53_b32 : Nat → Int32) (c53_b25 : Nat → Int32) (c53_b26 : Nat → Int32) (H : Heap) (locs : List Loc) (j1 : 0 ≤ p1.toInt) (j2 : p1.toInt < 6) (j3 : 0 ≤ p2.toInt) (j4 : p2.toInt < (u 1).toInt) (i6 : 0 ≤ x6.toInt) (hmu : ((u 1).toInt - x6.toInt).toNat < nk) (hP : va_P D vwCl (RW cs bd (va_up (va_up (va_up (va_up (va_up (va_up (va_up u 35 c53_u35) 33 c53_u33) 34 c53_u34) 30 c53_u30) 28 c53_u28) 29 c53_u29) 31 c53_u31) (va_up (va_up (va_up (va_up (va_up (va_up b 36 c53_b36) 37 c53_b37) 38 c53_b38) 32 c53_b32) 25 c53_b25) 26 c53_b26) bw) H) (hD : va_D A (RW cs bd (va_up (va_up (va_up (va_up (va_up (va_up (va_up u 35 c53_u35) 33 c53_u33) 34 c53_u34) 30 c53_u30) 28 c53_u28) 29 c53_u29) 31 c53_u31) (va_up (va_up (va_up (va_up (va_up (va_up b 36 c53_b36) 37 c53_b37) 38 c53_b38) 32 c53_b32) 25 c53_b25) 26 c53_b26) bw)) (hS : va_S A s.heap H locs) (ls : Array Slot) (hl : lv_has ls 8 [(0, .ref (bd 0)), (1, .int p1), (2, .int p2), (3, .int p3), (4, .int x4), (5, .int x5), (6, .int x6)]), W p l e (headSpec (Cond.code yX12_passOn cX12_passOn 8 (some .int) :: gw) ({ frames := 6, cells := 0, slots := 0, locals := 141 })).room s m ([.ref (bd 0), .int p1, .int p2, .int p3] : List Value).toArray below meth c H locs 0 0 (MQ below (va_Qi (fun (r : Int32) (z : Int32 × Int32 × Int32 × Int32 × Int32 × Int32 × Int32 × (Nat → Int32) × (Nat → Int32) × (Nat → Int32) × (Nat → Int32) × (Nat → Int32) × (Nat → Int32)) => True) (XPo D (fun (z : Int32 × Int32 × Int32 × Int32 × Int32 × Int32 × Int32 × (Nat → Int32) × (Nat → Int32) × (Nat → Int32) × (Nat → Int32) × (Nat → Int32) × (Nat → Int32)) => RW cs bd (va_up (va_up (va_up (va_up (va_up (va_up (va_up u 35 z.1) 33 z.2.1) 34 z.2.2.1) 30 z.2.2.2.1) 28 z.2.2.2.2.1) 29 z.2.2.2.2.2.1) 31 z.2.2.2.2.2.2.1) (va_up (va_up (va_up (va_up (va_up (va_up b 36 z.2.2.2.2.2.2.2.1) 37 z.2.2.2.2.2.2.2.2.1) 38 z.2.2.2.2.2.2.2.2.2.1) 32 z.2.2.2.2.2.2.2.2.2.2.1) 25 z.2.2.2.2.2.2.2.2.2.2.2.1) 26 z.2.2.2.2.2.2.2.2.2.2.2.2) bw) A) A) ([.ref (bd 0), .int p1, .int p2, .int p3] : List Value).toArray s 0 0 A) (F0 m 53 ls [])) := by
    intro nk
    induction nk with
    | zero => exact (fun x4 x5 x6 c53_u35 c53_u33 c53_u34 c53_u30 c53_u28 c53_u29 c53_u31 c53_b36 c53_b37 c53_b38 c53_b32 c53_b25 c53_b26 H locs j1 j2 j3 j4 i6 hmu hP hD hS ls hl => absurd hmu (Nat.not_lt_zero _))
    | succ nk ih =>
      intro x4 x5 x6 c53_u35 c53_u33 c53_u34 c53_u30 c53_u28 c53_u29 c53_u31 c53_b36 c53_b37 c53_b38 c53_b32 c53_b25 c53_b26 H locs j1 j2 j3 j4 i6 hmu hP hD hS ls hl
      refine lv_iload hx hb dX12_passOn_53 (lv_at hl 6 rfl) ?_
      refine lv_aload_n hx hb dX12_passOn_55 rfl (lv_at hl 0 rfl) ?_
      refine gr_people1 hx hb hg hown hK hP (x := (u 1)) rfl (hg _ q4_233) dX12_passOn_56 ?_
      refine lv_icmp_ge (tgt := 143) hx hb dX12_passOn_59 (by decide) (fun c_1 => ?_) (fun c_1 => ?_)
      ·
        have kc_1 : (u 1).toInt ≤ x6.toInt := i_le c_1
        refine lv_iload_n hx hb dX12_passOn_143 rfl (lv_at hl 3 rfl) ?_
        refine lv_if_ne (tgt := 152) hx hb dX12_passOn_144 (by decide) (fun c_2 => ?_) (fun c_2 => ?_)
        ·
          have kc_2 : p3.toInt ≠ (0 : Int) := i_ne c_2
          refine lv_iload hx hb dX12_passOn_152 (lv_at hl 5 rfl) ?_
          exact W.iret (v := x5) hx hb hr (fun tt ht hW => ⟨⟨x5, ⟨c53_u35, c53_u33, c53_u34, c53_u30, c53_u28, c53_u29, c53_u31, c53_b36, c53_b37, c53_b38, c53_b32, c53_b25, c53_b26⟩, rfl, trivial, by rw [ht]; exact hP, hD⟩, hS.F ht⟩) hS.2.2 dX12_passOn_154
        ·
          have kc_2 : p3.toInt = (0 : Int) := i_eq c_2
          refine lv_iload hx hb dX12_passOn_147 (lv_at hl 4 rfl) ?_
          refine lv_goto (tgt := 154) hx hb dX12_passOn_149 (by decide) ?_
          exact W.iret (v := x4) hx hb hr (fun tt ht hW => ⟨⟨x4, ⟨c53_u35, c53_u33, c53_u34, c53_u30, c53_u28, c53_u29, c53_u31, c53_b36, c53_b37, c53_b38, c53_b32, c53_b25, c53_b26⟩, rfl, trivial, by rw [ht]; exact hP, hD⟩, hS.F ht⟩) hS.2.2 dX12_passOn_154
      ·
        have kc_1 : x6.toInt < (u 1).toInt := i_nle c_1
        refine lv_iload hx hb dX12_passOn_62 (lv_at hl 6 rfl) ?_
        refine lv_iload_n hx hb dX12_passOn_64 rfl (lv_at hl 2 rfl) ?_
        refine lv_icmp_ne (tgt := 71) hx hb dX12_passOn_65 (by decide) (fun c_3 => ?_) (fun c_3 => ?_)
        ·
          have kc_3 : x6.toInt ≠ p2.toInt := i_ne c_3
          refine lv_aload_n hx hb dX12_passOn_71 rfl (lv_at hl 0 rfl) ?_
          refine lv_iload_n hx hb dX12_passOn_72 rfl (lv_at hl 1 rfl) ?_
          refine lv_bipush (v := 24) hx hb dX12_passOn_73 (by decide) ?_
          refine cV_v (As := [.int p1, .int 24]) (rest := []) ⟨hx, hb, hml, hown, hg⟩ (k_X12_goDay l D cs A bd (va_up (va_up (va_up (va_up (va_up (va_up (va_up u 35 c53_u35) 33 c53_u33) 34 c53_u34) 30 c53_u30) 28 c53_u28) 29 c53_u29) 31 c53_u31) (va_up (va_up (va_up (va_up (va_up (va_up b 36 c53_b36) 37 c53_b37) 38 c53_b38) 32 c53_b32) 25 c53_b25) 26 c53_b26) bw  p1 24 (show 0 ≤ p1.toInt by first | omega | decide) (show p1.toInt < 6 by first | omega | decide) (show (24 : Int) ≤ 24 by first | omega | decide) hlaw (show 0 ≤ (u 1).toInt by first | omega | decide) (show (u 1).toInt ≤ 8 by first | omega | decide) ib67_0 ib23_0 ib24_0 ib20_0 (show -1 ≤ (u 7).toInt by first | omega | decide) (show (u 7).toInt < (u 1).toInt by first | omega | decide)) ca_X12_goDay q6_136 ⟨rfl, rfl⟩ ⟨Nat.le_of_ble_eq_true rfl, Nat.le_of_ble_eq_true rfl⟩ (rc_model hK hP) hK hP hD hS hZ rfl hl.1 rfl (Nat.le_of_ble_eq_true rfl) ⟨Nat.zero_le _, Nat.zero_le _⟩ dX12_passOn_75 (fun z_18 H locs wr_4 hP hD hS => ?_)
          obtain ⟨o_u33_5, o_u34_6, o_u30_7, o_u28_8, o_u29_9, o_u31_10, o_u35_11, o_b32_12, o_b25_13, o_b26_14, o_b36_15, o_b37_16, o_b38_17⟩ := z_18
          have hP : va_P D vwCl (RW cs bd (va_up (va_up (va_up (va_up (va_up (va_up (va_up u 33 o_u33_5) 34 o_u34_6) 30 o_u30_7) 28 o_u28_8) 29 o_u29_9) 31 o_u31_10) 35 o_u35_11) (va_up (va_up (va_up (va_up (va_up (va_up b 32 o_b32_12) 25 o_b25_13) 26 o_b26_14) 36 o_b36_15) 37 o_b37_16) 38 o_b38_17) bw) H := hP
          have hD : va_D A (RW cs bd (va_up (va_up (va_up (va_up (va_up (va_up (va_up u 33 o_u33_5) 34 o_u34_6) 30 o_u30_7) 28 o_u28_8) 29 o_u29_9) 31 o_u31_10) 35 o_u35_11) (va_up (va_up (va_up (va_up (va_up (va_up b 32 o_b32_12) 25 o_b25_13) 26 o_b26_14) 36 o_b36_15) 37 o_b37_16) 38 o_b38_17) bw) := hD
          obtain ⟨wr_4_0, wr_4_1⟩ : (-1 ≤ o_u29_9.toInt) ∧ (o_u29_9.toInt < (u 1).toInt) := wr_4
          refine lv_aload_n hx hb dX12_passOn_78 rfl (lv_at hl 0 rfl) ?_
          refine lv_iload_n hx hb dX12_passOn_79 rfl (lv_at hl 2 rfl) ?_
          refine pr_liar1 hx hb hg hown hK hP hD hS (hg _ q5_21) dX12_passOn_80 (fun H locs hP hD hS => ?_)
          refine lv_aload_n hx hb dX12_passOn_83 rfl (lv_at hl 0 rfl) ?_
          refine lv_iload hx hb dX12_passOn_84 (lv_at hl 6 rfl) ?_
          refine cV_i (As := [.int x6]) (rest := []) ⟨hx, hb, hml, hown, hg⟩ (k_X12_loudOf l D cs A bd (va_up (va_up (va_up (va_up (va_up (va_up (va_up u 33 o_u33_5) 34 o_u34_6) 30 o_u30_7) 28 o_u28_8) 31 o_u31_10) 35 o_u35_11) 29 p2) (va_up (va_up (va_up (va_up (va_up (va_up b 32 o_b32_12) 25 o_b25_13) 26 o_b26_14) 36 o_b36_15) 37 o_b37_16) 38 o_b38_17) bw  x6 (show 0 ≤ x6.toInt by first | omega | decide) (show x6.toInt < 8 by first | omega | decide) hlaw (show 0 ≤ (u 1).toInt by first | omega | decide) (show (u 1).toInt ≤ 8 by first | omega | decide) ib23_0 ib24_0 ib20_0) ca_X12_loudOf q6_97 ⟨rfl, rfl⟩ ⟨Nat.le_of_ble_eq_true rfl, Nat.le_of_ble_eq_true rfl⟩ (rc_model hK hP) hK hP hD hS hZ rfl hl.1 rfl (Nat.le_of_ble_eq_true rfl) ⟨Nat.zero_le _, Nat.zero_le _⟩ dX12_passOn_86 (fun r_19 z_22 H locs wr_19 hP hD hS => ?_)
          obtain ⟨o_b25_20, o_b26_21⟩ := z_22
          have hP : va_P D vwCl (RW cs bd (va_up (va_up (va_up (va_up (va_up (va_up (va_up u 33 o_u33_5) 34 o_u34_6) 30 o_u30_7) 28 o_u28_8) 31 o_u31_10) 35 o_u35_11) 29 p2) (va_up (va_up (va_up (va_up (va_up (va_up b 32 o_b32_12) 36 o_b36_15) 37 o_b37_16) 38 o_b38_17) 25 o_b25_20) 26 o_b26_21) bw) H := hP
          have hD : va_D A (RW cs bd (va_up (va_up (va_up (va_up (va_up (va_up (va_up u 33 o_u33_5) 34 o_u34_6) 30 o_u30_7) 28 o_u28_8) 31 o_u31_10) 35 o_u35_11) 29 p2) (va_up (va_up (va_up (va_up (va_up (va_up b 32 o_b32_12) 36 o_b36_15) 37 o_b37_16) 38 o_b38_17) 25 o_b25_20) 26 o_b26_21) bw) := hD
          obtain ⟨wr_19_0, wr_19_1⟩ : (0 ≤ r_19.toInt) ∧ (r_19.toInt ≤ 99) := wr_19
          refine lv_if_ne (tgt := 95) hx hb dX12_passOn_89 (by decide) (fun c_23 => ?_) (fun c_23 => ?_)
          ·
            have kc_23 : r_19.toInt ≠ (0 : Int) := i_ne c_23
            refine lv_aload_n hx hb dX12_passOn_95 rfl (lv_at hl 0 rfl) ?_
            refine lv_iload hx hb dX12_passOn_96 (lv_at hl 6 rfl) ?_
            refine lv_bipush (v := 23) hx hb dX12_passOn_98 (by decide) ?_
            refine cV_i (As := [.int x6, .int 23]) (rest := []) ⟨hx, hb, hml, hown, hg⟩ (k_X12_stungBehind l D cs A bd (va_up (va_up (va_up (va_up (va_up (va_up (va_up u 33 o_u33_5) 34 o_u34_6) 30 o_u30_7) 28 o_u28_8) 31 o_u31_10) 35 o_u35_11) 29 p2) (va_up (va_up (va_up (va_up (va_up (va_up b 32 o_b32_12) 36 o_b36_15) 37 o_b37_16) 38 o_b38_17) 25 o_b25_20) 26 o_b26_21) bw  x6 23 (show 0 ≤ x6.toInt by first | omega | decide) (show x6.toInt < (u 1).toInt by first | omega | decide) hlaw (show (23 : Int) ≤ 24 by first | omega | decide) (show 0 ≤ (u 1).toInt by first | omega | decide) (show (u 1).toInt ≤ 8 by first | omega | decide) (show -1 ≤ p2.toInt by first | omega | decide) (show p2.toInt < (u 1).toInt by first | omega | decide) ib23_0 ib24_0 ib20_0) ca_X12_stungBehind q6_171 ⟨rfl, rfl⟩ ⟨Nat.le_of_ble_eq_true rfl, Nat.le_of_ble_eq_true rfl⟩ (rc_model hK hP) hK hP hD hS hZ rfl hl.1 rfl (Nat.le_of_ble_eq_true rfl) ⟨Nat.zero_le _, Nat.zero_le _⟩ dX12_passOn_100 (fun r_24 z_34 H locs wr_24 hP hD hS => ?_)
            obtain ⟨o_u33_25, o_u34_26, o_u30_27, o_u28_28, o_u29_29, o_u31_30, o_b32_31, o_b25_32, o_b26_33⟩ := z_34
            have hP : va_P D vwCl (RW cs bd (va_up (va_up (va_up (va_up (va_up (va_up (va_up u 35 o_u35_11) 33 o_u33_25) 34 o_u34_26) 30 o_u30_27) 28 o_u28_28) 29 o_u29_29) 31 o_u31_30) (va_up (va_up (va_up (va_up (va_up (va_up b 36 o_b36_15) 37 o_b37_16) 38 o_b38_17) 32 o_b32_31) 25 o_b25_32) 26 o_b26_33) bw) H := hP
            have hD : va_D A (RW cs bd (va_up (va_up (va_up (va_up (va_up (va_up (va_up u 35 o_u35_11) 33 o_u33_25) 34 o_u34_26) 30 o_u30_27) 28 o_u28_28) 29 o_u29_29) 31 o_u31_30) (va_up (va_up (va_up (va_up (va_up (va_up b 36 o_b36_15) 37 o_b37_16) 38 o_b38_17) 32 o_b32_31) 25 o_b25_32) 26 o_b26_33) bw) := hD
            obtain ⟨wr_24_0, wr_24_1⟩ : (-1 ≤ o_u29_29.toInt) ∧ (o_u29_29.toInt < (u 1).toInt) := wr_24
            refine lv_istore (lv' := [(7, .int r_24), (0, .ref (bd 0)), (1, .int p1), (2, .int p2), (3, .int p3), (4, .int x4), (5, .int x5), (6, .int x6)]) hx hb dX12_passOn_103 hl (by decide) rfl (fun ls hl => ?_)
            refine lv_iload hx hb dX12_passOn_105 (lv_at hl 0 rfl) ?_
            refine lv_if_ge (tgt := 114) hx hb dX12_passOn_107 (by decide) (fun c_35 => ?_) (fun c_35 => ?_)
            ·
              have kc_35 : (0 : Int) ≤ r_24.toInt := i_le c_35
              refine lv_iload hx hb dX12_passOn_114 (lv_at hl 5 rfl) ?_
              refine lv_if_lt (tgt := 129) hx hb dX12_passOn_116 (by decide) (fun c_36 => ?_) (fun c_36 => ?_)
              ·
                have kc_36 : x4.toInt < (0 : Int) := i_lt c_36
                refine lv_iload hx hb dX12_passOn_129 (lv_at hl 7 rfl) ?_
                refine lv_istore (lv' := [(4, .int x6), (7, .int r_24), (0, .ref (bd 0)), (1, .int p1), (2, .int p2), (3, .int p3), (5, .int x5), (6, .int x6)]) hx hb dX12_passOn_131 hl (by decide) rfl (fun ls hl => ?_)
                refine lv_iload hx hb dX12_passOn_133 (lv_at hl 1 rfl) ?_
                refine lv_istore (lv' := [(5, .int r_24), (4, .int x6), (7, .int r_24), (0, .ref (bd 0)), (1, .int p1), (2, .int p2), (3, .int p3), (6, .int x6)]) hx hb dX12_passOn_135 hl (by decide) rfl (fun ls hl => ?_)
                obtain ⟨x_37, ex_37⟩ : ∃ y : Int32, y = x6 + 1 := ⟨_, rfl⟩
                have fx_37 : x_37.toInt = x6.toInt + 1 := by rw [ex_37]; exact i_add (by first | omega | (show (_ : Int) ≤ x6.toInt + 1; omega)) (by first | omega | (show x6.toInt + 1 ≤ (_ : Int); omega))
                refine lv_iinc (v := x_37) (lv' := [(6, .int x_37), (5, .int r_24), (4, .int x6), (7, .int r_24), (0, .ref (bd 0)), (1, .int p1), (2, .int p2), (3, .int p3)]) hx hb dX12_passOn_137 hl (k := 7) rfl (by rw [ex_37]; rfl) (by decide) rfl (fun ls hl => ?_)
                refine lv_goto (tgt := 53) hx hb dX12_passOn_140 (by decide) ?_
                exact ih x6 r_24 x_37 o_u35_11 o_u33_25 o_u34_26 o_u30_27 o_u28_28 o_u29_29 o_u31_30 o_b36_15 o_b37_16 o_b38_17 o_b32_31 o_b25_32 o_b26_33 _ _ (by omega) (by omega) (by omega) (by omega) (by omega) (by omega) hP hD hS ls (lv_sub hl [4, 5, 6, 7, 2, 1, 0] rfl)
              ·
                have kc_36 : (0 : Int) ≤ x4.toInt := i_nlt c_36
                refine lv_iload hx hb dX12_passOn_119 (lv_at hl 0 rfl) ?_
                refine lv_iload hx hb dX12_passOn_121 (lv_at hl 6 rfl) ?_
                refine lv_icmp_gt (tgt := 129) hx hb dX12_passOn_123 (by decide) (fun c_38 => ?_) (fun c_38 => ?_)
                ·
                  have kc_38 : x5.toInt < r_24.toInt := i_lt c_38
                  refine lv_iload hx hb dX12_passOn_129 (lv_at hl 7 rfl) ?_
                  refine lv_istore (lv' := [(4, .int x6), (7, .int r_24), (0, .ref (bd 0)), (1, .int p1), (2, .int p2), (3, .int p3), (5, .int x5), (6, .int x6)]) hx hb dX12_passOn_131 hl (by decide) rfl (fun ls hl => ?_)
                  refine lv_iload hx hb dX12_passOn_133 (lv_at hl 1 rfl) ?_
                  refine lv_istore (lv' := [(5, .int r_24), (4, .int x6), (7, .int r_24), (0, .ref (bd 0)), (1, .int p1), (2, .int p2), (3, .int p3), (6, .int x6)]) hx hb dX12_passOn_135 hl (by decide) rfl (fun ls hl => ?_)
                  obtain ⟨x_39, ex_39⟩ : ∃ y : Int32, y = x6 + 1 := ⟨_, rfl⟩
                  have fx_39 : x_39.toInt = x6.toInt + 1 := by rw [ex_39]; exact i_add (by first | omega | (show (_ : Int) ≤ x6.toInt + 1; omega)) (by first | omega | (show x6.toInt + 1 ≤ (_ : Int); omega))
                  refine lv_iinc (v := x_39) (lv' := [(6, .int x_39), (5, .int r_24), (4, .int x6), (7, .int r_24), (0, .ref (bd 0)), (1, .int p1), (2, .int p2), (3, .int p3)]) hx hb dX12_passOn_137 hl (k := 7) rfl (by rw [ex_39]; rfl) (by decide) rfl (fun ls hl => ?_)
                  refine lv_goto (tgt := 53) hx hb dX12_passOn_140 (by decide) ?_
                  exact ih x6 r_24 x_39 o_u35_11 o_u33_25 o_u34_26 o_u30_27 o_u28_28 o_u29_29 o_u31_30 o_b36_15 o_b37_16 o_b38_17 o_b32_31 o_b25_32 o_b26_33 _ _ (by omega) (by omega) (by omega) (by omega) (by omega) (by omega) hP hD hS ls (lv_sub hl [4, 5, 6, 7, 2, 1, 0] rfl)
                ·
                  have kc_38 : r_24.toInt ≤ x5.toInt := i_nlt c_38
                  refine lv_goto (tgt := 137) hx hb dX12_passOn_126 (by decide) ?_
                  obtain ⟨x_40, ex_40⟩ : ∃ y : Int32, y = x6 + 1 := ⟨_, rfl⟩
                  have fx_40 : x_40.toInt = x6.toInt + 1 := by rw [ex_40]; exact i_add (by first | omega | (show (_ : Int) ≤ x6.toInt + 1; omega)) (by first | omega | (show x6.toInt + 1 ≤ (_ : Int); omega))
                  refine lv_iinc (v := x_40) (lv' := [(6, .int x_40), (7, .int r_24), (0, .ref (bd 0)), (1, .int p1), (2, .int p2), (3, .int p3), (4, .int x4), (5, .int x5)]) hx hb dX12_passOn_137 hl (k := 7) rfl (by rw [ex_40]; rfl) (by decide) rfl (fun ls hl => ?_)
                  refine lv_goto (tgt := 53) hx hb dX12_passOn_140 (by decide) ?_
                  exact ih x4 x5 x_40 o_u35_11 o_u33_25 o_u34_26 o_u30_27 o_u28_28 o_u29_29 o_u31_30 o_b36_15 o_b37_16 o_b38_17 o_b32_31 o_b25_32 o_b26_33 _ _ (by omega) (by omega) (by omega) (by omega) (by omega) (by omega) hP hD hS ls (lv_sub hl [2, 3, 4, 5, 6, 7, 0] rfl)
            ·
              have kc_35 : r_24.toInt < (0 : Int) := i_nle c_35
              refine lv_bipush (v := 24) hx hb dX12_passOn_110 (by decide) ?_
              refine lv_istore (lv' := [(7, .int 24), (0, .ref (bd 0)), (1, .int p1), (2, .int p2), (3, .int p3), (4, .int x4), (5, .int x5), (6, .int x6)]) hx hb dX12_passOn_112 hl (by decide) rfl (fun ls hl => ?_)
              refine lv_iload hx hb dX12_passOn_114 (lv_at hl 5 rfl) ?_
              refine lv_if_lt (tgt := 129) hx hb dX12_passOn_116 (by decide) (fun c_41 => ?_) (fun c_41 => ?_)
              ·
                have kc_41 : x4.toInt < (0 : Int) := i_lt c_41
                refine lv_iload hx hb dX12_passOn_129 (lv_at hl 7 rfl) ?_
                refine lv_istore (lv' := [(4, .int x6), (7, .int 24), (0, .ref (bd 0)), (1, .int p1), (2, .int p2), (3, .int p3), (5, .int x5), (6, .int x6)]) hx hb dX12_passOn_131 hl (by decide) rfl (fun ls hl => ?_)
                refine lv_iload hx hb dX12_passOn_133 (lv_at hl 1 rfl) ?_
                refine lv_istore (lv' := [(5, .int 24), (4, .int x6), (7, .int 24), (0, .ref (bd 0)), (1, .int p1), (2, .int p2), (3, .int p3), (6, .int x6)]) hx hb dX12_passOn_135 hl (by decide) rfl (fun ls hl => ?_)
                obtain ⟨x_42, ex_42⟩ : ∃ y : Int32, y = x6 + 1 := ⟨_, rfl⟩
                have fx_42 : x_42.toInt = x6.toInt + 1 := by rw [ex_42]; exact i_add (by first | omega | (show (_ : Int) ≤ x6.toInt + 1; omega)) (by first | omega | (show x6.toInt + 1 ≤ (_ : Int); omega))
                refine lv_iinc (v := x_42) (lv' := [(6, .int x_42), (5, .int 24), (4, .int x6), (7, .int 24), (0, .ref (bd 0)), (1, .int p1), (2, .int p2), (3, .int p3)]) hx hb dX12_passOn_137 hl (k := 7) rfl (by rw [ex_42]; rfl) (by decide) rfl (fun ls hl => ?_)
                refine lv_goto (tgt := 53) hx hb dX12_passOn_140 (by decide) ?_
                have q0_24 : (24 : Int32).toInt = 24 := rfl
                exact ih x6 24 x_42 o_u35_11 o_u33_25 o_u34_26 o_u30_27 o_u28_28 o_u29_29 o_u31_30 o_b36_15 o_b37_16 o_b38_17 o_b32_31 o_b25_32 o_b26_33 _ _ (by omega) (by omega) (by omega) (by omega) (by omega) (by omega) hP hD hS ls (lv_sub hl [4, 5, 6, 7, 2, 1, 0] rfl)
              ·
                have kc_41 : (0 : Int) ≤ x4.toInt := i_nlt c_41
                refine lv_iload hx hb dX12_passOn_119 (lv_at hl 0 rfl) ?_
                refine lv_iload hx hb dX12_passOn_121 (lv_at hl 6 rfl) ?_
                refine lv_icmp_gt (tgt := 129) hx hb dX12_passOn_123 (by decide) (fun c_43 => ?_) (fun c_43 => ?_)
                ·
                  have kc_43 : x5.toInt < (24 : Int) := i_lt c_43
                  refine lv_iload hx hb dX12_passOn_129 (lv_at hl 7 rfl) ?_
                  refine lv_istore (lv' := [(4, .int x6), (7, .int 24), (0, .ref (bd 0)), (1, .int p1), (2, .int p2), (3, .int p3), (5, .int x5), (6, .int x6)]) hx hb dX12_passOn_131 hl (by decide) rfl (fun ls hl => ?_)
                  refine lv_iload hx hb dX12_passOn_133 (lv_at hl 1 rfl) ?_
                  refine lv_istore (lv' := [(5, .int 24), (4, .int x6), (7, .int 24), (0, .ref (bd 0)), (1, .int p1), (2, .int p2), (3, .int p3), (6, .int x6)]) hx hb dX12_passOn_135 hl (by decide) rfl (fun ls hl => ?_)
                  obtain ⟨x_44, ex_44⟩ : ∃ y : Int32, y = x6 + 1 := ⟨_, rfl⟩
                  have fx_44 : x_44.toInt = x6.toInt + 1 := by rw [ex_44]; exact i_add (by first | omega | (show (_ : Int) ≤ x6.toInt + 1; omega)) (by first | omega | (show x6.toInt + 1 ≤ (_ : Int); omega))
                  refine lv_iinc (v := x_44) (lv' := [(6, .int x_44), (5, .int 24), (4, .int x6), (7, .int 24), (0, .ref (bd 0)), (1, .int p1), (2, .int p2), (3, .int p3)]) hx hb dX12_passOn_137 hl (k := 7) rfl (by rw [ex_44]; rfl) (by decide) rfl (fun ls hl => ?_)
                  refine lv_goto (tgt := 53) hx hb dX12_passOn_140 (by decide) ?_
                  have q0_24 : (24 : Int32).toInt = 24 := rfl
                  exact ih x6 24 x_44 o_u35_11 o_u33_25 o_u34_26 o_u30_27 o_u28_28 o_u29_29 o_u31_30 o_b36_15 o_b37_16 o_b38_17 o_b32_31 o_b25_32 o_b26_33 _ _ (by omega) (by omega) (by omega) (by omega) (by omega) (by omega) hP hD hS ls (lv_sub hl [4, 5, 6, 7, 2, 1, 0] rfl)
                ·
                  have kc_43 : (24 : Int) ≤ x5.toInt := i_nlt c_43
                  refine lv_goto (tgt := 137) hx hb dX12_passOn_126 (by decide) ?_
                  obtain ⟨x_45, ex_45⟩ : ∃ y : Int32, y = x6 + 1 := ⟨_, rfl⟩
                  have fx_45 : x_45.toInt = x6.toInt + 1 := by rw [ex_45]; exact i_add (by first | omega | (show (_ : Int) ≤ x6.toInt + 1; omega)) (by first | omega | (show x6.toInt + 1 ≤ (_ : Int); omega))
                  refine lv_iinc (v := x_45) (lv' := [(6, .int x_45), (7, .int 24), (0, .ref (bd 0)), (1, .int p1), (2, .int p2), (3, .int p3), (4, .int x4), (5, .int x5)]) hx hb dX12_passOn_137 hl (k := 7) rfl (by rw [ex_45]; rfl) (by decide) rfl (fun ls hl => ?_)
                  refine lv_goto (tgt := 53) hx hb dX12_passOn_140 (by decide) ?_
                  have q0_24 : (24 : Int32).toInt = 24 := rfl
                  exact ih x4 x5 x_45 o_u35_11 o_u33_25 o_u34_26 o_u30_27 o_u28_28 o_u29_29 o_u31_30 o_b36_15 o_b37_16 o_b38_17 o_b32_31 o_b25_32 o_b26_33 _ _ (by omega) (by omega) (by omega) (by omega) (by omega) (by omega) hP hD hS ls (lv_sub hl [2, 3, 4, 5, 6, 7, 0] rfl)
          ·
            have kc_23 : r_19.toInt = (0 : Int) := i_eq c_23
            refine lv_goto (tgt := 137) hx hb dX12_passOn_92 (by decide) ?_
            obtain ⟨x_46, ex_46⟩ : ∃ y : Int32, y = x6 + 1 := ⟨_, rfl⟩
            have fx_46 : x_46.toInt = x6.toInt + 1 := by rw [ex_46]; exact i_add (by first | omega | (show (_ : Int) ≤ x6.toInt + 1; omega)) (by first | omega | (show x6.toInt + 1 ≤ (_ : Int); omega))
            refine lv_iinc (v := x_46) (lv' := [(6, .int x_46), (0, .ref (bd 0)), (1, .int p1), (2, .int p2), (3, .int p3), (4, .int x4), (5, .int x5)]) hx hb dX12_passOn_137 hl (k := 6) rfl (by rw [ex_46]; rfl) (by decide) rfl (fun ls hl => ?_)
            refine lv_goto (tgt := 53) hx hb dX12_passOn_140 (by decide) ?_
            exact ih x4 x5 x_46 o_u35_11 o_u33_5 o_u34_6 o_u30_7 o_u28_8 p2 o_u31_10 o_b36_15 o_b37_16 o_b38_17 o_b32_12 o_b25_20 o_b26_21 _ _ (by omega) (by omega) (by omega) (by omega) (by omega) (by omega) hP hD hS ls (lv_sub hl [1, 2, 3, 4, 5, 6, 0] rfl)
        ·
          have kc_3 : x6.toInt = p2.toInt := i_eq c_3
          refine lv_goto (tgt := 137) hx hb dX12_passOn_68 (by decide) ?_
          obtain ⟨x_47, ex_47⟩ : ∃ y : Int32, y = x6 + 1 := ⟨_, rfl⟩
          have fx_47 : x_47.toInt = x6.toInt + 1 := by rw [ex_47]; exact i_add (by first | omega | (show (_ : Int) ≤ x6.toInt + 1; omega)) (by first | omega | (show x6.toInt + 1 ≤ (_ : Int); omega))
          refine lv_iinc (v := x_47) (lv' := [(6, .int x_47), (0, .ref (bd 0)), (1, .int p1), (2, .int p2), (3, .int p3), (4, .int x4), (5, .int x5)]) hx hb dX12_passOn_137 hl (k := 6) rfl (by rw [ex_47]; rfl) (by decide) rfl (fun ls hl => ?_)
          refine lv_goto (tgt := 53) hx hb dX12_passOn_140 (by decide) ?_
          exact ih x4 x5 x_47 c53_u35 c53_u33 c53_u34 c53_u30 c53_u28 c53_u29 c53_u31 c53_b36 c53_b37 c53_b38 c53_b32 c53_b25 c53_b26 _ _ (by omega) (by omega) (by omega) (by omega) (by omega) (by omega) hP hD hS ls (lv_sub hl [1, 2, 3, 4, 5, 6, 0] rfl)
  refine lv_iload_n hx hb dX12_passOn_0 rfl (lv_at hl 1 rfl) ?_
  refine cS_p (As := [.int p1]) (rest := []) ⟨hx, hb, hml, hown, hg⟩ (k_X12_isShelf l   p1 ) ca_X12_isShelf q5_223 ⟨rfl, rfl⟩ ⟨Nat.le_of_ble_eq_true rfl, Nat.le_of_ble_eq_true rfl⟩ rfl hl.1 rfl (Nat.le_of_ble_eq_true rfl) ⟨Nat.zero_le _, Nat.zero_le _⟩ dX12_passOn_1 (fun r_48 wr_48 => ?_)
  have wr_48 : (r_48.toInt = 1 ∧ 0 ≤ p1.toInt ∧ p1.toInt < 6) ∨ (r_48.toInt = 0 ∧ ¬ (0 ≤ p1.toInt ∧ p1.toInt < 6)) := wr_48
  refine lv_if_eq (tgt := 24) hx hb dX12_passOn_4 (by decide) (fun c_49 => ?_) (fun c_49 => ?_)
  ·
    have kc_49 : r_48.toInt = (0 : Int) := i_eq c_49
    refine lv_iconst (v := (-1)) hx hb dX12_passOn_24 (by decide) ?_
    have q0_m1 : ((-1) : Int32).toInt = (-1) := rfl
    have hP : va_P D vwCl (RW cs bd (va_up (va_up (va_up (va_up (va_up (va_up (va_up u 35 (u 35)) 33 (u 33)) 34 (u 34)) 30 (u 30)) 28 (u 28)) 29 (u 29)) 31 (u 31)) (va_up (va_up (va_up (va_up (va_up (va_up b 36 (b 36)) 37 (b 37)) 38 (b 38)) 32 (b 32)) 25 (b 25)) 26 (b 26)) bw) _ := hP
    have hD : va_D A (RW cs bd (va_up (va_up (va_up (va_up (va_up (va_up (va_up u 35 (u 35)) 33 (u 33)) 34 (u 34)) 30 (u 30)) 28 (u 28)) 29 (u 29)) 31 (u 31)) (va_up (va_up (va_up (va_up (va_up (va_up b 36 (b 36)) 37 (b 37)) 38 (b 38)) 32 (b 32)) 25 (b 25)) 26 (b 26)) bw) := hD
    exact W.iret (v := (-1)) hx hb hr (fun tt ht hW => ⟨⟨(-1), ⟨(u 35), (u 33), (u 34), (u 30), (u 28), (u 29), (u 31), (b 36), (b 37), (b 38), (b 32), (b 25), (b 26)⟩, rfl, trivial, by rw [ht]; exact hP, hD⟩, hS.F ht⟩) hS.2.2 dX12_passOn_25
  ·
    have kc_49 : r_48.toInt ≠ (0 : Int) := i_ne c_49
    refine lv_aload_n hx hb dX12_passOn_7 rfl (lv_at hl 0 rfl) ?_
    refine lv_iload_n hx hb dX12_passOn_8 rfl (lv_at hl 2 rfl) ?_
    refine cV_ro (As := [.int p2]) (rest := []) ⟨hx, hb, hml, hown, hg⟩ (k_X12_isOne l D cs A bd u b bw  p2 (show 0 ≤ (u 1).toInt by first | omega | decide) (show (u 1).toInt ≤ 8 by first | omega | decide)) ca_X12_isOne q6_7 ⟨rfl, rfl⟩ ⟨Nat.le_of_ble_eq_true rfl, Nat.le_of_ble_eq_true rfl⟩ (rc_model hK hP) hK hP hD hS hZ rfl hl.1 rfl (Nat.le_of_ble_eq_true rfl) ⟨Nat.zero_le _, Nat.zero_le _⟩ dX12_passOn_9 (fun r_50 wr_50 => ?_)
    have wr_50_0 : (r_50.toInt = 1 ∧ 0 ≤ p2.toInt ∧ p2.toInt < (u 1).toInt) ∨ (r_50.toInt = 0 ∧ ¬ (0 ≤ p2.toInt ∧ p2.toInt < (u 1).toInt)) := wr_50
    refine lv_if_eq (tgt := 24) hx hb dX12_passOn_12 (by decide) (fun c_51 => ?_) (fun c_51 => ?_)
    ·
      have kc_51 : r_50.toInt = (0 : Int) := i_eq c_51
      refine lv_iconst (v := (-1)) hx hb dX12_passOn_24 (by decide) ?_
      have q0_m1 : ((-1) : Int32).toInt = (-1) := rfl
      have hP : va_P D vwCl (RW cs bd (va_up (va_up (va_up (va_up (va_up (va_up (va_up u 35 (u 35)) 33 (u 33)) 34 (u 34)) 30 (u 30)) 28 (u 28)) 29 (u 29)) 31 (u 31)) (va_up (va_up (va_up (va_up (va_up (va_up b 36 (b 36)) 37 (b 37)) 38 (b 38)) 32 (b 32)) 25 (b 25)) 26 (b 26)) bw) _ := hP
      have hD : va_D A (RW cs bd (va_up (va_up (va_up (va_up (va_up (va_up (va_up u 35 (u 35)) 33 (u 33)) 34 (u 34)) 30 (u 30)) 28 (u 28)) 29 (u 29)) 31 (u 31)) (va_up (va_up (va_up (va_up (va_up (va_up b 36 (b 36)) 37 (b 37)) 38 (b 38)) 32 (b 32)) 25 (b 25)) 26 (b 26)) bw) := hD
      exact W.iret (v := (-1)) hx hb hr (fun tt ht hW => ⟨⟨(-1), ⟨(u 35), (u 33), (u 34), (u 30), (u 28), (u 29), (u 31), (b 36), (b 37), (b 38), (b 32), (b 25), (b 26)⟩, rfl, trivial, by rw [ht]; exact hP, hD⟩, hS.F ht⟩) hS.2.2 dX12_passOn_25
    ·
      have kc_51 : r_50.toInt ≠ (0 : Int) := i_ne c_51
      refine lv_iload_n hx hb dX12_passOn_15 rfl (lv_at hl 3 rfl) ?_
      refine lv_iconst (v := 0) hx hb dX12_passOn_16 (by decide) ?_
      refine lv_iconst (v := 1) hx hb dX12_passOn_17 (by decide) ?_
      refine cS_p (As := [.int p3, .int 0, .int 1]) (rest := []) ⟨hx, hb, hml, hown, hg⟩ (k_X12_in l   p3 0 1 ) ca_X12_in q5_212 ⟨rfl, rfl⟩ ⟨Nat.le_of_ble_eq_true rfl, Nat.le_of_ble_eq_true rfl⟩ rfl hl.1 rfl (Nat.le_of_ble_eq_true rfl) ⟨Nat.zero_le _, Nat.zero_le _⟩ dX12_passOn_18 (fun r_52 wr_52 => ?_)
      have wr_52 : (r_52.toInt = 1 ∧ (0 : Int) ≤ p3.toInt ∧ p3.toInt ≤ (1 : Int)) ∨ (r_52.toInt = 0 ∧ ¬ ((0 : Int) ≤ p3.toInt ∧ p3.toInt ≤ (1 : Int))) := wr_52
      refine lv_if_ne (tgt := 26) hx hb dX12_passOn_21 (by decide) (fun c_53 => ?_) (fun c_53 => ?_)
      ·
        have kc_53 : r_52.toInt ≠ (0 : Int) := i_ne c_53
        refine lv_aload_n hx hb dX12_passOn_26 rfl (lv_at hl 0 rfl) ?_
        refine lv_iload_n hx hb dX12_passOn_27 rfl (lv_at hl 1 rfl) ?_
        refine lv_iconst (v := 0) hx hb dX12_passOn_28 (by decide) ?_
        refine cV_ro (As := [.int p1, .int 0]) (rest := []) ⟨hx, hb, hml, hown, hg⟩ (k_X12_rowFault l D cs A bd u b bw  p1 0 (show 0 ≤ p1.toInt by first | omega | decide) (show p1.toInt < 6 by first | omega | decide) ib66_0) ca_X12_rowFault q6_132 ⟨rfl, rfl⟩ ⟨Nat.le_of_ble_eq_true rfl, Nat.le_of_ble_eq_true rfl⟩ (rc_model hK hP) hK hP hD hS hZ rfl hl.1 rfl (Nat.le_of_ble_eq_true rfl) ⟨Nat.zero_le _, Nat.zero_le _⟩ dX12_passOn_29 (fun r_54 wr_54 => ?_)
        have wr_54_0 : r_54.toInt = 0 ∨ r_54.toInt = -11 ∨ r_54.toInt = -12 := wr_54
        refine lv_if_ge (tgt := 42) hx hb dX12_passOn_32 (by decide) (fun c_55 => ?_) (fun c_55 => ?_)
        ·
          have kc_55 : (0 : Int) ≤ r_54.toInt := i_le c_55
          refine lv_bipush (v := (-2)) hx hb dX12_passOn_42 (by decide) ?_
          refine lv_istore (lv' := [(4, .int (-2)), (0, .ref (bd 0)), (1, .int p1), (2, .int p2), (3, .int p3)]) hx hb dX12_passOn_44 hl (by decide) rfl (fun ls hl => ?_)
          refine lv_bipush (v := (-2)) hx hb dX12_passOn_46 (by decide) ?_
          refine lv_istore (lv' := [(5, .int (-2)), (4, .int (-2)), (0, .ref (bd 0)), (1, .int p1), (2, .int p2), (3, .int p3)]) hx hb dX12_passOn_48 hl (by decide) rfl (fun ls hl => ?_)
          refine lv_iconst (v := 0) hx hb dX12_passOn_50 (by decide) ?_
          refine lv_istore (lv' := [(6, .int 0), (5, .int (-2)), (4, .int (-2)), (0, .ref (bd 0)), (1, .int p1), (2, .int p2), (3, .int p3)]) hx hb dX12_passOn_51 hl (by decide) rfl (fun ls hl => ?_)
          have q0_m2 : ((-2) : Int32).toInt = (-2) := rfl
          have q0_0 : (0 : Int32).toInt = 0 := rfl
          exact (hcut ((((u 1).toInt - (0 : Int32).toInt).toNat) + 1)) (-2) (-2) 0 (u 35) (u 33) (u 34) (u 30) (u 28) (u 29) (u 31) (b 36) (b 37) (b 38) (b 32) (b 25) (b 26) _ _ (by omega) (by omega) (by omega) (by omega) (by omega) (Nat.lt_succ_self _) hP hD hS ls (lv_sub hl [3, 4, 5, 6, 2, 1, 0] rfl)
        ·
          have kc_55 : r_54.toInt < (0 : Int) := i_nle c_55
          refine lv_aload_n hx hb dX12_passOn_35 rfl (lv_at hl 0 rfl) ?_
          refine lv_iload_n hx hb dX12_passOn_36 rfl (lv_at hl 1 rfl) ?_
          refine lv_iconst (v := 0) hx hb dX12_passOn_37 (by decide) ?_
          refine cV_ro (As := [.int p1, .int 0]) (rest := []) ⟨hx, hb, hml, hown, hg⟩ (k_X12_rowFault l D cs A bd u b bw  p1 0 (show 0 ≤ p1.toInt by first | omega | decide) (show p1.toInt < 6 by first | omega | decide) ib66_0) ca_X12_rowFault q6_132 ⟨rfl, rfl⟩ ⟨Nat.le_of_ble_eq_true rfl, Nat.le_of_ble_eq_true rfl⟩ (rc_model hK hP) hK hP hD hS hZ rfl hl.1 rfl (Nat.le_of_ble_eq_true rfl) ⟨Nat.zero_le _, Nat.zero_le _⟩ dX12_passOn_38 (fun r_56 wr_56 => ?_)
          have wr_56_0 : r_56.toInt = 0 ∨ r_56.toInt = -11 ∨ r_56.toInt = -12 := wr_56
          have hP : va_P D vwCl (RW cs bd (va_up (va_up (va_up (va_up (va_up (va_up (va_up u 35 (u 35)) 33 (u 33)) 34 (u 34)) 30 (u 30)) 28 (u 28)) 29 (u 29)) 31 (u 31)) (va_up (va_up (va_up (va_up (va_up (va_up b 36 (b 36)) 37 (b 37)) 38 (b 38)) 32 (b 32)) 25 (b 25)) 26 (b 26)) bw) _ := hP
          have hD : va_D A (RW cs bd (va_up (va_up (va_up (va_up (va_up (va_up (va_up u 35 (u 35)) 33 (u 33)) 34 (u 34)) 30 (u 30)) 28 (u 28)) 29 (u 29)) 31 (u 31)) (va_up (va_up (va_up (va_up (va_up (va_up b 36 (b 36)) 37 (b 37)) 38 (b 38)) 32 (b 32)) 25 (b 25)) 26 (b 26)) bw) := hD
          exact W.iret (v := r_56) hx hb hr (fun tt ht hW => ⟨⟨r_56, ⟨(u 35), (u 33), (u 34), (u 30), (u 28), (u 29), (u 31), (b 36), (b 37), (b 38), (b 32), (b 25), (b 26)⟩, rfl, trivial, by rw [ht]; exact hP, hD⟩, hS.F ht⟩) hS.2.2 dX12_passOn_41
      ·
        have kc_53 : r_52.toInt = (0 : Int) := i_eq c_53
        refine lv_iconst (v := (-1)) hx hb dX12_passOn_24 (by decide) ?_
        have q0_m1 : ((-1) : Int32).toInt = (-1) := rfl
        have hP : va_P D vwCl (RW cs bd (va_up (va_up (va_up (va_up (va_up (va_up (va_up u 35 (u 35)) 33 (u 33)) 34 (u 34)) 30 (u 30)) 28 (u 28)) 29 (u 29)) 31 (u 31)) (va_up (va_up (va_up (va_up (va_up (va_up b 36 (b 36)) 37 (b 37)) 38 (b 38)) 32 (b 32)) 25 (b 25)) 26 (b 26)) bw) _ := hP
        have hD : va_D A (RW cs bd (va_up (va_up (va_up (va_up (va_up (va_up (va_up u 35 (u 35)) 33 (u 33)) 34 (u 34)) 30 (u 30)) 28 (u 28)) 29 (u 29)) 31 (u 31)) (va_up (va_up (va_up (va_up (va_up (va_up b 36 (b 36)) 37 (b 37)) 38 (b 38)) 32 (b 32)) 25 (b 25)) 26 (b 26)) bw) := hD
        exact W.iret (v := (-1)) hx hb hr (fun tt ht hW => ⟨⟨(-1), ⟨(u 35), (u 33), (u 34), (u 30), (u 28), (u 29), (u 31), (b 36), (b 37), (b 38), (b 32), (b 25), (b 26)⟩, rfl, trivial, by rw [ht]; exact hP, hD⟩, hS.F ht⟩) hS.2.2 dX12_passOn_25
set_option maxHeartbeats 4000000 in
set_option maxRecDepth 100000 in
theorem k_X12_stand (l : Launch) (D : va_G) (cs : Nat → ClassId) (A : Nat → Prop) (bd : Nat → Nat) (u : Nat → Int32) (b : Nat → Nat → Int32) (bw : Nat → Nat → Int64)  (p1 : Int32) (p2 : Int32) (p3 : Int32) (hlaw : LAWOK (b 20) (b 21) (b 22) (b 23) (b 24)) (iu1_0 : 0 ≤ (u 1).toInt) (iu1_1 : (u 1).toInt ≤ 8) (ib67_0 : AB 0 60 (b 67)) (ib23_0 : AB (-32768) 32767 (b 23)) (ib24_0 : AB (-32768) 32767 (b 24)) (ib20_0 : AB (-128) 127 (b 20)) (iu7_0 : -1 ≤ (u 7).toInt) (iu7_1 : (u 7).toInt < (u 1).toInt) (ib66_0 : AB (-6) 49 (b 66)) : Met l yX12_stand (Cond.code yX12_stand cX12_stand 8 (some .int) :: gw) ({ frames := 6, cells := 0, slots := 0, locals := 141 }) (va_Pc [.ref (bd 0), .int p1, .int p2, .int p3] (XPre D (TY cs) (RW cs bd u b bw) A)) (va_Qi (fun (r : Int32) (z : (Nat → Int32) × Int32 × Int32 × Int32 × Int32 × Int32 × Int32 × Int32 × (Nat → Int32) × (Nat → Int32) × (Nat → Int32) × (Nat → Int32) × (Nat → Int32) × (Nat → Int32)) => True) (XPo D (fun (z : (Nat → Int32) × Int32 × Int32 × Int32 × Int32 × Int32 × Int32 × Int32 × (Nat → Int32) × (Nat → Int32) × (Nat → Int32) × (Nat → Int32) × (Nat → Int32) × (Nat → Int32)) => RW cs bd (va_up (va_up (va_up (va_up (va_up (va_up (va_up u 33 z.2.1) 34 z.2.2.1) 30 z.2.2.2.1) 28 z.2.2.2.2.1) 29 z.2.2.2.2.2.1) 31 z.2.2.2.2.2.2.1) 35 z.2.2.2.2.2.2.2.1) (va_up (va_up (va_up (va_up (va_up (va_up (va_up b 2 z.1) 32 z.2.2.2.2.2.2.2.2.1) 25 z.2.2.2.2.2.2.2.2.2.1) 26 z.2.2.2.2.2.2.2.2.2.2.1) 36 z.2.2.2.2.2.2.2.2.2.2.2.1) 37 z.2.2.2.2.2.2.2.2.2.2.2.2.1) 38 z.2.2.2.2.2.2.2.2.2.2.2.2.2) bw) A) A) 0 0 A := by
  refine Met.ofW (cc := cX12_stand) (maxL := 8) (ret := (some .int)) (by decide) rfl ?_
  intro p e s m args below meth c s₁ B hml hv
  obtain ⟨rfl, hP, hK, hD, hZ⟩ := hv
  have hx := B.exec
  have hb := B.bytes
  have hr := B.returns
  have hts := atoms_spec (ws := (Cond.code yX12_stand cX12_stand 8 (some .int) :: gw)) B.pre
  have hg : ∀ w ∈ gw, w.before ([.ref (bd 0), .int p1, .int p2, .int p3] : List Value).toArray s = true := fun w h => hts w (List.mem_cons_of_mem _ h)
  have hown : s.vm.findClass RX12 = some m.cls := findClass_of_methodNamed B.named
  have hlocks := B.notSynchronized
  have hS : va_S A s.heap s.heap [] := va_S.rf
  have hP : va_P D vwCl (RW cs bd u b bw) s.heap := hP
  have hl := lv_entry ([.ref (bd 0), .int p1, .int p2, .int p3]) (n := 8) (Nat.le_of_ble_eq_true rfl)
  rw [lg_entry_eq]
  generalize (lg_sl ([.ref (bd 0), .int p1, .int p2, .int p3]) ++ List.replicate (8 - (lg_sl ([.ref (bd 0), .int p1, .int p2, .int p3])).length) Slot.unset).toArray = ls at hl ⊢
  have hl : lv_has ls 8 [(0, .ref (bd 0)), (1, .int p1), (2, .int p2), (3, .int p3)] := hl
  have hcut : ∀ nk : Nat, (∀ (x4 : Int32) (x5 : Int32) (x6 : Int32) (x7 : Int32) (c60_u33 : Int32) (c60_u34 : Int32) (c60_u30 : Int32) (c60_u28 : Int32) (c60_u29 : Int32) (c60_u31 : Int32) (c60_u35 : Int32) (c60_b2 : Nat → Int32) (c60_b32 : Nat → Int32) (c60_b25 : Nat → Int32) (c60_b26 : Nat → Int32) (c60_b36 : Nat → Int32) (c60_b37 : Nat → Int32) (c60_b38 : Nat → Int32) (H : Heap) (locs : List Loc) (j1 : 0 ≤ p1.toInt) (j2 : p1.toInt < 6) (j3 : 0 ≤ p2.toInt) (j4 : p2.toInt < (u 1).toInt) (i7 : 0 ≤ x7.toInt) (i7b : x7.toInt ≤ 256) (hmu : (256 - x7.toInt).toNat < nk) (hP : va_P D vwCl (RW cs bd (va_up (va_up (va_up (va_up (va_up (va_up (va_up u 33 c60_u33) 34 c60_u34) 30 c60_u30) 28 c60_u28) 29 c60_u29) 31 c60_u31) 35 c60_u35) (va_up (va_up (va_up (va_up (va_up (va_up (va_up b 2 c60_b2) 32 c60_b32) 25 c60_b25) 26 c60_b26) 36 c60_b36) 37 c60_b37) 38 c60_b38) bw) H) (hD : va_D A (RW cs bd (va_up (va_up (va_up (va_up (va_up (va_up (va_up u 33 c60_u33) 34 c60_u34) 30 c60_u30) 28 c60_u28) 29 c60_u29) 31 c60_u31) 35 c60_u35) (va_up (va_up (va_up (va_up (va_up (va_up (va_up b 2 c60_b2) 32 c60_b32) 25 c60_b25) 26 c60_b26) 36 c60_b36) 37 c60_b37) 38 c60_b38) bw)) (hS : va_S A s.heap H locs) (ls : Array Slot) (hl : lv_has ls 8 [(0, .ref (bd 0)), (1, .int p1), (2, .int p2), (3, .int p3), (4, .int x4), (5, .int x5), (6, .int x6), (7, .int x7)]), W p l e (headSpec (Cond.code yX12_stand cX12_stand 8 (some .int) :: gw) ({ frames := 6, cells := 0, slots := 0, locals := 141 })).room s m ([.ref (bd 0), .int p1, .int p2, .int p3] : List Value).toArray below meth c H locs 0 0 (MQ below (va_Qi (fun (r : Int32) (z : (Nat → Int32) × Int32 × Int32 × Int32 × Int32 × Int32 × Int32 × Int32 × (Nat → Int32) × (Nat → Int32) × (Nat → Int32) × (Nat → Int32) × (Nat → Int32) × (Nat → Int32)) => True) (XPo D (fun (z : (Nat → Int32) × Int32 × Int32 × Int32 × Int32 × Int32 × Int32 × Int32 × (Nat → Int32) × (Nat → Int32) × (Nat → Int32) × (Nat → Int32) × (Nat → Int32) × (Nat → Int32)) => RW cs bd (va_up (va_up (va_up (va_up (va_up (va_up (va_up u 33 z.2.1) 34 z.2.2.1) 30 z.2.2.2.1) 28 z.2.2.2.2.1) 29 z.2.2.2.2.2.1) 31 z.2.2.2.2.2.2.1) 35 z.2.2.2.2.2.2.2.1) (va_up (va_up (va_up (va_up (va_up (va_up (va_up b 2 z.1) 32 z.2.2.2.2.2.2.2.2.1) 25 z.2.2.2.2.2.2.2.2.2.1) 26 z.2.2.2.2.2.2.2.2.2.2.1) 36 z.2.2.2.2.2.2.2.2.2.2.2.1) 37 z.2.2.2.2.2.2.2.2.2.2.2.2.1) 38 z.2.2.2.2.2.2.2.2.2.2.2.2.2) bw) A) A) ([.ref (bd 0), .int p1, .int p2, .int p3] : List Value).toArray s 0 0 A) (F0 m 60 ls [])) := by
    intro nk
    induction nk with
    | zero => exact (fun x4 x5 x6 x7 c60_u33 c60_u34 c60_u30 c60_u28 c60_u29 c60_u31 c60_u35 c60_b2 c60_b32 c60_b25 c60_b26 c60_b36 c60_b37 c60_b38 H locs j1 j2 j3 j4 i7 i7b hmu hP hD hS ls hl => absurd hmu (Nat.not_lt_zero _))
    | succ nk ih =>
      intro x4 x5 x6 x7 c60_u33 c60_u34 c60_u30 c60_u28 c60_u29 c60_u31 c60_u35 c60_b2 c60_b32 c60_b25 c60_b26 c60_b36 c60_b37 c60_b38 H locs j1 j2 j3 j4 i7 i7b hmu hP hD hS ls hl
      refine lv_iload hx hb dX12_stand_60 (lv_at hl 7 rfl) ?_
      refine lv_sipush (v := 256) hx hb dX12_stand_62 (by decide) ?_
      refine lv_icmp_ge (tgt := 113) hx hb dX12_stand_65 (by decide) (fun c_1 => ?_) (fun c_1 => ?_)
      ·
        have kc_1 : (256 : Int) ≤ x7.toInt := i_le c_1
        refine lv_aload_n hx hb dX12_stand_113 rfl (lv_at hl 0 rfl) ?_
        refine gr_cellOf hx hb hg hown hK hP (hg _ q4_234) dX12_stand_114 ?_
        refine lv_iload_n hx hb dX12_stand_117 rfl (lv_at hl 2 rfl) ?_
        refine lv_iload hx hb dX12_stand_118 (lv_at hl 4 rfl) ?_
        refine sr_cellOf hx hb hK hP hD hS (i_in (by omega) (by omega)) dX12_stand_120 (fun H locs hP hD hS => ?_)
        refine lv_iload_n hx hb dX12_stand_121 rfl (lv_at hl 3 rfl) ?_
        refine lv_if_ne (tgt := 130) hx hb dX12_stand_122 (by decide) (fun c_2 => ?_) (fun c_2 => ?_)
        ·
          have kc_2 : p3.toInt ≠ (0 : Int) := i_ne c_2
          refine lv_iload hx hb dX12_stand_130 (lv_at hl 6 rfl) ?_
          have hP : va_P D vwCl (RW cs bd (va_up (va_up (va_up (va_up (va_up (va_up (va_up u 33 c60_u33) 34 c60_u34) 30 c60_u30) 28 c60_u28) 29 c60_u29) 31 c60_u31) 35 c60_u35) (va_up (va_up (va_up (va_up (va_up (va_up (va_up b 2 (upd c60_b2 p2.toNatClampNeg x4)) 32 c60_b32) 25 c60_b25) 26 c60_b26) 36 c60_b36) 37 c60_b37) 38 c60_b38) bw) _ := hP
          have hD : va_D A (RW cs bd (va_up (va_up (va_up (va_up (va_up (va_up (va_up u 33 c60_u33) 34 c60_u34) 30 c60_u30) 28 c60_u28) 29 c60_u29) 31 c60_u31) 35 c60_u35) (va_up (va_up (va_up (va_up (va_up (va_up (va_up b 2 (upd c60_b2 p2.toNatClampNeg x4)) 32 c60_b32) 25 c60_b25) 26 c60_b26) 36 c60_b36) 37 c60_b37) 38 c60_b38) bw) := hD
          exact W.iret (v := x6) hx hb hr (fun tt ht hW => ⟨⟨x6, ⟨(upd c60_b2 p2.toNatClampNeg x4), c60_u33, c60_u34, c60_u30, c60_u28, c60_u29, c60_u31, c60_u35, c60_b32, c60_b25, c60_b26, c60_b36, c60_b37, c60_b38⟩, rfl, trivial, by rw [ht]; exact hP, hD⟩, hS.F ht⟩) hS.2.2 dX12_stand_132
        ·
          have kc_2 : p3.toInt = (0 : Int) := i_eq c_2
          refine lv_iload hx hb dX12_stand_125 (lv_at hl 5 rfl) ?_
          refine lv_goto (tgt := 132) hx hb dX12_stand_127 (by decide) ?_
          have hP : va_P D vwCl (RW cs bd (va_up (va_up (va_up (va_up (va_up (va_up (va_up u 33 c60_u33) 34 c60_u34) 30 c60_u30) 28 c60_u28) 29 c60_u29) 31 c60_u31) 35 c60_u35) (va_up (va_up (va_up (va_up (va_up (va_up (va_up b 2 (upd c60_b2 p2.toNatClampNeg x4)) 32 c60_b32) 25 c60_b25) 26 c60_b26) 36 c60_b36) 37 c60_b37) 38 c60_b38) bw) _ := hP
          have hD : va_D A (RW cs bd (va_up (va_up (va_up (va_up (va_up (va_up (va_up u 33 c60_u33) 34 c60_u34) 30 c60_u30) 28 c60_u28) 29 c60_u29) 31 c60_u31) 35 c60_u35) (va_up (va_up (va_up (va_up (va_up (va_up (va_up b 2 (upd c60_b2 p2.toNatClampNeg x4)) 32 c60_b32) 25 c60_b25) 26 c60_b26) 36 c60_b36) 37 c60_b37) 38 c60_b38) bw) := hD
          exact W.iret (v := x5) hx hb hr (fun tt ht hW => ⟨⟨x5, ⟨(upd c60_b2 p2.toNatClampNeg x4), c60_u33, c60_u34, c60_u30, c60_u28, c60_u29, c60_u31, c60_u35, c60_b32, c60_b25, c60_b26, c60_b36, c60_b37, c60_b38⟩, rfl, trivial, by rw [ht]; exact hP, hD⟩, hS.F ht⟩) hS.2.2 dX12_stand_132
      ·
        have kc_1 : x7.toInt < (256 : Int) := i_nle c_1
        refine lv_aload_n hx hb dX12_stand_68 rfl (lv_at hl 0 rfl) ?_
        refine gr_cellOf hx hb hg hown hK hP (hg _ q4_234) dX12_stand_69 ?_
        refine lv_iload_n hx hb dX12_stand_72 rfl (lv_at hl 2 rfl) ?_
        refine lv_iload hx hb dX12_stand_73 (lv_at hl 7 rfl) ?_
        refine sr_cellOf hx hb hK hP hD hS (i_in (by omega) (by omega)) dX12_stand_75 (fun H locs hP hD hS => ?_)
        refine lv_aload_n hx hb dX12_stand_76 rfl (lv_at hl 0 rfl) ?_
        refine lv_iload_n hx hb dX12_stand_77 rfl (lv_at hl 1 rfl) ?_
        refine lv_bipush (v := 24) hx hb dX12_stand_78 (by decide) ?_
        refine cV_v (As := [.int p1, .int 24]) (rest := []) ⟨hx, hb, hml, hown, hg⟩ (k_X12_goDay l D cs A bd (va_up (va_up (va_up (va_up (va_up (va_up (va_up u 33 c60_u33) 34 c60_u34) 30 c60_u30) 28 c60_u28) 29 c60_u29) 31 c60_u31) 35 c60_u35) (va_up (va_up (va_up (va_up (va_up (va_up (va_up b 32 c60_b32) 25 c60_b25) 26 c60_b26) 36 c60_b36) 37 c60_b37) 38 c60_b38) 2 (upd c60_b2 p2.toNatClampNeg x7)) bw  p1 24 (show 0 ≤ p1.toInt by first | omega | decide) (show p1.toInt < 6 by first | omega | decide) (show (24 : Int) ≤ 24 by first | omega | decide) hlaw (show 0 ≤ (u 1).toInt by first | omega | decide) (show (u 1).toInt ≤ 8 by first | omega | decide) ib67_0 ib23_0 ib24_0 ib20_0 (show -1 ≤ (u 7).toInt by first | omega | decide) (show (u 7).toInt < (u 1).toInt by first | omega | decide)) ca_X12_goDay q6_136 ⟨rfl, rfl⟩ ⟨Nat.le_of_ble_eq_true rfl, Nat.le_of_ble_eq_true rfl⟩ (rc_model hK hP) hK hP hD hS hZ rfl hl.1 rfl (Nat.le_of_ble_eq_true rfl) ⟨Nat.zero_le _, Nat.zero_le _⟩ dX12_stand_80 (fun z_17 H locs wr_3 hP hD hS => ?_)
        obtain ⟨o_u33_4, o_u34_5, o_u30_6, o_u28_7, o_u29_8, o_u31_9, o_u35_10, o_b32_11, o_b25_12, o_b26_13, o_b36_14, o_b37_15, o_b38_16⟩ := z_17
        have hP : va_P D vwCl (RW cs bd (va_up (va_up (va_up (va_up (va_up (va_up (va_up u 33 o_u33_4) 34 o_u34_5) 30 o_u30_6) 28 o_u28_7) 29 o_u29_8) 31 o_u31_9) 35 o_u35_10) (va_up (va_up (va_up (va_up (va_up (va_up (va_up b 2 (upd c60_b2 p2.toNatClampNeg x7)) 32 o_b32_11) 25 o_b25_12) 26 o_b26_13) 36 o_b36_14) 37 o_b37_15) 38 o_b38_16) bw) H := hP
        have hD : va_D A (RW cs bd (va_up (va_up (va_up (va_up (va_up (va_up (va_up u 33 o_u33_4) 34 o_u34_5) 30 o_u30_6) 28 o_u28_7) 29 o_u29_8) 31 o_u31_9) 35 o_u35_10) (va_up (va_up (va_up (va_up (va_up (va_up (va_up b 2 (upd c60_b2 p2.toNatClampNeg x7)) 32 o_b32_11) 25 o_b25_12) 26 o_b26_13) 36 o_b36_14) 37 o_b37_15) 38 o_b38_16) bw) := hD
        obtain ⟨wr_3_0, wr_3_1⟩ : (-1 ≤ o_u29_8.toInt) ∧ (o_u29_8.toInt < (u 1).toInt) := wr_3
        refine lv_aload_n hx hb dX12_stand_83 rfl (lv_at hl 0 rfl) ?_
        refine gr_stungOf hx hb hg hown hK hP (hg _ q5_28) dX12_stand_84 ?_
        refine lv_iload_n hx hb dX12_stand_87 rfl (lv_at hl 2 rfl) ?_
        refine lr_stungOf hx hb hK hP (i_in (by omega) (by omega)) dX12_stand_88 ?_
        refine lv_topi (fun x_18 ex_18 => ?_)
        have ex_18 : x_18 = o_b36_14 p2.toNatClampNeg := ex_18
        have hx_18 : x_18.toInt = (o_b36_14 p2.toNatClampNeg).toInt := by rw [ex_18]
        refine lv_if_le (tgt := 95) hx hb dX12_stand_89 (by decide) (fun c_19 => ?_) (fun c_19 => ?_)
        ·
          have kc_19 : x_18.toInt ≤ (0 : Int) := i_le c_19
          refine lv_iload hx hb dX12_stand_95 (lv_at hl 6 rfl) ?_
          refine lv_if_ne (tgt := 104) hx hb dX12_stand_97 (by decide) (fun c_20 => ?_) (fun c_20 => ?_)
          ·
            have kc_20 : x6.toInt ≠ (0 : Int) := i_ne c_20
            obtain ⟨x_21, ex_21⟩ : ∃ y : Int32, y = x6 + 1 := ⟨_, rfl⟩
            refine lv_iinc (v := x_21) (lv' := [(6, .int x_21), (0, .ref (bd 0)), (1, .int p1), (2, .int p2), (3, .int p3), (4, .int x4), (5, .int x5), (7, .int x7)]) hx hb dX12_stand_104 hl (k := 6) rfl (by rw [ex_21]; rfl) (by decide) rfl (fun ls hl => ?_)
            obtain ⟨x_22, ex_22⟩ : ∃ y : Int32, y = x7 + 1 := ⟨_, rfl⟩
            have fx_22 : x_22.toInt = x7.toInt + 1 := by rw [ex_22]; exact i_add (by first | omega | (show (_ : Int) ≤ x7.toInt + 1; omega)) (by first | omega | (show x7.toInt + 1 ≤ (_ : Int); omega))
            refine lv_iinc (v := x_22) (lv' := [(7, .int x_22), (6, .int x_21), (0, .ref (bd 0)), (1, .int p1), (2, .int p2), (3, .int p3), (4, .int x4), (5, .int x5)]) hx hb dX12_stand_107 hl (k := 7) rfl (by rw [ex_22]; rfl) (by decide) rfl (fun ls hl => ?_)
            refine lv_goto (tgt := 60) hx hb dX12_stand_110 (by decide) ?_
            exact ih x4 x5 x_21 x_22 o_u33_4 o_u34_5 o_u30_6 o_u28_7 o_u29_8 o_u31_9 o_u35_10 (upd c60_b2 p2.toNatClampNeg x7) o_b32_11 o_b25_12 o_b26_13 o_b36_14 o_b37_15 o_b38_16 _ _ (by omega) (by omega) (by omega) (by omega) (by omega) (by omega) (by omega) hP hD hS ls (lv_sub hl [2, 3, 4, 5, 6, 7, 1, 0] rfl)
          ·
            have kc_20 : x6.toInt = (0 : Int) := i_eq c_20
            refine lv_iload hx hb dX12_stand_100 (lv_at hl 7 rfl) ?_
            refine lv_istore (lv' := [(5, .int x7), (0, .ref (bd 0)), (1, .int p1), (2, .int p2), (3, .int p3), (4, .int x4), (6, .int x6), (7, .int x7)]) hx hb dX12_stand_102 hl (by decide) rfl (fun ls hl => ?_)
            obtain ⟨x_23, ex_23⟩ : ∃ y : Int32, y = x6 + 1 := ⟨_, rfl⟩
            have fx_23 : x_23.toInt = x6.toInt + 1 := by rw [ex_23]; exact i_add (by first | omega | (show (_ : Int) ≤ x6.toInt + 1; omega)) (by first | omega | (show x6.toInt + 1 ≤ (_ : Int); omega))
            refine lv_iinc (v := x_23) (lv' := [(6, .int x_23), (5, .int x7), (0, .ref (bd 0)), (1, .int p1), (2, .int p2), (3, .int p3), (4, .int x4), (7, .int x7)]) hx hb dX12_stand_104 hl (k := 6) rfl (by rw [ex_23]; rfl) (by decide) rfl (fun ls hl => ?_)
            obtain ⟨x_24, ex_24⟩ : ∃ y : Int32, y = x7 + 1 := ⟨_, rfl⟩
            have fx_24 : x_24.toInt = x7.toInt + 1 := by rw [ex_24]; exact i_add (by first | omega | (show (_ : Int) ≤ x7.toInt + 1; omega)) (by first | omega | (show x7.toInt + 1 ≤ (_ : Int); omega))
            refine lv_iinc (v := x_24) (lv' := [(7, .int x_24), (6, .int x_23), (5, .int x7), (0, .ref (bd 0)), (1, .int p1), (2, .int p2), (3, .int p3), (4, .int x4)]) hx hb dX12_stand_107 hl (k := 7) rfl (by rw [ex_24]; rfl) (by decide) rfl (fun ls hl => ?_)
            refine lv_goto (tgt := 60) hx hb dX12_stand_110 (by decide) ?_
            exact ih x4 x7 x_23 x_24 o_u33_4 o_u34_5 o_u30_6 o_u28_7 o_u29_8 o_u31_9 o_u35_10 (upd c60_b2 p2.toNatClampNeg x7) o_b32_11 o_b25_12 o_b26_13 o_b36_14 o_b37_15 o_b38_16 _ _ (by omega) (by omega) (by omega) (by omega) (by omega) (by omega) (by omega) hP hD hS ls (lv_sub hl [3, 4, 5, 6, 7, 2, 1, 0] rfl)
        ·
          have kc_19 : (0 : Int) < x_18.toInt := i_nle c_19
          refine lv_goto (tgt := 107) hx hb dX12_stand_92 (by decide) ?_
          obtain ⟨x_25, ex_25⟩ : ∃ y : Int32, y = x7 + 1 := ⟨_, rfl⟩
          have fx_25 : x_25.toInt = x7.toInt + 1 := by rw [ex_25]; exact i_add (by first | omega | (show (_ : Int) ≤ x7.toInt + 1; omega)) (by first | omega | (show x7.toInt + 1 ≤ (_ : Int); omega))
          refine lv_iinc (v := x_25) (lv' := [(7, .int x_25), (0, .ref (bd 0)), (1, .int p1), (2, .int p2), (3, .int p3), (4, .int x4), (5, .int x5), (6, .int x6)]) hx hb dX12_stand_107 hl (k := 7) rfl (by rw [ex_25]; rfl) (by decide) rfl (fun ls hl => ?_)
          refine lv_goto (tgt := 60) hx hb dX12_stand_110 (by decide) ?_
          exact ih x4 x5 x6 x_25 o_u33_4 o_u34_5 o_u30_6 o_u28_7 o_u29_8 o_u31_9 o_u35_10 (upd c60_b2 p2.toNatClampNeg x7) o_b32_11 o_b25_12 o_b26_13 o_b36_14 o_b37_15 o_b38_16 _ _ (by omega) (by omega) (by omega) (by omega) (by omega) (by omega) (by omega) hP hD hS ls (lv_sub hl [1, 2, 3, 4, 5, 6, 7, 0] rfl)
  refine lv_iload_n hx hb dX12_stand_0 rfl (lv_at hl 1 rfl) ?_
  refine cS_p (As := [.int p1]) (rest := []) ⟨hx, hb, hml, hown, hg⟩ (k_X12_isShelf l   p1 ) ca_X12_isShelf q5_223 ⟨rfl, rfl⟩ ⟨Nat.le_of_ble_eq_true rfl, Nat.le_of_ble_eq_true rfl⟩ rfl hl.1 rfl (Nat.le_of_ble_eq_true rfl) ⟨Nat.zero_le _, Nat.zero_le _⟩ dX12_stand_1 (fun r_26 wr_26 => ?_)
  have wr_26 : (r_26.toInt = 1 ∧ 0 ≤ p1.toInt ∧ p1.toInt < 6) ∨ (r_26.toInt = 0 ∧ ¬ (0 ≤ p1.toInt ∧ p1.toInt < 6)) := wr_26
  refine lv_if_eq (tgt := 24) hx hb dX12_stand_4 (by decide) (fun c_27 => ?_) (fun c_27 => ?_)
  ·
    have kc_27 : r_26.toInt = (0 : Int) := i_eq c_27
    refine lv_iconst (v := (-1)) hx hb dX12_stand_24 (by decide) ?_
    have q0_m1 : ((-1) : Int32).toInt = (-1) := rfl
    have hP : va_P D vwCl (RW cs bd (va_up (va_up (va_up (va_up (va_up (va_up (va_up u 33 (u 33)) 34 (u 34)) 30 (u 30)) 28 (u 28)) 29 (u 29)) 31 (u 31)) 35 (u 35)) (va_up (va_up (va_up (va_up (va_up (va_up (va_up b 2 (b 2)) 32 (b 32)) 25 (b 25)) 26 (b 26)) 36 (b 36)) 37 (b 37)) 38 (b 38)) bw) _ := hP
    have hD : va_D A (RW cs bd (va_up (va_up (va_up (va_up (va_up (va_up (va_up u 33 (u 33)) 34 (u 34)) 30 (u 30)) 28 (u 28)) 29 (u 29)) 31 (u 31)) 35 (u 35)) (va_up (va_up (va_up (va_up (va_up (va_up (va_up b 2 (b 2)) 32 (b 32)) 25 (b 25)) 26 (b 26)) 36 (b 36)) 37 (b 37)) 38 (b 38)) bw) := hD
    exact W.iret (v := (-1)) hx hb hr (fun tt ht hW => ⟨⟨(-1), ⟨(b 2), (u 33), (u 34), (u 30), (u 28), (u 29), (u 31), (u 35), (b 32), (b 25), (b 26), (b 36), (b 37), (b 38)⟩, rfl, trivial, by rw [ht]; exact hP, hD⟩, hS.F ht⟩) hS.2.2 dX12_stand_25
  ·
    have kc_27 : r_26.toInt ≠ (0 : Int) := i_ne c_27
    refine lv_aload_n hx hb dX12_stand_7 rfl (lv_at hl 0 rfl) ?_
    refine lv_iload_n hx hb dX12_stand_8 rfl (lv_at hl 2 rfl) ?_
    refine cV_ro (As := [.int p2]) (rest := []) ⟨hx, hb, hml, hown, hg⟩ (k_X12_isOne l D cs A bd u b bw  p2 (show 0 ≤ (u 1).toInt by first | omega | decide) (show (u 1).toInt ≤ 8 by first | omega | decide)) ca_X12_isOne q6_7 ⟨rfl, rfl⟩ ⟨Nat.le_of_ble_eq_true rfl, Nat.le_of_ble_eq_true rfl⟩ (rc_model hK hP) hK hP hD hS hZ rfl hl.1 rfl (Nat.le_of_ble_eq_true rfl) ⟨Nat.zero_le _, Nat.zero_le _⟩ dX12_stand_9 (fun r_28 wr_28 => ?_)
    have wr_28_0 : (r_28.toInt = 1 ∧ 0 ≤ p2.toInt ∧ p2.toInt < (u 1).toInt) ∨ (r_28.toInt = 0 ∧ ¬ (0 ≤ p2.toInt ∧ p2.toInt < (u 1).toInt)) := wr_28
    refine lv_if_eq (tgt := 24) hx hb dX12_stand_12 (by decide) (fun c_29 => ?_) (fun c_29 => ?_)
    ·
      have kc_29 : r_28.toInt = (0 : Int) := i_eq c_29
      refine lv_iconst (v := (-1)) hx hb dX12_stand_24 (by decide) ?_
      have q0_m1 : ((-1) : Int32).toInt = (-1) := rfl
      have hP : va_P D vwCl (RW cs bd (va_up (va_up (va_up (va_up (va_up (va_up (va_up u 33 (u 33)) 34 (u 34)) 30 (u 30)) 28 (u 28)) 29 (u 29)) 31 (u 31)) 35 (u 35)) (va_up (va_up (va_up (va_up (va_up (va_up (va_up b 2 (b 2)) 32 (b 32)) 25 (b 25)) 26 (b 26)) 36 (b 36)) 37 (b 37)) 38 (b 38)) bw) _ := hP
      have hD : va_D A (RW cs bd (va_up (va_up (va_up (va_up (va_up (va_up (va_up u 33 (u 33)) 34 (u 34)) 30 (u 30)) 28 (u 28)) 29 (u 29)) 31 (u 31)) 35 (u 35)) (va_up (va_up (va_up (va_up (va_up (va_up (va_up b 2 (b 2)) 32 (b 32)) 25 (b 25)) 26 (b 26)) 36 (b 36)) 37 (b 37)) 38 (b 38)) bw) := hD
      exact W.iret (v := (-1)) hx hb hr (fun tt ht hW => ⟨⟨(-1), ⟨(b 2), (u 33), (u 34), (u 30), (u 28), (u 29), (u 31), (u 35), (b 32), (b 25), (b 26), (b 36), (b 37), (b 38)⟩, rfl, trivial, by rw [ht]; exact hP, hD⟩, hS.F ht⟩) hS.2.2 dX12_stand_25
    ·
      have kc_29 : r_28.toInt ≠ (0 : Int) := i_ne c_29
      refine lv_iload_n hx hb dX12_stand_15 rfl (lv_at hl 3 rfl) ?_
      refine lv_iconst (v := 0) hx hb dX12_stand_16 (by decide) ?_
      refine lv_iconst (v := 1) hx hb dX12_stand_17 (by decide) ?_
      refine cS_p (As := [.int p3, .int 0, .int 1]) (rest := []) ⟨hx, hb, hml, hown, hg⟩ (k_X12_in l   p3 0 1 ) ca_X12_in q5_212 ⟨rfl, rfl⟩ ⟨Nat.le_of_ble_eq_true rfl, Nat.le_of_ble_eq_true rfl⟩ rfl hl.1 rfl (Nat.le_of_ble_eq_true rfl) ⟨Nat.zero_le _, Nat.zero_le _⟩ dX12_stand_18 (fun r_30 wr_30 => ?_)
      have wr_30 : (r_30.toInt = 1 ∧ (0 : Int) ≤ p3.toInt ∧ p3.toInt ≤ (1 : Int)) ∨ (r_30.toInt = 0 ∧ ¬ ((0 : Int) ≤ p3.toInt ∧ p3.toInt ≤ (1 : Int))) := wr_30
      refine lv_if_ne (tgt := 26) hx hb dX12_stand_21 (by decide) (fun c_31 => ?_) (fun c_31 => ?_)
      ·
        have kc_31 : r_30.toInt ≠ (0 : Int) := i_ne c_31
        refine lv_aload_n hx hb dX12_stand_26 rfl (lv_at hl 0 rfl) ?_
        refine lv_iload_n hx hb dX12_stand_27 rfl (lv_at hl 1 rfl) ?_
        refine lv_iconst (v := 0) hx hb dX12_stand_28 (by decide) ?_
        refine cV_ro (As := [.int p1, .int 0]) (rest := []) ⟨hx, hb, hml, hown, hg⟩ (k_X12_rowFault l D cs A bd u b bw  p1 0 (show 0 ≤ p1.toInt by first | omega | decide) (show p1.toInt < 6 by first | omega | decide) ib66_0) ca_X12_rowFault q6_132 ⟨rfl, rfl⟩ ⟨Nat.le_of_ble_eq_true rfl, Nat.le_of_ble_eq_true rfl⟩ (rc_model hK hP) hK hP hD hS hZ rfl hl.1 rfl (Nat.le_of_ble_eq_true rfl) ⟨Nat.zero_le _, Nat.zero_le _⟩ dX12_stand_29 (fun r_32 wr_32 => ?_)
        have wr_32_0 : r_32.toInt = 0 ∨ r_32.toInt = -11 ∨ r_32.toInt = -12 := wr_32
        refine lv_if_ge (tgt := 42) hx hb dX12_stand_32 (by decide) (fun c_33 => ?_) (fun c_33 => ?_)
        ·
          have kc_33 : (0 : Int) ≤ r_32.toInt := i_le c_33
          refine lv_aload_n hx hb dX12_stand_42 rfl (lv_at hl 0 rfl) ?_
          refine gr_cellOf hx hb hg hown hK hP (hg _ q4_234) dX12_stand_43 ?_
          refine lv_iload_n hx hb dX12_stand_46 rfl (lv_at hl 2 rfl) ?_
          refine lr_cellOf hx hb hK hP (i_in (by omega) (by omega)) dX12_stand_47 ?_
          refine lv_topi (fun x_34 ex_34 => ?_)
          have ex_34 : x_34 = (b 2) p2.toNatClampNeg := ex_34
          have hx_34 : x_34.toInt = ((b 2) p2.toNatClampNeg).toInt := by rw [ex_34]
          refine lv_istore (lv' := [(4, .int x_34), (0, .ref (bd 0)), (1, .int p1), (2, .int p2), (3, .int p3)]) hx hb dX12_stand_48 hl (by decide) rfl (fun ls hl => ?_)
          refine lv_bipush (v := (-2)) hx hb dX12_stand_50 (by decide) ?_
          refine lv_istore (lv' := [(5, .int (-2)), (4, .int x_34), (0, .ref (bd 0)), (1, .int p1), (2, .int p2), (3, .int p3)]) hx hb dX12_stand_52 hl (by decide) rfl (fun ls hl => ?_)
          refine lv_iconst (v := 0) hx hb dX12_stand_54 (by decide) ?_
          refine lv_istore (lv' := [(6, .int 0), (5, .int (-2)), (4, .int x_34), (0, .ref (bd 0)), (1, .int p1), (2, .int p2), (3, .int p3)]) hx hb dX12_stand_55 hl (by decide) rfl (fun ls hl => ?_)
          refine lv_iconst (v := 0) hx hb dX12_stand_57 (by decide) ?_
          refine lv_istore (lv' := [(7, .int 0), (6, .int 0), (5, .int (-2)), (4, .int x_34), (0, .ref (bd 0)), (1, .int p1), (2, .int p2), (3, .int p3)]) hx hb dX12_stand_58 hl (by decide) rfl (fun ls hl => ?_)
          have q0_m2 : ((-2) : Int32).toInt = (-2) := rfl
          have q0_0 : (0 : Int32).toInt = 0 := rfl
          exact (hcut (((256 - (0 : Int32).toInt).toNat) + 1)) x_34 (-2) 0 0 (u 33) (u 34) (u 30) (u 28) (u 29) (u 31) (u 35) (b 2) (b 32) (b 25) (b 26) (b 36) (b 37) (b 38) _ _ (by omega) (by omega) (by omega) (by omega) (by omega) (by omega) (Nat.lt_succ_self _) hP hD hS ls (lv_sub hl [4, 5, 6, 7, 3, 2, 1, 0] rfl)
        ·
          have kc_33 : r_32.toInt < (0 : Int) := i_nle c_33
          refine lv_aload_n hx hb dX12_stand_35 rfl (lv_at hl 0 rfl) ?_
          refine lv_iload_n hx hb dX12_stand_36 rfl (lv_at hl 1 rfl) ?_
          refine lv_iconst (v := 0) hx hb dX12_stand_37 (by decide) ?_
          refine cV_ro (As := [.int p1, .int 0]) (rest := []) ⟨hx, hb, hml, hown, hg⟩ (k_X12_rowFault l D cs A bd u b bw  p1 0 (show 0 ≤ p1.toInt by first | omega | decide) (show p1.toInt < 6 by first | omega | decide) ib66_0) ca_X12_rowFault q6_132 ⟨rfl, rfl⟩ ⟨Nat.le_of_ble_eq_true rfl, Nat.le_of_ble_eq_true rfl⟩ (rc_model hK hP) hK hP hD hS hZ rfl hl.1 rfl (Nat.le_of_ble_eq_true rfl) ⟨Nat.zero_le _, Nat.zero_le _⟩ dX12_stand_38 (fun r_35 wr_35 => ?_)
          have wr_35_0 : r_35.toInt = 0 ∨ r_35.toInt = -11 ∨ r_35.toInt = -12 := wr_35
          have hP : va_P D vwCl (RW cs bd (va_up (va_up (va_up (va_up (va_up (va_up (va_up u 33 (u 33)) 34 (u 34)) 30 (u 30)) 28 (u 28)) 29 (u 29)) 31 (u 31)) 35 (u 35)) (va_up (va_up (va_up (va_up (va_up (va_up (va_up b 2 (b 2)) 32 (b 32)) 25 (b 25)) 26 (b 26)) 36 (b 36)) 37 (b 37)) 38 (b 38)) bw) _ := hP
          have hD : va_D A (RW cs bd (va_up (va_up (va_up (va_up (va_up (va_up (va_up u 33 (u 33)) 34 (u 34)) 30 (u 30)) 28 (u 28)) 29 (u 29)) 31 (u 31)) 35 (u 35)) (va_up (va_up (va_up (va_up (va_up (va_up (va_up b 2 (b 2)) 32 (b 32)) 25 (b 25)) 26 (b 26)) 36 (b 36)) 37 (b 37)) 38 (b 38)) bw) := hD
          exact W.iret (v := r_35) hx hb hr (fun tt ht hW => ⟨⟨r_35, ⟨(b 2), (u 33), (u 34), (u 30), (u 28), (u 29), (u 31), (u 35), (b 32), (b 25), (b 26), (b 36), (b 37), (b 38)⟩, rfl, trivial, by rw [ht]; exact hP, hD⟩, hS.F ht⟩) hS.2.2 dX12_stand_41
      ·
        have kc_31 : r_30.toInt = (0 : Int) := i_eq c_31
        refine lv_iconst (v := (-1)) hx hb dX12_stand_24 (by decide) ?_
        have q0_m1 : ((-1) : Int32).toInt = (-1) := rfl
        have hP : va_P D vwCl (RW cs bd (va_up (va_up (va_up (va_up (va_up (va_up (va_up u 33 (u 33)) 34 (u 34)) 30 (u 30)) 28 (u 28)) 29 (u 29)) 31 (u 31)) 35 (u 35)) (va_up (va_up (va_up (va_up (va_up (va_up (va_up b 2 (b 2)) 32 (b 32)) 25 (b 25)) 26 (b 26)) 36 (b 36)) 37 (b 37)) 38 (b 38)) bw) _ := hP
        have hD : va_D A (RW cs bd (va_up (va_up (va_up (va_up (va_up (va_up (va_up u 33 (u 33)) 34 (u 34)) 30 (u 30)) 28 (u 28)) 29 (u 29)) 31 (u 31)) 35 (u 35)) (va_up (va_up (va_up (va_up (va_up (va_up (va_up b 2 (b 2)) 32 (b 32)) 25 (b 25)) 26 (b 26)) 36 (b 36)) 37 (b 37)) 38 (b 38)) bw) := hD
        exact W.iret (v := (-1)) hx hb hr (fun tt ht hW => ⟨⟨(-1), ⟨(b 2), (u 33), (u 34), (u 30), (u 28), (u 29), (u 31), (u 35), (b 32), (b 25), (b 26), (b 36), (b 37), (b 38)⟩, rfl, trivial, by rw [ht]; exact hP, hD⟩, hS.F ht⟩) hS.2.2 dX12_stand_25
set_option maxHeartbeats 4000000 in
set_option maxRecDepth 100000 in
theorem k_X12_takes (l : Launch) (D : va_G) (cs : Nat → ClassId) (A : Nat → Prop) (bd : Nat → Nat) (u : Nat → Int32) (b : Nat → Nat → Int32) (bw : Nat → Nat → Int64)  (p1 : Int32) (h1 : 0 ≤ p1.toInt) (h2 : p1.toInt < 8) : Met l yX12_takes (Cond.code yX12_takes cX12_takes 2 (some .int) :: gw) ({ frames := 0, cells := 0, slots := 0, locals := 0 }) (va_Pc [.ref (bd 0), .int p1] (XPre D (TY cs) (RW cs bd u b bw) A)) (vp_Si (fun (r : Int32) => True)) 0 0 (fun _ => False) := by
  refine Met.ofW (cc := cX12_takes) (maxL := 2) (ret := (some .int)) (by decide) rfl ?_
  intro p e s m args below meth c s₁ B hml hv
  obtain ⟨rfl, hP, hK, hD, hZ⟩ := hv
  have hx := B.exec
  have hb := B.bytes
  have hr := B.returns
  have hts := atoms_spec (ws := (Cond.code yX12_takes cX12_takes 2 (some .int) :: gw)) B.pre
  have hg : ∀ w ∈ gw, w.before ([.ref (bd 0), .int p1] : List Value).toArray s = true := fun w h => hts w (List.mem_cons_of_mem _ h)
  have hown : s.vm.findClass RX12 = some m.cls := findClass_of_methodNamed B.named
  have hlocks := B.notSynchronized
  have hS : va_S A s.heap s.heap [] := va_S.rf
  have hl := lv_entry ([.ref (bd 0), .int p1]) (n := 2) (Nat.le_of_ble_eq_true rfl)
  rw [lg_entry_eq]
  generalize (lg_sl ([.ref (bd 0), .int p1]) ++ List.replicate (2 - (lg_sl ([.ref (bd 0), .int p1])).length) Slot.unset).toArray = ls at hl ⊢
  have hl : lv_has ls 2 [(0, .ref (bd 0)), (1, .int p1)] := hl
  refine lv_aload_n hx hb dX12_takes_0 rfl (lv_at hl 0 rfl) ?_
  refine gr_pads hx hb hg hown hK hP (hg _ q4_236) dX12_takes_1 ?_
  refine lv_iload_n hx hb dX12_takes_4 rfl (lv_at hl 1 rfl) ?_
  refine lr_pads hx hb hK hP (i_in (by omega) (by omega)) dX12_takes_5 ?_
  refine lv_topi (fun x_1 ex_1 => ?_)
  have ex_1 : x_1 = (b 4) p1.toNatClampNeg := ex_1
  have hx_1 : x_1.toInt = ((b 4) p1.toNatClampNeg).toInt := by rw [ex_1]
  refine lv_if_le (tgt := 20) hx hb dX12_takes_6 (by decide) (fun c_2 => ?_) (fun c_2 => ?_)
  ·
    have kc_2 : x_1.toInt ≤ (0 : Int) := i_le c_2
    refine lv_aload_n hx hb dX12_takes_20 rfl (lv_at hl 0 rfl) ?_
    refine gr_pay hx hb hg hown hK hP (hg _ q4_237) dX12_takes_21 ?_
    refine lv_iload_n hx hb dX12_takes_24 rfl (lv_at hl 1 rfl) ?_
    refine lr_pay hx hb hK hP (i_in (by omega) (by omega)) dX12_takes_25 ?_
    refine lv_topi (fun x_3 ex_3 => ?_)
    have ex_3 : x_3 = (b 5) p1.toNatClampNeg := ex_3
    have hx_3 : x_3.toInt = ((b 5) p1.toNatClampNeg).toInt := by rw [ex_3]
    exact W.iret (v := x_3) hx hb hr (fun tt ht hW => ⟨x_3, rfl, trivial, ht⟩) (fun _ h => by cases h) dX12_takes_26
  ·
    have kc_2 : (0 : Int) < x_1.toInt := i_nle c_2
    refine lv_aload_n hx hb dX12_takes_9 rfl (lv_at hl 0 rfl) ?_
    refine gr_pay hx hb hg hown hK hP (hg _ q4_237) dX12_takes_10 ?_
    refine lv_iload_n hx hb dX12_takes_13 rfl (lv_at hl 1 rfl) ?_
    refine lr_pay hx hb hK hP (i_in (by omega) (by omega)) dX12_takes_14 ?_
    refine lv_topi (fun x_4 ex_4 => ?_)
    have ex_4 : x_4 = (b 5) p1.toNatClampNeg := ex_4
    have hx_4 : x_4.toInt = ((b 5) p1.toNatClampNeg).toInt := by rw [ex_4]
    refine lv_iconst (v := 2) hx hb dX12_takes_15 (by decide) ?_
    refine lv_idiv hx hb dX12_takes_16 (by decide) ?_
    refine lv_topi (fun x_5 ex_5 => ?_)
    refine lv_goto (tgt := 26) hx hb dX12_takes_17 (by decide) ?_
    exact W.iret (v := x_5) hx hb hr (fun tt ht hW => ⟨x_5, rfl, trivial, ht⟩) (fun _ h => by cases h) dX12_takes_26
set_option maxHeartbeats 4000000 in
set_option maxRecDepth 100000 in
theorem k_X12_crier (l : Launch) (D : va_G) (cs : Nat → ClassId) (A : Nat → Prop) (bd : Nat → Nat) (u : Nat → Int32) (b : Nat → Nat → Int32) (bw : Nat → Nat → Int64)  (p1 : Int32) (p2 : Int32) (iu1_0 : 0 ≤ (u 1).toInt) (iu1_1 : (u 1).toInt ≤ 8) : Met l yX12_crier (Cond.code yX12_crier cX12_crier 5 (some .int) :: gw) ({ frames := 4, cells := 0, slots := 0, locals := 85 }) (va_Pc [.ref (bd 0), .int p1, .int p2] (XPre D (TY cs) (RW cs bd u b bw) A)) (vp_Si (fun (r : Int32) => True)) 0 0 (fun _ => False) := by
  refine Met.ofW (cc := cX12_crier) (maxL := 5) (ret := (some .int)) (by decide) rfl ?_
  intro p e s m args below meth c s₁ B hml hv
  obtain ⟨rfl, hP, hK, hD, hZ⟩ := hv
  have hx := B.exec
  have hb := B.bytes
  have hr := B.returns
  have hts := atoms_spec (ws := (Cond.code yX12_crier cX12_crier 5 (some .int) :: gw)) B.pre
  have hg : ∀ w ∈ gw, w.before ([.ref (bd 0), .int p1, .int p2] : List Value).toArray s = true := fun w h => hts w (List.mem_cons_of_mem _ h)
  have hown : s.vm.findClass RX12 = some m.cls := findClass_of_methodNamed B.named
  have hlocks := B.notSynchronized
  have hS : va_S A s.heap s.heap [] := va_S.rf
  have hl := lv_entry ([.ref (bd 0), .int p1, .int p2]) (n := 5) (Nat.le_of_ble_eq_true rfl)
  rw [lg_entry_eq]
  generalize (lg_sl ([.ref (bd 0), .int p1, .int p2]) ++ List.replicate (5 - (lg_sl ([.ref (bd 0), .int p1, .int p2])).length) Slot.unset).toArray = ls at hl ⊢
  have hl : lv_has ls 5 [(0, .ref (bd 0)), (1, .int p1), (2, .int p2)] := hl
  have hcut : ∀ nk : Nat, (∀ (x3 : Int32) (x4 : Int32) (i3 : -2 ≤ x3.toInt) (i3b : x3.toInt < (u 1).toInt) (i4 : 0 ≤ x4.toInt) (hmu : ((u 1).toInt - x4.toInt).toNat < nk) (ls : Array Slot) (hl : lv_has ls 5 [(0, .ref (bd 0)), (1, .int p1), (2, .int p2), (3, .int x3), (4, .int x4)]), W p l e (headSpec (Cond.code yX12_crier cX12_crier 5 (some .int) :: gw) ({ frames := 4, cells := 0, slots := 0, locals := 85 })).room s m ([.ref (bd 0), .int p1, .int p2] : List Value).toArray below meth c s.heap [] 0 0 (MQ below (vp_Si (fun (r : Int32) => True)) ([.ref (bd 0), .int p1, .int p2] : List Value).toArray s 0 0 (fun _ => False)) (F0 m 25 ls [])) := by
    intro nk
    induction nk with
    | zero => exact (fun x3 x4 i3 i3b i4 hmu ls hl => absurd hmu (Nat.not_lt_zero _))
    | succ nk ih =>
      intro x3 x4 i3 i3b i4 hmu ls hl
      refine lv_iload hx hb dX12_crier_25 (lv_at hl 4 rfl) ?_
      refine lv_aload_n hx hb dX12_crier_27 rfl (lv_at hl 0 rfl) ?_
      refine gr_people1 hx hb hg hown hK hP (x := (u 1)) rfl (hg _ q4_233) dX12_crier_28 ?_
      refine lv_icmp_ge (tgt := 82) hx hb dX12_crier_31 (by decide) (fun c_1 => ?_) (fun c_1 => ?_)
      ·
        have kc_1 : (u 1).toInt ≤ x4.toInt := i_le c_1
        refine lv_iload_n hx hb dX12_crier_82 rfl (lv_at hl 3 rfl) ?_
        refine lv_if_lt (tgt := 90) hx hb dX12_crier_83 (by decide) (fun c_2 => ?_) (fun c_2 => ?_)
        ·
          have kc_2 : x3.toInt < (0 : Int) := i_lt c_2
          refine lv_iload_n hx hb dX12_crier_90 rfl (lv_at hl 3 rfl) ?_
          refine lv_goto (tgt := 99) hx hb dX12_crier_91 (by decide) ?_
          exact W.iret (v := x3) hx hb hr (fun tt ht hW => ⟨x3, rfl, trivial, ht⟩) (fun _ h => by cases h) dX12_crier_99
        ·
          have kc_2 : (0 : Int) ≤ x3.toInt := i_nlt c_2
          refine lv_iload_n hx hb dX12_crier_86 rfl (lv_at hl 2 rfl) ?_
          refine lv_if_ne (tgt := 94) hx hb dX12_crier_87 (by decide) (fun c_3 => ?_) (fun c_3 => ?_)
          ·
            have kc_3 : p2.toInt ≠ (0 : Int) := i_ne c_3
            refine lv_aload_n hx hb dX12_crier_94 rfl (lv_at hl 0 rfl) ?_
            refine lv_iload_n hx hb dX12_crier_95 rfl (lv_at hl 3 rfl) ?_
            refine cV_ro (As := [.int x3]) (rest := []) ⟨hx, hb, hml, hown, hg⟩ (k_X12_takes l D cs A bd u b bw  x3 (show 0 ≤ x3.toInt by first | omega | decide) (show x3.toInt < 8 by first | omega | decide)) ca_X12_takes q6_223 ⟨rfl, rfl⟩ ⟨Nat.le_of_ble_eq_true rfl, Nat.le_of_ble_eq_true rfl⟩ (rc_model hK hP) hK hP hD hS hZ rfl hl.1 rfl (Nat.le_of_ble_eq_true rfl) ⟨Nat.zero_le _, Nat.zero_le _⟩ dX12_crier_96 (fun r_4 wr_4 => ?_)
            have wr_4_0 : True := wr_4
            exact W.iret (v := r_4) hx hb hr (fun tt ht hW => ⟨r_4, rfl, trivial, ht⟩) (fun _ h => by cases h) dX12_crier_99
          ·
            have kc_3 : p2.toInt = (0 : Int) := i_eq c_3
            refine lv_iload_n hx hb dX12_crier_90 rfl (lv_at hl 3 rfl) ?_
            refine lv_goto (tgt := 99) hx hb dX12_crier_91 (by decide) ?_
            exact W.iret (v := x3) hx hb hr (fun tt ht hW => ⟨x3, rfl, trivial, ht⟩) (fun _ h => by cases h) dX12_crier_99
      ·
        have kc_1 : x4.toInt < (u 1).toInt := i_nle c_1
        refine lv_iload hx hb dX12_crier_34 (lv_at hl 4 rfl) ?_
        refine lv_iload_n hx hb dX12_crier_36 rfl (lv_at hl 1 rfl) ?_
        refine lv_icmp_eq (tgt := 76) hx hb dX12_crier_37 (by decide) (fun c_5 => ?_) (fun c_5 => ?_)
        ·
          have kc_5 : x4.toInt = p1.toInt := i_eq c_5
          obtain ⟨x_6, ex_6⟩ : ∃ y : Int32, y = x4 + 1 := ⟨_, rfl⟩
          have fx_6 : x_6.toInt = x4.toInt + 1 := by rw [ex_6]; exact i_add (by first | omega | (show (_ : Int) ≤ x4.toInt + 1; omega)) (by first | omega | (show x4.toInt + 1 ≤ (_ : Int); omega))
          refine lv_iinc (v := x_6) (lv' := [(4, .int x_6), (0, .ref (bd 0)), (1, .int p1), (2, .int p2), (3, .int x3)]) hx hb dX12_crier_76 hl (k := 4) rfl (by rw [ex_6]; rfl) (by decide) rfl (fun ls hl => ?_)
          refine lv_goto (tgt := 25) hx hb dX12_crier_79 (by decide) ?_
          exact ih x3 x_6 (by omega) (by omega) (by omega) (by omega) ls (lv_sub hl [1, 2, 3, 4, 0] rfl)
        ·
          have kc_5 : x4.toInt ≠ p1.toInt := i_ne c_5
          refine lv_aload_n hx hb dX12_crier_40 rfl (lv_at hl 0 rfl) ?_
          refine cV_ro (As := []) (rest := []) ⟨hx, hb, hml, hown, hg⟩ (k_X12_reach l D cs A bd u b bw   (show 0 ≤ (u 1).toInt by first | omega | decide) (show (u 1).toInt ≤ 8 by first | omega | decide)) ca_X12_reach q6_222 ⟨rfl, rfl⟩ ⟨Nat.le_of_ble_eq_true rfl, Nat.le_of_ble_eq_true rfl⟩ (rc_model hK hP) hK hP hD hS hZ rfl hl.1 rfl (Nat.le_of_ble_eq_true rfl) ⟨Nat.zero_le _, Nat.zero_le _⟩ dX12_crier_41 (fun r_7 wr_7 => ?_)
          have wr_7_0 : True := wr_7
          refine lv_iload hx hb dX12_crier_44 (lv_at hl 4 rfl) ?_
          refine lv_ishr hx hb dX12_crier_46 ?_
          refine lv_topi (fun x_8 ex_8 => ?_)
          refine lv_iconst (v := 1) hx hb dX12_crier_47 (by decide) ?_
          refine lv_iand hx hb dX12_crier_48 ?_
          refine lv_topi (fun x_9 ex_9 => ?_)
          refine lv_if_ne (tgt := 55) hx hb dX12_crier_49 (by decide) (fun c_10 => ?_) (fun c_10 => ?_)
          ·
            have kc_10 : x_9.toInt ≠ (0 : Int) := i_ne c_10
            refine lv_iload_n hx hb dX12_crier_55 rfl (lv_at hl 3 rfl) ?_
            refine lv_if_lt (tgt := 73) hx hb dX12_crier_56 (by decide) (fun c_11 => ?_) (fun c_11 => ?_)
            ·
              have kc_11 : x3.toInt < (0 : Int) := i_lt c_11
              refine lv_iload hx hb dX12_crier_73 (lv_at hl 4 rfl) ?_
              refine lv_istore_n (lv' := [(3, .int x4), (0, .ref (bd 0)), (1, .int p1), (2, .int p2), (4, .int x4)]) hx hb dX12_crier_75 rfl hl (by decide) rfl (fun ls hl => ?_)
              obtain ⟨x_12, ex_12⟩ : ∃ y : Int32, y = x4 + 1 := ⟨_, rfl⟩
              have fx_12 : x_12.toInt = x4.toInt + 1 := by rw [ex_12]; exact i_add (by first | omega | (show (_ : Int) ≤ x4.toInt + 1; omega)) (by first | omega | (show x4.toInt + 1 ≤ (_ : Int); omega))
              refine lv_iinc (v := x_12) (lv' := [(4, .int x_12), (3, .int x4), (0, .ref (bd 0)), (1, .int p1), (2, .int p2)]) hx hb dX12_crier_76 hl (k := 4) rfl (by rw [ex_12]; rfl) (by decide) rfl (fun ls hl => ?_)
              refine lv_goto (tgt := 25) hx hb dX12_crier_79 (by decide) ?_
              exact ih x4 x_12 (by omega) (by omega) (by omega) (by omega) ls (lv_sub hl [2, 3, 4, 1, 0] rfl)
            ·
              have kc_11 : (0 : Int) ≤ x3.toInt := i_nlt c_11
              refine lv_aload_n hx hb dX12_crier_59 rfl (lv_at hl 0 rfl) ?_
              refine lv_iload hx hb dX12_crier_60 (lv_at hl 4 rfl) ?_
              refine cV_ro (As := [.int x4]) (rest := []) ⟨hx, hb, hml, hown, hg⟩ (k_X12_takes l D cs A bd u b bw  x4 (show 0 ≤ x4.toInt by first | omega | decide) (show x4.toInt < 8 by first | omega | decide)) ca_X12_takes q6_223 ⟨rfl, rfl⟩ ⟨Nat.le_of_ble_eq_true rfl, Nat.le_of_ble_eq_true rfl⟩ (rc_model hK hP) hK hP hD hS hZ rfl hl.1 rfl (Nat.le_of_ble_eq_true rfl) ⟨Nat.zero_le _, Nat.zero_le _⟩ dX12_crier_62 (fun r_13 wr_13 => ?_)
              have wr_13_0 : True := wr_13
              refine lv_aload_n hx hb dX12_crier_65 rfl (lv_at hl 0 rfl) ?_
              refine lv_iload_n hx hb dX12_crier_66 rfl (lv_at hl 3 rfl) ?_
              refine cV_ro (As := [.int x3]) (rest := [.int r_13]) ⟨hx, hb, hml, hown, hg⟩ (k_X12_takes l D cs A bd u b bw  x3 (show 0 ≤ x3.toInt by first | omega | decide) (show x3.toInt < 8 by first | omega | decide)) ca_X12_takes q6_223 ⟨rfl, rfl⟩ ⟨Nat.le_of_ble_eq_true rfl, Nat.le_of_ble_eq_true rfl⟩ (rc_model hK hP) hK hP hD hS hZ rfl hl.1 rfl (Nat.le_of_ble_eq_true rfl) ⟨Nat.zero_le _, Nat.zero_le _⟩ dX12_crier_67 (fun r_14 wr_14 => ?_)
              have wr_14_0 : True := wr_14
              refine lv_icmp_ge (tgt := 76) hx hb dX12_crier_70 (by decide) (fun c_15 => ?_) (fun c_15 => ?_)
              ·
                have kc_15 : r_14.toInt ≤ r_13.toInt := i_le c_15
                obtain ⟨x_16, ex_16⟩ : ∃ y : Int32, y = x4 + 1 := ⟨_, rfl⟩
                have fx_16 : x_16.toInt = x4.toInt + 1 := by rw [ex_16]; exact i_add (by first | omega | (show (_ : Int) ≤ x4.toInt + 1; omega)) (by first | omega | (show x4.toInt + 1 ≤ (_ : Int); omega))
                refine lv_iinc (v := x_16) (lv' := [(4, .int x_16), (0, .ref (bd 0)), (1, .int p1), (2, .int p2), (3, .int x3)]) hx hb dX12_crier_76 hl (k := 4) rfl (by rw [ex_16]; rfl) (by decide) rfl (fun ls hl => ?_)
                refine lv_goto (tgt := 25) hx hb dX12_crier_79 (by decide) ?_
                exact ih x3 x_16 (by omega) (by omega) (by omega) (by omega) ls (lv_sub hl [1, 2, 3, 4, 0] rfl)
              ·
                have kc_15 : r_13.toInt < r_14.toInt := i_nle c_15
                refine lv_iload hx hb dX12_crier_73 (lv_at hl 4 rfl) ?_
                refine lv_istore_n (lv' := [(3, .int x4), (0, .ref (bd 0)), (1, .int p1), (2, .int p2), (4, .int x4)]) hx hb dX12_crier_75 rfl hl (by decide) rfl (fun ls hl => ?_)
                obtain ⟨x_17, ex_17⟩ : ∃ y : Int32, y = x4 + 1 := ⟨_, rfl⟩
                have fx_17 : x_17.toInt = x4.toInt + 1 := by rw [ex_17]; exact i_add (by first | omega | (show (_ : Int) ≤ x4.toInt + 1; omega)) (by first | omega | (show x4.toInt + 1 ≤ (_ : Int); omega))
                refine lv_iinc (v := x_17) (lv' := [(4, .int x_17), (3, .int x4), (0, .ref (bd 0)), (1, .int p1), (2, .int p2)]) hx hb dX12_crier_76 hl (k := 4) rfl (by rw [ex_17]; rfl) (by decide) rfl (fun ls hl => ?_)
                refine lv_goto (tgt := 25) hx hb dX12_crier_79 (by decide) ?_
                exact ih x4 x_17 (by omega) (by omega) (by omega) (by omega) ls (lv_sub hl [2, 3, 4, 1, 0] rfl)
          ·
            have kc_10 : x_9.toInt = (0 : Int) := i_eq c_10
            refine lv_goto (tgt := 76) hx hb dX12_crier_52 (by decide) ?_
            obtain ⟨x_18, ex_18⟩ : ∃ y : Int32, y = x4 + 1 := ⟨_, rfl⟩
            have fx_18 : x_18.toInt = x4.toInt + 1 := by rw [ex_18]; exact i_add (by first | omega | (show (_ : Int) ≤ x4.toInt + 1; omega)) (by first | omega | (show x4.toInt + 1 ≤ (_ : Int); omega))
            refine lv_iinc (v := x_18) (lv' := [(4, .int x_18), (0, .ref (bd 0)), (1, .int p1), (2, .int p2), (3, .int x3)]) hx hb dX12_crier_76 hl (k := 4) rfl (by rw [ex_18]; rfl) (by decide) rfl (fun ls hl => ?_)
            refine lv_goto (tgt := 25) hx hb dX12_crier_79 (by decide) ?_
            exact ih x3 x_18 (by omega) (by omega) (by omega) (by omega) ls (lv_sub hl [1, 2, 3, 4, 0] rfl)
  refine lv_aload_n hx hb dX12_crier_0 rfl (lv_at hl 0 rfl) ?_
  refine lv_iload_n hx hb dX12_crier_1 rfl (lv_at hl 1 rfl) ?_
  refine cV_ro (As := [.int p1]) (rest := []) ⟨hx, hb, hml, hown, hg⟩ (k_X12_isOne l D cs A bd u b bw  p1 (show 0 ≤ (u 1).toInt by first | omega | decide) (show (u 1).toInt ≤ 8 by first | omega | decide)) ca_X12_isOne q6_7 ⟨rfl, rfl⟩ ⟨Nat.le_of_ble_eq_true rfl, Nat.le_of_ble_eq_true rfl⟩ (rc_model hK hP) hK hP hD hS hZ rfl hl.1 rfl (Nat.le_of_ble_eq_true rfl) ⟨Nat.zero_le _, Nat.zero_le _⟩ dX12_crier_2 (fun r_19 wr_19 => ?_)
  have wr_19_0 : (r_19.toInt = 1 ∧ 0 ≤ p1.toInt ∧ p1.toInt < (u 1).toInt) ∨ (r_19.toInt = 0 ∧ ¬ (0 ≤ p1.toInt ∧ p1.toInt < (u 1).toInt)) := wr_19
  refine lv_if_eq (tgt := 17) hx hb dX12_crier_5 (by decide) (fun c_20 => ?_) (fun c_20 => ?_)
  ·
    have kc_20 : r_19.toInt = (0 : Int) := i_eq c_20
    refine lv_iconst (v := (-1)) hx hb dX12_crier_17 (by decide) ?_
    have q0_m1 : ((-1) : Int32).toInt = (-1) := rfl
    exact W.iret (v := (-1)) hx hb hr (fun tt ht hW => ⟨(-1), rfl, trivial, ht⟩) (fun _ h => by cases h) dX12_crier_18
  ·
    have kc_20 : r_19.toInt ≠ (0 : Int) := i_ne c_20
    refine lv_iload_n hx hb dX12_crier_8 rfl (lv_at hl 2 rfl) ?_
    refine lv_iconst (v := 0) hx hb dX12_crier_9 (by decide) ?_
    refine lv_iconst (v := 1) hx hb dX12_crier_10 (by decide) ?_
    refine cS_p (As := [.int p2, .int 0, .int 1]) (rest := []) ⟨hx, hb, hml, hown, hg⟩ (k_X12_in l   p2 0 1 ) ca_X12_in q5_212 ⟨rfl, rfl⟩ ⟨Nat.le_of_ble_eq_true rfl, Nat.le_of_ble_eq_true rfl⟩ rfl hl.1 rfl (Nat.le_of_ble_eq_true rfl) ⟨Nat.zero_le _, Nat.zero_le _⟩ dX12_crier_11 (fun r_21 wr_21 => ?_)
    have wr_21 : (r_21.toInt = 1 ∧ (0 : Int) ≤ p2.toInt ∧ p2.toInt ≤ (1 : Int)) ∨ (r_21.toInt = 0 ∧ ¬ ((0 : Int) ≤ p2.toInt ∧ p2.toInt ≤ (1 : Int))) := wr_21
    refine lv_if_ne (tgt := 19) hx hb dX12_crier_14 (by decide) (fun c_22 => ?_) (fun c_22 => ?_)
    ·
      have kc_22 : r_21.toInt ≠ (0 : Int) := i_ne c_22
      refine lv_bipush (v := (-2)) hx hb dX12_crier_19 (by decide) ?_
      refine lv_istore_n (lv' := [(3, .int (-2)), (0, .ref (bd 0)), (1, .int p1), (2, .int p2)]) hx hb dX12_crier_21 rfl hl (by decide) rfl (fun ls hl => ?_)
      refine lv_iconst (v := 0) hx hb dX12_crier_22 (by decide) ?_
      refine lv_istore (lv' := [(4, .int 0), (3, .int (-2)), (0, .ref (bd 0)), (1, .int p1), (2, .int p2)]) hx hb dX12_crier_23 hl (by decide) rfl (fun ls hl => ?_)
      have q0_m2 : ((-2) : Int32).toInt = (-2) := rfl
      have q0_0 : (0 : Int32).toInt = 0 := rfl
      exact (hcut ((((u 1).toInt - (0 : Int32).toInt).toNat) + 1)) (-2) 0 (by omega) (by omega) (by omega) (Nat.lt_succ_self _) ls (lv_sub hl [2, 3, 4, 1, 0] rfl)
    ·
      have kc_22 : r_21.toInt = (0 : Int) := i_eq c_22
      refine lv_iconst (v := (-1)) hx hb dX12_crier_17 (by decide) ?_
      have q0_m1 : ((-1) : Int32).toInt = (-1) := rfl
      exact W.iret (v := (-1)) hx hb hr (fun tt ht hW => ⟨(-1), rfl, trivial, ht⟩) (fun _ h => by cases h) dX12_crier_18
set_option maxHeartbeats 4000000 in
set_option maxRecDepth 100000 in
theorem k_X12_keepNear (l : Launch) (D : va_G) (cs : Nat → ClassId) (A : Nat → Prop) (bd : Nat → Nat) (u : Nat → Int32) (b : Nat → Nat → Int32) (bw : Nat → Nat → Int64)  (p1 : Int32) (iu1_0 : 0 ≤ (u 1).toInt) (iu1_1 : (u 1).toInt ≤ 8) : Met l yX12_keepNear (Cond.code yX12_keepNear cX12_keepNear 6 (some .int) :: gw) ({ frames := 2, cells := 0, slots := 0, locals := 43 }) (va_Pc [.ref (bd 0), .int p1] (XPre D (TY cs) (RW cs bd u b bw) A)) (vp_Si (fun (r : Int32) => True)) 0 0 (fun _ => False) := by
  refine Met.ofW (cc := cX12_keepNear) (maxL := 6) (ret := (some .int)) (by decide) rfl ?_
  intro p e s m args below meth c s₁ B hml hv
  obtain ⟨rfl, hP, hK, hD, hZ⟩ := hv
  have hx := B.exec
  have hb := B.bytes
  have hr := B.returns
  have hts := atoms_spec (ws := (Cond.code yX12_keepNear cX12_keepNear 6 (some .int) :: gw)) B.pre
  have hg : ∀ w ∈ gw, w.before ([.ref (bd 0), .int p1] : List Value).toArray s = true := fun w h => hts w (List.mem_cons_of_mem _ h)
  have hown : s.vm.findClass RX12 = some m.cls := findClass_of_methodNamed B.named
  have hlocks := B.notSynchronized
  have hS : va_S A s.heap s.heap [] := va_S.rf
  have hl := lv_entry ([.ref (bd 0), .int p1]) (n := 6) (Nat.le_of_ble_eq_true rfl)
  rw [lg_entry_eq]
  generalize (lg_sl ([.ref (bd 0), .int p1]) ++ List.replicate (6 - (lg_sl ([.ref (bd 0), .int p1])).length) Slot.unset).toArray = ls at hl ⊢
  have hl : lv_has ls 6 [(0, .ref (bd 0)), (1, .int p1)] := hl
  have hcut : ∀ nk : Nat, (∀ (x2 : Int32) (x3 : Int32) (j1 : 0 ≤ p1.toInt) (j2 : p1.toInt < (u 1).toInt) (i2 : -2 ≤ x2.toInt) (i2b : x2.toInt < (u 1).toInt) (i3 : 0 ≤ x3.toInt) (hmu : ((u 1).toInt - x3.toInt).toNat < nk) (ls : Array Slot) (hl : lv_has ls 6 [(0, .ref (bd 0)), (1, .int p1), (2, .int x2), (3, .int x3)]), W p l e (headSpec (Cond.code yX12_keepNear cX12_keepNear 6 (some .int) :: gw) ({ frames := 2, cells := 0, slots := 0, locals := 43 })).room s m ([.ref (bd 0), .int p1] : List Value).toArray below meth c s.heap [] 0 0 (MQ below (vp_Si (fun (r : Int32) => True)) ([.ref (bd 0), .int p1] : List Value).toArray s 0 0 (fun _ => False)) (F0 m 15 ls [])) := by
    intro nk
    induction nk with
    | zero => exact (fun x2 x3 j1 j2 i2 i2b i3 hmu ls hl => absurd hmu (Nat.not_lt_zero _))
    | succ nk ih =>
      intro x2 x3 j1 j2 i2 i2b i3 hmu ls hl
      refine lv_iload_n hx hb dX12_keepNear_15 rfl (lv_at hl 3 rfl) ?_
      refine lv_aload_n hx hb dX12_keepNear_16 rfl (lv_at hl 0 rfl) ?_
      refine gr_people1 hx hb hg hown hK hP (x := (u 1)) rfl (hg _ q4_233) dX12_keepNear_17 ?_
      refine lv_icmp_ge (tgt := 114) hx hb dX12_keepNear_20 (by decide) (fun c_1 => ?_) (fun c_1 => ?_)
      ·
        have kc_1 : (u 1).toInt ≤ x3.toInt := i_le c_1
        refine lv_iload_n hx hb dX12_keepNear_114 rfl (lv_at hl 2 rfl) ?_
        exact W.iret (v := x2) hx hb hr (fun tt ht hW => ⟨x2, rfl, trivial, ht⟩) (fun _ h => by cases h) dX12_keepNear_115
      ·
        have kc_1 : x3.toInt < (u 1).toInt := i_nle c_1
        refine lv_iload_n hx hb dX12_keepNear_23 rfl (lv_at hl 3 rfl) ?_
        refine lv_iload_n hx hb dX12_keepNear_24 rfl (lv_at hl 1 rfl) ?_
        refine lv_icmp_ne (tgt := 31) hx hb dX12_keepNear_25 (by decide) (fun c_2 => ?_) (fun c_2 => ?_)
        ·
          have kc_2 : x3.toInt ≠ p1.toInt := i_ne c_2
          refine lv_aload_n hx hb dX12_keepNear_31 rfl (lv_at hl 0 rfl) ?_
          refine gr_cellOf hx hb hg hown hK hP (hg _ q4_234) dX12_keepNear_32 ?_
          refine lv_iload_n hx hb dX12_keepNear_35 rfl (lv_at hl 3 rfl) ?_
          refine lr_cellOf hx hb hK hP (i_in (by omega) (by omega)) dX12_keepNear_36 ?_
          refine lv_topi (fun x_3 ex_3 => ?_)
          have ex_3 : x_3 = (b 2) x3.toNatClampNeg := ex_3
          have hx_3 : x_3.toInt = ((b 2) x3.toNatClampNeg).toInt := by rw [ex_3]
          refine lv_aload_n hx hb dX12_keepNear_37 rfl (lv_at hl 0 rfl) ?_
          refine gr_cellOf hx hb hg hown hK hP (hg _ q4_234) dX12_keepNear_38 ?_
          refine lv_iload_n hx hb dX12_keepNear_41 rfl (lv_at hl 1 rfl) ?_
          refine lr_cellOf hx hb hK hP (i_in (by omega) (by omega)) dX12_keepNear_42 ?_
          refine lv_topi (fun x_4 ex_4 => ?_)
          have ex_4 : x_4 = (b 2) p1.toNatClampNeg := ex_4
          have hx_4 : x_4.toInt = ((b 2) p1.toNatClampNeg).toInt := by rw [ex_4]
          refine cS_p (As := [.int x_3, .int x_4]) (rest := []) ⟨hx, hb, hml, hown, hg⟩ (k_X12_far l   x_3 x_4 ) ca_X12_far q6_101 ⟨rfl, rfl⟩ ⟨Nat.le_of_ble_eq_true rfl, Nat.le_of_ble_eq_true rfl⟩ rfl hl.1 rfl (Nat.le_of_ble_eq_true rfl) ⟨Nat.zero_le _, Nat.zero_le _⟩ dX12_keepNear_43 (fun r_5 wr_5 => ?_)
          refine lv_istore (lv' := [(4, .int r_5), (0, .ref (bd 0)), (1, .int p1), (2, .int x2), (3, .int x3)]) hx hb dX12_keepNear_46 hl (by decide) rfl (fun ls hl => ?_)
          refine lv_iload_n hx hb dX12_keepNear_48 rfl (lv_at hl 3 rfl) ?_
          refine lv_if_ge (tgt := 56) hx hb dX12_keepNear_49 (by decide) (fun c_6 => ?_) (fun c_6 => ?_)
          ·
            have kc_6 : (0 : Int) ≤ x2.toInt := i_le c_6
            refine lv_aload_n hx hb dX12_keepNear_56 rfl (lv_at hl 1 rfl) ?_
            refine gr_cellOf hx hb hg hown hK hP (hg _ q4_234) dX12_keepNear_57 ?_
            refine lv_iload_n hx hb dX12_keepNear_60 rfl (lv_at hl 3 rfl) ?_
            refine lr_cellOf hx hb hK hP (i_in (by omega) (by omega)) dX12_keepNear_61 ?_
            refine lv_topi (fun x_7 ex_7 => ?_)
            have ex_7 : x_7 = (b 2) x2.toNatClampNeg := ex_7
            have hx_7 : x_7.toInt = ((b 2) x2.toNatClampNeg).toInt := by rw [ex_7]
            refine lv_aload_n hx hb dX12_keepNear_62 rfl (lv_at hl 1 rfl) ?_
            refine gr_cellOf hx hb hg hown hK hP (hg _ q4_234) dX12_keepNear_63 ?_
            refine lv_iload_n hx hb dX12_keepNear_66 rfl (lv_at hl 2 rfl) ?_
            refine lr_cellOf hx hb hK hP (i_in (by omega) (by omega)) dX12_keepNear_67 ?_
            refine lv_topi (fun x_8 ex_8 => ?_)
            have ex_8 : x_8 = (b 2) p1.toNatClampNeg := ex_8
            have hx_8 : x_8.toInt = ((b 2) p1.toNatClampNeg).toInt := by rw [ex_8]
            refine cS_p (As := [.int x_7, .int x_8]) (rest := []) ⟨hx, hb, hml, hown, hg⟩ (k_X12_far l   x_7 x_8 ) ca_X12_far q6_101 ⟨rfl, rfl⟩ ⟨Nat.le_of_ble_eq_true rfl, Nat.le_of_ble_eq_true rfl⟩ rfl hl.1 rfl (Nat.le_of_ble_eq_true rfl) ⟨Nat.zero_le _, Nat.zero_le _⟩ dX12_keepNear_68 (fun r_9 wr_9 => ?_)
            refine lv_istore (lv' := [(5, .int r_9), (4, .int r_5), (0, .ref (bd 0)), (1, .int p1), (2, .int x2), (3, .int x3)]) hx hb dX12_keepNear_71 hl (by decide) rfl (fun ls hl => ?_)
            refine lv_iload_n hx hb dX12_keepNear_73 rfl (lv_at hl 4 rfl) ?_
            refine lv_if_lt (tgt := 106) hx hb dX12_keepNear_74 (by decide) (fun c_10 => ?_) (fun c_10 => ?_)
            ·
              have kc_10 : x2.toInt < (0 : Int) := i_lt c_10
              exfalso; omega
            ·
              have kc_10 : (0 : Int) ≤ x2.toInt := i_nlt c_10
              refine lv_iload hx hb dX12_keepNear_77 (lv_at hl 1 rfl) ?_
              refine lv_iload hx hb dX12_keepNear_79 (lv_at hl 0 rfl) ?_
              refine lv_icmp_lt (tgt := 106) hx hb dX12_keepNear_81 (by decide) (fun c_11 => ?_) (fun c_11 => ?_)
              ·
                have kc_11 : r_5.toInt < r_9.toInt := i_lt c_11
                refine lv_iload_n hx hb dX12_keepNear_106 rfl (lv_at hl 5 rfl) ?_
                refine lv_istore_n (lv' := [(2, .int x3), (5, .int r_9), (4, .int r_5), (0, .ref (bd 0)), (1, .int p1), (3, .int x3)]) hx hb dX12_keepNear_107 rfl hl (by decide) rfl (fun ls hl => ?_)
                obtain ⟨x_12, ex_12⟩ : ∃ y : Int32, y = x3 + 1 := ⟨_, rfl⟩
                have fx_12 : x_12.toInt = x3.toInt + 1 := by rw [ex_12]; exact i_add (by first | omega | (show (_ : Int) ≤ x3.toInt + 1; omega)) (by first | omega | (show x3.toInt + 1 ≤ (_ : Int); omega))
                refine lv_iinc (v := x_12) (lv' := [(3, .int x_12), (2, .int x3), (5, .int r_9), (4, .int r_5), (0, .ref (bd 0)), (1, .int p1)]) hx hb dX12_keepNear_108 hl (k := 5) rfl (by rw [ex_12]; rfl) (by decide) rfl (fun ls hl => ?_)
                refine lv_goto (tgt := 15) hx hb dX12_keepNear_111 (by decide) ?_
                exact ih x3 x_12 (by omega) (by omega) (by omega) (by omega) (by omega) (by omega) ls (lv_sub hl [4, 5, 1, 0] rfl)
              ·
                have kc_11 : r_9.toInt ≤ r_5.toInt := i_nlt c_11
                refine lv_iload hx hb dX12_keepNear_84 (lv_at hl 1 rfl) ?_
                refine lv_iload hx hb dX12_keepNear_86 (lv_at hl 0 rfl) ?_
                refine lv_icmp_ne (tgt := 108) hx hb dX12_keepNear_88 (by decide) (fun c_13 => ?_) (fun c_13 => ?_)
                ·
                  have kc_13 : r_5.toInt ≠ r_9.toInt := i_ne c_13
                  obtain ⟨x_14, ex_14⟩ : ∃ y : Int32, y = x3 + 1 := ⟨_, rfl⟩
                  have fx_14 : x_14.toInt = x3.toInt + 1 := by rw [ex_14]; exact i_add (by first | omega | (show (_ : Int) ≤ x3.toInt + 1; omega)) (by first | omega | (show x3.toInt + 1 ≤ (_ : Int); omega))
                  refine lv_iinc (v := x_14) (lv' := [(3, .int x_14), (5, .int r_9), (4, .int r_5), (0, .ref (bd 0)), (1, .int p1), (2, .int x2)]) hx hb dX12_keepNear_108 hl (k := 5) rfl (by rw [ex_14]; rfl) (by decide) rfl (fun ls hl => ?_)
                  refine lv_goto (tgt := 15) hx hb dX12_keepNear_111 (by decide) ?_
                  exact ih x2 x_14 (by omega) (by omega) (by omega) (by omega) (by omega) (by omega) ls (lv_sub hl [3, 4, 5, 0] rfl)
                ·
                  have kc_13 : r_5.toInt = r_9.toInt := i_eq c_13
                  refine lv_aload_n hx hb dX12_keepNear_91 rfl (lv_at hl 2 rfl) ?_
                  refine gr_cheek hx hb hg hown hK hP (hg _ q4_235) dX12_keepNear_92 ?_
                  refine lv_iload_n hx hb dX12_keepNear_95 rfl (lv_at hl 5 rfl) ?_
                  refine lr_cheek hx hb hK hP (i_in (by omega) (by omega)) dX12_keepNear_96 ?_
                  refine lv_topi (fun x_15 ex_15 => ?_)
                  have ex_15 : x_15 = (b 3) x3.toNatClampNeg := ex_15
                  have hx_15 : x_15.toInt = ((b 3) x3.toNatClampNeg).toInt := by rw [ex_15]
                  refine lv_aload_n hx hb dX12_keepNear_97 rfl (lv_at hl 2 rfl) ?_
                  refine gr_cheek hx hb hg hown hK hP (hg _ q4_235) dX12_keepNear_98 ?_
                  refine lv_iload_n hx hb dX12_keepNear_101 rfl (lv_at hl 4 rfl) ?_
                  refine lr_cheek hx hb hK hP (i_in (by omega) (by omega)) dX12_keepNear_102 ?_
                  refine lv_topi (fun x_16 ex_16 => ?_)
                  have ex_16 : x_16 = (b 3) x2.toNatClampNeg := ex_16
                  have hx_16 : x_16.toInt = ((b 3) x2.toNatClampNeg).toInt := by rw [ex_16]
                  refine lv_icmp_ge (tgt := 108) hx hb dX12_keepNear_103 (by decide) (fun c_17 => ?_) (fun c_17 => ?_)
                  ·
                    have kc_17 : x_16.toInt ≤ x_15.toInt := i_le c_17
                    obtain ⟨x_18, ex_18⟩ : ∃ y : Int32, y = x3 + 1 := ⟨_, rfl⟩
                    have fx_18 : x_18.toInt = x3.toInt + 1 := by rw [ex_18]; exact i_add (by first | omega | (show (_ : Int) ≤ x3.toInt + 1; omega)) (by first | omega | (show x3.toInt + 1 ≤ (_ : Int); omega))
                    refine lv_iinc (v := x_18) (lv' := [(3, .int x_18), (5, .int r_9), (4, .int r_5), (0, .ref (bd 0)), (1, .int p1), (2, .int x2)]) hx hb dX12_keepNear_108 hl (k := 5) rfl (by rw [ex_18]; rfl) (by decide) rfl (fun ls hl => ?_)
                    refine lv_goto (tgt := 15) hx hb dX12_keepNear_111 (by decide) ?_
                    exact ih x2 x_18 (by omega) (by omega) (by omega) (by omega) (by omega) (by omega) ls (lv_sub hl [3, 4, 5, 0] rfl)
                  ·
                    have kc_17 : x_15.toInt < x_16.toInt := i_nle c_17
                    refine lv_iload_n hx hb dX12_keepNear_106 rfl (lv_at hl 5 rfl) ?_
                    refine lv_istore_n (lv' := [(2, .int x3), (5, .int r_9), (4, .int r_5), (0, .ref (bd 0)), (1, .int p1), (3, .int x3)]) hx hb dX12_keepNear_107 rfl hl (by decide) rfl (fun ls hl => ?_)
                    obtain ⟨x_19, ex_19⟩ : ∃ y : Int32, y = x3 + 1 := ⟨_, rfl⟩
                    have fx_19 : x_19.toInt = x3.toInt + 1 := by rw [ex_19]; exact i_add (by first | omega | (show (_ : Int) ≤ x3.toInt + 1; omega)) (by first | omega | (show x3.toInt + 1 ≤ (_ : Int); omega))
                    refine lv_iinc (v := x_19) (lv' := [(3, .int x_19), (2, .int x3), (5, .int r_9), (4, .int r_5), (0, .ref (bd 0)), (1, .int p1)]) hx hb dX12_keepNear_108 hl (k := 5) rfl (by rw [ex_19]; rfl) (by decide) rfl (fun ls hl => ?_)
                    refine lv_goto (tgt := 15) hx hb dX12_keepNear_111 (by decide) ?_
                    exact ih x3 x_19 (by omega) (by omega) (by omega) (by omega) (by omega) (by omega) ls (lv_sub hl [4, 5, 1, 0] rfl)
          ·
            have kc_6 : x2.toInt < (0 : Int) := i_nle c_6
            refine lv_iconst (v := 0) hx hb dX12_keepNear_52 (by decide) ?_
            refine lv_goto (tgt := 71) hx hb dX12_keepNear_53 (by decide) ?_
            refine lv_istore (lv' := [(5, .int 0), (4, .int r_5), (0, .ref (bd 0)), (1, .int p1), (2, .int x2), (3, .int x3)]) hx hb dX12_keepNear_71 hl (by decide) rfl (fun ls hl => ?_)
            refine lv_iload_n hx hb dX12_keepNear_73 rfl (lv_at hl 4 rfl) ?_
            refine lv_if_lt (tgt := 106) hx hb dX12_keepNear_74 (by decide) (fun c_20 => ?_) (fun c_20 => ?_)
            ·
              have kc_20 : x2.toInt < (0 : Int) := i_lt c_20
              refine lv_iload_n hx hb dX12_keepNear_106 rfl (lv_at hl 5 rfl) ?_
              refine lv_istore_n (lv' := [(2, .int x3), (5, .int 0), (4, .int r_5), (0, .ref (bd 0)), (1, .int p1), (3, .int x3)]) hx hb dX12_keepNear_107 rfl hl (by decide) rfl (fun ls hl => ?_)
              obtain ⟨x_21, ex_21⟩ : ∃ y : Int32, y = x3 + 1 := ⟨_, rfl⟩
              have fx_21 : x_21.toInt = x3.toInt + 1 := by rw [ex_21]; exact i_add (by first | omega | (show (_ : Int) ≤ x3.toInt + 1; omega)) (by first | omega | (show x3.toInt + 1 ≤ (_ : Int); omega))
              refine lv_iinc (v := x_21) (lv' := [(3, .int x_21), (2, .int x3), (5, .int 0), (4, .int r_5), (0, .ref (bd 0)), (1, .int p1)]) hx hb dX12_keepNear_108 hl (k := 5) rfl (by rw [ex_21]; rfl) (by decide) rfl (fun ls hl => ?_)
              refine lv_goto (tgt := 15) hx hb dX12_keepNear_111 (by decide) ?_
              have q0_0 : (0 : Int32).toInt = 0 := rfl
              exact ih x3 x_21 (by omega) (by omega) (by omega) (by omega) (by omega) (by omega) ls (lv_sub hl [4, 5, 1, 0] rfl)
            ·
              have kc_20 : (0 : Int) ≤ x2.toInt := i_nlt c_20
              exfalso; omega
        ·
          have kc_2 : x3.toInt = p1.toInt := i_eq c_2
          refine lv_goto (tgt := 108) hx hb dX12_keepNear_28 (by decide) ?_
          obtain ⟨x_22, ex_22⟩ : ∃ y : Int32, y = x3 + 1 := ⟨_, rfl⟩
          have fx_22 : x_22.toInt = x3.toInt + 1 := by rw [ex_22]; exact i_add (by first | omega | (show (_ : Int) ≤ x3.toInt + 1; omega)) (by first | omega | (show x3.toInt + 1 ≤ (_ : Int); omega))
          refine lv_iinc (v := x_22) (lv' := [(3, .int x_22), (0, .ref (bd 0)), (1, .int p1), (2, .int x2)]) hx hb dX12_keepNear_108 hl (k := 3) rfl (by rw [ex_22]; rfl) (by decide) rfl (fun ls hl => ?_)
          refine lv_goto (tgt := 15) hx hb dX12_keepNear_111 (by decide) ?_
          exact ih x2 x_22 (by omega) (by omega) (by omega) (by omega) (by omega) (by omega) ls (lv_sub hl [1, 2, 3, 0] rfl)
  refine lv_aload_n hx hb dX12_keepNear_0 rfl (lv_at hl 0 rfl) ?_
  refine lv_iload_n hx hb dX12_keepNear_1 rfl (lv_at hl 1 rfl) ?_
  refine cV_ro (As := [.int p1]) (rest := []) ⟨hx, hb, hml, hown, hg⟩ (k_X12_isOne l D cs A bd u b bw  p1 (show 0 ≤ (u 1).toInt by first | omega | decide) (show (u 1).toInt ≤ 8 by first | omega | decide)) ca_X12_isOne q6_7 ⟨rfl, rfl⟩ ⟨Nat.le_of_ble_eq_true rfl, Nat.le_of_ble_eq_true rfl⟩ (rc_model hK hP) hK hP hD hS hZ rfl hl.1 rfl (Nat.le_of_ble_eq_true rfl) ⟨Nat.zero_le _, Nat.zero_le _⟩ dX12_keepNear_2 (fun r_23 wr_23 => ?_)
  have wr_23_0 : (r_23.toInt = 1 ∧ 0 ≤ p1.toInt ∧ p1.toInt < (u 1).toInt) ∨ (r_23.toInt = 0 ∧ ¬ (0 ≤ p1.toInt ∧ p1.toInt < (u 1).toInt)) := wr_23
  refine lv_if_ne (tgt := 10) hx hb dX12_keepNear_5 (by decide) (fun c_24 => ?_) (fun c_24 => ?_)
  ·
    have kc_24 : r_23.toInt ≠ (0 : Int) := i_ne c_24
    refine lv_bipush (v := (-2)) hx hb dX12_keepNear_10 (by decide) ?_
    refine lv_istore_n (lv' := [(2, .int (-2)), (0, .ref (bd 0)), (1, .int p1)]) hx hb dX12_keepNear_12 rfl hl (by decide) rfl (fun ls hl => ?_)
    refine lv_iconst (v := 0) hx hb dX12_keepNear_13 (by decide) ?_
    refine lv_istore_n (lv' := [(3, .int 0), (2, .int (-2)), (0, .ref (bd 0)), (1, .int p1)]) hx hb dX12_keepNear_14 rfl hl (by decide) rfl (fun ls hl => ?_)
    have q0_m2 : ((-2) : Int32).toInt = (-2) := rfl
    have q0_0 : (0 : Int32).toInt = 0 := rfl
    exact (hcut ((((u 1).toInt - (0 : Int32).toInt).toNat) + 1)) (-2) 0 (by omega) (by omega) (by omega) (by omega) (by omega) (Nat.lt_succ_self _) ls (lv_sub hl [2, 3, 1, 0] rfl)
  ·
    have kc_24 : r_23.toInt = (0 : Int) := i_eq c_24
    refine lv_iconst (v := (-1)) hx hb dX12_keepNear_8 (by decide) ?_
    have q0_m1 : ((-1) : Int32).toInt = (-1) := rfl
    exact W.iret (v := (-1)) hx hb hr (fun tt ht hW => ⟨(-1), rfl, trivial, ht⟩) (fun _ h => by cases h) dX12_keepNear_9
set_option maxHeartbeats 4000000 in
set_option maxRecDepth 100000 in
theorem k_X12_whoseCell (l : Launch) (D : va_G) (cs : Nat → ClassId) (A : Nat → Prop) (bd : Nat → Nat) (u : Nat → Int32) (b : Nat → Nat → Int32) (bw : Nat → Nat → Int64)   (iu1_0 : 0 ≤ (u 1).toInt) (iu1_1 : (u 1).toInt ≤ 8) : Met l yX12_whoseCell (Cond.code yX12_whoseCell cX12_whoseCell 2 (some .int) :: gw) ({ frames := 0, cells := 0, slots := 0, locals := 0 }) (va_Pc [.ref (bd 0)] (XPre D (TY cs) (RW cs bd u b bw) A)) (vp_Si (fun (r : Int32) => True)) 0 0 (fun _ => False) := by
  refine Met.ofW (cc := cX12_whoseCell) (maxL := 2) (ret := (some .int)) (by decide) rfl ?_
  intro p e s m args below meth c s₁ B hml hv
  obtain ⟨rfl, hP, hK, hD, hZ⟩ := hv
  have hx := B.exec
  have hb := B.bytes
  have hr := B.returns
  have hts := atoms_spec (ws := (Cond.code yX12_whoseCell cX12_whoseCell 2 (some .int) :: gw)) B.pre
  have hg : ∀ w ∈ gw, w.before ([.ref (bd 0)] : List Value).toArray s = true := fun w h => hts w (List.mem_cons_of_mem _ h)
  have hown : s.vm.findClass RX12 = some m.cls := findClass_of_methodNamed B.named
  have hlocks := B.notSynchronized
  have hS : va_S A s.heap s.heap [] := va_S.rf
  have hl := lv_entry ([.ref (bd 0)]) (n := 2) (Nat.le_of_ble_eq_true rfl)
  rw [lg_entry_eq]
  generalize (lg_sl ([.ref (bd 0)]) ++ List.replicate (2 - (lg_sl ([.ref (bd 0)])).length) Slot.unset).toArray = ls at hl ⊢
  have hl : lv_has ls 2 [(0, .ref (bd 0))] := hl
  have hcut : ∀ nk : Nat, (∀ (x1 : Int32) (i1 : 0 ≤ x1.toInt) (hmu : ((u 1).toInt - x1.toInt).toNat < nk) (ls : Array Slot) (hl : lv_has ls 2 [(0, .ref (bd 0)), (1, .int x1)]), W p l e (headSpec (Cond.code yX12_whoseCell cX12_whoseCell 2 (some .int) :: gw) ({ frames := 0, cells := 0, slots := 0, locals := 0 })).room s m ([.ref (bd 0)] : List Value).toArray below meth c s.heap [] 0 0 (MQ below (vp_Si (fun (r : Int32) => True)) ([.ref (bd 0)] : List Value).toArray s 0 0 (fun _ => False)) (F0 m 2 ls [])) := by
    intro nk
    induction nk with
    | zero => exact (fun x1 i1 hmu ls hl => absurd hmu (Nat.not_lt_zero _))
    | succ nk ih =>
      intro x1 i1 hmu ls hl
      refine lv_iload_n hx hb dX12_whoseCell_2 rfl (lv_at hl 1 rfl) ?_
      refine lv_aload_n hx hb dX12_whoseCell_3 rfl (lv_at hl 0 rfl) ?_
      refine gr_people1 hx hb hg hown hK hP (x := (u 1)) rfl (hg _ q4_233) dX12_whoseCell_4 ?_
      refine lv_icmp_ge (tgt := 31) hx hb dX12_whoseCell_7 (by decide) (fun c_1 => ?_) (fun c_1 => ?_)
      ·
        have kc_1 : (u 1).toInt ≤ x1.toInt := i_le c_1
        refine lv_bipush (v := 8) hx hb dX12_whoseCell_31 (by decide) ?_
        have q0_8 : (8 : Int32).toInt = 8 := rfl
        exact W.iret (v := 8) hx hb hr (fun tt ht hW => ⟨8, rfl, trivial, ht⟩) (fun _ h => by cases h) dX12_whoseCell_33
      ·
        have kc_1 : x1.toInt < (u 1).toInt := i_nle c_1
        refine lv_aload_n hx hb dX12_whoseCell_10 rfl (lv_at hl 0 rfl) ?_
        refine gr_cellOf hx hb hg hown hK hP (hg _ q4_234) dX12_whoseCell_11 ?_
        refine lv_iload_n hx hb dX12_whoseCell_14 rfl (lv_at hl 1 rfl) ?_
        refine lr_cellOf hx hb hK hP (i_in (by omega) (by omega)) dX12_whoseCell_15 ?_
        refine lv_topi (fun x_2 ex_2 => ?_)
        have ex_2 : x_2 = (b 2) x1.toNatClampNeg := ex_2
        have hx_2 : x_2.toInt = ((b 2) x1.toNatClampNeg).toInt := by rw [ex_2]
        refine lv_aload_n hx hb dX12_whoseCell_16 rfl (lv_at hl 0 rfl) ?_
        refine gr_bee1 hx hb hg hown hK hP (x := (u 28)) rfl (hg _ q5_20) dX12_whoseCell_17 ?_
        refine lv_icmp_ne (tgt := 25) hx hb dX12_whoseCell_20 (by decide) (fun c_3 => ?_) (fun c_3 => ?_)
        ·
          have kc_3 : x_2.toInt ≠ (u 28).toInt := i_ne c_3
          obtain ⟨x_4, ex_4⟩ : ∃ y : Int32, y = x1 + 1 := ⟨_, rfl⟩
          have fx_4 : x_4.toInt = x1.toInt + 1 := by rw [ex_4]; exact i_add (by first | omega | (show (_ : Int) ≤ x1.toInt + 1; omega)) (by first | omega | (show x1.toInt + 1 ≤ (_ : Int); omega))
          refine lv_iinc (v := x_4) (lv' := [(1, .int x_4), (0, .ref (bd 0))]) hx hb dX12_whoseCell_25 hl (k := 1) rfl (by rw [ex_4]; rfl) (by decide) rfl (fun ls hl => ?_)
          refine lv_goto (tgt := 2) hx hb dX12_whoseCell_28 (by decide) ?_
          exact ih x_4 (by omega) (by omega) ls (lv_sub hl [1, 0] rfl)
        ·
          have kc_3 : x_2.toInt = (u 28).toInt := i_eq c_3
          refine lv_iload_n hx hb dX12_whoseCell_23 rfl (lv_at hl 1 rfl) ?_
          exact W.iret (v := x1) hx hb hr (fun tt ht hW => ⟨x1, rfl, trivial, ht⟩) (fun _ h => by cases h) dX12_whoseCell_24
  refine lv_iconst (v := 0) hx hb dX12_whoseCell_0 (by decide) ?_
  refine lv_istore_n (lv' := [(1, .int 0), (0, .ref (bd 0))]) hx hb dX12_whoseCell_1 rfl hl (by decide) rfl (fun ls hl => ?_)
  have q0_0 : (0 : Int32).toInt = 0 := rfl
  exact (hcut ((((u 1).toInt - (0 : Int32).toInt).toNat) + 1)) 0 (by omega) (Nat.lt_succ_self _) ls (lv_sub hl [1, 0] rfl)
set_option maxHeartbeats 4000000 in
set_option maxRecDepth 100000 in
theorem k_X12_drawn (l : Launch) (D : va_G) (cs : Nat → ClassId) (A : Nat → Prop) (bd : Nat → Nat) (u : Nat → Int32) (b : Nat → Nat → Int32) (bw : Nat → Nat → Int64)  (p1 : Int32) (p2 : Int32) (p3 : Int32) (hlaw : LAWOK (b 20) (b 21) (b 22) (b 23) (b 24)) (iu1_0 : 0 ≤ (u 1).toInt) (iu1_1 : (u 1).toInt ≤ 8) (iu7_0 : -1 ≤ (u 7).toInt) (iu7_1 : (u 7).toInt < (u 1).toInt) (ib23_0 : AB (-32768) 32767 (b 23)) (ib24_0 : AB (-32768) 32767 (b 24)) (ib20_0 : AB (-128) 127 (b 20)) : Met l yX12_drawn (Cond.code yX12_drawn cX12_drawn 11 (some .int) :: gw) ({ frames := 5, cells := 0, slots := 0, locals := 116 }) (va_Pc [.ref (bd 0), .int p1, .int p2, .int p3] (XPre D (TY cs) (RW cs bd u b bw) A)) (va_Qi (fun (r : Int32) (z : Int32 × Int32 × Int32 × Int32 × Int32 × Int32 × (Nat → Int32) × (Nat → Int32) × (Nat → Int32)) => True) (XPo D (fun (z : Int32 × Int32 × Int32 × Int32 × Int32 × Int32 × (Nat → Int32) × (Nat → Int32) × (Nat → Int32)) => RW cs bd (va_up (va_up (va_up (va_up (va_up (va_up u 28 z.1) 29 z.2.1) 30 z.2.2.1) 31 z.2.2.2.1) 33 z.2.2.2.2.1) 34 z.2.2.2.2.2.1) (va_up (va_up (va_up b 32 z.2.2.2.2.2.2.1) 25 z.2.2.2.2.2.2.2.1) 26 z.2.2.2.2.2.2.2.2) bw) A) A) 0 0 A := by
  refine Met.ofW (cc := cX12_drawn) (maxL := 11) (ret := (some .int)) (by decide) rfl ?_
  intro p e s m args below meth c s₁ B hml hv
  obtain ⟨rfl, hP, hK, hD, hZ⟩ := hv
  have hx := B.exec
  have hb := B.bytes
  have hr := B.returns
  have hts := atoms_spec (ws := (Cond.code yX12_drawn cX12_drawn 11 (some .int) :: gw)) B.pre
  have hg : ∀ w ∈ gw, w.before ([.ref (bd 0), .int p1, .int p2, .int p3] : List Value).toArray s = true := fun w h => hts w (List.mem_cons_of_mem _ h)
  have hown : s.vm.findClass RX12 = some m.cls := findClass_of_methodNamed B.named
  have hlocks := B.notSynchronized
  have hS : va_S A s.heap s.heap [] := va_S.rf
  have hP : va_P D vwCl (RW cs bd u b bw) s.heap := hP
  have hl := lv_entry ([.ref (bd 0), .int p1, .int p2, .int p3]) (n := 11) (Nat.le_of_ble_eq_true rfl)
  rw [lg_entry_eq]
  generalize (lg_sl ([.ref (bd 0), .int p1, .int p2, .int p3]) ++ List.replicate (11 - (lg_sl ([.ref (bd 0), .int p1, .int p2, .int p3])).length) Slot.unset).toArray = ls at hl ⊢
  have hl : lv_has ls 11 [(0, .ref (bd 0)), (1, .int p1), (2, .int p2), (3, .int p3)] := hl
  have hcut : ∀ nk : Nat, (∀ (x4 : Int32) (x5 : Int32) (x6 : Int32) (x7 : Int32) (c58_u28 : Int32) (c58_u29 : Int32) (c58_u30 : Int32) (c58_u31 : Int32) (c58_u33 : Int32) (c58_u34 : Int32) (c58_b32 : Nat → Int32) (c58_b25 : Nat → Int32) (c58_b26 : Nat → Int32) (H : Heap) (locs : List Loc) (j1 : 0 ≤ p2.toInt) (j2 : p2.toInt < 3100) (i7 : 0 ≤ x7.toInt) (hmu : 200 * (p2.toInt / 100 - x7.toInt).toNat < nk) (hP : va_P D vwCl (RW cs bd (va_up (va_up (va_up (va_up (va_up (va_up u 28 c58_u28) 29 c58_u29) 30 c58_u30) 31 c58_u31) 33 c58_u33) 34 c58_u34) (va_up (va_up (va_up b 32 c58_b32) 25 c58_b25) 26 c58_b26) bw) H) (hD : va_D A (RW cs bd (va_up (va_up (va_up (va_up (va_up (va_up u 28 c58_u28) 29 c58_u29) 30 c58_u30) 31 c58_u31) 33 c58_u33) 34 c58_u34) (va_up (va_up (va_up b 32 c58_b32) 25 c58_b25) 26 c58_b26) bw)) (hS : va_S A s.heap H locs) (ls : Array Slot) (hl : lv_has ls 11 [(0, .ref (bd 0)), (2, .int p2), (3, .int p3), (4, .int x4), (5, .int x5), (6, .int x6), (7, .int x7)]), W p l e (headSpec (Cond.code yX12_drawn cX12_drawn 11 (some .int) :: gw) ({ frames := 5, cells := 0, slots := 0, locals := 116 })).room s m ([.ref (bd 0), .int p1, .int p2, .int p3] : List Value).toArray below meth c H locs 0 0 (MQ below (va_Qi (fun (r : Int32) (z : Int32 × Int32 × Int32 × Int32 × Int32 × Int32 × (Nat → Int32) × (Nat → Int32) × (Nat → Int32)) => True) (XPo D (fun (z : Int32 × Int32 × Int32 × Int32 × Int32 × Int32 × (Nat → Int32) × (Nat → Int32) × (Nat → Int32)) => RW cs bd (va_up (va_up (va_up (va_up (va_up (va_up u 28 z.1) 29 z.2.1) 30 z.2.2.1) 31 z.2.2.2.1) 33 z.2.2.2.2.1) 34 z.2.2.2.2.2.1) (va_up (va_up (va_up b 32 z.2.2.2.2.2.2.1) 25 z.2.2.2.2.2.2.2.1) 26 z.2.2.2.2.2.2.2.2) bw) A) A) ([.ref (bd 0), .int p1, .int p2, .int p3] : List Value).toArray s 0 0 A) (F0 m 58 ls [])) ∧ (∀ (x4 : Int32) (x5 : Int32) (x6 : Int32) (x7 : Int32) (x8 : Int32) (c82_u28 : Int32) (c82_u29 : Int32) (c82_u30 : Int32) (c82_u31 : Int32) (c82_b32 : Nat → Int32) (c82_u33 : Int32) (c82_u34 : Int32) (c82_b25 : Nat → Int32) (c82_b26 : Nat → Int32) (H : Heap) (locs : List Loc) (j1 : 0 ≤ p2.toInt) (j2 : p2.toInt < 3100) (hpn : 0 < (u 1).toInt) (i7 : 0 ≤ x7.toInt) (i7b : x7.toInt < p2.toInt / 100) (i8 : 0 ≤ x8.toInt) (ju29_0 : -1 ≤ c82_u29.toInt) (ju29_1 : c82_u29.toInt < (u 1).toInt) (hmu : 200 * (p2.toInt / 100 - x7.toInt - 1).toNat + 50 + (p2.toInt % 100 - x8.toInt).toNat < nk) (hP : va_P D vwCl (RW cs bd (va_up (va_up (va_up (va_up (va_up (va_up u 28 c82_u28) 29 c82_u29) 30 c82_u30) 31 c82_u31) 33 c82_u33) 34 c82_u34) (va_up (va_up (va_up b 32 c82_b32) 25 c82_b25) 26 c82_b26) bw) H) (hD : va_D A (RW cs bd (va_up (va_up (va_up (va_up (va_up (va_up u 28 c82_u28) 29 c82_u29) 30 c82_u30) 31 c82_u31) 33 c82_u33) 34 c82_u34) (va_up (va_up (va_up b 32 c82_b32) 25 c82_b25) 26 c82_b26) bw)) (hS : va_S A s.heap H locs) (ls : Array Slot) (hl : lv_has ls 11 [(0, .ref (bd 0)), (2, .int p2), (3, .int p3), (4, .int x4), (5, .int x5), (6, .int x6), (7, .int x7), (8, .int x8)]), W p l e (headSpec (Cond.code yX12_drawn cX12_drawn 11 (some .int) :: gw) ({ frames := 5, cells := 0, slots := 0, locals := 116 })).room s m ([.ref (bd 0), .int p1, .int p2, .int p3] : List Value).toArray below meth c H locs 0 0 (MQ below (va_Qi (fun (r : Int32) (z : Int32 × Int32 × Int32 × Int32 × Int32 × Int32 × (Nat → Int32) × (Nat → Int32) × (Nat → Int32)) => True) (XPo D (fun (z : Int32 × Int32 × Int32 × Int32 × Int32 × Int32 × (Nat → Int32) × (Nat → Int32) × (Nat → Int32)) => RW cs bd (va_up (va_up (va_up (va_up (va_up (va_up u 28 z.1) 29 z.2.1) 30 z.2.2.1) 31 z.2.2.2.1) 33 z.2.2.2.2.1) 34 z.2.2.2.2.2.1) (va_up (va_up (va_up b 32 z.2.2.2.2.2.2.1) 25 z.2.2.2.2.2.2.2.1) 26 z.2.2.2.2.2.2.2.2) bw) A) A) ([.ref (bd 0), .int p1, .int p2, .int p3] : List Value).toArray s 0 0 A) (F0 m 82 ls [])) := by
    intro nk
    induction nk with
    | zero => exact ⟨(fun x4 x5 x6 x7 c58_u28 c58_u29 c58_u30 c58_u31 c58_u33 c58_u34 c58_b32 c58_b25 c58_b26 H locs j1 j2 i7 hmu hP hD hS ls hl => absurd hmu (Nat.not_lt_zero _)), (fun x4 x5 x6 x7 x8 c82_u28 c82_u29 c82_u30 c82_u31 c82_b32 c82_u33 c82_u34 c82_b25 c82_b26 H locs j1 j2 hpn i7 i7b i8 ju29_0 ju29_1 hmu hP hD hS ls hl => absurd hmu (Nat.not_lt_zero _))⟩
    | succ nk ih =>
      refine ⟨?_, ?_⟩
      ·
        intro x4 x5 x6 x7 c58_u28 c58_u29 c58_u30 c58_u31 c58_u33 c58_u34 c58_b32 c58_b25 c58_b26 H locs j1 j2 i7 hmu hP hD hS ls hl
        refine lv_iload hx hb dX12_drawn_58 (lv_at hl 6 rfl) ?_
        refine lv_iload_n hx hb dX12_drawn_60 rfl (lv_at hl 1 rfl) ?_
        refine lv_bipush (v := 100) hx hb dX12_drawn_61 (by decide) ?_
        refine lv_idiv hx hb dX12_drawn_63 (by decide) ?_
        refine lv_topi (fun x_1 ex_1 => ?_)
        have fx_1 : x_1.toInt = p2.toInt / (100 : Int) := by rw [ex_1]; exact i_div (by omega) (by first | omega | decide)
        refine lv_icmp_ge (tgt := 185) hx hb dX12_drawn_64 (by decide) (fun c_2 => ?_) (fun c_2 => ?_)
        ·
          have kc_2 : x_1.toInt ≤ x7.toInt := i_le c_2
          refine lv_iload_n hx hb dX12_drawn_185 rfl (lv_at hl 2 rfl) ?_
          refine lv_if_ge (tgt := 194) hx hb dX12_drawn_186 (by decide) (fun c_3 => ?_) (fun c_3 => ?_)
          ·
            have kc_3 : (0 : Int) ≤ p3.toInt := i_le c_3
            refine lv_iload hx hb dX12_drawn_194 (lv_at hl 4 rfl) ?_
            exact W.iret (v := x5) hx hb hr (fun tt ht hW => ⟨⟨x5, ⟨c58_u28, c58_u29, c58_u30, c58_u31, c58_u33, c58_u34, c58_b32, c58_b25, c58_b26⟩, rfl, trivial, by rw [ht]; exact hP, hD⟩, hS.F ht⟩) hS.2.2 dX12_drawn_196
          ·
            have kc_3 : p3.toInt < (0 : Int) := i_nle c_3
            refine lv_iload hx hb dX12_drawn_189 (lv_at hl 5 rfl) ?_
            refine lv_goto (tgt := 196) hx hb dX12_drawn_191 (by decide) ?_
            exact W.iret (v := x6) hx hb hr (fun tt ht hW => ⟨⟨x6, ⟨c58_u28, c58_u29, c58_u30, c58_u31, c58_u33, c58_u34, c58_b32, c58_b25, c58_b26⟩, rfl, trivial, by rw [ht]; exact hP, hD⟩, hS.F ht⟩) hS.2.2 dX12_drawn_196
        ·
          have kc_2 : x7.toInt < x_1.toInt := i_nle c_2
          refine lv_aload_n hx hb dX12_drawn_67 rfl (lv_at hl 0 rfl) ?_
          refine gr_people1 hx hb hg hown hK hP (x := (u 1)) rfl (hg _ q4_233) dX12_drawn_68 ?_
          refine lv_if_le (tgt := 185) hx hb dX12_drawn_71 (by decide) (fun c_4 => ?_) (fun c_4 => ?_)
          ·
            have kc_4 : (u 1).toInt ≤ (0 : Int) := i_le c_4
            refine lv_iload_n hx hb dX12_drawn_185 rfl (lv_at hl 2 rfl) ?_
            refine lv_if_ge (tgt := 194) hx hb dX12_drawn_186 (by decide) (fun c_5 => ?_) (fun c_5 => ?_)
            ·
              have kc_5 : (0 : Int) ≤ p3.toInt := i_le c_5
              refine lv_iload hx hb dX12_drawn_194 (lv_at hl 4 rfl) ?_
              exact W.iret (v := x5) hx hb hr (fun tt ht hW => ⟨⟨x5, ⟨c58_u28, c58_u29, c58_u30, c58_u31, c58_u33, c58_u34, c58_b32, c58_b25, c58_b26⟩, rfl, trivial, by rw [ht]; exact hP, hD⟩, hS.F ht⟩) hS.2.2 dX12_drawn_196
            ·
              have kc_5 : p3.toInt < (0 : Int) := i_nle c_5
              refine lv_iload hx hb dX12_drawn_189 (lv_at hl 5 rfl) ?_
              refine lv_goto (tgt := 196) hx hb dX12_drawn_191 (by decide) ?_
              exact W.iret (v := x6) hx hb hr (fun tt ht hW => ⟨⟨x6, ⟨c58_u28, c58_u29, c58_u30, c58_u31, c58_u33, c58_u34, c58_b32, c58_b25, c58_b26⟩, rfl, trivial, by rw [ht]; exact hP, hD⟩, hS.F ht⟩) hS.2.2 dX12_drawn_196
          ·
            have kc_4 : (0 : Int) < (u 1).toInt := i_nle c_4
            refine lv_aload_n hx hb dX12_drawn_74 rfl (lv_at hl 0 rfl) ?_
            refine lv_iconst (v := 0) hx hb dX12_drawn_75 (by decide) ?_
            refine cV_v (As := [.int 0]) (rest := []) ⟨hx, hb, hml, hown, hg⟩ (k_X12_layNow l D cs A bd (va_up (va_up (va_up (va_up (va_up (va_up u 28 c58_u28) 29 c58_u29) 30 c58_u30) 31 c58_u31) 33 c58_u33) 34 c58_u34) (va_up (va_up (va_up b 32 c58_b32) 25 c58_b25) 26 c58_b26) bw  0 (show 0 ≤ (u 1).toInt by first | omega | decide) (show (u 1).toInt ≤ 8 by first | omega | decide) (show -1 ≤ (u 7).toInt by first | omega | decide) (show (u 7).toInt < (u 1).toInt by first | omega | decide)) ca_X12_layNow q6_93 ⟨rfl, rfl⟩ ⟨Nat.le_of_ble_eq_true rfl, Nat.le_of_ble_eq_true rfl⟩ (rc_model hK hP) hK hP hD hS hZ rfl hl.1 rfl (Nat.le_of_ble_eq_true rfl) ⟨Nat.zero_le _, Nat.zero_le _⟩ dX12_drawn_76 (fun z_12 H locs wr_6 hP hD hS => ?_)
            obtain ⟨o_u28_7, o_u29_8, o_u30_9, o_u31_10, o_b32_11⟩ := z_12
            have hP : va_P D vwCl (RW cs bd (va_up (va_up (va_up (va_up (va_up (va_up u 33 c58_u33) 34 c58_u34) 28 o_u28_7) 29 o_u29_8) 30 o_u30_9) 31 o_u31_10) (va_up (va_up (va_up b 25 c58_b25) 26 c58_b26) 32 o_b32_11) bw) H := hP
            have hD : va_D A (RW cs bd (va_up (va_up (va_up (va_up (va_up (va_up u 33 c58_u33) 34 c58_u34) 28 o_u28_7) 29 o_u29_8) 30 o_u30_9) 31 o_u31_10) (va_up (va_up (va_up b 25 c58_b25) 26 c58_b26) 32 o_b32_11) bw) := hD
            obtain ⟨wr_6_0, wr_6_1, wr_6_2⟩ : (o_u31_10 = (0 : Int32)) ∧ (-1 ≤ o_u29_8.toInt) ∧ (o_u29_8.toInt < (u 1).toInt) := wr_6
            refine lv_iconst (v := 0) hx hb dX12_drawn_79 (by decide) ?_
            refine lv_istore (lv' := [(8, .int 0), (0, .ref (bd 0)), (2, .int p2), (3, .int p3), (4, .int x4), (5, .int x5), (6, .int x6), (7, .int x7)]) hx hb dX12_drawn_80 hl (by decide) rfl (fun ls hl => ?_)
            have q0_0 : (0 : Int32).toInt = 0 := rfl
            exact ih.2 x4 x5 x6 x7 0 o_u28_7 o_u29_8 o_u30_9 o_u31_10 o_b32_11 c58_u33 c58_u34 c58_b25 c58_b26 _ _ (by omega) (by omega) (by omega) (by omega) (by omega) (by omega) (show -1 ≤ o_u29_8.toInt by first | omega | assumption) (show o_u29_8.toInt < (u 1).toInt by first | omega | assumption) (by omega) hP hD hS ls (lv_sub hl [1, 2, 3, 4, 5, 6, 7, 0] rfl)
      ·
        intro x4 x5 x6 x7 x8 c82_u28 c82_u29 c82_u30 c82_u31 c82_b32 c82_u33 c82_u34 c82_b25 c82_b26 H locs j1 j2 hpn i7 i7b i8 ju29_0 ju29_1 hmu hP hD hS ls hl
        refine lv_iload hx hb dX12_drawn_82 (lv_at hl 7 rfl) ?_
        refine lv_iload_n hx hb dX12_drawn_84 rfl (lv_at hl 1 rfl) ?_
        refine lv_bipush (v := 100) hx hb dX12_drawn_85 (by decide) ?_
        refine lv_irem hx hb dX12_drawn_87 (by decide) ?_
        refine lv_topi (fun x_13 ex_13 => ?_)
        have fx_13 : x_13.toInt = p2.toInt % (100 : Int) := by rw [ex_13]; exact i_rem (by omega) (by first | omega | decide)
        refine lv_icmp_ge (tgt := 179) hx hb dX12_drawn_88 (by decide) (fun c_14 => ?_) (fun c_14 => ?_)
        ·
          have kc_14 : x_13.toInt ≤ x8.toInt := i_le c_14
          obtain ⟨x_15, ex_15⟩ : ∃ y : Int32, y = x7 + 1 := ⟨_, rfl⟩
          have fx_15 : x_15.toInt = x7.toInt + 1 := by rw [ex_15]; exact i_add (by first | omega | (show (_ : Int) ≤ x7.toInt + 1; omega)) (by first | omega | (show x7.toInt + 1 ≤ (_ : Int); omega))
          refine lv_iinc (v := x_15) (lv' := [(7, .int x_15), (0, .ref (bd 0)), (2, .int p2), (3, .int p3), (4, .int x4), (5, .int x5), (6, .int x6), (8, .int x8)]) hx hb dX12_drawn_179 hl (k := 6) rfl (by rw [ex_15]; rfl) (by decide) rfl (fun ls hl => ?_)
          refine lv_goto (tgt := 58) hx hb dX12_drawn_182 (by decide) ?_
          exact ih.1 x4 x5 x6 x_15 c82_u28 c82_u29 c82_u30 c82_u31 c82_u33 c82_u34 c82_b32 c82_b25 c82_b26 _ _ (by omega) (by omega) (by omega) (by omega) hP hD hS ls (lv_sub hl [1, 2, 3, 4, 5, 6, 0] rfl)
        ·
          have kc_14 : x8.toInt < x_13.toInt := i_nle c_14
          refine lv_iload hx hb dX12_drawn_91 (lv_at hl 3 rfl) ?_
          refine lv_ldcw hx hb hown (v := 1103515245) (hg _ q7_7) dX12_drawn_93 ?_
          refine lv_imul hx hb dX12_drawn_96 ?_
          refine lv_topi (fun x_16 ex_16 => ?_)
          refine lv_sipush (v := 12345) hx hb dX12_drawn_97 (by decide) ?_
          refine lv_iadd hx hb dX12_drawn_100 ?_
          refine lv_topi (fun x_17 ex_17 => ?_)
          refine lv_istore (lv' := [(4, .int x_17), (0, .ref (bd 0)), (2, .int p2), (3, .int p3), (5, .int x5), (6, .int x6), (7, .int x7), (8, .int x8)]) hx hb dX12_drawn_101 hl (by decide) rfl (fun ls hl => ?_)
          refine lv_iload hx hb dX12_drawn_103 (lv_at hl 0 rfl) ?_
          refine lv_bipush (v := 8) hx hb dX12_drawn_105 (by decide) ?_
          refine lv_iushr hx hb dX12_drawn_107 rfl ?_
          refine lv_topi (fun x_18 ex_18 => ?_)
          have fx_18 : 0 ≤ x_18.toInt ∧ x_18.toInt ≤ 16777215 := by rw [ex_18]; exact i_ushr8 _
          refine lv_aload_n hx hb dX12_drawn_108 rfl (lv_at hl 1 rfl) ?_
          refine gr_people1 hx hb hg hown hK hP (x := (u 1)) rfl (hg _ q4_233) dX12_drawn_109 ?_
          refine lv_irem hx hb dX12_drawn_112 (fun q => by have q0 : (u 1).toInt = 0 := i_eq q; omega) ?_
          refine lv_topi (fun x_19 ex_19 => ?_)
          have fx_19 : x_19.toInt = x_18.toInt % (u 1).toInt := by rw [ex_19]; exact i_rem (by omega) (by first | omega | decide)
          have f1x_19 : 0 ≤ x_19.toInt := by rw [fx_19]; exact Int.emod_nonneg _ (by omega)
          have f2x_19 : x_19.toInt < (u 1).toInt := by rw [fx_19]; exact Int.emod_lt_of_pos _ (by omega)
          clear fx_19
          refine lv_istore (lv' := [(9, .int x_19), (4, .int x_17), (0, .ref (bd 0)), (2, .int p2), (3, .int p3), (5, .int x5), (6, .int x6), (7, .int x7), (8, .int x8)]) hx hb dX12_drawn_113 hl (by decide) rfl (fun ls hl => ?_)
          refine lv_aload_n hx hb dX12_drawn_115 rfl (lv_at hl 2 rfl) ?_
          refine lv_iload hx hb dX12_drawn_116 (lv_at hl 0 rfl) ?_
          refine lv_iload hx hb dX12_drawn_118 (lv_at hl 1 rfl) ?_
          refine lv_bipush (v := 16) hx hb dX12_drawn_120 (by decide) ?_
          refine lv_iushr hx hb dX12_drawn_122 rfl ?_
          refine lv_topi (fun x_20 ex_20 => ?_)
          have fx_20 : 0 ≤ x_20.toInt ∧ x_20.toInt ≤ 65535 := by rw [ex_20]; exact i_ushr16 _
          refine lv_bipush (v := 12) hx hb dX12_drawn_123 (by decide) ?_
          refine lv_irem hx hb dX12_drawn_125 (by decide) ?_
          refine lv_topi (fun x_21 ex_21 => ?_)
          have fx_21 : x_21.toInt = x_20.toInt % (12 : Int) := by rw [ex_21]; exact i_rem (by omega) (by first | omega | decide)
          refine lv_aload_n hx hb dX12_drawn_126 rfl (lv_at hl 2 rfl) ?_
          refine gr_cheek hx hb hg hown hK hP (hg _ q4_235) dX12_drawn_127 ?_
          refine lv_iload hx hb dX12_drawn_130 (lv_at hl 0 rfl) ?_
          refine lr_cheek hx hb hK hP (i_in (by omega) (by omega)) dX12_drawn_132 ?_
          refine lv_topi (fun x_22 ex_22 => ?_)
          have ex_22 : x_22 = (b 3) x_19.toNatClampNeg := ex_22
          have hx_22 : x_22.toInt = ((b 3) x_19.toNatClampNeg).toInt := by rw [ex_22]
          refine lv_icmp_ge (tgt := 140) hx hb dX12_drawn_133 (by decide) (fun c_23 => ?_) (fun c_23 => ?_)
          ·
            have kc_23 : x_22.toInt ≤ x_21.toInt := i_le c_23
            refine lv_iconst (v := 0) hx hb dX12_drawn_140 (by decide) ?_
            refine cV_i (As := [.int x_19, .int 0]) (rest := []) ⟨hx, hb, hml, hown, hg⟩ (k_X12_goSaying l D cs A bd (va_up (va_up (va_up (va_up (va_up (va_up u 28 c82_u28) 29 c82_u29) 30 c82_u30) 31 c82_u31) 33 c82_u33) 34 c82_u34) (va_up (va_up (va_up b 32 c82_b32) 25 c82_b25) 26 c82_b26) bw  x_19 0 (show 0 ≤ x_19.toInt by first | omega | decide) (show x_19.toInt < (u 1).toInt by first | omega | decide) hlaw (show 0 ≤ (u 1).toInt by first | omega | decide) (show (u 1).toInt ≤ 8 by first | omega | decide) (show -1 ≤ c82_u29.toInt by first | omega | decide) (show c82_u29.toInt < (u 1).toInt by first | omega | decide) ib23_0 ib24_0 ib20_0) ca_X12_goSaying q6_148 ⟨rfl, rfl⟩ ⟨Nat.le_of_ble_eq_true rfl, Nat.le_of_ble_eq_true rfl⟩ (rc_model hK hP) hK hP hD hS hZ rfl hl.1 rfl (Nat.le_of_ble_eq_true rfl) ⟨Nat.zero_le _, Nat.zero_le _⟩ dX12_drawn_141 (fun r_24 z_34 H locs wr_24 hP hD hS => ?_)
            obtain ⟨o_u33_25, o_u34_26, o_u30_27, o_u28_28, o_u29_29, o_b32_30, o_u31_31, o_b25_32, o_b26_33⟩ := z_34
            have hP : va_P D vwCl (RW cs bd (va_up (va_up (va_up (va_up (va_up (va_up u 33 o_u33_25) 34 o_u34_26) 30 o_u30_27) 28 o_u28_28) 29 o_u29_29) 31 o_u31_31) (va_up (va_up (va_up b 32 o_b32_30) 25 o_b25_32) 26 o_b26_33) bw) H := hP
            have hD : va_D A (RW cs bd (va_up (va_up (va_up (va_up (va_up (va_up u 33 o_u33_25) 34 o_u34_26) 30 o_u30_27) 28 o_u28_28) 29 o_u29_29) 31 o_u31_31) (va_up (va_up (va_up b 32 o_b32_30) 25 o_b25_32) 26 o_b26_33) bw) := hD
            obtain ⟨wr_24_0, wr_24_1, wr_24_2⟩ : (r_24.toInt = -1 ∨ (0 ≤ r_24.toInt ∧ r_24.toInt < (u 1).toInt)) ∧ (-1 ≤ o_u29_29.toInt) ∧ (o_u29_29.toInt < (u 1).toInt) := wr_24
            refine lv_istore (lv' := [(10, .int r_24), (9, .int x_19), (4, .int x_17), (0, .ref (bd 0)), (2, .int p2), (3, .int p3), (5, .int x5), (6, .int x6), (7, .int x7), (8, .int x8)]) hx hb dX12_drawn_144 hl (by decide) rfl (fun ls hl => ?_)
            refine lv_iload hx hb dX12_drawn_146 (lv_at hl 0 rfl) ?_
            refine lv_if_ge (tgt := 154) hx hb dX12_drawn_148 (by decide) (fun c_35 => ?_) (fun c_35 => ?_)
            ·
              have kc_35 : (0 : Int) ≤ r_24.toInt := i_le c_35
              refine lv_iload hx hb dX12_drawn_154 (lv_at hl 0 rfl) ?_
              refine lv_iload_n hx hb dX12_drawn_156 rfl (lv_at hl 5 rfl) ?_
              refine lv_icmp_ne (tgt := 163) hx hb dX12_drawn_157 (by decide) (fun c_36 => ?_) (fun c_36 => ?_)
              ·
                have kc_36 : r_24.toInt ≠ p3.toInt := i_ne c_36
                refine lv_aload_n hx hb dX12_drawn_163 rfl (lv_at hl 3 rfl) ?_
                refine gr_hurt1 hx hb hg hown hK hP (x := o_u33_25) rfl (hg _ q5_25) dX12_drawn_164 ?_
                refine lv_if_eq (tgt := 173) hx hb dX12_drawn_167 (by decide) (fun c_37 => ?_) (fun c_37 => ?_)
                ·
                  have kc_37 : o_u33_25.toInt = (0 : Int) := i_eq c_37
                  obtain ⟨x_38, ex_38⟩ : ∃ y : Int32, y = x8 + 1 := ⟨_, rfl⟩
                  have fx_38 : x_38.toInt = x8.toInt + 1 := by rw [ex_38]; exact i_add (by first | omega | (show (_ : Int) ≤ x8.toInt + 1; omega)) (by first | omega | (show x8.toInt + 1 ≤ (_ : Int); omega))
                  refine lv_iinc (v := x_38) (lv' := [(8, .int x_38), (10, .int r_24), (9, .int x_19), (4, .int x_17), (0, .ref (bd 0)), (2, .int p2), (3, .int p3), (5, .int x5), (6, .int x6), (7, .int x7)]) hx hb dX12_drawn_173 hl (k := 9) rfl (by rw [ex_38]; rfl) (by decide) rfl (fun ls hl => ?_)
                  refine lv_goto (tgt := 82) hx hb dX12_drawn_176 (by decide) ?_
                  exact ih.2 x_17 x5 x6 x7 x_38 o_u28_28 o_u29_29 o_u30_27 o_u31_31 o_b32_30 o_u33_25 o_u34_26 o_b25_32 o_b26_33 _ _ (by omega) (by omega) (by omega) (by omega) (by omega) (by omega) (show -1 ≤ o_u29_29.toInt by first | omega | assumption) (show o_u29_29.toInt < (u 1).toInt by first | omega | assumption) (by omega) hP hD hS ls (lv_sub hl [4, 5, 6, 3, 7, 8, 9, 0] rfl)
                ·
                  have kc_37 : o_u33_25.toInt ≠ (0 : Int) := i_ne c_37
                  obtain ⟨x_39, ex_39⟩ : ∃ y : Int32, y = x6 + 1 := ⟨_, rfl⟩
                  refine lv_iinc (v := x_39) (lv' := [(6, .int x_39), (10, .int r_24), (9, .int x_19), (4, .int x_17), (0, .ref (bd 0)), (2, .int p2), (3, .int p3), (5, .int x5), (7, .int x7), (8, .int x8)]) hx hb dX12_drawn_170 hl (k := 7) rfl (by rw [ex_39]; rfl) (by decide) rfl (fun ls hl => ?_)
                  obtain ⟨x_40, ex_40⟩ : ∃ y : Int32, y = x8 + 1 := ⟨_, rfl⟩
                  have fx_40 : x_40.toInt = x8.toInt + 1 := by rw [ex_40]; exact i_add (by first | omega | (show (_ : Int) ≤ x8.toInt + 1; omega)) (by first | omega | (show x8.toInt + 1 ≤ (_ : Int); omega))
                  refine lv_iinc (v := x_40) (lv' := [(8, .int x_40), (6, .int x_39), (10, .int r_24), (9, .int x_19), (4, .int x_17), (0, .ref (bd 0)), (2, .int p2), (3, .int p3), (5, .int x5), (7, .int x7)]) hx hb dX12_drawn_173 hl (k := 9) rfl (by rw [ex_40]; rfl) (by decide) rfl (fun ls hl => ?_)
                  refine lv_goto (tgt := 82) hx hb dX12_drawn_176 (by decide) ?_
                  exact ih.2 x_17 x5 x_39 x7 x_40 o_u28_28 o_u29_29 o_u30_27 o_u31_31 o_b32_30 o_u33_25 o_u34_26 o_b25_32 o_b26_33 _ _ (by omega) (by omega) (by omega) (by omega) (by omega) (by omega) (show -1 ≤ o_u29_29.toInt by first | omega | assumption) (show o_u29_29.toInt < (u 1).toInt by first | omega | assumption) (by omega) hP hD hS ls (lv_sub hl [5, 6, 7, 4, 8, 1, 9, 0] rfl)
              ·
                have kc_36 : r_24.toInt = p3.toInt := i_eq c_36
                obtain ⟨x_41, ex_41⟩ : ∃ y : Int32, y = x5 + 1 := ⟨_, rfl⟩
                refine lv_iinc (v := x_41) (lv' := [(5, .int x_41), (10, .int r_24), (9, .int x_19), (4, .int x_17), (0, .ref (bd 0)), (2, .int p2), (3, .int p3), (6, .int x6), (7, .int x7), (8, .int x8)]) hx hb dX12_drawn_160 hl (k := 6) rfl (by rw [ex_41]; rfl) (by decide) rfl (fun ls hl => ?_)
                refine lv_aload_n hx hb dX12_drawn_163 rfl (lv_at hl 4 rfl) ?_
                refine gr_hurt1 hx hb hg hown hK hP (x := o_u33_25) rfl (hg _ q5_25) dX12_drawn_164 ?_
                refine lv_if_eq (tgt := 173) hx hb dX12_drawn_167 (by decide) (fun c_42 => ?_) (fun c_42 => ?_)
                ·
                  have kc_42 : o_u33_25.toInt = (0 : Int) := i_eq c_42
                  obtain ⟨x_43, ex_43⟩ : ∃ y : Int32, y = x8 + 1 := ⟨_, rfl⟩
                  have fx_43 : x_43.toInt = x8.toInt + 1 := by rw [ex_43]; exact i_add (by first | omega | (show (_ : Int) ≤ x8.toInt + 1; omega)) (by first | omega | (show x8.toInt + 1 ≤ (_ : Int); omega))
                  refine lv_iinc (v := x_43) (lv' := [(8, .int x_43), (5, .int x_41), (10, .int r_24), (9, .int x_19), (4, .int x_17), (0, .ref (bd 0)), (2, .int p2), (3, .int p3), (6, .int x6), (7, .int x7)]) hx hb dX12_drawn_173 hl (k := 9) rfl (by rw [ex_43]; rfl) (by decide) rfl (fun ls hl => ?_)
                  refine lv_goto (tgt := 82) hx hb dX12_drawn_176 (by decide) ?_
                  exact ih.2 x_17 x_41 x6 x7 x_43 o_u28_28 o_u29_29 o_u30_27 o_u31_31 o_b32_30 o_u33_25 o_u34_26 o_b25_32 o_b26_33 _ _ (by omega) (by omega) (by omega) (by omega) (by omega) (by omega) (show -1 ≤ o_u29_29.toInt by first | omega | assumption) (show o_u29_29.toInt < (u 1).toInt by first | omega | assumption) (by omega) hP hD hS ls (lv_sub hl [5, 6, 7, 4, 1, 8, 9, 0] rfl)
                ·
                  have kc_42 : o_u33_25.toInt ≠ (0 : Int) := i_ne c_42
                  obtain ⟨x_44, ex_44⟩ : ∃ y : Int32, y = x6 + 1 := ⟨_, rfl⟩
                  refine lv_iinc (v := x_44) (lv' := [(6, .int x_44), (5, .int x_41), (10, .int r_24), (9, .int x_19), (4, .int x_17), (0, .ref (bd 0)), (2, .int p2), (3, .int p3), (7, .int x7), (8, .int x8)]) hx hb dX12_drawn_170 hl (k := 7) rfl (by rw [ex_44]; rfl) (by decide) rfl (fun ls hl => ?_)
                  obtain ⟨x_45, ex_45⟩ : ∃ y : Int32, y = x8 + 1 := ⟨_, rfl⟩
                  have fx_45 : x_45.toInt = x8.toInt + 1 := by rw [ex_45]; exact i_add (by first | omega | (show (_ : Int) ≤ x8.toInt + 1; omega)) (by first | omega | (show x8.toInt + 1 ≤ (_ : Int); omega))
                  refine lv_iinc (v := x_45) (lv' := [(8, .int x_45), (6, .int x_44), (5, .int x_41), (10, .int r_24), (9, .int x_19), (4, .int x_17), (0, .ref (bd 0)), (2, .int p2), (3, .int p3), (7, .int x7)]) hx hb dX12_drawn_173 hl (k := 9) rfl (by rw [ex_45]; rfl) (by decide) rfl (fun ls hl => ?_)
                  refine lv_goto (tgt := 82) hx hb dX12_drawn_176 (by decide) ?_
                  exact ih.2 x_17 x_41 x_44 x7 x_45 o_u28_28 o_u29_29 o_u30_27 o_u31_31 o_b32_30 o_u33_25 o_u34_26 o_b25_32 o_b26_33 _ _ (by omega) (by omega) (by omega) (by omega) (by omega) (by omega) (show -1 ≤ o_u29_29.toInt by first | omega | assumption) (show o_u29_29.toInt < (u 1).toInt by first | omega | assumption) (by omega) hP hD hS ls (lv_sub hl [6, 7, 8, 5, 2, 1, 9, 0] rfl)
            ·
              have kc_35 : r_24.toInt < (0 : Int) := i_nle c_35
              refine lv_goto (tgt := 173) hx hb dX12_drawn_151 (by decide) ?_
              obtain ⟨x_46, ex_46⟩ : ∃ y : Int32, y = x8 + 1 := ⟨_, rfl⟩
              have fx_46 : x_46.toInt = x8.toInt + 1 := by rw [ex_46]; exact i_add (by first | omega | (show (_ : Int) ≤ x8.toInt + 1; omega)) (by first | omega | (show x8.toInt + 1 ≤ (_ : Int); omega))
              refine lv_iinc (v := x_46) (lv' := [(8, .int x_46), (10, .int r_24), (9, .int x_19), (4, .int x_17), (0, .ref (bd 0)), (2, .int p2), (3, .int p3), (5, .int x5), (6, .int x6), (7, .int x7)]) hx hb dX12_drawn_173 hl (k := 9) rfl (by rw [ex_46]; rfl) (by decide) rfl (fun ls hl => ?_)
              refine lv_goto (tgt := 82) hx hb dX12_drawn_176 (by decide) ?_
              exact ih.2 x_17 x5 x6 x7 x_46 o_u28_28 o_u29_29 o_u30_27 o_u31_31 o_b32_30 o_u33_25 o_u34_26 o_b25_32 o_b26_33 _ _ (by omega) (by omega) (by omega) (by omega) (by omega) (by omega) (show -1 ≤ o_u29_29.toInt by first | omega | assumption) (show o_u29_29.toInt < (u 1).toInt by first | omega | assumption) (by omega) hP hD hS ls (lv_sub hl [4, 5, 6, 3, 7, 8, 9, 0] rfl)
          ·
            have kc_23 : x_21.toInt < x_22.toInt := i_nle c_23
            refine lv_iconst (v := 1) hx hb dX12_drawn_136 (by decide) ?_
            refine lv_goto (tgt := 141) hx hb dX12_drawn_137 (by decide) ?_
            refine cV_i (As := [.int x_19, .int 1]) (rest := []) ⟨hx, hb, hml, hown, hg⟩ (k_X12_goSaying l D cs A bd (va_up (va_up (va_up (va_up (va_up (va_up u 28 c82_u28) 29 c82_u29) 30 c82_u30) 31 c82_u31) 33 c82_u33) 34 c82_u34) (va_up (va_up (va_up b 32 c82_b32) 25 c82_b25) 26 c82_b26) bw  x_19 1 (show 0 ≤ x_19.toInt by first | omega | decide) (show x_19.toInt < (u 1).toInt by first | omega | decide) hlaw (show 0 ≤ (u 1).toInt by first | omega | decide) (show (u 1).toInt ≤ 8 by first | omega | decide) (show -1 ≤ c82_u29.toInt by first | omega | decide) (show c82_u29.toInt < (u 1).toInt by first | omega | decide) ib23_0 ib24_0 ib20_0) ca_X12_goSaying q6_148 ⟨rfl, rfl⟩ ⟨Nat.le_of_ble_eq_true rfl, Nat.le_of_ble_eq_true rfl⟩ (rc_model hK hP) hK hP hD hS hZ rfl hl.1 rfl (Nat.le_of_ble_eq_true rfl) ⟨Nat.zero_le _, Nat.zero_le _⟩ dX12_drawn_141 (fun r_47 z_57 H locs wr_47 hP hD hS => ?_)
            obtain ⟨o_u33_48, o_u34_49, o_u30_50, o_u28_51, o_u29_52, o_b32_53, o_u31_54, o_b25_55, o_b26_56⟩ := z_57
            have hP : va_P D vwCl (RW cs bd (va_up (va_up (va_up (va_up (va_up (va_up u 33 o_u33_48) 34 o_u34_49) 30 o_u30_50) 28 o_u28_51) 29 o_u29_52) 31 o_u31_54) (va_up (va_up (va_up b 32 o_b32_53) 25 o_b25_55) 26 o_b26_56) bw) H := hP
            have hD : va_D A (RW cs bd (va_up (va_up (va_up (va_up (va_up (va_up u 33 o_u33_48) 34 o_u34_49) 30 o_u30_50) 28 o_u28_51) 29 o_u29_52) 31 o_u31_54) (va_up (va_up (va_up b 32 o_b32_53) 25 o_b25_55) 26 o_b26_56) bw) := hD
            obtain ⟨wr_47_0, wr_47_1, wr_47_2⟩ : (r_47.toInt = -1 ∨ (0 ≤ r_47.toInt ∧ r_47.toInt < (u 1).toInt)) ∧ (-1 ≤ o_u29_52.toInt) ∧ (o_u29_52.toInt < (u 1).toInt) := wr_47
            refine lv_istore (lv' := [(10, .int r_47), (9, .int x_19), (4, .int x_17), (0, .ref (bd 0)), (2, .int p2), (3, .int p3), (5, .int x5), (6, .int x6), (7, .int x7), (8, .int x8)]) hx hb dX12_drawn_144 hl (by decide) rfl (fun ls hl => ?_)
            refine lv_iload hx hb dX12_drawn_146 (lv_at hl 0 rfl) ?_
            refine lv_if_ge (tgt := 154) hx hb dX12_drawn_148 (by decide) (fun c_58 => ?_) (fun c_58 => ?_)
            ·
              have kc_58 : (0 : Int) ≤ r_47.toInt := i_le c_58
              refine lv_iload hx hb dX12_drawn_154 (lv_at hl 0 rfl) ?_
              refine lv_iload_n hx hb dX12_drawn_156 rfl (lv_at hl 5 rfl) ?_
              refine lv_icmp_ne (tgt := 163) hx hb dX12_drawn_157 (by decide) (fun c_59 => ?_) (fun c_59 => ?_)
              ·
                have kc_59 : r_47.toInt ≠ p3.toInt := i_ne c_59
                refine lv_aload_n hx hb dX12_drawn_163 rfl (lv_at hl 3 rfl) ?_
                refine gr_hurt1 hx hb hg hown hK hP (x := o_u33_48) rfl (hg _ q5_25) dX12_drawn_164 ?_
                refine lv_if_eq (tgt := 173) hx hb dX12_drawn_167 (by decide) (fun c_60 => ?_) (fun c_60 => ?_)
                ·
                  have kc_60 : o_u33_48.toInt = (0 : Int) := i_eq c_60
                  obtain ⟨x_61, ex_61⟩ : ∃ y : Int32, y = x8 + 1 := ⟨_, rfl⟩
                  have fx_61 : x_61.toInt = x8.toInt + 1 := by rw [ex_61]; exact i_add (by first | omega | (show (_ : Int) ≤ x8.toInt + 1; omega)) (by first | omega | (show x8.toInt + 1 ≤ (_ : Int); omega))
                  refine lv_iinc (v := x_61) (lv' := [(8, .int x_61), (10, .int r_47), (9, .int x_19), (4, .int x_17), (0, .ref (bd 0)), (2, .int p2), (3, .int p3), (5, .int x5), (6, .int x6), (7, .int x7)]) hx hb dX12_drawn_173 hl (k := 9) rfl (by rw [ex_61]; rfl) (by decide) rfl (fun ls hl => ?_)
                  refine lv_goto (tgt := 82) hx hb dX12_drawn_176 (by decide) ?_
                  exact ih.2 x_17 x5 x6 x7 x_61 o_u28_51 o_u29_52 o_u30_50 o_u31_54 o_b32_53 o_u33_48 o_u34_49 o_b25_55 o_b26_56 _ _ (by omega) (by omega) (by omega) (by omega) (by omega) (by omega) (show -1 ≤ o_u29_52.toInt by first | omega | assumption) (show o_u29_52.toInt < (u 1).toInt by first | omega | assumption) (by omega) hP hD hS ls (lv_sub hl [4, 5, 6, 3, 7, 8, 9, 0] rfl)
                ·
                  have kc_60 : o_u33_48.toInt ≠ (0 : Int) := i_ne c_60
                  obtain ⟨x_62, ex_62⟩ : ∃ y : Int32, y = x6 + 1 := ⟨_, rfl⟩
                  refine lv_iinc (v := x_62) (lv' := [(6, .int x_62), (10, .int r_47), (9, .int x_19), (4, .int x_17), (0, .ref (bd 0)), (2, .int p2), (3, .int p3), (5, .int x5), (7, .int x7), (8, .int x8)]) hx hb dX12_drawn_170 hl (k := 7) rfl (by rw [ex_62]; rfl) (by decide) rfl (fun ls hl => ?_)
                  obtain ⟨x_63, ex_63⟩ : ∃ y : Int32, y = x8 + 1 := ⟨_, rfl⟩
                  have fx_63 : x_63.toInt = x8.toInt + 1 := by rw [ex_63]; exact i_add (by first | omega | (show (_ : Int) ≤ x8.toInt + 1; omega)) (by first | omega | (show x8.toInt + 1 ≤ (_ : Int); omega))
                  refine lv_iinc (v := x_63) (lv' := [(8, .int x_63), (6, .int x_62), (10, .int r_47), (9, .int x_19), (4, .int x_17), (0, .ref (bd 0)), (2, .int p2), (3, .int p3), (5, .int x5), (7, .int x7)]) hx hb dX12_drawn_173 hl (k := 9) rfl (by rw [ex_63]; rfl) (by decide) rfl (fun ls hl => ?_)
                  refine lv_goto (tgt := 82) hx hb dX12_drawn_176 (by decide) ?_
                  exact ih.2 x_17 x5 x_62 x7 x_63 o_u28_51 o_u29_52 o_u30_50 o_u31_54 o_b32_53 o_u33_48 o_u34_49 o_b25_55 o_b26_56 _ _ (by omega) (by omega) (by omega) (by omega) (by omega) (by omega) (show -1 ≤ o_u29_52.toInt by first | omega | assumption) (show o_u29_52.toInt < (u 1).toInt by first | omega | assumption) (by omega) hP hD hS ls (lv_sub hl [5, 6, 7, 4, 8, 1, 9, 0] rfl)
              ·
                have kc_59 : r_47.toInt = p3.toInt := i_eq c_59
                obtain ⟨x_64, ex_64⟩ : ∃ y : Int32, y = x5 + 1 := ⟨_, rfl⟩
                refine lv_iinc (v := x_64) (lv' := [(5, .int x_64), (10, .int r_47), (9, .int x_19), (4, .int x_17), (0, .ref (bd 0)), (2, .int p2), (3, .int p3), (6, .int x6), (7, .int x7), (8, .int x8)]) hx hb dX12_drawn_160 hl (k := 6) rfl (by rw [ex_64]; rfl) (by decide) rfl (fun ls hl => ?_)
                refine lv_aload_n hx hb dX12_drawn_163 rfl (lv_at hl 4 rfl) ?_
                refine gr_hurt1 hx hb hg hown hK hP (x := o_u33_48) rfl (hg _ q5_25) dX12_drawn_164 ?_
                refine lv_if_eq (tgt := 173) hx hb dX12_drawn_167 (by decide) (fun c_65 => ?_) (fun c_65 => ?_)
                ·
                  have kc_65 : o_u33_48.toInt = (0 : Int) := i_eq c_65
                  obtain ⟨x_66, ex_66⟩ : ∃ y : Int32, y = x8 + 1 := ⟨_, rfl⟩
                  have fx_66 : x_66.toInt = x8.toInt + 1 := by rw [ex_66]; exact i_add (by first | omega | (show (_ : Int) ≤ x8.toInt + 1; omega)) (by first | omega | (show x8.toInt + 1 ≤ (_ : Int); omega))
                  refine lv_iinc (v := x_66) (lv' := [(8, .int x_66), (5, .int x_64), (10, .int r_47), (9, .int x_19), (4, .int x_17), (0, .ref (bd 0)), (2, .int p2), (3, .int p3), (6, .int x6), (7, .int x7)]) hx hb dX12_drawn_173 hl (k := 9) rfl (by rw [ex_66]; rfl) (by decide) rfl (fun ls hl => ?_)
                  refine lv_goto (tgt := 82) hx hb dX12_drawn_176 (by decide) ?_
                  exact ih.2 x_17 x_64 x6 x7 x_66 o_u28_51 o_u29_52 o_u30_50 o_u31_54 o_b32_53 o_u33_48 o_u34_49 o_b25_55 o_b26_56 _ _ (by omega) (by omega) (by omega) (by omega) (by omega) (by omega) (show -1 ≤ o_u29_52.toInt by first | omega | assumption) (show o_u29_52.toInt < (u 1).toInt by first | omega | assumption) (by omega) hP hD hS ls (lv_sub hl [5, 6, 7, 4, 1, 8, 9, 0] rfl)
                ·
                  have kc_65 : o_u33_48.toInt ≠ (0 : Int) := i_ne c_65
                  obtain ⟨x_67, ex_67⟩ : ∃ y : Int32, y = x6 + 1 := ⟨_, rfl⟩
                  refine lv_iinc (v := x_67) (lv' := [(6, .int x_67), (5, .int x_64), (10, .int r_47), (9, .int x_19), (4, .int x_17), (0, .ref (bd 0)), (2, .int p2), (3, .int p3), (7, .int x7), (8, .int x8)]) hx hb dX12_drawn_170 hl (k := 7) rfl (by rw [ex_67]; rfl) (by decide) rfl (fun ls hl => ?_)
                  obtain ⟨x_68, ex_68⟩ : ∃ y : Int32, y = x8 + 1 := ⟨_, rfl⟩
                  have fx_68 : x_68.toInt = x8.toInt + 1 := by rw [ex_68]; exact i_add (by first | omega | (show (_ : Int) ≤ x8.toInt + 1; omega)) (by first | omega | (show x8.toInt + 1 ≤ (_ : Int); omega))
                  refine lv_iinc (v := x_68) (lv' := [(8, .int x_68), (6, .int x_67), (5, .int x_64), (10, .int r_47), (9, .int x_19), (4, .int x_17), (0, .ref (bd 0)), (2, .int p2), (3, .int p3), (7, .int x7)]) hx hb dX12_drawn_173 hl (k := 9) rfl (by rw [ex_68]; rfl) (by decide) rfl (fun ls hl => ?_)
                  refine lv_goto (tgt := 82) hx hb dX12_drawn_176 (by decide) ?_
                  exact ih.2 x_17 x_64 x_67 x7 x_68 o_u28_51 o_u29_52 o_u30_50 o_u31_54 o_b32_53 o_u33_48 o_u34_49 o_b25_55 o_b26_56 _ _ (by omega) (by omega) (by omega) (by omega) (by omega) (by omega) (show -1 ≤ o_u29_52.toInt by first | omega | assumption) (show o_u29_52.toInt < (u 1).toInt by first | omega | assumption) (by omega) hP hD hS ls (lv_sub hl [6, 7, 8, 5, 2, 1, 9, 0] rfl)
            ·
              have kc_58 : r_47.toInt < (0 : Int) := i_nle c_58
              refine lv_goto (tgt := 173) hx hb dX12_drawn_151 (by decide) ?_
              obtain ⟨x_69, ex_69⟩ : ∃ y : Int32, y = x8 + 1 := ⟨_, rfl⟩
              have fx_69 : x_69.toInt = x8.toInt + 1 := by rw [ex_69]; exact i_add (by first | omega | (show (_ : Int) ≤ x8.toInt + 1; omega)) (by first | omega | (show x8.toInt + 1 ≤ (_ : Int); omega))
              refine lv_iinc (v := x_69) (lv' := [(8, .int x_69), (10, .int r_47), (9, .int x_19), (4, .int x_17), (0, .ref (bd 0)), (2, .int p2), (3, .int p3), (5, .int x5), (6, .int x6), (7, .int x7)]) hx hb dX12_drawn_173 hl (k := 9) rfl (by rw [ex_69]; rfl) (by decide) rfl (fun ls hl => ?_)
              refine lv_goto (tgt := 82) hx hb dX12_drawn_176 (by decide) ?_
              exact ih.2 x_17 x5 x6 x7 x_69 o_u28_51 o_u29_52 o_u30_50 o_u31_54 o_b32_53 o_u33_48 o_u34_49 o_b25_55 o_b26_56 _ _ (by omega) (by omega) (by omega) (by omega) (by omega) (by omega) (show -1 ≤ o_u29_52.toInt by first | omega | assumption) (show o_u29_52.toInt < (u 1).toInt by first | omega | assumption) (by omega) hP hD hS ls (lv_sub hl [4, 5, 6, 3, 7, 8, 9, 0] rfl)
  refine lv_iload_n hx hb dX12_drawn_0 rfl (lv_at hl 2 rfl) ?_
  refine lv_if_lt (tgt := 44) hx hb dX12_drawn_1 (by decide) (fun c_70 => ?_) (fun c_70 => ?_)
  ·
    have kc_70 : p2.toInt < (0 : Int) := i_lt c_70
    refine lv_iconst (v := (-1)) hx hb dX12_drawn_44 (by decide) ?_
    have q0_m1 : ((-1) : Int32).toInt = (-1) := rfl
    have hP : va_P D vwCl (RW cs bd (va_up (va_up (va_up (va_up (va_up (va_up u 28 (u 28)) 29 (u 29)) 30 (u 30)) 31 (u 31)) 33 (u 33)) 34 (u 34)) (va_up (va_up (va_up b 32 (b 32)) 25 (b 25)) 26 (b 26)) bw) _ := hP
    have hD : va_D A (RW cs bd (va_up (va_up (va_up (va_up (va_up (va_up u 28 (u 28)) 29 (u 29)) 30 (u 30)) 31 (u 31)) 33 (u 33)) 34 (u 34)) (va_up (va_up (va_up b 32 (b 32)) 25 (b 25)) 26 (b 26)) bw) := hD
    exact W.iret (v := (-1)) hx hb hr (fun tt ht hW => ⟨⟨(-1), ⟨(u 28), (u 29), (u 30), (u 31), (u 33), (u 34), (b 32), (b 25), (b 26)⟩, rfl, trivial, by rw [ht]; exact hP, hD⟩, hS.F ht⟩) hS.2.2 dX12_drawn_45
  ·
    have kc_70 : (0 : Int) ≤ p2.toInt := i_nlt c_70
    refine lv_iload_n hx hb dX12_drawn_4 rfl (lv_at hl 2 rfl) ?_
    refine lv_bipush (v := 100) hx hb dX12_drawn_5 (by decide) ?_
    refine lv_idiv hx hb dX12_drawn_7 (by decide) ?_
    refine lv_topi (fun x_71 ex_71 => ?_)
    have fx_71 : x_71.toInt = p2.toInt / (100 : Int) := by rw [ex_71]; exact i_div (by omega) (by first | omega | decide)
    refine lv_iconst (v := 1) hx hb dX12_drawn_8 (by decide) ?_
    refine lv_bipush (v := 30) hx hb dX12_drawn_9 (by decide) ?_
    refine cS_p (As := [.int x_71, .int 1, .int 30]) (rest := []) ⟨hx, hb, hml, hown, hg⟩ (k_X12_in l   x_71 1 30 ) ca_X12_in q5_212 ⟨rfl, rfl⟩ ⟨Nat.le_of_ble_eq_true rfl, Nat.le_of_ble_eq_true rfl⟩ rfl hl.1 rfl (Nat.le_of_ble_eq_true rfl) ⟨Nat.zero_le _, Nat.zero_le _⟩ dX12_drawn_11 (fun r_72 wr_72 => ?_)
    have wr_72 : (r_72.toInt = 1 ∧ (1 : Int) ≤ x_71.toInt ∧ x_71.toInt ≤ (30 : Int)) ∨ (r_72.toInt = 0 ∧ ¬ ((1 : Int) ≤ x_71.toInt ∧ x_71.toInt ≤ (30 : Int))) := wr_72
    refine lv_if_eq (tgt := 44) hx hb dX12_drawn_14 (by decide) (fun c_73 => ?_) (fun c_73 => ?_)
    ·
      have kc_73 : r_72.toInt = (0 : Int) := i_eq c_73
      refine lv_iconst (v := (-1)) hx hb dX12_drawn_44 (by decide) ?_
      have q0_m1 : ((-1) : Int32).toInt = (-1) := rfl
      have hP : va_P D vwCl (RW cs bd (va_up (va_up (va_up (va_up (va_up (va_up u 28 (u 28)) 29 (u 29)) 30 (u 30)) 31 (u 31)) 33 (u 33)) 34 (u 34)) (va_up (va_up (va_up b 32 (b 32)) 25 (b 25)) 26 (b 26)) bw) _ := hP
      have hD : va_D A (RW cs bd (va_up (va_up (va_up (va_up (va_up (va_up u 28 (u 28)) 29 (u 29)) 30 (u 30)) 31 (u 31)) 33 (u 33)) 34 (u 34)) (va_up (va_up (va_up b 32 (b 32)) 25 (b 25)) 26 (b 26)) bw) := hD
      exact W.iret (v := (-1)) hx hb hr (fun tt ht hW => ⟨⟨(-1), ⟨(u 28), (u 29), (u 30), (u 31), (u 33), (u 34), (b 32), (b 25), (b 26)⟩, rfl, trivial, by rw [ht]; exact hP, hD⟩, hS.F ht⟩) hS.2.2 dX12_drawn_45
    ·
      have kc_73 : r_72.toInt ≠ (0 : Int) := i_ne c_73
      refine lv_iload_n hx hb dX12_drawn_17 rfl (lv_at hl 2 rfl) ?_
      refine lv_bipush (v := 100) hx hb dX12_drawn_18 (by decide) ?_
      refine lv_irem hx hb dX12_drawn_20 (by decide) ?_
      refine lv_topi (fun x_74 ex_74 => ?_)
      have fx_74 : x_74.toInt = p2.toInt % (100 : Int) := by rw [ex_74]; exact i_rem (by omega) (by first | omega | decide)
      refine lv_iconst (v := 1) hx hb dX12_drawn_21 (by decide) ?_
      refine lv_bipush (v := 40) hx hb dX12_drawn_22 (by decide) ?_
      refine cS_p (As := [.int x_74, .int 1, .int 40]) (rest := []) ⟨hx, hb, hml, hown, hg⟩ (k_X12_in l   x_74 1 40 ) ca_X12_in q5_212 ⟨rfl, rfl⟩ ⟨Nat.le_of_ble_eq_true rfl, Nat.le_of_ble_eq_true rfl⟩ rfl hl.1 rfl (Nat.le_of_ble_eq_true rfl) ⟨Nat.zero_le _, Nat.zero_le _⟩ dX12_drawn_24 (fun r_75 wr_75 => ?_)
      have wr_75 : (r_75.toInt = 1 ∧ (1 : Int) ≤ x_74.toInt ∧ x_74.toInt ≤ (40 : Int)) ∨ (r_75.toInt = 0 ∧ ¬ ((1 : Int) ≤ x_74.toInt ∧ x_74.toInt ≤ (40 : Int))) := wr_75
      refine lv_if_eq (tgt := 44) hx hb dX12_drawn_27 (by decide) (fun c_76 => ?_) (fun c_76 => ?_)
      ·
        have kc_76 : r_75.toInt = (0 : Int) := i_eq c_76
        refine lv_iconst (v := (-1)) hx hb dX12_drawn_44 (by decide) ?_
        have q0_m1 : ((-1) : Int32).toInt = (-1) := rfl
        have hP : va_P D vwCl (RW cs bd (va_up (va_up (va_up (va_up (va_up (va_up u 28 (u 28)) 29 (u 29)) 30 (u 30)) 31 (u 31)) 33 (u 33)) 34 (u 34)) (va_up (va_up (va_up b 32 (b 32)) 25 (b 25)) 26 (b 26)) bw) _ := hP
        have hD : va_D A (RW cs bd (va_up (va_up (va_up (va_up (va_up (va_up u 28 (u 28)) 29 (u 29)) 30 (u 30)) 31 (u 31)) 33 (u 33)) 34 (u 34)) (va_up (va_up (va_up b 32 (b 32)) 25 (b 25)) 26 (b 26)) bw) := hD
        exact W.iret (v := (-1)) hx hb hr (fun tt ht hW => ⟨⟨(-1), ⟨(u 28), (u 29), (u 30), (u 31), (u 33), (u 34), (b 32), (b 25), (b 26)⟩, rfl, trivial, by rw [ht]; exact hP, hD⟩, hS.F ht⟩) hS.2.2 dX12_drawn_45
      ·
        have kc_76 : r_75.toInt ≠ (0 : Int) := i_ne c_76
        refine lv_iload_n hx hb dX12_drawn_30 rfl (lv_at hl 3 rfl) ?_
        refine lv_iconst (v := (-1)) hx hb dX12_drawn_31 (by decide) ?_
        refine lv_aload_n hx hb dX12_drawn_32 rfl (lv_at hl 0 rfl) ?_
        refine gr_people1 hx hb hg hown hK hP (x := (u 1)) rfl (hg _ q4_233) dX12_drawn_33 ?_
        refine lv_iconst (v := 1) hx hb dX12_drawn_36 (by decide) ?_
        refine lv_isub hx hb dX12_drawn_37 ?_
        refine lv_topi (fun x_77 ex_77 => ?_)
        have fx_77 : x_77.toInt = (u 1).toInt - (1 : Int) := by rw [ex_77]; exact i_sub (by first | omega | (show (_ : Int) ≤ (u 1).toInt - (1 : Int); omega)) (by first | omega | (show (u 1).toInt - (1 : Int) ≤ (_ : Int); omega))
        refine cS_p (As := [.int p3, .int (-1), .int x_77]) (rest := []) ⟨hx, hb, hml, hown, hg⟩ (k_X12_in l   p3 (-1) x_77 ) ca_X12_in q5_212 ⟨rfl, rfl⟩ ⟨Nat.le_of_ble_eq_true rfl, Nat.le_of_ble_eq_true rfl⟩ rfl hl.1 rfl (Nat.le_of_ble_eq_true rfl) ⟨Nat.zero_le _, Nat.zero_le _⟩ dX12_drawn_38 (fun r_78 wr_78 => ?_)
        have wr_78 : (r_78.toInt = 1 ∧ (-1 : Int) ≤ p3.toInt ∧ p3.toInt ≤ x_77.toInt) ∨ (r_78.toInt = 0 ∧ ¬ ((-1 : Int) ≤ p3.toInt ∧ p3.toInt ≤ x_77.toInt)) := wr_78
        refine lv_if_ne (tgt := 46) hx hb dX12_drawn_41 (by decide) (fun c_79 => ?_) (fun c_79 => ?_)
        ·
          have kc_79 : r_78.toInt ≠ (0 : Int) := i_ne c_79
          refine lv_iload_n hx hb dX12_drawn_46 rfl (lv_at hl 1 rfl) ?_
          refine lv_istore (lv' := [(4, .int p1), (0, .ref (bd 0)), (1, .int p1), (2, .int p2), (3, .int p3)]) hx hb dX12_drawn_47 hl (by decide) rfl (fun ls hl => ?_)
          refine lv_iconst (v := 0) hx hb dX12_drawn_49 (by decide) ?_
          refine lv_istore (lv' := [(5, .int 0), (4, .int p1), (0, .ref (bd 0)), (1, .int p1), (2, .int p2), (3, .int p3)]) hx hb dX12_drawn_50 hl (by decide) rfl (fun ls hl => ?_)
          refine lv_iconst (v := 0) hx hb dX12_drawn_52 (by decide) ?_
          refine lv_istore (lv' := [(6, .int 0), (5, .int 0), (4, .int p1), (0, .ref (bd 0)), (1, .int p1), (2, .int p2), (3, .int p3)]) hx hb dX12_drawn_53 hl (by decide) rfl (fun ls hl => ?_)
          refine lv_iconst (v := 0) hx hb dX12_drawn_55 (by decide) ?_
          refine lv_istore (lv' := [(7, .int 0), (6, .int 0), (5, .int 0), (4, .int p1), (0, .ref (bd 0)), (1, .int p1), (2, .int p2), (3, .int p3)]) hx hb dX12_drawn_56 hl (by decide) rfl (fun ls hl => ?_)
          have q0_0 : (0 : Int32).toInt = 0 := rfl
          exact (hcut ((200 * (p2.toInt / 100 - (0 : Int32).toInt).toNat) + 1)).1 p1 0 0 0 (u 28) (u 29) (u 30) (u 31) (u 33) (u 34) (b 32) (b 25) (b 26) _ _ (by omega) (by omega) (by omega) (Nat.lt_succ_self _) hP hD hS ls (lv_sub hl [4, 6, 7, 3, 2, 1, 0] rfl)
        ·
          have kc_79 : r_78.toInt = (0 : Int) := i_eq c_79
          refine lv_iconst (v := (-1)) hx hb dX12_drawn_44 (by decide) ?_
          have q0_m1 : ((-1) : Int32).toInt = (-1) := rfl
          have hP : va_P D vwCl (RW cs bd (va_up (va_up (va_up (va_up (va_up (va_up u 28 (u 28)) 29 (u 29)) 30 (u 30)) 31 (u 31)) 33 (u 33)) 34 (u 34)) (va_up (va_up (va_up b 32 (b 32)) 25 (b 25)) 26 (b 26)) bw) _ := hP
          have hD : va_D A (RW cs bd (va_up (va_up (va_up (va_up (va_up (va_up u 28 (u 28)) 29 (u 29)) 30 (u 30)) 31 (u 31)) 33 (u 33)) 34 (u 34)) (va_up (va_up (va_up b 32 (b 32)) 25 (b 25)) 26 (b 26)) bw) := hD
          exact W.iret (v := (-1)) hx hb hr (fun tt ht hW => ⟨⟨(-1), ⟨(u 28), (u 29), (u 30), (u 31), (u 33), (u 34), (b 32), (b 25), (b 26)⟩, rfl, trivial, by rw [ht]; exact hP, hD⟩, hS.F ht⟩) hS.2.2 dX12_drawn_45
set_option maxHeartbeats 4000000 in
set_option maxRecDepth 100000 in
theorem k_X12_say (l : Launch) (D : va_G) (cs : Nat → ClassId) (A : Nat → Prop) (bd : Nat → Nat) (u : Nat → Int32) (b : Nat → Nat → Int32) (bw : Nat → Nat → Int64)  (p1 : Int32) (p2 : Int32) (hlaw : LAWOK (b 20) (b 21) (b 22) (b 23) (b 24)) (iu1_0 : 0 ≤ (u 1).toInt) (iu1_1 : (u 1).toInt ≤ 8) (iu7_0 : -1 ≤ (u 7).toInt) (iu7_1 : (u 7).toInt < (u 1).toInt) (ib23_0 : AB (-32768) 32767 (b 23)) (ib24_0 : AB (-32768) 32767 (b 24)) (ib20_0 : AB (-128) 127 (b 20)) : Met l yX12_say (Cond.code yX12_say cX12_say 5 (some .int) :: gw) ({ frames := 5, cells := 0, slots := 0, locals := 116 }) (va_Pc [.ref (bd 0), .int p1, .int p2] (XPre D (TY cs) (RW cs bd u b bw) A)) (va_Qi (fun (r : Int32) (z : (Nat → Int32) × Int32 × Int32 × Int32 × Int32 × Int32 × Int32 × Int32 × (Nat → Int32) × (Nat → Int32) × (Nat → Int32) × (Nat → Int32) × (Nat → Int32)) => ((r.toInt = -1 ∧ ¬ ((0 ≤ p1.toInt ∧ p1.toInt < (u 1).toInt) ∧ 0 ≤ p2.toInt ∧ p2.toInt ≤ 1) ∧ z.1 0 = ((b 53) 0)) ∨ (r.toInt ≠ -1 ∧ ((0 ≤ p1.toInt ∧ p1.toInt < (u 1).toInt) ∧ 0 ≤ p2.toInt ∧ p2.toInt ≤ 1) ∧ z.1 0 = ((b 53) 0) + 1)) ∧ (-1 ≤ z.2.2.2.2.2.2.2.1.toInt) ∧ (z.2.2.2.2.2.2.2.1.toInt < (u 1).toInt)) (XPo D (fun (z : (Nat → Int32) × Int32 × Int32 × Int32 × Int32 × Int32 × Int32 × Int32 × (Nat → Int32) × (Nat → Int32) × (Nat → Int32) × (Nat → Int32) × (Nat → Int32)) => RW cs bd (va_up (va_up (va_up (va_up (va_up (va_up (va_up u 33 z.2.1) 34 z.2.2.1) 30 z.2.2.2.1) 28 z.2.2.2.2.1) 29 z.2.2.2.2.2.1) 31 z.2.2.2.2.2.2.1) 7 z.2.2.2.2.2.2.2.1) (va_up (va_up (va_up (va_up (va_up (va_up b 53 z.1) 4 z.2.2.2.2.2.2.2.2.1) 32 z.2.2.2.2.2.2.2.2.2.1) 25 z.2.2.2.2.2.2.2.2.2.2.1) 26 z.2.2.2.2.2.2.2.2.2.2.2.1) 6 z.2.2.2.2.2.2.2.2.2.2.2.2) bw) A) A) 0 0 A := by
  refine Met.ofW (cc := cX12_say) (maxL := 5) (ret := (some .int)) (by decide) rfl ?_
  intro p e s m args below meth c s₁ B hml hv
  obtain ⟨rfl, hP, hK, hD, hZ⟩ := hv
  have hx := B.exec
  have hb := B.bytes
  have hr := B.returns
  have hts := atoms_spec (ws := (Cond.code yX12_say cX12_say 5 (some .int) :: gw)) B.pre
  have hg : ∀ w ∈ gw, w.before ([.ref (bd 0), .int p1, .int p2] : List Value).toArray s = true := fun w h => hts w (List.mem_cons_of_mem _ h)
  have hown : s.vm.findClass RX12 = some m.cls := findClass_of_methodNamed B.named
  have hlocks := B.notSynchronized
  have hS : va_S A s.heap s.heap [] := va_S.rf
  have hP : va_P D vwCl (RW cs bd u b bw) s.heap := hP
  have hl := lv_entry ([.ref (bd 0), .int p1, .int p2]) (n := 5) (Nat.le_of_ble_eq_true rfl)
  rw [lg_entry_eq]
  generalize (lg_sl ([.ref (bd 0), .int p1, .int p2]) ++ List.replicate (5 - (lg_sl ([.ref (bd 0), .int p1, .int p2])).length) Slot.unset).toArray = ls at hl ⊢
  have hl : lv_has ls 5 [(0, .ref (bd 0)), (1, .int p1), (2, .int p2)] := hl
  have hcut : ∀ nk : Nat, (∀ (x3 : Int32) (x4 : Int32) (c76_b4 : Nat → Int32) (c76_u33 : Int32) (c76_u34 : Int32) (c76_u30 : Int32) (c76_u28 : Int32) (c76_u29 : Int32) (c76_u31 : Int32) (c76_u7 : Int32) (c76_b32 : Nat → Int32) (c76_b25 : Nat → Int32) (c76_b26 : Nat → Int32) (c76_b6 : Nat → Int32) (H : Heap) (locs : List Loc) (j1 : 0 ≤ p1.toInt) (j2 : p1.toInt < (u 1).toInt) (j3 : 0 ≤ p2.toInt) (j4 : p2.toInt ≤ 1) (i3 : x3.toInt = -1 ∨ (0 ≤ x3.toInt ∧ x3.toInt < (u 1).toInt)) (i4 : 0 ≤ x4.toInt) (ju29_0 : -1 ≤ c76_u29.toInt) (ju29_1 : c76_u29.toInt < (u 1).toInt) (ju7_0 : -1 ≤ c76_u7.toInt) (ju7_1 : c76_u7.toInt < (u 1).toInt) (hmu : ((u 1).toInt - x4.toInt).toNat < nk) (hP : va_P D vwCl (RW cs bd (va_up (va_up (va_up (va_up (va_up (va_up (va_up u 33 c76_u33) 34 c76_u34) 30 c76_u30) 28 c76_u28) 29 c76_u29) 31 c76_u31) 7 c76_u7) (va_up (va_up (va_up (va_up (va_up b 4 c76_b4) 32 c76_b32) 25 c76_b25) 26 c76_b26) 6 c76_b6) bw) H) (hD : va_D A (RW cs bd (va_up (va_up (va_up (va_up (va_up (va_up (va_up u 33 c76_u33) 34 c76_u34) 30 c76_u30) 28 c76_u28) 29 c76_u29) 31 c76_u31) 7 c76_u7) (va_up (va_up (va_up (va_up (va_up b 4 c76_b4) 32 c76_b32) 25 c76_b25) 26 c76_b26) 6 c76_b6) bw)) (hS : va_S A s.heap H locs) (ls : Array Slot) (hl : lv_has ls 5 [(0, .ref (bd 0)), (2, .int p2), (3, .int x3), (4, .int x4)]), W p l e (headSpec (Cond.code yX12_say cX12_say 5 (some .int) :: gw) ({ frames := 5, cells := 0, slots := 0, locals := 116 })).room s m ([.ref (bd 0), .int p1, .int p2] : List Value).toArray below meth c H locs 0 0 (MQ below (va_Qi (fun (r : Int32) (z : (Nat → Int32) × Int32 × Int32 × Int32 × Int32 × Int32 × Int32 × Int32 × (Nat → Int32) × (Nat → Int32) × (Nat → Int32) × (Nat → Int32) × (Nat → Int32)) => ((r.toInt = -1 ∧ ¬ ((0 ≤ p1.toInt ∧ p1.toInt < (u 1).toInt) ∧ 0 ≤ p2.toInt ∧ p2.toInt ≤ 1) ∧ z.1 0 = ((b 53) 0)) ∨ (r.toInt ≠ -1 ∧ ((0 ≤ p1.toInt ∧ p1.toInt < (u 1).toInt) ∧ 0 ≤ p2.toInt ∧ p2.toInt ≤ 1) ∧ z.1 0 = ((b 53) 0) + 1)) ∧ (-1 ≤ z.2.2.2.2.2.2.2.1.toInt) ∧ (z.2.2.2.2.2.2.2.1.toInt < (u 1).toInt)) (XPo D (fun (z : (Nat → Int32) × Int32 × Int32 × Int32 × Int32 × Int32 × Int32 × Int32 × (Nat → Int32) × (Nat → Int32) × (Nat → Int32) × (Nat → Int32) × (Nat → Int32)) => RW cs bd (va_up (va_up (va_up (va_up (va_up (va_up (va_up u 33 z.2.1) 34 z.2.2.1) 30 z.2.2.2.1) 28 z.2.2.2.2.1) 29 z.2.2.2.2.2.1) 31 z.2.2.2.2.2.2.1) 7 z.2.2.2.2.2.2.2.1) (va_up (va_up (va_up (va_up (va_up (va_up b 53 z.1) 4 z.2.2.2.2.2.2.2.2.1) 32 z.2.2.2.2.2.2.2.2.2.1) 25 z.2.2.2.2.2.2.2.2.2.2.1) 26 z.2.2.2.2.2.2.2.2.2.2.2.1) 6 z.2.2.2.2.2.2.2.2.2.2.2.2) bw) A) A) ([.ref (bd 0), .int p1, .int p2] : List Value).toArray s 0 0 A) (F0 m 76 ls [])) := by
    intro nk
    induction nk with
    | zero => exact (fun x3 x4 c76_b4 c76_u33 c76_u34 c76_u30 c76_u28 c76_u29 c76_u31 c76_u7 c76_b32 c76_b25 c76_b26 c76_b6 H locs j1 j2 j3 j4 i3 i4 ju29_0 ju29_1 ju7_0 ju7_1 hmu hP hD hS ls hl => absurd hmu (Nat.not_lt_zero _))
    | succ nk ih =>
      intro x3 x4 c76_b4 c76_u33 c76_u34 c76_u30 c76_u28 c76_u29 c76_u31 c76_u7 c76_b32 c76_b25 c76_b26 c76_b6 H locs j1 j2 j3 j4 i3 i4 ju29_0 ju29_1 ju7_0 ju7_1 hmu hP hD hS ls hl
      refine lv_iload hx hb dX12_say_76 (lv_at hl 3 rfl) ?_
      refine lv_aload_n hx hb dX12_say_78 rfl (lv_at hl 0 rfl) ?_
      refine gr_people1 hx hb hg hown hK hP (x := (u 1)) rfl (hg _ q4_233) dX12_say_79 ?_
      refine lv_icmp_ge (tgt := 105) hx hb dX12_say_82 (by decide) (fun c_1 => ?_) (fun c_1 => ?_)
      ·
        have kc_1 : (u 1).toInt ≤ x4.toInt := i_le c_1
        refine lv_aload_n hx hb dX12_say_105 rfl (lv_at hl 0 rfl) ?_
        refine gr_ledOf hx hb hg hown hK hP (hg _ q5_45) dX12_say_106 ?_
        refine lv_iconst (v := 0) hx hb dX12_say_109 (by decide) ?_
        refine lv_dup2_11 hx hb dX12_say_110 rfl rfl ?_
        refine lr_ledOf hx hb hK hP (i_in (by decide) (by decide)) dX12_say_111 ?_
        refine lv_topi (fun x_2 ex_2 => ?_)
        have ex_2 : x_2 = (b 53) (0 : Int32).toNatClampNeg := ex_2
        have hx_2 : x_2.toInt = ((b 53) (0 : Int32).toNatClampNeg).toInt := by rw [ex_2]
        refine lv_iconst (v := 1) hx hb dX12_say_112 (by decide) ?_
        refine lv_iadd hx hb dX12_say_113 ?_
        refine lv_topi (fun x_3 ex_3 => ?_)
        have kled : x_3 = ((b 53) 0) + 1 := by rw [ex_3, ex_2]; rfl
        refine sr_ledOf hx hb hK hP hD hS (i_in (by decide) (by decide)) dX12_say_114 (fun H locs hP hD hS => ?_)
        refine lv_aload_n hx hb dX12_say_115 rfl (lv_at hl 0 rfl) ?_
        refine gr_ledOf hx hb hg hown hK hP (hg _ q5_45) dX12_say_116 ?_
        refine lv_iconst (v := 1) hx hb dX12_say_119 (by decide) ?_
        refine lv_dup2_11 hx hb dX12_say_120 rfl rfl ?_
        refine lr_ledOf hx hb hK hP (i_in (by decide) (by decide)) dX12_say_121 ?_
        refine lv_topi (fun x_4 ex_4 => ?_)
        have ex_4 : x_4 = (upd (b 53) (0 : Int32).toNatClampNeg x_3) (1 : Int32).toNatClampNeg := ex_4
        have hx_4 : x_4.toInt = ((upd (b 53) (0 : Int32).toNatClampNeg x_3) (1 : Int32).toNatClampNeg).toInt := by rw [ex_4]
        refine lv_iload_n hx hb dX12_say_122 rfl (lv_at hl 1 rfl) ?_
        refine lv_iadd hx hb dX12_say_123 ?_
        refine lv_topi (fun x_5 ex_5 => ?_)
        refine sr_ledOf hx hb hK hP hD hS (i_in (by decide) (by decide)) dX12_say_124 (fun H locs hP hD hS => ?_)
        refine lv_aload_n hx hb dX12_say_125 rfl (lv_at hl 0 rfl) ?_
        refine gr_loud1 hx hb hg hown hK hP (x := c76_u34) rfl (hg _ q5_26) dX12_say_126 ?_
        refine lv_if_eq (tgt := 142) hx hb dX12_say_129 (by decide) (fun c_6 => ?_) (fun c_6 => ?_)
        ·
          have kc_6 : c76_u34.toInt = (0 : Int) := i_eq c_6
          refine lv_iload_n hx hb dX12_say_142 rfl (lv_at hl 2 rfl) ?_
          refine lv_if_ge (tgt := 149) hx hb dX12_say_143 (by decide) (fun c_7 => ?_) (fun c_7 => ?_)
          ·
            have kc_7 : (0 : Int) ≤ x3.toInt := i_le c_7
            refine lv_aload_n hx hb dX12_say_149 rfl (lv_at hl 0 rfl) ?_
            refine gr_ledOf hx hb hg hown hK hP (hg _ q5_45) dX12_say_150 ?_
            refine lv_iconst (v := 3) hx hb dX12_say_153 (by decide) ?_
            refine lv_dup2_11 hx hb dX12_say_154 rfl rfl ?_
            refine lr_ledOf hx hb hK hP (i_in (by decide) (by decide)) dX12_say_155 ?_
            refine lv_topi (fun x_8 ex_8 => ?_)
            have ex_8 : x_8 = (upd (upd (b 53) (0 : Int32).toNatClampNeg x_3) (1 : Int32).toNatClampNeg x_5) (3 : Int32).toNatClampNeg := ex_8
            have hx_8 : x_8.toInt = ((upd (upd (b 53) (0 : Int32).toNatClampNeg x_3) (1 : Int32).toNatClampNeg x_5) (3 : Int32).toNatClampNeg).toInt := by rw [ex_8]
            refine lv_iconst (v := 1) hx hb dX12_say_156 (by decide) ?_
            refine lv_iadd hx hb dX12_say_157 ?_
            refine lv_topi (fun x_9 ex_9 => ?_)
            refine sr_ledOf hx hb hK hP hD hS (i_in (by decide) (by decide)) dX12_say_158 (fun H locs hP hD hS => ?_)
            refine lv_aload_n hx hb dX12_say_159 rfl (lv_at hl 0 rfl) ?_
            refine gr_hurt1 hx hb hg hown hK hP (x := c76_u33) rfl (hg _ q5_25) dX12_say_160 ?_
            refine lv_if_eq (tgt := 176) hx hb dX12_say_163 (by decide) (fun c_10 => ?_) (fun c_10 => ?_)
            ·
              have kc_10 : c76_u33.toInt = (0 : Int) := i_eq c_10
              refine lv_iload_n hx hb dX12_say_176 rfl (lv_at hl 2 rfl) ?_
              have hP : va_P D vwCl (RW cs bd (va_up (va_up (va_up (va_up (va_up (va_up (va_up u 33 c76_u33) 34 c76_u34) 30 c76_u30) 28 c76_u28) 29 c76_u29) 31 c76_u31) 7 c76_u7) (va_up (va_up (va_up (va_up (va_up (va_up b 53 (upd (upd (upd (b 53) (0 : Int32).toNatClampNeg x_3) (1 : Int32).toNatClampNeg x_5) (3 : Int32).toNatClampNeg x_9)) 4 c76_b4) 32 c76_b32) 25 c76_b25) 26 c76_b26) 6 c76_b6) bw) _ := hP
              have hD : va_D A (RW cs bd (va_up (va_up (va_up (va_up (va_up (va_up (va_up u 33 c76_u33) 34 c76_u34) 30 c76_u30) 28 c76_u28) 29 c76_u29) 31 c76_u31) 7 c76_u7) (va_up (va_up (va_up (va_up (va_up (va_up b 53 (upd (upd (upd (b 53) (0 : Int32).toNatClampNeg x_3) (1 : Int32).toNatClampNeg x_5) (3 : Int32).toNatClampNeg x_9)) 4 c76_b4) 32 c76_b32) 25 c76_b25) 26 c76_b26) 6 c76_b6) bw) := hD
              exact W.iret (v := x3) hx hb hr (fun tt ht hW => ⟨⟨x3, ⟨(upd (upd (upd (b 53) (0 : Int32).toNatClampNeg x_3) (1 : Int32).toNatClampNeg x_5) (3 : Int32).toNatClampNeg x_9), c76_u33, c76_u34, c76_u30, c76_u28, c76_u29, c76_u31, c76_u7, c76_b4, c76_b32, c76_b25, c76_b26, c76_b6⟩, rfl, ⟨(by first | exact Or.inl ⟨by omega, by omega, rfl⟩ | exact Or.inr ⟨by omega, by omega, kled⟩), (show -1 ≤ c76_u7.toInt by first | omega | assumption), (show c76_u7.toInt < (u 1).toInt by first | omega | assumption)⟩, by rw [ht]; exact hP, hD⟩, hS.F ht⟩) hS.2.2 dX12_say_177
            ·
              have kc_10 : c76_u33.toInt ≠ (0 : Int) := i_ne c_10
              refine lv_aload_n hx hb dX12_say_166 rfl (lv_at hl 0 rfl) ?_
              refine gr_ledOf hx hb hg hown hK hP (hg _ q5_45) dX12_say_167 ?_
              refine lv_iconst (v := 4) hx hb dX12_say_170 (by decide) ?_
              refine lv_dup2_11 hx hb dX12_say_171 rfl rfl ?_
              refine lr_ledOf hx hb hK hP (i_in (by decide) (by decide)) dX12_say_172 ?_
              refine lv_topi (fun x_11 ex_11 => ?_)
              have ex_11 : x_11 = (upd (upd (upd (b 53) (0 : Int32).toNatClampNeg x_3) (1 : Int32).toNatClampNeg x_5) (3 : Int32).toNatClampNeg x_9) (4 : Int32).toNatClampNeg := ex_11
              have hx_11 : x_11.toInt = ((upd (upd (upd (b 53) (0 : Int32).toNatClampNeg x_3) (1 : Int32).toNatClampNeg x_5) (3 : Int32).toNatClampNeg x_9) (4 : Int32).toNatClampNeg).toInt := by rw [ex_11]
              refine lv_iconst (v := 1) hx hb dX12_say_173 (by decide) ?_
              refine lv_iadd hx hb dX12_say_174 ?_
              refine lv_topi (fun x_12 ex_12 => ?_)
              refine sr_ledOf hx hb hK hP hD hS (i_in (by decide) (by decide)) dX12_say_175 (fun H locs hP hD hS => ?_)
              refine lv_iload_n hx hb dX12_say_176 rfl (lv_at hl 2 rfl) ?_
              have hP : va_P D vwCl (RW cs bd (va_up (va_up (va_up (va_up (va_up (va_up (va_up u 33 c76_u33) 34 c76_u34) 30 c76_u30) 28 c76_u28) 29 c76_u29) 31 c76_u31) 7 c76_u7) (va_up (va_up (va_up (va_up (va_up (va_up b 53 (upd (upd (upd (upd (b 53) (0 : Int32).toNatClampNeg x_3) (1 : Int32).toNatClampNeg x_5) (3 : Int32).toNatClampNeg x_9) (4 : Int32).toNatClampNeg x_12)) 4 c76_b4) 32 c76_b32) 25 c76_b25) 26 c76_b26) 6 c76_b6) bw) _ := hP
              have hD : va_D A (RW cs bd (va_up (va_up (va_up (va_up (va_up (va_up (va_up u 33 c76_u33) 34 c76_u34) 30 c76_u30) 28 c76_u28) 29 c76_u29) 31 c76_u31) 7 c76_u7) (va_up (va_up (va_up (va_up (va_up (va_up b 53 (upd (upd (upd (upd (b 53) (0 : Int32).toNatClampNeg x_3) (1 : Int32).toNatClampNeg x_5) (3 : Int32).toNatClampNeg x_9) (4 : Int32).toNatClampNeg x_12)) 4 c76_b4) 32 c76_b32) 25 c76_b25) 26 c76_b26) 6 c76_b6) bw) := hD
              exact W.iret (v := x3) hx hb hr (fun tt ht hW => ⟨⟨x3, ⟨(upd (upd (upd (upd (b 53) (0 : Int32).toNatClampNeg x_3) (1 : Int32).toNatClampNeg x_5) (3 : Int32).toNatClampNeg x_9) (4 : Int32).toNatClampNeg x_12), c76_u33, c76_u34, c76_u30, c76_u28, c76_u29, c76_u31, c76_u7, c76_b4, c76_b32, c76_b25, c76_b26, c76_b6⟩, rfl, ⟨(by first | exact Or.inl ⟨by omega, by omega, rfl⟩ | exact Or.inr ⟨by omega, by omega, kled⟩), (show -1 ≤ c76_u7.toInt by first | omega | assumption), (show c76_u7.toInt < (u 1).toInt by first | omega | assumption)⟩, by rw [ht]; exact hP, hD⟩, hS.F ht⟩) hS.2.2 dX12_say_177
          ·
            have kc_7 : x3.toInt < (0 : Int) := i_nle c_7
            refine lv_bipush (v := (-2)) hx hb dX12_say_146 (by decide) ?_
            have q0_m2 : ((-2) : Int32).toInt = (-2) := rfl
            have hP : va_P D vwCl (RW cs bd (va_up (va_up (va_up (va_up (va_up (va_up (va_up u 33 c76_u33) 34 c76_u34) 30 c76_u30) 28 c76_u28) 29 c76_u29) 31 c76_u31) 7 c76_u7) (va_up (va_up (va_up (va_up (va_up (va_up b 53 (upd (upd (b 53) (0 : Int32).toNatClampNeg x_3) (1 : Int32).toNatClampNeg x_5)) 4 c76_b4) 32 c76_b32) 25 c76_b25) 26 c76_b26) 6 c76_b6) bw) _ := hP
            have hD : va_D A (RW cs bd (va_up (va_up (va_up (va_up (va_up (va_up (va_up u 33 c76_u33) 34 c76_u34) 30 c76_u30) 28 c76_u28) 29 c76_u29) 31 c76_u31) 7 c76_u7) (va_up (va_up (va_up (va_up (va_up (va_up b 53 (upd (upd (b 53) (0 : Int32).toNatClampNeg x_3) (1 : Int32).toNatClampNeg x_5)) 4 c76_b4) 32 c76_b32) 25 c76_b25) 26 c76_b26) 6 c76_b6) bw) := hD
            exact W.iret (v := (-2)) hx hb hr (fun tt ht hW => ⟨⟨(-2), ⟨(upd (upd (b 53) (0 : Int32).toNatClampNeg x_3) (1 : Int32).toNatClampNeg x_5), c76_u33, c76_u34, c76_u30, c76_u28, c76_u29, c76_u31, c76_u7, c76_b4, c76_b32, c76_b25, c76_b26, c76_b6⟩, rfl, ⟨(by first | exact Or.inl ⟨by omega, by omega, rfl⟩ | exact Or.inr ⟨by omega, by omega, kled⟩), (show -1 ≤ c76_u7.toInt by first | omega | assumption), (show c76_u7.toInt < (u 1).toInt by first | omega | assumption)⟩, by rw [ht]; exact hP, hD⟩, hS.F ht⟩) hS.2.2 dX12_say_148
        ·
          have kc_6 : c76_u34.toInt ≠ (0 : Int) := i_ne c_6
          refine lv_aload_n hx hb dX12_say_132 rfl (lv_at hl 0 rfl) ?_
          refine gr_ledOf hx hb hg hown hK hP (hg _ q5_45) dX12_say_133 ?_
          refine lv_iconst (v := 2) hx hb dX12_say_136 (by decide) ?_
          refine lv_dup2_11 hx hb dX12_say_137 rfl rfl ?_
          refine lr_ledOf hx hb hK hP (i_in (by decide) (by decide)) dX12_say_138 ?_
          refine lv_topi (fun x_13 ex_13 => ?_)
          have ex_13 : x_13 = (upd (upd (b 53) (0 : Int32).toNatClampNeg x_3) (1 : Int32).toNatClampNeg x_5) (2 : Int32).toNatClampNeg := ex_13
          have hx_13 : x_13.toInt = ((upd (upd (b 53) (0 : Int32).toNatClampNeg x_3) (1 : Int32).toNatClampNeg x_5) (2 : Int32).toNatClampNeg).toInt := by rw [ex_13]
          refine lv_iconst (v := 1) hx hb dX12_say_139 (by decide) ?_
          refine lv_iadd hx hb dX12_say_140 ?_
          refine lv_topi (fun x_14 ex_14 => ?_)
          refine sr_ledOf hx hb hK hP hD hS (i_in (by decide) (by decide)) dX12_say_141 (fun H locs hP hD hS => ?_)
          refine lv_iload_n hx hb dX12_say_142 rfl (lv_at hl 2 rfl) ?_
          refine lv_if_ge (tgt := 149) hx hb dX12_say_143 (by decide) (fun c_15 => ?_) (fun c_15 => ?_)
          ·
            have kc_15 : (0 : Int) ≤ x3.toInt := i_le c_15
            refine lv_aload_n hx hb dX12_say_149 rfl (lv_at hl 0 rfl) ?_
            refine gr_ledOf hx hb hg hown hK hP (hg _ q5_45) dX12_say_150 ?_
            refine lv_iconst (v := 3) hx hb dX12_say_153 (by decide) ?_
            refine lv_dup2_11 hx hb dX12_say_154 rfl rfl ?_
            refine lr_ledOf hx hb hK hP (i_in (by decide) (by decide)) dX12_say_155 ?_
            refine lv_topi (fun x_16 ex_16 => ?_)
            have ex_16 : x_16 = (upd (upd (upd (b 53) (0 : Int32).toNatClampNeg x_3) (1 : Int32).toNatClampNeg x_5) (2 : Int32).toNatClampNeg x_14) (3 : Int32).toNatClampNeg := ex_16
            have hx_16 : x_16.toInt = ((upd (upd (upd (b 53) (0 : Int32).toNatClampNeg x_3) (1 : Int32).toNatClampNeg x_5) (2 : Int32).toNatClampNeg x_14) (3 : Int32).toNatClampNeg).toInt := by rw [ex_16]
            refine lv_iconst (v := 1) hx hb dX12_say_156 (by decide) ?_
            refine lv_iadd hx hb dX12_say_157 ?_
            refine lv_topi (fun x_17 ex_17 => ?_)
            refine sr_ledOf hx hb hK hP hD hS (i_in (by decide) (by decide)) dX12_say_158 (fun H locs hP hD hS => ?_)
            refine lv_aload_n hx hb dX12_say_159 rfl (lv_at hl 0 rfl) ?_
            refine gr_hurt1 hx hb hg hown hK hP (x := c76_u33) rfl (hg _ q5_25) dX12_say_160 ?_
            refine lv_if_eq (tgt := 176) hx hb dX12_say_163 (by decide) (fun c_18 => ?_) (fun c_18 => ?_)
            ·
              have kc_18 : c76_u33.toInt = (0 : Int) := i_eq c_18
              refine lv_iload_n hx hb dX12_say_176 rfl (lv_at hl 2 rfl) ?_
              have hP : va_P D vwCl (RW cs bd (va_up (va_up (va_up (va_up (va_up (va_up (va_up u 33 c76_u33) 34 c76_u34) 30 c76_u30) 28 c76_u28) 29 c76_u29) 31 c76_u31) 7 c76_u7) (va_up (va_up (va_up (va_up (va_up (va_up b 53 (upd (upd (upd (upd (b 53) (0 : Int32).toNatClampNeg x_3) (1 : Int32).toNatClampNeg x_5) (2 : Int32).toNatClampNeg x_14) (3 : Int32).toNatClampNeg x_17)) 4 c76_b4) 32 c76_b32) 25 c76_b25) 26 c76_b26) 6 c76_b6) bw) _ := hP
              have hD : va_D A (RW cs bd (va_up (va_up (va_up (va_up (va_up (va_up (va_up u 33 c76_u33) 34 c76_u34) 30 c76_u30) 28 c76_u28) 29 c76_u29) 31 c76_u31) 7 c76_u7) (va_up (va_up (va_up (va_up (va_up (va_up b 53 (upd (upd (upd (upd (b 53) (0 : Int32).toNatClampNeg x_3) (1 : Int32).toNatClampNeg x_5) (2 : Int32).toNatClampNeg x_14) (3 : Int32).toNatClampNeg x_17)) 4 c76_b4) 32 c76_b32) 25 c76_b25) 26 c76_b26) 6 c76_b6) bw) := hD
              exact W.iret (v := x3) hx hb hr (fun tt ht hW => ⟨⟨x3, ⟨(upd (upd (upd (upd (b 53) (0 : Int32).toNatClampNeg x_3) (1 : Int32).toNatClampNeg x_5) (2 : Int32).toNatClampNeg x_14) (3 : Int32).toNatClampNeg x_17), c76_u33, c76_u34, c76_u30, c76_u28, c76_u29, c76_u31, c76_u7, c76_b4, c76_b32, c76_b25, c76_b26, c76_b6⟩, rfl, ⟨(by first | exact Or.inl ⟨by omega, by omega, rfl⟩ | exact Or.inr ⟨by omega, by omega, kled⟩), (show -1 ≤ c76_u7.toInt by first | omega | assumption), (show c76_u7.toInt < (u 1).toInt by first | omega | assumption)⟩, by rw [ht]; exact hP, hD⟩, hS.F ht⟩) hS.2.2 dX12_say_177
            ·
              have kc_18 : c76_u33.toInt ≠ (0 : Int) := i_ne c_18
              refine lv_aload_n hx hb dX12_say_166 rfl (lv_at hl 0 rfl) ?_
              refine gr_ledOf hx hb hg hown hK hP (hg _ q5_45) dX12_say_167 ?_
              refine lv_iconst (v := 4) hx hb dX12_say_170 (by decide) ?_
              refine lv_dup2_11 hx hb dX12_say_171 rfl rfl ?_
              refine lr_ledOf hx hb hK hP (i_in (by decide) (by decide)) dX12_say_172 ?_
              refine lv_topi (fun x_19 ex_19 => ?_)
              have ex_19 : x_19 = (upd (upd (upd (upd (b 53) (0 : Int32).toNatClampNeg x_3) (1 : Int32).toNatClampNeg x_5) (2 : Int32).toNatClampNeg x_14) (3 : Int32).toNatClampNeg x_17) (4 : Int32).toNatClampNeg := ex_19
              have hx_19 : x_19.toInt = ((upd (upd (upd (upd (b 53) (0 : Int32).toNatClampNeg x_3) (1 : Int32).toNatClampNeg x_5) (2 : Int32).toNatClampNeg x_14) (3 : Int32).toNatClampNeg x_17) (4 : Int32).toNatClampNeg).toInt := by rw [ex_19]
              refine lv_iconst (v := 1) hx hb dX12_say_173 (by decide) ?_
              refine lv_iadd hx hb dX12_say_174 ?_
              refine lv_topi (fun x_20 ex_20 => ?_)
              refine sr_ledOf hx hb hK hP hD hS (i_in (by decide) (by decide)) dX12_say_175 (fun H locs hP hD hS => ?_)
              refine lv_iload_n hx hb dX12_say_176 rfl (lv_at hl 2 rfl) ?_
              have hP : va_P D vwCl (RW cs bd (va_up (va_up (va_up (va_up (va_up (va_up (va_up u 33 c76_u33) 34 c76_u34) 30 c76_u30) 28 c76_u28) 29 c76_u29) 31 c76_u31) 7 c76_u7) (va_up (va_up (va_up (va_up (va_up (va_up b 53 (upd (upd (upd (upd (upd (b 53) (0 : Int32).toNatClampNeg x_3) (1 : Int32).toNatClampNeg x_5) (2 : Int32).toNatClampNeg x_14) (3 : Int32).toNatClampNeg x_17) (4 : Int32).toNatClampNeg x_20)) 4 c76_b4) 32 c76_b32) 25 c76_b25) 26 c76_b26) 6 c76_b6) bw) _ := hP
              have hD : va_D A (RW cs bd (va_up (va_up (va_up (va_up (va_up (va_up (va_up u 33 c76_u33) 34 c76_u34) 30 c76_u30) 28 c76_u28) 29 c76_u29) 31 c76_u31) 7 c76_u7) (va_up (va_up (va_up (va_up (va_up (va_up b 53 (upd (upd (upd (upd (upd (b 53) (0 : Int32).toNatClampNeg x_3) (1 : Int32).toNatClampNeg x_5) (2 : Int32).toNatClampNeg x_14) (3 : Int32).toNatClampNeg x_17) (4 : Int32).toNatClampNeg x_20)) 4 c76_b4) 32 c76_b32) 25 c76_b25) 26 c76_b26) 6 c76_b6) bw) := hD
              exact W.iret (v := x3) hx hb hr (fun tt ht hW => ⟨⟨x3, ⟨(upd (upd (upd (upd (upd (b 53) (0 : Int32).toNatClampNeg x_3) (1 : Int32).toNatClampNeg x_5) (2 : Int32).toNatClampNeg x_14) (3 : Int32).toNatClampNeg x_17) (4 : Int32).toNatClampNeg x_20), c76_u33, c76_u34, c76_u30, c76_u28, c76_u29, c76_u31, c76_u7, c76_b4, c76_b32, c76_b25, c76_b26, c76_b6⟩, rfl, ⟨(by first | exact Or.inl ⟨by omega, by omega, rfl⟩ | exact Or.inr ⟨by omega, by omega, kled⟩), (show -1 ≤ c76_u7.toInt by first | omega | assumption), (show c76_u7.toInt < (u 1).toInt by first | omega | assumption)⟩, by rw [ht]; exact hP, hD⟩, hS.F ht⟩) hS.2.2 dX12_say_177
          ·
            have kc_15 : x3.toInt < (0 : Int) := i_nle c_15
            refine lv_bipush (v := (-2)) hx hb dX12_say_146 (by decide) ?_
            have q0_m2 : ((-2) : Int32).toInt = (-2) := rfl
            have hP : va_P D vwCl (RW cs bd (va_up (va_up (va_up (va_up (va_up (va_up (va_up u 33 c76_u33) 34 c76_u34) 30 c76_u30) 28 c76_u28) 29 c76_u29) 31 c76_u31) 7 c76_u7) (va_up (va_up (va_up (va_up (va_up (va_up b 53 (upd (upd (upd (b 53) (0 : Int32).toNatClampNeg x_3) (1 : Int32).toNatClampNeg x_5) (2 : Int32).toNatClampNeg x_14)) 4 c76_b4) 32 c76_b32) 25 c76_b25) 26 c76_b26) 6 c76_b6) bw) _ := hP
            have hD : va_D A (RW cs bd (va_up (va_up (va_up (va_up (va_up (va_up (va_up u 33 c76_u33) 34 c76_u34) 30 c76_u30) 28 c76_u28) 29 c76_u29) 31 c76_u31) 7 c76_u7) (va_up (va_up (va_up (va_up (va_up (va_up b 53 (upd (upd (upd (b 53) (0 : Int32).toNatClampNeg x_3) (1 : Int32).toNatClampNeg x_5) (2 : Int32).toNatClampNeg x_14)) 4 c76_b4) 32 c76_b32) 25 c76_b25) 26 c76_b26) 6 c76_b6) bw) := hD
            exact W.iret (v := (-2)) hx hb hr (fun tt ht hW => ⟨⟨(-2), ⟨(upd (upd (upd (b 53) (0 : Int32).toNatClampNeg x_3) (1 : Int32).toNatClampNeg x_5) (2 : Int32).toNatClampNeg x_14), c76_u33, c76_u34, c76_u30, c76_u28, c76_u29, c76_u31, c76_u7, c76_b4, c76_b32, c76_b25, c76_b26, c76_b6⟩, rfl, ⟨(by first | exact Or.inl ⟨by omega, by omega, rfl⟩ | exact Or.inr ⟨by omega, by omega, kled⟩), (show -1 ≤ c76_u7.toInt by first | omega | assumption), (show c76_u7.toInt < (u 1).toInt by first | omega | assumption)⟩, by rw [ht]; exact hP, hD⟩, hS.F ht⟩) hS.2.2 dX12_say_148
      ·
        have kc_1 : x4.toInt < (u 1).toInt := i_nle c_1
        refine lv_aload_n hx hb dX12_say_85 rfl (lv_at hl 0 rfl) ?_
        refine gr_pads hx hb hg hown hK hP (hg _ q4_236) dX12_say_86 ?_
        refine lv_iload hx hb dX12_say_89 (lv_at hl 3 rfl) ?_
        refine lv_aload_n hx hb dX12_say_91 rfl (lv_at hl 0 rfl) ?_
        refine gr_pads1 hx hb hg hown hK hP (hg _ q5_24) dX12_say_92 ?_
        refine lv_iload hx hb dX12_say_95 (lv_at hl 3 rfl) ?_
        refine lr_pads1 hx hb hK hP (i_in (by omega) (by omega)) dX12_say_97 ?_
        refine lv_topi (fun x_21 ex_21 => ?_)
        have ex_21 : x_21 = c76_b32 x4.toNatClampNeg := ex_21
        have hx_21 : x_21.toInt = (c76_b32 x4.toNatClampNeg).toInt := by rw [ex_21]
        refine sr_pads hx hb hK hP hD hS (i_in (by omega) (by omega)) dX12_say_98 (fun H locs hP hD hS => ?_)
        obtain ⟨x_22, ex_22⟩ : ∃ y : Int32, y = x4 + 1 := ⟨_, rfl⟩
        have fx_22 : x_22.toInt = x4.toInt + 1 := by rw [ex_22]; exact i_add (by first | omega | (show (_ : Int) ≤ x4.toInt + 1; omega)) (by first | omega | (show x4.toInt + 1 ≤ (_ : Int); omega))
        refine lv_iinc (v := x_22) (lv' := [(4, .int x_22), (0, .ref (bd 0)), (2, .int p2), (3, .int x3)]) hx hb dX12_say_99 hl (k := 3) rfl (by rw [ex_22]; rfl) (by decide) rfl (fun ls hl => ?_)
        refine lv_goto (tgt := 76) hx hb dX12_say_102 (by decide) ?_
        exact ih x3 x_22 (upd c76_b4 x4.toNatClampNeg x_21) c76_u33 c76_u34 c76_u30 c76_u28 c76_u29 c76_u31 c76_u7 c76_b32 c76_b25 c76_b26 c76_b6 _ _ (by omega) (by omega) (by omega) (by omega) (by omega) (by omega) (show -1 ≤ c76_u29.toInt by first | omega | assumption) (show c76_u29.toInt < (u 1).toInt by first | omega | assumption) (show -1 ≤ c76_u7.toInt by first | omega | assumption) (show c76_u7.toInt < (u 1).toInt by first | omega | assumption) (by omega) hP hD hS ls (lv_sub hl [1, 2, 3, 0] rfl)
  refine lv_aload_n hx hb dX12_say_0 rfl (lv_at hl 0 rfl) ?_
  refine lv_iload_n hx hb dX12_say_1 rfl (lv_at hl 1 rfl) ?_
  refine cV_ro (As := [.int p1]) (rest := []) ⟨hx, hb, hml, hown, hg⟩ (k_X12_isOne l D cs A bd u b bw  p1 (show 0 ≤ (u 1).toInt by first | omega | decide) (show (u 1).toInt ≤ 8 by first | omega | decide)) ca_X12_isOne q6_7 ⟨rfl, rfl⟩ ⟨Nat.le_of_ble_eq_true rfl, Nat.le_of_ble_eq_true rfl⟩ (rc_model hK hP) hK hP hD hS hZ rfl hl.1 rfl (Nat.le_of_ble_eq_true rfl) ⟨Nat.zero_le _, Nat.zero_le _⟩ dX12_say_2 (fun r_23 wr_23 => ?_)
  have wr_23_0 : (r_23.toInt = 1 ∧ 0 ≤ p1.toInt ∧ p1.toInt < (u 1).toInt) ∨ (r_23.toInt = 0 ∧ ¬ (0 ≤ p1.toInt ∧ p1.toInt < (u 1).toInt)) := wr_23
  refine lv_if_eq (tgt := 17) hx hb dX12_say_5 (by decide) (fun c_24 => ?_) (fun c_24 => ?_)
  ·
    have kc_24 : r_23.toInt = (0 : Int) := i_eq c_24
    refine lv_iconst (v := (-1)) hx hb dX12_say_17 (by decide) ?_
    have q0_m1 : ((-1) : Int32).toInt = (-1) := rfl
    have hP : va_P D vwCl (RW cs bd (va_up (va_up (va_up (va_up (va_up (va_up (va_up u 33 (u 33)) 34 (u 34)) 30 (u 30)) 28 (u 28)) 29 (u 29)) 31 (u 31)) 7 (u 7)) (va_up (va_up (va_up (va_up (va_up (va_up b 53 (b 53)) 4 (b 4)) 32 (b 32)) 25 (b 25)) 26 (b 26)) 6 (b 6)) bw) _ := hP
    have hD : va_D A (RW cs bd (va_up (va_up (va_up (va_up (va_up (va_up (va_up u 33 (u 33)) 34 (u 34)) 30 (u 30)) 28 (u 28)) 29 (u 29)) 31 (u 31)) 7 (u 7)) (va_up (va_up (va_up (va_up (va_up (va_up b 53 (b 53)) 4 (b 4)) 32 (b 32)) 25 (b 25)) 26 (b 26)) 6 (b 6)) bw) := hD
    exact W.iret (v := (-1)) hx hb hr (fun tt ht hW => ⟨⟨(-1), ⟨(b 53), (u 33), (u 34), (u 30), (u 28), (u 29), (u 31), (u 7), (b 4), (b 32), (b 25), (b 26), (b 6)⟩, rfl, ⟨(by first | exact Or.inl ⟨by omega, by omega, rfl⟩ | exact Or.inr ⟨by omega, by omega, kled⟩), (show -1 ≤ (u 7).toInt by first | omega | assumption), (show (u 7).toInt < (u 1).toInt by first | omega | assumption)⟩, by rw [ht]; exact hP, hD⟩, hS.F ht⟩) hS.2.2 dX12_say_18
  ·
    have kc_24 : r_23.toInt ≠ (0 : Int) := i_ne c_24
    refine lv_iload_n hx hb dX12_say_8 rfl (lv_at hl 2 rfl) ?_
    refine lv_iconst (v := 0) hx hb dX12_say_9 (by decide) ?_
    refine lv_iconst (v := 1) hx hb dX12_say_10 (by decide) ?_
    refine cS_p (As := [.int p2, .int 0, .int 1]) (rest := []) ⟨hx, hb, hml, hown, hg⟩ (k_X12_in l   p2 0 1 ) ca_X12_in q5_212 ⟨rfl, rfl⟩ ⟨Nat.le_of_ble_eq_true rfl, Nat.le_of_ble_eq_true rfl⟩ rfl hl.1 rfl (Nat.le_of_ble_eq_true rfl) ⟨Nat.zero_le _, Nat.zero_le _⟩ dX12_say_11 (fun r_25 wr_25 => ?_)
    have wr_25 : (r_25.toInt = 1 ∧ (0 : Int) ≤ p2.toInt ∧ p2.toInt ≤ (1 : Int)) ∨ (r_25.toInt = 0 ∧ ¬ ((0 : Int) ≤ p2.toInt ∧ p2.toInt ≤ (1 : Int))) := wr_25
    refine lv_if_ne (tgt := 19) hx hb dX12_say_14 (by decide) (fun c_26 => ?_) (fun c_26 => ?_)
    ·
      have kc_26 : r_25.toInt ≠ (0 : Int) := i_ne c_26
      refine lv_aload_n hx hb dX12_say_19 rfl (lv_at hl 0 rfl) ?_
      refine lv_aload_n hx hb dX12_say_20 rfl (lv_at hl 0 rfl) ?_
      refine gr_ledOf hx hb hg hown hK hP (hg _ q5_45) dX12_say_21 ?_
      refine lv_iconst (v := 1) hx hb dX12_say_24 (by decide) ?_
      refine lr_ledOf hx hb hK hP (i_in (by decide) (by decide)) dX12_say_25 ?_
      refine lv_topi (fun x_27 ex_27 => ?_)
      have ex_27 : x_27 = (b 53) (1 : Int32).toNatClampNeg := ex_27
      have hx_27 : x_27.toInt = ((b 53) (1 : Int32).toNatClampNeg).toInt := by rw [ex_27]
      refine cV_v (As := [.int x_27]) (rest := []) ⟨hx, hb, hml, hown, hg⟩ (k_X12_layNow l D cs A bd u b bw  x_27 (show 0 ≤ (u 1).toInt by first | omega | decide) (show (u 1).toInt ≤ 8 by first | omega | decide) (show -1 ≤ (u 7).toInt by first | omega | decide) (show (u 7).toInt < (u 1).toInt by first | omega | decide)) ca_X12_layNow q6_93 ⟨rfl, rfl⟩ ⟨Nat.le_of_ble_eq_true rfl, Nat.le_of_ble_eq_true rfl⟩ (rc_model hK hP) hK hP hD hS hZ rfl hl.1 rfl (Nat.le_of_ble_eq_true rfl) ⟨Nat.zero_le _, Nat.zero_le _⟩ dX12_say_26 (fun z_34 H locs wr_28 hP hD hS => ?_)
      obtain ⟨o_u28_29, o_u29_30, o_u30_31, o_u31_32, o_b32_33⟩ := z_34
      have hP : va_P D vwCl (RW cs bd (va_up (va_up (va_up (va_up u 28 o_u28_29) 29 o_u29_30) 30 o_u30_31) 31 o_u31_32) (va_up b 32 o_b32_33) bw) H := hP
      have hD : va_D A (RW cs bd (va_up (va_up (va_up (va_up u 28 o_u28_29) 29 o_u29_30) 30 o_u30_31) 31 o_u31_32) (va_up b 32 o_b32_33) bw) := hD
      obtain ⟨wr_28_0, wr_28_1, wr_28_2⟩ : (o_u31_32 = x_27) ∧ (-1 ≤ o_u29_30.toInt) ∧ (o_u29_30.toInt < (u 1).toInt) := wr_28
      refine lv_aload_n hx hb dX12_say_29 rfl (lv_at hl 0 rfl) ?_
      refine lv_iload_n hx hb dX12_say_30 rfl (lv_at hl 1 rfl) ?_
      refine lv_iload_n hx hb dX12_say_31 rfl (lv_at hl 2 rfl) ?_
      refine lv_iconst (v := 1) hx hb dX12_say_32 (by decide) ?_
      refine lv_icmp_ne (tgt := 40) hx hb dX12_say_33 (by decide) (fun c_35 => ?_) (fun c_35 => ?_)
      ·
        have kc_35 : p2.toInt ≠ (1 : Int) := i_ne c_35
        refine lv_iconst (v := 0) hx hb dX12_say_40 (by decide) ?_
        refine cV_i (As := [.int p1, .int 0]) (rest := []) ⟨hx, hb, hml, hown, hg⟩ (k_X12_goSaying l D cs A bd (va_up (va_up (va_up (va_up u 28 o_u28_29) 29 o_u29_30) 30 o_u30_31) 31 o_u31_32) (va_up b 32 o_b32_33) bw  p1 0 (show 0 ≤ p1.toInt by first | omega | decide) (show p1.toInt < (u 1).toInt by first | omega | decide) hlaw (show 0 ≤ (u 1).toInt by first | omega | decide) (show (u 1).toInt ≤ 8 by first | omega | decide) (show -1 ≤ o_u29_30.toInt by first | omega | decide) (show o_u29_30.toInt < (u 1).toInt by first | omega | decide) ib23_0 ib24_0 ib20_0) ca_X12_goSaying q6_148 ⟨rfl, rfl⟩ ⟨Nat.le_of_ble_eq_true rfl, Nat.le_of_ble_eq_true rfl⟩ (rc_model hK hP) hK hP hD hS hZ rfl hl.1 rfl (Nat.le_of_ble_eq_true rfl) ⟨Nat.zero_le _, Nat.zero_le _⟩ dX12_say_41 (fun r_36 z_46 H locs wr_36 hP hD hS => ?_)
        obtain ⟨o_u33_37, o_u34_38, o_u30_39, o_u28_40, o_u29_41, o_b32_42, o_u31_43, o_b25_44, o_b26_45⟩ := z_46
        have hP : va_P D vwCl (RW cs bd (va_up (va_up (va_up (va_up (va_up (va_up u 33 o_u33_37) 34 o_u34_38) 30 o_u30_39) 28 o_u28_40) 29 o_u29_41) 31 o_u31_43) (va_up (va_up (va_up b 32 o_b32_42) 25 o_b25_44) 26 o_b26_45) bw) H := hP
        have hD : va_D A (RW cs bd (va_up (va_up (va_up (va_up (va_up (va_up u 33 o_u33_37) 34 o_u34_38) 30 o_u30_39) 28 o_u28_40) 29 o_u29_41) 31 o_u31_43) (va_up (va_up (va_up b 32 o_b32_42) 25 o_b25_44) 26 o_b26_45) bw) := hD
        obtain ⟨wr_36_0, wr_36_1, wr_36_2⟩ : (r_36.toInt = -1 ∨ (0 ≤ r_36.toInt ∧ r_36.toInt < (u 1).toInt)) ∧ (-1 ≤ o_u29_41.toInt) ∧ (o_u29_41.toInt < (u 1).toInt) := wr_36
        refine lv_istore_n (lv' := [(3, .int r_36), (0, .ref (bd 0)), (1, .int p1), (2, .int p2)]) hx hb dX12_say_44 rfl hl (by decide) rfl (fun ls hl => ?_)
        refine lv_aload_n hx hb dX12_say_45 rfl (lv_at hl 1 rfl) ?_
        refine gr_told hx hb hg hown hK hP (hg _ q4_238) dX12_say_46 ?_
        refine lv_iconst (v := 0) hx hb dX12_say_49 (by decide) ?_
        refine lv_aload_n hx hb dX12_say_50 rfl (lv_at hl 1 rfl) ?_
        refine gr_bee1 hx hb hg hown hK hP (x := o_u28_40) rfl (hg _ q5_20) dX12_say_51 ?_
        refine sr_told hx hb hK hP hD hS (i_in (by decide) (by decide)) dX12_say_54 (fun H locs hP hD hS => ?_)
        refine lv_aload_n hx hb dX12_say_55 rfl (lv_at hl 1 rfl) ?_
        refine gr_told hx hb hg hown hK hP (hg _ q4_238) dX12_say_56 ?_
        refine lv_iconst (v := 2) hx hb dX12_say_59 (by decide) ?_
        refine lv_aload_n hx hb dX12_say_60 rfl (lv_at hl 1 rfl) ?_
        refine gr_hour1 hx hb hg hown hK hP (x := o_u30_39) rfl (hg _ q5_22) dX12_say_61 ?_
        refine sr_told hx hb hK hP hD hS (i_in (by decide) (by decide)) dX12_say_64 (fun H locs hP hD hS => ?_)
        refine lv_aload_n hx hb dX12_say_65 rfl (lv_at hl 1 rfl) ?_
        refine lv_aload_n hx hb dX12_say_66 rfl (lv_at hl 1 rfl) ?_
        refine gr_liar1 hx hb hg hown hK hP (x := o_u29_41) rfl (hg _ q5_21) dX12_say_67 ?_
        refine pr_liar hx hb hg hown hK hP hD hS (hg _ q4_239) dX12_say_70 (fun H locs hP hD hS => ?_)
        refine lv_iconst (v := 0) hx hb dX12_say_73 (by decide) ?_
        refine lv_istore (lv' := [(4, .int 0), (3, .int r_36), (0, .ref (bd 0)), (1, .int p1), (2, .int p2)]) hx hb dX12_say_74 hl (by decide) rfl (fun ls hl => ?_)
        have q0_0 : (0 : Int32).toInt = 0 := rfl
        exact (hcut ((((u 1).toInt - (0 : Int32).toInt).toNat) + 1)) r_36 0 (b 4) o_u33_37 o_u34_38 o_u30_39 o_u28_40 o_u29_41 o_u31_43 o_u29_41 o_b32_42 o_b25_44 o_b26_45 (upd (upd (b 6) (0 : Int32).toNatClampNeg o_u28_40) (2 : Int32).toNatClampNeg o_u30_39) _ _ (by omega) (by omega) (by omega) (by omega) (by omega) (by omega) (show -1 ≤ o_u29_41.toInt by first | omega | assumption) (show o_u29_41.toInt < (u 1).toInt by first | omega | assumption) (show -1 ≤ o_u29_41.toInt by first | omega | assumption) (show o_u29_41.toInt < (u 1).toInt by first | omega | assumption) (Nat.lt_succ_self _) hP hD hS ls (lv_sub hl [2, 4, 1, 0] rfl)
      ·
        have kc_35 : p2.toInt = (1 : Int) := i_eq c_35
        refine lv_iconst (v := 1) hx hb dX12_say_36 (by decide) ?_
        refine lv_goto (tgt := 41) hx hb dX12_say_37 (by decide) ?_
        refine cV_i (As := [.int p1, .int 1]) (rest := []) ⟨hx, hb, hml, hown, hg⟩ (k_X12_goSaying l D cs A bd (va_up (va_up (va_up (va_up u 28 o_u28_29) 29 o_u29_30) 30 o_u30_31) 31 o_u31_32) (va_up b 32 o_b32_33) bw  p1 1 (show 0 ≤ p1.toInt by first | omega | decide) (show p1.toInt < (u 1).toInt by first | omega | decide) hlaw (show 0 ≤ (u 1).toInt by first | omega | decide) (show (u 1).toInt ≤ 8 by first | omega | decide) (show -1 ≤ o_u29_30.toInt by first | omega | decide) (show o_u29_30.toInt < (u 1).toInt by first | omega | decide) ib23_0 ib24_0 ib20_0) ca_X12_goSaying q6_148 ⟨rfl, rfl⟩ ⟨Nat.le_of_ble_eq_true rfl, Nat.le_of_ble_eq_true rfl⟩ (rc_model hK hP) hK hP hD hS hZ rfl hl.1 rfl (Nat.le_of_ble_eq_true rfl) ⟨Nat.zero_le _, Nat.zero_le _⟩ dX12_say_41 (fun r_47 z_57 H locs wr_47 hP hD hS => ?_)
        obtain ⟨o_u33_48, o_u34_49, o_u30_50, o_u28_51, o_u29_52, o_b32_53, o_u31_54, o_b25_55, o_b26_56⟩ := z_57
        have hP : va_P D vwCl (RW cs bd (va_up (va_up (va_up (va_up (va_up (va_up u 33 o_u33_48) 34 o_u34_49) 30 o_u30_50) 28 o_u28_51) 29 o_u29_52) 31 o_u31_54) (va_up (va_up (va_up b 32 o_b32_53) 25 o_b25_55) 26 o_b26_56) bw) H := hP
        have hD : va_D A (RW cs bd (va_up (va_up (va_up (va_up (va_up (va_up u 33 o_u33_48) 34 o_u34_49) 30 o_u30_50) 28 o_u28_51) 29 o_u29_52) 31 o_u31_54) (va_up (va_up (va_up b 32 o_b32_53) 25 o_b25_55) 26 o_b26_56) bw) := hD
        obtain ⟨wr_47_0, wr_47_1, wr_47_2⟩ : (r_47.toInt = -1 ∨ (0 ≤ r_47.toInt ∧ r_47.toInt < (u 1).toInt)) ∧ (-1 ≤ o_u29_52.toInt) ∧ (o_u29_52.toInt < (u 1).toInt) := wr_47
        refine lv_istore_n (lv' := [(3, .int r_47), (0, .ref (bd 0)), (1, .int p1), (2, .int p2)]) hx hb dX12_say_44 rfl hl (by decide) rfl (fun ls hl => ?_)
        refine lv_aload_n hx hb dX12_say_45 rfl (lv_at hl 1 rfl) ?_
        refine gr_told hx hb hg hown hK hP (hg _ q4_238) dX12_say_46 ?_
        refine lv_iconst (v := 0) hx hb dX12_say_49 (by decide) ?_
        refine lv_aload_n hx hb dX12_say_50 rfl (lv_at hl 1 rfl) ?_
        refine gr_bee1 hx hb hg hown hK hP (x := o_u28_51) rfl (hg _ q5_20) dX12_say_51 ?_
        refine sr_told hx hb hK hP hD hS (i_in (by decide) (by decide)) dX12_say_54 (fun H locs hP hD hS => ?_)
        refine lv_aload_n hx hb dX12_say_55 rfl (lv_at hl 1 rfl) ?_
        refine gr_told hx hb hg hown hK hP (hg _ q4_238) dX12_say_56 ?_
        refine lv_iconst (v := 2) hx hb dX12_say_59 (by decide) ?_
        refine lv_aload_n hx hb dX12_say_60 rfl (lv_at hl 1 rfl) ?_
        refine gr_hour1 hx hb hg hown hK hP (x := o_u30_50) rfl (hg _ q5_22) dX12_say_61 ?_
        refine sr_told hx hb hK hP hD hS (i_in (by decide) (by decide)) dX12_say_64 (fun H locs hP hD hS => ?_)
        refine lv_aload_n hx hb dX12_say_65 rfl (lv_at hl 1 rfl) ?_
        refine lv_aload_n hx hb dX12_say_66 rfl (lv_at hl 1 rfl) ?_
        refine gr_liar1 hx hb hg hown hK hP (x := o_u29_52) rfl (hg _ q5_21) dX12_say_67 ?_
        refine pr_liar hx hb hg hown hK hP hD hS (hg _ q4_239) dX12_say_70 (fun H locs hP hD hS => ?_)
        refine lv_iconst (v := 0) hx hb dX12_say_73 (by decide) ?_
        refine lv_istore (lv' := [(4, .int 0), (3, .int r_47), (0, .ref (bd 0)), (1, .int p1), (2, .int p2)]) hx hb dX12_say_74 hl (by decide) rfl (fun ls hl => ?_)
        have q0_0 : (0 : Int32).toInt = 0 := rfl
        exact (hcut ((((u 1).toInt - (0 : Int32).toInt).toNat) + 1)) r_47 0 (b 4) o_u33_48 o_u34_49 o_u30_50 o_u28_51 o_u29_52 o_u31_54 o_u29_52 o_b32_53 o_b25_55 o_b26_56 (upd (upd (b 6) (0 : Int32).toNatClampNeg o_u28_51) (2 : Int32).toNatClampNeg o_u30_50) _ _ (by omega) (by omega) (by omega) (by omega) (by omega) (by omega) (show -1 ≤ o_u29_52.toInt by first | omega | assumption) (show o_u29_52.toInt < (u 1).toInt by first | omega | assumption) (show -1 ≤ o_u29_52.toInt by first | omega | assumption) (show o_u29_52.toInt < (u 1).toInt by first | omega | assumption) (Nat.lt_succ_self _) hP hD hS ls (lv_sub hl [2, 4, 1, 0] rfl)
    ·
      have kc_26 : r_25.toInt = (0 : Int) := i_eq c_26
      refine lv_iconst (v := (-1)) hx hb dX12_say_17 (by decide) ?_
      have q0_m1 : ((-1) : Int32).toInt = (-1) := rfl
      have hP : va_P D vwCl (RW cs bd (va_up (va_up (va_up (va_up (va_up (va_up (va_up u 33 (u 33)) 34 (u 34)) 30 (u 30)) 28 (u 28)) 29 (u 29)) 31 (u 31)) 7 (u 7)) (va_up (va_up (va_up (va_up (va_up (va_up b 53 (b 53)) 4 (b 4)) 32 (b 32)) 25 (b 25)) 26 (b 26)) 6 (b 6)) bw) _ := hP
      have hD : va_D A (RW cs bd (va_up (va_up (va_up (va_up (va_up (va_up (va_up u 33 (u 33)) 34 (u 34)) 30 (u 30)) 28 (u 28)) 29 (u 29)) 31 (u 31)) 7 (u 7)) (va_up (va_up (va_up (va_up (va_up (va_up b 53 (b 53)) 4 (b 4)) 32 (b 32)) 25 (b 25)) 26 (b 26)) 6 (b 6)) bw) := hD
      exact W.iret (v := (-1)) hx hb hr (fun tt ht hW => ⟨⟨(-1), ⟨(b 53), (u 33), (u 34), (u 30), (u 28), (u 29), (u 31), (u 7), (b 4), (b 32), (b 25), (b 26), (b 6)⟩, rfl, ⟨(by first | exact Or.inl ⟨by omega, by omega, rfl⟩ | exact Or.inr ⟨by omega, by omega, kled⟩), (show -1 ≤ (u 7).toInt by first | omega | assumption), (show (u 7).toInt < (u 1).toInt by first | omega | assumption)⟩, by rw [ht]; exact hP, hD⟩, hS.F ht⟩) hS.2.2 dX12_say_18
set_option maxHeartbeats 4000000 in
set_option maxRecDepth 100000 in
theorem k_X12_go (l : Launch) (D : va_G) (cs : Nat → ClassId) (A : Nat → Prop) (bd : Nat → Nat) (u : Nat → Int32) (b : Nat → Nat → Int32) (bw : Nat → Nat → Int64)  (p1 : Int32) (p2 : Int32) (iu1_0 : 0 ≤ (u 1).toInt) (iu1_1 : (u 1).toInt ≤ 8) : Met l yX12_go (Cond.code yX12_go cX12_go 4 (some .int) :: gw) ({ frames := 2, cells := 0, slots := 0, locals := 43 }) (va_Pc [.ref (bd 0), .int p1, .int p2] (XPre D (TY cs) (RW cs bd u b bw) A)) (va_Qi (fun (r : Int32) (z : Nat → Int32) => True) (XPo D (fun (z : Nat → Int32) => RW cs bd u (va_up b 2 z) bw) A) A) 0 0 A := by
  refine Met.ofW (cc := cX12_go) (maxL := 4) (ret := (some .int)) (by decide) rfl ?_
  intro p e s m args below meth c s₁ B hml hv
  obtain ⟨rfl, hP, hK, hD, hZ⟩ := hv
  have hx := B.exec
  have hb := B.bytes
  have hr := B.returns
  have hts := atoms_spec (ws := (Cond.code yX12_go cX12_go 4 (some .int) :: gw)) B.pre
  have hg : ∀ w ∈ gw, w.before ([.ref (bd 0), .int p1, .int p2] : List Value).toArray s = true := fun w h => hts w (List.mem_cons_of_mem _ h)
  have hown : s.vm.findClass RX12 = some m.cls := findClass_of_methodNamed B.named
  have hlocks := B.notSynchronized
  have hS : va_S A s.heap s.heap [] := va_S.rf
  have hP : va_P D vwCl (RW cs bd u b bw) s.heap := hP
  have hl := lv_entry ([.ref (bd 0), .int p1, .int p2]) (n := 4) (Nat.le_of_ble_eq_true rfl)
  rw [lg_entry_eq]
  generalize (lg_sl ([.ref (bd 0), .int p1, .int p2]) ++ List.replicate (4 - (lg_sl ([.ref (bd 0), .int p1, .int p2])).length) Slot.unset).toArray = ls at hl ⊢
  have hl : lv_has ls 4 [(0, .ref (bd 0)), (1, .int p1), (2, .int p2)] := hl
  refine lv_aload_n hx hb dX12_go_0 rfl (lv_at hl 0 rfl) ?_
  refine lv_iload_n hx hb dX12_go_1 rfl (lv_at hl 1 rfl) ?_
  refine cV_ro (As := [.int p1]) (rest := []) ⟨hx, hb, hml, hown, hg⟩ (k_X12_isOne l D cs A bd u b bw  p1 (show 0 ≤ (u 1).toInt by first | omega | decide) (show (u 1).toInt ≤ 8 by first | omega | decide)) ca_X12_isOne q6_7 ⟨rfl, rfl⟩ ⟨Nat.le_of_ble_eq_true rfl, Nat.le_of_ble_eq_true rfl⟩ (rc_model hK hP) hK hP hD hS hZ rfl hl.1 rfl (Nat.le_of_ble_eq_true rfl) ⟨Nat.zero_le _, Nat.zero_le _⟩ dX12_go_2 (fun r_1 wr_1 => ?_)
  have wr_1_0 : (r_1.toInt = 1 ∧ 0 ≤ p1.toInt ∧ p1.toInt < (u 1).toInt) ∨ (r_1.toInt = 0 ∧ ¬ (0 ≤ p1.toInt ∧ p1.toInt < (u 1).toInt)) := wr_1
  refine lv_if_eq (tgt := 15) hx hb dX12_go_5 (by decide) (fun c_2 => ?_) (fun c_2 => ?_)
  ·
    have kc_2 : r_1.toInt = (0 : Int) := i_eq c_2
    refine lv_iconst (v := (-1)) hx hb dX12_go_15 (by decide) ?_
    have q0_m1 : ((-1) : Int32).toInt = (-1) := rfl
    have hP : va_P D vwCl (RW cs bd u (va_up b 2 (b 2)) bw) _ := hP
    have hD : va_D A (RW cs bd u (va_up b 2 (b 2)) bw) := hD
    exact W.iret (v := (-1)) hx hb hr (fun tt ht hW => ⟨⟨(-1), (b 2), rfl, trivial, by rw [ht]; exact hP, hD⟩, hS.F ht⟩) hS.2.2 dX12_go_16
  ·
    have kc_2 : r_1.toInt ≠ (0 : Int) := i_ne c_2
    refine lv_iload_n hx hb dX12_go_8 rfl (lv_at hl 2 rfl) ?_
    refine cS_p (As := [.int p2]) (rest := []) ⟨hx, hb, hml, hown, hg⟩ (k_X12_isCell l   p2 ) ca_X12_isCell q5_209 ⟨rfl, rfl⟩ ⟨Nat.le_of_ble_eq_true rfl, Nat.le_of_ble_eq_true rfl⟩ rfl hl.1 rfl (Nat.le_of_ble_eq_true rfl) ⟨Nat.zero_le _, Nat.zero_le _⟩ dX12_go_9 (fun r_3 wr_3 => ?_)
    have wr_3 : (r_3.toInt = 1 ∧ 0 ≤ p2.toInt ∧ p2.toInt < 256) ∨ (r_3.toInt = 0 ∧ ¬ (0 ≤ p2.toInt ∧ p2.toInt < 256)) := wr_3
    refine lv_if_ne (tgt := 17) hx hb dX12_go_12 (by decide) (fun c_4 => ?_) (fun c_4 => ?_)
    ·
      have kc_4 : r_3.toInt ≠ (0 : Int) := i_ne c_4
      refine lv_aload_n hx hb dX12_go_17 rfl (lv_at hl 0 rfl) ?_
      refine gr_cellOf hx hb hg hown hK hP (hg _ q4_234) dX12_go_18 ?_
      refine lv_iload_n hx hb dX12_go_21 rfl (lv_at hl 1 rfl) ?_
      refine lr_cellOf hx hb hK hP (i_in (by omega) (by omega)) dX12_go_22 ?_
      refine lv_topi (fun x_5 ex_5 => ?_)
      have ex_5 : x_5 = (b 2) p1.toNatClampNeg := ex_5
      have hx_5 : x_5.toInt = ((b 2) p1.toNatClampNeg).toInt := by rw [ex_5]
      refine lv_istore_n (lv' := [(3, .int x_5), (0, .ref (bd 0)), (1, .int p1), (2, .int p2)]) hx hb dX12_go_23 rfl hl (by decide) rfl (fun ls hl => ?_)
      refine lv_aload_n hx hb dX12_go_24 rfl (lv_at hl 1 rfl) ?_
      refine gr_cellOf hx hb hg hown hK hP (hg _ q4_234) dX12_go_25 ?_
      refine lv_iload_n hx hb dX12_go_28 rfl (lv_at hl 2 rfl) ?_
      refine lv_iload_n hx hb dX12_go_29 rfl (lv_at hl 3 rfl) ?_
      refine sr_cellOf hx hb hK hP hD hS (i_in (by omega) (by omega)) dX12_go_30 (fun H locs hP hD hS => ?_)
      refine lv_iload_n hx hb dX12_go_31 rfl (lv_at hl 0 rfl) ?_
      exact W.iret (v := x_5) hx hb hr (fun tt ht hW => ⟨⟨x_5, (upd (b 2) p1.toNatClampNeg p2), rfl, trivial, by rw [ht]; exact hP, hD⟩, hS.F ht⟩) hS.2.2 dX12_go_32
    ·
      have kc_4 : r_3.toInt = (0 : Int) := i_eq c_4
      refine lv_iconst (v := (-1)) hx hb dX12_go_15 (by decide) ?_
      have q0_m1 : ((-1) : Int32).toInt = (-1) := rfl
      have hP : va_P D vwCl (RW cs bd u (va_up b 2 (b 2)) bw) _ := hP
      have hD : va_D A (RW cs bd u (va_up b 2 (b 2)) bw) := hD
      exact W.iret (v := (-1)) hx hb hr (fun tt ht hW => ⟨⟨(-1), (b 2), rfl, trivial, by rw [ht]; exact hP, hD⟩, hS.F ht⟩) hS.2.2 dX12_go_16
set_option maxHeartbeats 4000000 in
set_option maxRecDepth 100000 in
theorem k_X12_pad (l : Launch) (D : va_G) (cs : Nat → ClassId) (A : Nat → Prop) (bd : Nat → Nat) (u : Nat → Int32) (b : Nat → Nat → Int32) (bw : Nat → Nat → Int64)  (p1 : Int32) (iu1_0 : 0 ≤ (u 1).toInt) (iu1_1 : (u 1).toInt ≤ 8) : Met l yX12_pad (Cond.code yX12_pad cX12_pad 2 (some .int) :: gw) ({ frames := 2, cells := 0, slots := 0, locals := 43 }) (va_Pc [.ref (bd 0), .int p1] (XPre D (TY cs) (RW cs bd u b bw) A)) (va_Qi (fun (r : Int32) (z : Nat → Int32) => True) (XPo D (fun (z : Nat → Int32) => RW cs bd u (va_up b 4 z) bw) A) A) 0 0 A := by
  refine Met.ofW (cc := cX12_pad) (maxL := 2) (ret := (some .int)) (by decide) rfl ?_
  intro p e s m args below meth c s₁ B hml hv
  obtain ⟨rfl, hP, hK, hD, hZ⟩ := hv
  have hx := B.exec
  have hb := B.bytes
  have hr := B.returns
  have hts := atoms_spec (ws := (Cond.code yX12_pad cX12_pad 2 (some .int) :: gw)) B.pre
  have hg : ∀ w ∈ gw, w.before ([.ref (bd 0), .int p1] : List Value).toArray s = true := fun w h => hts w (List.mem_cons_of_mem _ h)
  have hown : s.vm.findClass RX12 = some m.cls := findClass_of_methodNamed B.named
  have hlocks := B.notSynchronized
  have hS : va_S A s.heap s.heap [] := va_S.rf
  have hP : va_P D vwCl (RW cs bd u b bw) s.heap := hP
  have hl := lv_entry ([.ref (bd 0), .int p1]) (n := 2) (Nat.le_of_ble_eq_true rfl)
  rw [lg_entry_eq]
  generalize (lg_sl ([.ref (bd 0), .int p1]) ++ List.replicate (2 - (lg_sl ([.ref (bd 0), .int p1])).length) Slot.unset).toArray = ls at hl ⊢
  have hl : lv_has ls 2 [(0, .ref (bd 0)), (1, .int p1)] := hl
  refine lv_aload_n hx hb dX12_pad_0 rfl (lv_at hl 0 rfl) ?_
  refine lv_iload_n hx hb dX12_pad_1 rfl (lv_at hl 1 rfl) ?_
  refine cV_ro (As := [.int p1]) (rest := []) ⟨hx, hb, hml, hown, hg⟩ (k_X12_isOne l D cs A bd u b bw  p1 (show 0 ≤ (u 1).toInt by first | omega | decide) (show (u 1).toInt ≤ 8 by first | omega | decide)) ca_X12_isOne q6_7 ⟨rfl, rfl⟩ ⟨Nat.le_of_ble_eq_true rfl, Nat.le_of_ble_eq_true rfl⟩ (rc_model hK hP) hK hP hD hS hZ rfl hl.1 rfl (Nat.le_of_ble_eq_true rfl) ⟨Nat.zero_le _, Nat.zero_le _⟩ dX12_pad_2 (fun r_1 wr_1 => ?_)
  have wr_1_0 : (r_1.toInt = 1 ∧ 0 ≤ p1.toInt ∧ p1.toInt < (u 1).toInt) ∨ (r_1.toInt = 0 ∧ ¬ (0 ≤ p1.toInt ∧ p1.toInt < (u 1).toInt)) := wr_1
  refine lv_if_ne (tgt := 10) hx hb dX12_pad_5 (by decide) (fun c_2 => ?_) (fun c_2 => ?_)
  ·
    have kc_2 : r_1.toInt ≠ (0 : Int) := i_ne c_2
    refine lv_aload_n hx hb dX12_pad_10 rfl (lv_at hl 0 rfl) ?_
    refine gr_pads hx hb hg hown hK hP (hg _ q4_236) dX12_pad_11 ?_
    refine lv_iload_n hx hb dX12_pad_14 rfl (lv_at hl 1 rfl) ?_
    refine lr_pads hx hb hK hP (i_in (by omega) (by omega)) dX12_pad_15 ?_
    refine lv_topi (fun x_3 ex_3 => ?_)
    have ex_3 : x_3 = (b 4) p1.toNatClampNeg := ex_3
    have hx_3 : x_3.toInt = ((b 4) p1.toNatClampNeg).toInt := by rw [ex_3]
    refine lv_bipush (v := 9) hx hb dX12_pad_16 (by decide) ?_
    refine lv_icmp_ge (tgt := 31) hx hb dX12_pad_18 (by decide) (fun c_4 => ?_) (fun c_4 => ?_)
    ·
      have kc_4 : (9 : Int) ≤ x_3.toInt := i_le c_4
      refine lv_aload_n hx hb dX12_pad_31 rfl (lv_at hl 0 rfl) ?_
      refine gr_pads hx hb hg hown hK hP (hg _ q4_236) dX12_pad_32 ?_
      refine lv_iload_n hx hb dX12_pad_35 rfl (lv_at hl 1 rfl) ?_
      refine lr_pads hx hb hK hP (i_in (by omega) (by omega)) dX12_pad_36 ?_
      refine lv_topi (fun x_5 ex_5 => ?_)
      have ex_5 : x_5 = (b 4) p1.toNatClampNeg := ex_5
      have hx_5 : x_5.toInt = ((b 4) p1.toNatClampNeg).toInt := by rw [ex_5]
      have hP : va_P D vwCl (RW cs bd u (va_up b 4 (b 4)) bw) _ := hP
      have hD : va_D A (RW cs bd u (va_up b 4 (b 4)) bw) := hD
      exact W.iret (v := x_5) hx hb hr (fun tt ht hW => ⟨⟨x_5, (b 4), rfl, trivial, by rw [ht]; exact hP, hD⟩, hS.F ht⟩) hS.2.2 dX12_pad_37
    ·
      have kc_4 : x_3.toInt < (9 : Int) := i_nle c_4
      refine lv_aload_n hx hb dX12_pad_21 rfl (lv_at hl 0 rfl) ?_
      refine gr_pads hx hb hg hown hK hP (hg _ q4_236) dX12_pad_22 ?_
      refine lv_iload_n hx hb dX12_pad_25 rfl (lv_at hl 1 rfl) ?_
      refine lv_dup2_11 hx hb dX12_pad_26 rfl rfl ?_
      refine lr_pads hx hb hK hP (i_in (by omega) (by omega)) dX12_pad_27 ?_
      refine lv_topi (fun x_6 ex_6 => ?_)
      have ex_6 : x_6 = (b 4) p1.toNatClampNeg := ex_6
      have hx_6 : x_6.toInt = ((b 4) p1.toNatClampNeg).toInt := by rw [ex_6]
      refine lv_iconst (v := 1) hx hb dX12_pad_28 (by decide) ?_
      refine lv_iadd hx hb dX12_pad_29 ?_
      refine lv_topi (fun x_7 ex_7 => ?_)
      refine sr_pads hx hb hK hP hD hS (i_in (by omega) (by omega)) dX12_pad_30 (fun H locs hP hD hS => ?_)
      refine lv_aload_n hx hb dX12_pad_31 rfl (lv_at hl 0 rfl) ?_
      refine gr_pads hx hb hg hown hK hP (hg _ q4_236) dX12_pad_32 ?_
      refine lv_iload_n hx hb dX12_pad_35 rfl (lv_at hl 1 rfl) ?_
      refine lr_pads hx hb hK hP (i_in (by omega) (by omega)) dX12_pad_36 ?_
      refine lv_topi (fun x_8 ex_8 => ?_)
      have ex_8 : x_8 = (upd (b 4) p1.toNatClampNeg x_7) p1.toNatClampNeg := ex_8
      have hx_8 : x_8.toInt = ((upd (b 4) p1.toNatClampNeg x_7) p1.toNatClampNeg).toInt := by rw [ex_8]
      exact W.iret (v := x_8) hx hb hr (fun tt ht hW => ⟨⟨x_8, (upd (b 4) p1.toNatClampNeg x_7), rfl, trivial, by rw [ht]; exact hP, hD⟩, hS.F ht⟩) hS.2.2 dX12_pad_37
  ·
    have kc_2 : r_1.toInt = (0 : Int) := i_eq c_2
    refine lv_iconst (v := (-1)) hx hb dX12_pad_8 (by decide) ?_
    have q0_m1 : ((-1) : Int32).toInt = (-1) := rfl
    have hP : va_P D vwCl (RW cs bd u (va_up b 4 (b 4)) bw) _ := hP
    have hD : va_D A (RW cs bd u (va_up b 4 (b 4)) bw) := hD
    exact W.iret (v := (-1)) hx hb hr (fun tt ht hW => ⟨⟨(-1), (b 4), rfl, trivial, by rw [ht]; exact hP, hD⟩, hS.F ht⟩) hS.2.2 dX12_pad_9
set_option maxHeartbeats 4000000 in
set_option maxRecDepth 100000 in
theorem k_X12_led (l : Launch) (D : va_G) (cs : Nat → ClassId) (A : Nat → Prop) (bd : Nat → Nat) (u : Nat → Int32) (b : Nat → Nat → Int32) (bw : Nat → Nat → Int64)  (p1 : Int32) (iu1_0 : 0 ≤ (u 1).toInt) (iu1_1 : (u 1).toInt ≤ 8) (iu7_0 : -1 ≤ (u 7).toInt) (iu7_1 : (u 7).toInt < (u 1).toInt) : Met l yX12_led (Cond.code yX12_led cX12_led 2 (some .int) :: gw) ({ frames := 1, cells := 0, slots := 0, locals := 22 }) (va_Pc [.ref (bd 0), .int p1] (XPre D (TY cs) (RW cs bd u b bw) A)) (vp_Si (fun (r : Int32) => True)) 0 0 (fun _ => False) := by
  refine Met.ofW (cc := cX12_led) (maxL := 2) (ret := (some .int)) (by decide) rfl ?_
  intro p e s m args below meth c s₁ B hml hv
  obtain ⟨rfl, hP, hK, hD, hZ⟩ := hv
  have hx := B.exec
  have hb := B.bytes
  have hr := B.returns
  have hts := atoms_spec (ws := (Cond.code yX12_led cX12_led 2 (some .int) :: gw)) B.pre
  have hg : ∀ w ∈ gw, w.before ([.ref (bd 0), .int p1] : List Value).toArray s = true := fun w h => hts w (List.mem_cons_of_mem _ h)
  have hown : s.vm.findClass RX12 = some m.cls := findClass_of_methodNamed B.named
  have hlocks := B.notSynchronized
  have hS : va_S A s.heap s.heap [] := va_S.rf
  have hl := lv_entry ([.ref (bd 0), .int p1]) (n := 2) (Nat.le_of_ble_eq_true rfl)
  rw [lg_entry_eq]
  generalize (lg_sl ([.ref (bd 0), .int p1]) ++ List.replicate (2 - (lg_sl ([.ref (bd 0), .int p1])).length) Slot.unset).toArray = ls at hl ⊢
  have hl : lv_has ls 2 [(0, .ref (bd 0)), (1, .int p1)] := hl
  refine lv_iload_n hx hb dX12_led_0 rfl (lv_at hl 1 rfl) ?_
  refine lv_iconst (v := 5) hx hb dX12_led_1 (by decide) ?_
  refine lv_icmp_ne (tgt := 22) hx hb dX12_led_2 (by decide) (fun c_1 => ?_) (fun c_1 => ?_)
  ·
    have kc_1 : p1.toInt ≠ (5 : Int) := i_ne c_1
    refine lv_iload_n hx hb dX12_led_22 rfl (lv_at hl 1 rfl) ?_
    refine lv_bipush (v := 6) hx hb dX12_led_23 (by decide) ?_
    refine lv_icmp_ne (tgt := 35) hx hb dX12_led_25 (by decide) (fun c_2 => ?_) (fun c_2 => ?_)
    ·
      have kc_2 : p1.toInt ≠ (6 : Int) := i_ne c_2
      refine lv_iload_n hx hb dX12_led_35 rfl (lv_at hl 1 rfl) ?_
      refine lv_iconst (v := 0) hx hb dX12_led_36 (by decide) ?_
      refine lv_iconst (v := 4) hx hb dX12_led_37 (by decide) ?_
      refine cS_p (As := [.int p1, .int 0, .int 4]) (rest := []) ⟨hx, hb, hml, hown, hg⟩ (k_X12_in l   p1 0 4 ) ca_X12_in q5_212 ⟨rfl, rfl⟩ ⟨Nat.le_of_ble_eq_true rfl, Nat.le_of_ble_eq_true rfl⟩ rfl hl.1 rfl (Nat.le_of_ble_eq_true rfl) ⟨Nat.zero_le _, Nat.zero_le _⟩ dX12_led_38 (fun r_3 wr_3 => ?_)
      have wr_3 : (r_3.toInt = 1 ∧ (0 : Int) ≤ p1.toInt ∧ p1.toInt ≤ (4 : Int)) ∨ (r_3.toInt = 0 ∧ ¬ ((0 : Int) ≤ p1.toInt ∧ p1.toInt ≤ (4 : Int))) := wr_3
      refine lv_if_eq (tgt := 53) hx hb dX12_led_41 (by decide) (fun c_4 => ?_) (fun c_4 => ?_)
      ·
        have kc_4 : r_3.toInt = (0 : Int) := i_eq c_4
        refine lv_iconst (v := (-1)) hx hb dX12_led_53 (by decide) ?_
        have q0_m1 : ((-1) : Int32).toInt = (-1) := rfl
        exact W.iret (v := (-1)) hx hb hr (fun tt ht hW => ⟨(-1), rfl, trivial, ht⟩) (fun _ h => by cases h) dX12_led_54
      ·
        have kc_4 : r_3.toInt ≠ (0 : Int) := i_ne c_4
        refine lv_aload_n hx hb dX12_led_44 rfl (lv_at hl 0 rfl) ?_
        refine gr_ledOf hx hb hg hown hK hP (hg _ q5_45) dX12_led_45 ?_
        refine lv_iload_n hx hb dX12_led_48 rfl (lv_at hl 1 rfl) ?_
        refine lr_ledOf hx hb hK hP (i_in (by omega) (by omega)) dX12_led_49 ?_
        refine lv_topi (fun x_5 ex_5 => ?_)
        have ex_5 : x_5 = (b 53) p1.toNatClampNeg := ex_5
        have hx_5 : x_5.toInt = ((b 53) p1.toNatClampNeg).toInt := by rw [ex_5]
        refine lv_goto (tgt := 54) hx hb dX12_led_50 (by decide) ?_
        exact W.iret (v := x_5) hx hb hr (fun tt ht hW => ⟨x_5, rfl, trivial, ht⟩) (fun _ h => by cases h) dX12_led_54
    ·
      have kc_2 : p1.toInt = (6 : Int) := i_eq c_2
      refine lv_aload_n hx hb dX12_led_28 rfl (lv_at hl 0 rfl) ?_
      refine gr_told hx hb hg hown hK hP (hg _ q4_238) dX12_led_29 ?_
      refine lv_iconst (v := 0) hx hb dX12_led_32 (by decide) ?_
      refine lr_told hx hb hK hP (i_in (by decide) (by decide)) dX12_led_33 ?_
      refine lv_topi (fun x_6 ex_6 => ?_)
      have ex_6 : x_6 = (b 6) (0 : Int32).toNatClampNeg := ex_6
      have hx_6 : x_6.toInt = ((b 6) (0 : Int32).toNatClampNeg).toInt := by rw [ex_6]
      exact W.iret (v := x_6) hx hb hr (fun tt ht hW => ⟨x_6, rfl, trivial, ht⟩) (fun _ h => by cases h) dX12_led_34
  ·
    have kc_1 : p1.toInt = (5 : Int) := i_eq c_1
    refine lv_aload_n hx hb dX12_led_5 rfl (lv_at hl 0 rfl) ?_
    refine gr_liar hx hb hg hown hK hP (x := (u 7)) rfl (hg _ q4_239) dX12_led_6 ?_
    refine lv_if_ge (tgt := 17) hx hb dX12_led_9 (by decide) (fun c_7 => ?_) (fun c_7 => ?_)
    ·
      have kc_7 : (0 : Int) ≤ (u 7).toInt := i_le c_7
      refine lv_aload_n hx hb dX12_led_17 rfl (lv_at hl 0 rfl) ?_
      refine gr_liar hx hb hg hown hK hP (x := (u 7)) rfl (hg _ q4_239) dX12_led_18 ?_
      exact W.iret (v := (u 7)) hx hb hr (fun tt ht hW => ⟨(u 7), rfl, trivial, ht⟩) (fun _ h => by cases h) dX12_led_21
    ·
      have kc_7 : (u 7).toInt < (0 : Int) := i_nle c_7
      refine lv_bipush (v := (-2)) hx hb dX12_led_12 (by decide) ?_
      refine lv_goto (tgt := 21) hx hb dX12_led_14 (by decide) ?_
      have q0_m2 : ((-2) : Int32).toInt = (-2) := rfl
      exact W.iret (v := (-2)) hx hb hr (fun tt ht hW => ⟨(-2), rfl, trivial, ht⟩) (fun _ h => by cases h) dX12_led_21
