set_option maxHeartbeats 4000000 in
set_option maxRecDepth 100000 in
theorem k_X12_image (l : Launch) (D : va_G) (cs : Nat → ClassId) (A : Nat → Prop) (bd : Nat → Nat) (u : Nat → Int32) (b : Nat → Nat → Int32) (bw : Nat → Nat → Int64)   (iu1_0 : 0 ≤ (u 1).toInt) (iu1_1 : (u 1).toInt ≤ 8) (iu7_0 : -1 ≤ (u 7).toInt) (iu7_1 : (u 7).toInt < (u 1).toInt) (iu55_0 : 0 ≤ (u 55).toInt) (iu55_1 : (u 55).toInt ≤ 8) (iu55_2 : (u 55).toInt ≤ (u 1).toInt) (iu58_0 : (u 54).toInt = 0 ∨ (-1 ≤ (u 58).toInt ∧ (u 58).toInt < (u 1).toInt)) : Met l yX12_image (Cond.code yX12_image cX12_image 2 (some .int) :: gw) ({ frames := 0, cells := 0, slots := 0, locals := 0 }) (va_Pc [.ref (bd 0)] (XPre D (TY cs) (RW cs bd u b bw) A)) (va_Qi (fun (r : Int32) (z : (Nat → Int32) × Int32 × Int32 × Int32 × Int32 × Int32 × (Nat → Int32) × (Nat → Int32)) => (r = ((b 53) 0)) ∧ (z.1 0 = ((b 53) 0)) ∧ (z.2.2.1.toInt = (u 1).toInt) ∧ (z.2.1.toInt = 1) ∧ (0 ≤ z.2.2.1.toInt) ∧ (z.2.2.1.toInt ≤ 8) ∧ (z.2.2.1.toInt ≤ (u 1).toInt) ∧ (z.2.1.toInt = 0 ∨ (-1 ≤ z.2.2.2.2.2.1.toInt ∧ z.2.2.2.2.2.1.toInt < (u 1).toInt))) (XPo D (fun (z : (Nat → Int32) × Int32 × Int32 × Int32 × Int32 × Int32 × (Nat → Int32) × (Nat → Int32)) => RW cs bd (va_up (va_up (va_up (va_up (va_up u 54 z.2.1) 55 z.2.2.1) 56 z.2.2.2.1) 57 z.2.2.2.2.1) 58 z.2.2.2.2.2.1) (va_up (va_up (va_up b 61 z.1) 59 z.2.2.2.2.2.2.1) 60 z.2.2.2.2.2.2.2) bw) A) A) 0 0 A := by
  refine Met.ofW (cc := cX12_image) (maxL := 2) (ret := (some .int)) (by decide) rfl ?_
  intro p e s m args below meth c s₁ B hml hv
  obtain ⟨rfl, hP, hK, hD, hZ⟩ := hv
  have hx := B.exec
  have hb := B.bytes
  have hr := B.returns
  have hts := atoms_spec (ws := (Cond.code yX12_image cX12_image 2 (some .int) :: gw)) B.pre
  have hg : ∀ w ∈ gw, w.before ([.ref (bd 0)] : List Value).toArray s = true := fun w h => hts w (List.mem_cons_of_mem _ h)
  have hown : s.vm.findClass RX12 = some m.cls := findClass_of_methodNamed B.named
  have hlocks := B.notSynchronized
  have hS : va_S A s.heap s.heap [] := va_S.rf
  have hP : va_P D vwCl (RW cs bd u b bw) s.heap := hP
  have hl := lv_entry ([.ref (bd 0)]) (n := 2) (Nat.le_of_ble_eq_true rfl)
  rw [lg_entry_eq]
  generalize (lg_sl ([.ref (bd 0)]) ++ List.replicate (2 - (lg_sl ([.ref (bd 0)])).length) Slot.unset).toArray = ls at hl ⊢
  have hl : lv_has ls 2 [(0, .ref (bd 0))] := hl
  have hcut : ∀ nk : Nat, (∀ (x1 : Int32) (c43_b59 : Nat → Int32) (c43_b60 : Nat → Int32) (c43_u54 : Int32) (c43_u55 : Int32) (c43_u56 : Int32) (c43_u57 : Int32) (c43_u58 : Int32) (H : Heap) (locs : List Loc) (i1 : 0 ≤ x1.toInt) (h54 : c43_u54.toInt = 1) (h55 : c43_u55.toInt = (u 1).toInt) (ju55_0 : 0 ≤ c43_u55.toInt) (ju55_1 : c43_u55.toInt ≤ 8) (ju55_2 : c43_u55.toInt ≤ (u 1).toInt) (ju58_0 : c43_u54.toInt = 0 ∨ (-1 ≤ c43_u58.toInt ∧ c43_u58.toInt < (u 1).toInt)) (hmu : 100 + ((u 1).toInt - x1.toInt).toNat < nk) (hP : va_P D vwCl (RW cs bd (va_up (va_up (va_up (va_up (va_up u 54 c43_u54) 55 c43_u55) 56 c43_u56) 57 c43_u57) 58 c43_u58) (va_up (va_up b 59 c43_b59) 60 c43_b60) bw) H) (hD : va_D A (RW cs bd (va_up (va_up (va_up (va_up (va_up u 54 c43_u54) 55 c43_u55) 56 c43_u56) 57 c43_u57) 58 c43_u58) (va_up (va_up b 59 c43_b59) 60 c43_b60) bw)) (hS : va_S A s.heap H locs) (ls : Array Slot) (hl : lv_has ls 2 [(0, .ref (bd 0)), (1, .int x1)]), W p l e (headSpec (Cond.code yX12_image cX12_image 2 (some .int) :: gw) ({ frames := 0, cells := 0, slots := 0, locals := 0 })).room s m ([.ref (bd 0)] : List Value).toArray below meth c H locs 0 0 (MQ below (va_Qi (fun (r : Int32) (z : (Nat → Int32) × Int32 × Int32 × Int32 × Int32 × Int32 × (Nat → Int32) × (Nat → Int32)) => (r = ((b 53) 0)) ∧ (z.1 0 = ((b 53) 0)) ∧ (z.2.2.1.toInt = (u 1).toInt) ∧ (z.2.1.toInt = 1) ∧ (0 ≤ z.2.2.1.toInt) ∧ (z.2.2.1.toInt ≤ 8) ∧ (z.2.2.1.toInt ≤ (u 1).toInt) ∧ (z.2.1.toInt = 0 ∨ (-1 ≤ z.2.2.2.2.2.1.toInt ∧ z.2.2.2.2.2.1.toInt < (u 1).toInt))) (XPo D (fun (z : (Nat → Int32) × Int32 × Int32 × Int32 × Int32 × Int32 × (Nat → Int32) × (Nat → Int32)) => RW cs bd (va_up (va_up (va_up (va_up (va_up u 54 z.2.1) 55 z.2.2.1) 56 z.2.2.2.1) 57 z.2.2.2.2.1) 58 z.2.2.2.2.2.1) (va_up (va_up (va_up b 61 z.1) 59 z.2.2.2.2.2.2.1) 60 z.2.2.2.2.2.2.2) bw) A) A) ([.ref (bd 0)] : List Value).toArray s 0 0 A) (F0 m 43 ls [])) ∧ (∀ (x1 : Int32) (c83_b61 : Nat → Int32) (c83_u54 : Int32) (c83_u55 : Int32) (c83_u56 : Int32) (c83_u57 : Int32) (c83_u58 : Int32) (c83_b59 : Nat → Int32) (c83_b60 : Nat → Int32) (H : Heap) (locs : List Loc) (i1 : 0 ≤ x1.toInt) (h54 : c83_u54.toInt = 1) (h55 : c83_u55.toInt = (u 1).toInt) (hk : 0 < x1.toInt → c83_b61 0 = ((b 53) 0)) (ju55_0 : 0 ≤ c83_u55.toInt) (ju55_1 : c83_u55.toInt ≤ 8) (ju55_2 : c83_u55.toInt ≤ (u 1).toInt) (ju58_0 : c83_u54.toInt = 0 ∨ (-1 ≤ c83_u58.toInt ∧ c83_u58.toInt < (u 1).toInt)) (hmu : (5 - x1.toInt).toNat < nk) (hP : va_P D vwCl (RW cs bd (va_up (va_up (va_up (va_up (va_up u 54 c83_u54) 55 c83_u55) 56 c83_u56) 57 c83_u57) 58 c83_u58) (va_up (va_up (va_up b 61 c83_b61) 59 c83_b59) 60 c83_b60) bw) H) (hD : va_D A (RW cs bd (va_up (va_up (va_up (va_up (va_up u 54 c83_u54) 55 c83_u55) 56 c83_u56) 57 c83_u57) 58 c83_u58) (va_up (va_up (va_up b 61 c83_b61) 59 c83_b59) 60 c83_b60) bw)) (hS : va_S A s.heap H locs) (ls : Array Slot) (hl : lv_has ls 2 [(0, .ref (bd 0)), (1, .int x1)]), W p l e (headSpec (Cond.code yX12_image cX12_image 2 (some .int) :: gw) ({ frames := 0, cells := 0, slots := 0, locals := 0 })).room s m ([.ref (bd 0)] : List Value).toArray below meth c H locs 0 0 (MQ below (va_Qi (fun (r : Int32) (z : (Nat → Int32) × Int32 × Int32 × Int32 × Int32 × Int32 × (Nat → Int32) × (Nat → Int32)) => (r = ((b 53) 0)) ∧ (z.1 0 = ((b 53) 0)) ∧ (z.2.2.1.toInt = (u 1).toInt) ∧ (z.2.1.toInt = 1) ∧ (0 ≤ z.2.2.1.toInt) ∧ (z.2.2.1.toInt ≤ 8) ∧ (z.2.2.1.toInt ≤ (u 1).toInt) ∧ (z.2.1.toInt = 0 ∨ (-1 ≤ z.2.2.2.2.2.1.toInt ∧ z.2.2.2.2.2.1.toInt < (u 1).toInt))) (XPo D (fun (z : (Nat → Int32) × Int32 × Int32 × Int32 × Int32 × Int32 × (Nat → Int32) × (Nat → Int32)) => RW cs bd (va_up (va_up (va_up (va_up (va_up u 54 z.2.1) 55 z.2.2.1) 56 z.2.2.2.1) 57 z.2.2.2.2.1) 58 z.2.2.2.2.2.1) (va_up (va_up (va_up b 61 z.1) 59 z.2.2.2.2.2.2.1) 60 z.2.2.2.2.2.2.2) bw) A) A) ([.ref (bd 0)] : List Value).toArray s 0 0 A) (F0 m 83 ls [])) := by
    intro nk
    induction nk with
    | zero => exact ⟨(fun x1 c43_b59 c43_b60 c43_u54 c43_u55 c43_u56 c43_u57 c43_u58 H locs i1 h54 h55 ju55_0 ju55_1 ju55_2 ju58_0 hmu hP hD hS ls hl => absurd hmu (Nat.not_lt_zero _)), (fun x1 c83_b61 c83_u54 c83_u55 c83_u56 c83_u57 c83_u58 c83_b59 c83_b60 H locs i1 h54 h55 hk ju55_0 ju55_1 ju55_2 ju58_0 hmu hP hD hS ls hl => absurd hmu (Nat.not_lt_zero _))⟩
    | succ nk ih =>
      refine ⟨?_, ?_⟩
      ·
        intro x1 c43_b59 c43_b60 c43_u54 c43_u55 c43_u56 c43_u57 c43_u58 H locs i1 h54 h55 ju55_0 ju55_1 ju55_2 ju58_0 hmu hP hD hS ls hl
        refine lv_iload_n hx hb dX12_image_43 rfl (lv_at hl 1 rfl) ?_
        refine lv_aload_n hx hb dX12_image_44 rfl (lv_at hl 0 rfl) ?_
        refine gr_people1 hx hb hg hown hK hP (x := (u 1)) rfl (hg _ q4_233) dX12_image_45 ?_
        refine lv_icmp_ge (tgt := 81) hx hb dX12_image_48 (by decide) (fun c_1 => ?_) (fun c_1 => ?_)
        ·
          have kc_1 : (u 1).toInt ≤ x1.toInt := i_le c_1
          refine lv_iconst (v := 0) hx hb dX12_image_81 (by decide) ?_
          refine lv_istore_n (lv' := [(1, .int 0), (0, .ref (bd 0))]) hx hb dX12_image_82 rfl hl (by decide) rfl (fun ls hl => ?_)
          have q0_0 : (0 : Int32).toInt = 0 := rfl
          exact ih.2 0 (b 61) c43_u54 c43_u55 c43_u56 c43_u57 c43_u58 c43_b59 c43_b60 _ _ (by omega) (by omega) (by omega) (fun q => absurd q (by omega)) (show 0 ≤ c43_u55.toInt by first | omega | assumption) (show c43_u55.toInt ≤ 8 by first | omega | assumption) (show c43_u55.toInt ≤ (u 1).toInt by first | omega | assumption) (show c43_u54.toInt = 0 ∨ (-1 ≤ c43_u58.toInt ∧ c43_u58.toInt < (u 1).toInt) by first | omega | assumption) (by omega) hP hD hS ls (lv_sub hl [1, 0] rfl)
        ·
          have kc_1 : x1.toInt < (u 1).toInt := i_nle c_1
          refine lv_aload_n hx hb dX12_image_51 rfl (lv_at hl 0 rfl) ?_
          refine gr_keptCell hx hb hg hown hK hP (hg _ q5_51) dX12_image_52 ?_
          refine lv_iload_n hx hb dX12_image_55 rfl (lv_at hl 1 rfl) ?_
          refine lv_aload_n hx hb dX12_image_56 rfl (lv_at hl 0 rfl) ?_
          refine gr_cellOf hx hb hg hown hK hP (hg _ q4_234) dX12_image_57 ?_
          refine lv_iload_n hx hb dX12_image_60 rfl (lv_at hl 1 rfl) ?_
          refine lr_cellOf hx hb hK hP (i_in (by omega) (by omega)) dX12_image_61 ?_
          refine lv_topi (fun x_2 ex_2 => ?_)
          have ex_2 : x_2 = (b 2) x1.toNatClampNeg := ex_2
          have hx_2 : x_2.toInt = ((b 2) x1.toNatClampNeg).toInt := by rw [ex_2]
          refine sr_keptCell hx hb hK hP hD hS (i_in (by omega) (by omega)) dX12_image_62 (fun H locs hP hD hS => ?_)
          refine lv_aload_n hx hb dX12_image_63 rfl (lv_at hl 0 rfl) ?_
          refine gr_keptPads hx hb hg hown hK hP (hg _ q5_52) dX12_image_64 ?_
          refine lv_iload_n hx hb dX12_image_67 rfl (lv_at hl 1 rfl) ?_
          refine lv_aload_n hx hb dX12_image_68 rfl (lv_at hl 0 rfl) ?_
          refine gr_pads hx hb hg hown hK hP (hg _ q4_236) dX12_image_69 ?_
          refine lv_iload_n hx hb dX12_image_72 rfl (lv_at hl 1 rfl) ?_
          refine lr_pads hx hb hK hP (i_in (by omega) (by omega)) dX12_image_73 ?_
          refine lv_topi (fun x_3 ex_3 => ?_)
          have ex_3 : x_3 = (b 4) x1.toNatClampNeg := ex_3
          have hx_3 : x_3.toInt = ((b 4) x1.toNatClampNeg).toInt := by rw [ex_3]
          refine sr_keptPads hx hb hK hP hD hS (i_in (by omega) (by omega)) dX12_image_74 (fun H locs hP hD hS => ?_)
          obtain ⟨x_4, ex_4⟩ : ∃ y : Int32, y = x1 + 1 := ⟨_, rfl⟩
          have fx_4 : x_4.toInt = x1.toInt + 1 := by rw [ex_4]; exact i_add (by first | omega | (show (_ : Int) ≤ x1.toInt + 1; omega)) (by first | omega | (show x1.toInt + 1 ≤ (_ : Int); omega))
          refine lv_iinc (v := x_4) (lv' := [(1, .int x_4), (0, .ref (bd 0))]) hx hb dX12_image_75 hl (k := 1) rfl (by rw [ex_4]; rfl) (by decide) rfl (fun ls hl => ?_)
          refine lv_goto (tgt := 43) hx hb dX12_image_78 (by decide) ?_
          exact ih.1 x_4 (upd c43_b59 x1.toNatClampNeg x_2) (upd c43_b60 x1.toNatClampNeg x_3) c43_u54 c43_u55 c43_u56 c43_u57 c43_u58 _ _ (by omega) (by omega) (by omega) (show 0 ≤ c43_u55.toInt by first | omega | assumption) (show c43_u55.toInt ≤ 8 by first | omega | assumption) (show c43_u55.toInt ≤ (u 1).toInt by first | omega | assumption) (show c43_u54.toInt = 0 ∨ (-1 ≤ c43_u58.toInt ∧ c43_u58.toInt < (u 1).toInt) by first | omega | assumption) (by omega) hP hD hS ls (lv_sub hl [1, 0] rfl)
      ·
        intro x1 c83_b61 c83_u54 c83_u55 c83_u56 c83_u57 c83_u58 c83_b59 c83_b60 H locs i1 h54 h55 hk ju55_0 ju55_1 ju55_2 ju58_0 hmu hP hD hS ls hl
        refine lv_iload_n hx hb dX12_image_83 rfl (lv_at hl 1 rfl) ?_
        refine lv_iconst (v := 5) hx hb dX12_image_84 (by decide) ?_
        refine lv_icmp_ge (tgt := 106) hx hb dX12_image_85 (by decide) (fun c_5 => ?_) (fun c_5 => ?_)
        ·
          have kc_5 : (5 : Int) ≤ x1.toInt := i_le c_5
          refine lv_aload_n hx hb dX12_image_106 rfl (lv_at hl 0 rfl) ?_
          refine gr_ledOf hx hb hg hown hK hP (hg _ q5_45) dX12_image_107 ?_
          refine lv_iconst (v := 0) hx hb dX12_image_110 (by decide) ?_
          refine lr_ledOf hx hb hK hP (i_in (by decide) (by decide)) dX12_image_111 ?_
          refine lv_topi (fun x_6 ex_6 => ?_)
          have ex_6 : x_6 = (b 53) (0 : Int32).toNatClampNeg := ex_6
          have hx_6 : x_6.toInt = ((b 53) (0 : Int32).toNatClampNeg).toInt := by rw [ex_6]
          exact W.iret (v := x_6) hx hb hr (fun tt ht hW => ⟨⟨x_6, ⟨c83_b61, c83_u54, c83_u55, c83_u56, c83_u57, c83_u58, c83_b59, c83_b60⟩, rfl, ⟨(by first | rfl | assumption | (rw [ex_6]; rfl)), (by first | rfl | assumption | exact hk (by omega)), (by first | rfl | omega | trivial | assumption | (dsimp only; first | omega | assumption)), (by first | rfl | omega | trivial | assumption | (dsimp only; first | omega | assumption)), (show 0 ≤ c83_u55.toInt by first | omega | assumption), (show c83_u55.toInt ≤ 8 by first | omega | assumption), (show c83_u55.toInt ≤ (u 1).toInt by first | omega | assumption), (show c83_u54.toInt = 0 ∨ (-1 ≤ c83_u58.toInt ∧ c83_u58.toInt < (u 1).toInt) by first | omega | assumption)⟩, by rw [ht]; exact hP, hD⟩, hS.F ht⟩) hS.2.2 dX12_image_112
        ·
          have kc_5 : x1.toInt < (5 : Int) := i_nle c_5
          refine lv_aload_n hx hb dX12_image_88 rfl (lv_at hl 0 rfl) ?_
          refine gr_keptLed hx hb hg hown hK hP (hg _ q5_53) dX12_image_89 ?_
          refine lv_iload_n hx hb dX12_image_92 rfl (lv_at hl 1 rfl) ?_
          refine lv_aload_n hx hb dX12_image_93 rfl (lv_at hl 0 rfl) ?_
          refine gr_ledOf hx hb hg hown hK hP (hg _ q5_45) dX12_image_94 ?_
          refine lv_iload_n hx hb dX12_image_97 rfl (lv_at hl 1 rfl) ?_
          refine lr_ledOf hx hb hK hP (i_in (by omega) (by omega)) dX12_image_98 ?_
          refine lv_topi (fun x_7 ex_7 => ?_)
          have ex_7 : x_7 = (b 53) x1.toNatClampNeg := ex_7
          have hx_7 : x_7.toInt = ((b 53) x1.toNatClampNeg).toInt := by rw [ex_7]
          refine sr_keptLed hx hb hK hP hD hS (i_in (by omega) (by omega)) dX12_image_99 (fun H locs hP hD hS => ?_)
          have kimg : (upd c83_b61 x1.toNatClampNeg x_7) 0 = (b 53 0) := UPD0 i1 hk (fun q => by rw [ex_7, show x1.toNatClampNeg = 0 from (by show x1.toInt.toNat = 0; omega)])
          obtain ⟨x_8, ex_8⟩ : ∃ y : Int32, y = x1 + 1 := ⟨_, rfl⟩
          have fx_8 : x_8.toInt = x1.toInt + 1 := by rw [ex_8]; exact i_add (by first | omega | (show (_ : Int) ≤ x1.toInt + 1; omega)) (by first | omega | (show x1.toInt + 1 ≤ (_ : Int); omega))
          refine lv_iinc (v := x_8) (lv' := [(1, .int x_8), (0, .ref (bd 0))]) hx hb dX12_image_100 hl (k := 1) rfl (by rw [ex_8]; rfl) (by decide) rfl (fun ls hl => ?_)
          refine lv_goto (tgt := 83) hx hb dX12_image_103 (by decide) ?_
          exact ih.2 x_8 (upd c83_b61 x1.toNatClampNeg x_7) c83_u54 c83_u55 c83_u56 c83_u57 c83_u58 c83_b59 c83_b60 _ _ (by omega) (by omega) (by omega) (fun q => kimg) (show 0 ≤ c83_u55.toInt by first | omega | assumption) (show c83_u55.toInt ≤ 8 by first | omega | assumption) (show c83_u55.toInt ≤ (u 1).toInt by first | omega | assumption) (show c83_u54.toInt = 0 ∨ (-1 ≤ c83_u58.toInt ∧ c83_u58.toInt < (u 1).toInt) by first | omega | assumption) (by omega) hP hD hS ls (lv_sub hl [1, 0] rfl)
  refine lv_aload_n hx hb dX12_image_0 rfl (lv_at hl 0 rfl) ?_
  refine lv_iconst (v := 1) hx hb dX12_image_1 (by decide) ?_
  refine pr_hasImage hx hb hg hown hK hP hD hS rfl rfl (hg _ q5_46) dX12_image_2 (fun H locs hP hD hS => ?_)
  refine lv_aload_n hx hb dX12_image_5 rfl (lv_at hl 0 rfl) ?_
  refine lv_aload_n hx hb dX12_image_6 rfl (lv_at hl 0 rfl) ?_
  refine gr_people1 hx hb hg hown hK hP (x := (u 1)) rfl (hg _ q4_233) dX12_image_7 ?_
  refine pr_keptMany hx hb hg hown hK hP hD hS (hg _ q5_47) dX12_image_10 (fun H locs hP hD hS => ?_)
  refine lv_aload_n hx hb dX12_image_13 rfl (lv_at hl 0 rfl) ?_
  refine lv_aload_n hx hb dX12_image_14 rfl (lv_at hl 0 rfl) ?_
  refine gr_told hx hb hg hown hK hP (hg _ q4_238) dX12_image_15 ?_
  refine lv_iconst (v := 0) hx hb dX12_image_18 (by decide) ?_
  refine lr_told hx hb hK hP (i_in (by decide) (by decide)) dX12_image_19 ?_
  refine lv_topi (fun x_9 ex_9 => ?_)
  have ex_9 : x_9 = (b 6) (0 : Int32).toNatClampNeg := ex_9
  have hx_9 : x_9.toInt = ((b 6) (0 : Int32).toNatClampNeg).toInt := by rw [ex_9]
  refine pr_keptBee hx hb hg hown hK hP hD hS (hg _ q5_48) dX12_image_20 (fun H locs hP hD hS => ?_)
  refine lv_aload_n hx hb dX12_image_23 rfl (lv_at hl 0 rfl) ?_
  refine lv_aload_n hx hb dX12_image_24 rfl (lv_at hl 0 rfl) ?_
  refine gr_told hx hb hg hown hK hP (hg _ q4_238) dX12_image_25 ?_
  refine lv_iconst (v := 2) hx hb dX12_image_28 (by decide) ?_
  refine lr_told hx hb hK hP (i_in (by decide) (by decide)) dX12_image_29 ?_
  refine lv_topi (fun x_10 ex_10 => ?_)
  have ex_10 : x_10 = (b 6) (2 : Int32).toNatClampNeg := ex_10
  have hx_10 : x_10.toInt = ((b 6) (2 : Int32).toNatClampNeg).toInt := by rw [ex_10]
  refine pr_keptHour hx hb hg hown hK hP hD hS (hg _ q5_49) dX12_image_30 (fun H locs hP hD hS => ?_)
  refine lv_aload_n hx hb dX12_image_33 rfl (lv_at hl 0 rfl) ?_
  refine lv_aload_n hx hb dX12_image_34 rfl (lv_at hl 0 rfl) ?_
  refine gr_liar hx hb hg hown hK hP (x := (u 7)) rfl (hg _ q4_239) dX12_image_35 ?_
  refine pr_keptLiar hx hb hg hown hK hP hD hS (hg _ q5_50) dX12_image_38 (fun H locs hP hD hS => ?_)
  refine lv_iconst (v := 0) hx hb dX12_image_41 (by decide) ?_
  refine lv_istore_n (lv' := [(1, .int 0), (0, .ref (bd 0))]) hx hb dX12_image_42 rfl hl (by decide) rfl (fun ls hl => ?_)
  have q0_1 : (1 : Int32).toInt = 1 := rfl
  have q0_0 : (0 : Int32).toInt = 0 := rfl
  exact (hcut ((100 + ((u 1).toInt - (0 : Int32).toInt).toNat) + 1)).1 0 (b 59) (b 60) 1 (u 1) x_9 x_10 (u 7) _ _ (by omega) (by omega) (by omega) (show 0 ≤ (u 1).toInt by first | omega | assumption) (show (u 1).toInt ≤ 8 by first | omega | assumption) (show (u 1).toInt ≤ (u 1).toInt by first | omega | assumption) (show (1 : Int) = 0 ∨ (-1 ≤ (u 7).toInt ∧ (u 7).toInt < (u 1).toInt) by first | omega | assumption) (Nat.lt_succ_self _) hP hD hS ls (lv_sub hl [1, 0] rfl)
set_option maxHeartbeats 4000000 in
set_option maxRecDepth 100000 in
theorem k_X12_back (l : Launch) (D : va_G) (cs : Nat → ClassId) (A : Nat → Prop) (bd : Nat → Nat) (u : Nat → Int32) (b : Nat → Nat → Int32) (bw : Nat → Nat → Int64)   (iu1_0 : 0 ≤ (u 1).toInt) (iu1_1 : (u 1).toInt ≤ 8) (iu55_0 : 0 ≤ (u 55).toInt) (iu55_1 : (u 55).toInt ≤ 8) (iu55_2 : (u 55).toInt ≤ (u 1).toInt) (iu58_0 : (u 54).toInt = 0 ∨ (-1 ≤ (u 58).toInt ∧ (u 58).toInt < (u 1).toInt)) (iu7_0 : -1 ≤ (u 7).toInt) (iu7_1 : (u 7).toInt < (u 1).toInt) : Met l yX12_back (Cond.code yX12_back cX12_back 2 (some .int) :: gw) ({ frames := 0, cells := 0, slots := 0, locals := 0 }) (va_Pc [.ref (bd 0)] (XPre D (TY cs) (RW cs bd u b bw) A)) (va_Qi (fun (r : Int32) (z : (Nat → Int32) × Int32 × (Nat → Int32) × (Nat → Int32) × (Nat → Int32)) => (((u 54).toInt = 0 ∧ r.toInt = -5 ∧ z.1 0 = ((b 53) 0)) ∨ ((u 54).toInt ≠ 0 ∧ r = ((b 61) 0) ∧ z.1 0 = ((b 61) 0))) ∧ (-1 ≤ z.2.1.toInt) ∧ (z.2.1.toInt < (u 1).toInt)) (XPo D (fun (z : (Nat → Int32) × Int32 × (Nat → Int32) × (Nat → Int32) × (Nat → Int32)) => RW cs bd (va_up u 7 z.2.1) (va_up (va_up (va_up (va_up b 53 z.1) 2 z.2.2.1) 4 z.2.2.2.1) 6 z.2.2.2.2) bw) A) A) 0 0 A := by
  refine Met.ofW (cc := cX12_back) (maxL := 2) (ret := (some .int)) (by decide) rfl ?_
  intro p e s m args below meth c s₁ B hml hv
  obtain ⟨rfl, hP, hK, hD, hZ⟩ := hv
  have hx := B.exec
  have hb := B.bytes
  have hr := B.returns
  have hts := atoms_spec (ws := (Cond.code yX12_back cX12_back 2 (some .int) :: gw)) B.pre
  have hg : ∀ w ∈ gw, w.before ([.ref (bd 0)] : List Value).toArray s = true := fun w h => hts w (List.mem_cons_of_mem _ h)
  have hown : s.vm.findClass RX12 = some m.cls := findClass_of_methodNamed B.named
  have hlocks := B.notSynchronized
  have hS : va_S A s.heap s.heap [] := va_S.rf
  have hP : va_P D vwCl (RW cs bd u b bw) s.heap := hP
  have hl := lv_entry ([.ref (bd 0)]) (n := 2) (Nat.le_of_ble_eq_true rfl)
  rw [lg_entry_eq]
  generalize (lg_sl ([.ref (bd 0)]) ++ List.replicate (2 - (lg_sl ([.ref (bd 0)])).length) Slot.unset).toArray = ls at hl ⊢
  have hl : lv_has ls 2 [(0, .ref (bd 0))] := hl
  have hcut : ∀ nk : Nat, (∀ (x1 : Int32) (c40_b2 : Nat → Int32) (c40_b4 : Nat → Int32) (c40_u7 : Int32) (c40_b6 : Nat → Int32) (H : Heap) (locs : List Loc) (i1 : 0 ≤ x1.toInt) (h54 : (u 54).toInt ≠ 0) (ju7_0 : -1 ≤ c40_u7.toInt) (ju7_1 : c40_u7.toInt < (u 1).toInt) (hmu : 100 + ((u 55).toInt - x1.toInt).toNat < nk) (hP : va_P D vwCl (RW cs bd (va_up u 7 c40_u7) (va_up (va_up (va_up b 2 c40_b2) 4 c40_b4) 6 c40_b6) bw) H) (hD : va_D A (RW cs bd (va_up u 7 c40_u7) (va_up (va_up (va_up b 2 c40_b2) 4 c40_b4) 6 c40_b6) bw)) (hS : va_S A s.heap H locs) (ls : Array Slot) (hl : lv_has ls 2 [(0, .ref (bd 0)), (1, .int x1)]), W p l e (headSpec (Cond.code yX12_back cX12_back 2 (some .int) :: gw) ({ frames := 0, cells := 0, slots := 0, locals := 0 })).room s m ([.ref (bd 0)] : List Value).toArray below meth c H locs 0 0 (MQ below (va_Qi (fun (r : Int32) (z : (Nat → Int32) × Int32 × (Nat → Int32) × (Nat → Int32) × (Nat → Int32)) => (((u 54).toInt = 0 ∧ r.toInt = -5 ∧ z.1 0 = ((b 53) 0)) ∨ ((u 54).toInt ≠ 0 ∧ r = ((b 61) 0) ∧ z.1 0 = ((b 61) 0))) ∧ (-1 ≤ z.2.1.toInt) ∧ (z.2.1.toInt < (u 1).toInt)) (XPo D (fun (z : (Nat → Int32) × Int32 × (Nat → Int32) × (Nat → Int32) × (Nat → Int32)) => RW cs bd (va_up u 7 z.2.1) (va_up (va_up (va_up (va_up b 53 z.1) 2 z.2.2.1) 4 z.2.2.2.1) 6 z.2.2.2.2) bw) A) A) ([.ref (bd 0)] : List Value).toArray s 0 0 A) (F0 m 40 ls [])) ∧ (∀ (x1 : Int32) (c80_b53 : Nat → Int32) (c80_u7 : Int32) (c80_b2 : Nat → Int32) (c80_b4 : Nat → Int32) (c80_b6 : Nat → Int32) (H : Heap) (locs : List Loc) (i1 : 0 ≤ x1.toInt) (h54 : (u 54).toInt ≠ 0) (hk : 0 < x1.toInt → c80_b53 0 = ((b 61) 0)) (ju7_0 : -1 ≤ c80_u7.toInt) (ju7_1 : c80_u7.toInt < (u 1).toInt) (hmu : (5 - x1.toInt).toNat < nk) (hP : va_P D vwCl (RW cs bd (va_up u 7 c80_u7) (va_up (va_up (va_up (va_up b 53 c80_b53) 2 c80_b2) 4 c80_b4) 6 c80_b6) bw) H) (hD : va_D A (RW cs bd (va_up u 7 c80_u7) (va_up (va_up (va_up (va_up b 53 c80_b53) 2 c80_b2) 4 c80_b4) 6 c80_b6) bw)) (hS : va_S A s.heap H locs) (ls : Array Slot) (hl : lv_has ls 2 [(0, .ref (bd 0)), (1, .int x1)]), W p l e (headSpec (Cond.code yX12_back cX12_back 2 (some .int) :: gw) ({ frames := 0, cells := 0, slots := 0, locals := 0 })).room s m ([.ref (bd 0)] : List Value).toArray below meth c H locs 0 0 (MQ below (va_Qi (fun (r : Int32) (z : (Nat → Int32) × Int32 × (Nat → Int32) × (Nat → Int32) × (Nat → Int32)) => (((u 54).toInt = 0 ∧ r.toInt = -5 ∧ z.1 0 = ((b 53) 0)) ∨ ((u 54).toInt ≠ 0 ∧ r = ((b 61) 0) ∧ z.1 0 = ((b 61) 0))) ∧ (-1 ≤ z.2.1.toInt) ∧ (z.2.1.toInt < (u 1).toInt)) (XPo D (fun (z : (Nat → Int32) × Int32 × (Nat → Int32) × (Nat → Int32) × (Nat → Int32)) => RW cs bd (va_up u 7 z.2.1) (va_up (va_up (va_up (va_up b 53 z.1) 2 z.2.2.1) 4 z.2.2.2.1) 6 z.2.2.2.2) bw) A) A) ([.ref (bd 0)] : List Value).toArray s 0 0 A) (F0 m 80 ls [])) := by
    intro nk
    induction nk with
    | zero => exact ⟨(fun x1 c40_b2 c40_b4 c40_u7 c40_b6 H locs i1 h54 ju7_0 ju7_1 hmu hP hD hS ls hl => absurd hmu (Nat.not_lt_zero _)), (fun x1 c80_b53 c80_u7 c80_b2 c80_b4 c80_b6 H locs i1 h54 hk ju7_0 ju7_1 hmu hP hD hS ls hl => absurd hmu (Nat.not_lt_zero _))⟩
    | succ nk ih =>
      refine ⟨?_, ?_⟩
      ·
        intro x1 c40_b2 c40_b4 c40_u7 c40_b6 H locs i1 h54 ju7_0 ju7_1 hmu hP hD hS ls hl
        refine lv_iload_n hx hb dX12_back_40 rfl (lv_at hl 1 rfl) ?_
        refine lv_aload_n hx hb dX12_back_41 rfl (lv_at hl 0 rfl) ?_
        refine gr_keptMany hx hb hg hown hK hP (x := (u 55)) rfl (hg _ q5_47) dX12_back_42 ?_
        refine lv_icmp_ge (tgt := 78) hx hb dX12_back_45 (by decide) (fun c_1 => ?_) (fun c_1 => ?_)
        ·
          have kc_1 : (u 55).toInt ≤ x1.toInt := i_le c_1
          refine lv_iconst (v := 0) hx hb dX12_back_78 (by decide) ?_
          refine lv_istore_n (lv' := [(1, .int 0), (0, .ref (bd 0))]) hx hb dX12_back_79 rfl hl (by decide) rfl (fun ls hl => ?_)
          have q0_0 : (0 : Int32).toInt = 0 := rfl
          exact ih.2 0 (b 53) c40_u7 c40_b2 c40_b4 c40_b6 _ _ (by omega) (by omega) (fun q => absurd q (by omega)) (show -1 ≤ c40_u7.toInt by first | omega | assumption) (show c40_u7.toInt < (u 1).toInt by first | omega | assumption) (by omega) hP hD hS ls (lv_sub hl [1, 0] rfl)
        ·
          have kc_1 : x1.toInt < (u 55).toInt := i_nle c_1
          refine lv_aload_n hx hb dX12_back_48 rfl (lv_at hl 0 rfl) ?_
          refine gr_cellOf hx hb hg hown hK hP (hg _ q4_234) dX12_back_49 ?_
          refine lv_iload_n hx hb dX12_back_52 rfl (lv_at hl 1 rfl) ?_
          refine lv_aload_n hx hb dX12_back_53 rfl (lv_at hl 0 rfl) ?_
          refine gr_keptCell hx hb hg hown hK hP (hg _ q5_51) dX12_back_54 ?_
          refine lv_iload_n hx hb dX12_back_57 rfl (lv_at hl 1 rfl) ?_
          refine lr_keptCell hx hb hK hP (i_in (by omega) (by omega)) dX12_back_58 ?_
          refine lv_topi (fun x_2 ex_2 => ?_)
          have ex_2 : x_2 = (b 59) x1.toNatClampNeg := ex_2
          have hx_2 : x_2.toInt = ((b 59) x1.toNatClampNeg).toInt := by rw [ex_2]
          refine sr_cellOf hx hb hK hP hD hS (i_in (by omega) (by omega)) dX12_back_59 (fun H locs hP hD hS => ?_)
          refine lv_aload_n hx hb dX12_back_60 rfl (lv_at hl 0 rfl) ?_
          refine gr_pads hx hb hg hown hK hP (hg _ q4_236) dX12_back_61 ?_
          refine lv_iload_n hx hb dX12_back_64 rfl (lv_at hl 1 rfl) ?_
          refine lv_aload_n hx hb dX12_back_65 rfl (lv_at hl 0 rfl) ?_
          refine gr_keptPads hx hb hg hown hK hP (hg _ q5_52) dX12_back_66 ?_
          refine lv_iload_n hx hb dX12_back_69 rfl (lv_at hl 1 rfl) ?_
          refine lr_keptPads hx hb hK hP (i_in (by omega) (by omega)) dX12_back_70 ?_
          refine lv_topi (fun x_3 ex_3 => ?_)
          have ex_3 : x_3 = (b 60) x1.toNatClampNeg := ex_3
          have hx_3 : x_3.toInt = ((b 60) x1.toNatClampNeg).toInt := by rw [ex_3]
          refine sr_pads hx hb hK hP hD hS (i_in (by omega) (by omega)) dX12_back_71 (fun H locs hP hD hS => ?_)
          obtain ⟨x_4, ex_4⟩ : ∃ y : Int32, y = x1 + 1 := ⟨_, rfl⟩
          have fx_4 : x_4.toInt = x1.toInt + 1 := by rw [ex_4]; exact i_add (by first | omega | (show (_ : Int) ≤ x1.toInt + 1; omega)) (by first | omega | (show x1.toInt + 1 ≤ (_ : Int); omega))
          refine lv_iinc (v := x_4) (lv' := [(1, .int x_4), (0, .ref (bd 0))]) hx hb dX12_back_72 hl (k := 1) rfl (by rw [ex_4]; rfl) (by decide) rfl (fun ls hl => ?_)
          refine lv_goto (tgt := 40) hx hb dX12_back_75 (by decide) ?_
          exact ih.1 x_4 (upd c40_b2 x1.toNatClampNeg x_2) (upd c40_b4 x1.toNatClampNeg x_3) c40_u7 c40_b6 _ _ (by omega) (by omega) (show -1 ≤ c40_u7.toInt by first | omega | assumption) (show c40_u7.toInt < (u 1).toInt by first | omega | assumption) (by omega) hP hD hS ls (lv_sub hl [1, 0] rfl)
      ·
        intro x1 c80_b53 c80_u7 c80_b2 c80_b4 c80_b6 H locs i1 h54 hk ju7_0 ju7_1 hmu hP hD hS ls hl
        refine lv_iload_n hx hb dX12_back_80 rfl (lv_at hl 1 rfl) ?_
        refine lv_iconst (v := 5) hx hb dX12_back_81 (by decide) ?_
        refine lv_icmp_ge (tgt := 103) hx hb dX12_back_82 (by decide) (fun c_5 => ?_) (fun c_5 => ?_)
        ·
          have kc_5 : (5 : Int) ≤ x1.toInt := i_le c_5
          refine lv_aload_n hx hb dX12_back_103 rfl (lv_at hl 0 rfl) ?_
          refine gr_ledOf hx hb hg hown hK hP (hg _ q5_45) dX12_back_104 ?_
          refine lv_iconst (v := 0) hx hb dX12_back_107 (by decide) ?_
          refine lr_ledOf hx hb hK hP (i_in (by decide) (by decide)) dX12_back_108 ?_
          refine lv_topi (fun x_6 ex_6 => ?_)
          have ex_6 : x_6 = c80_b53 (0 : Int32).toNatClampNeg := ex_6
          have hx_6 : x_6.toInt = (c80_b53 (0 : Int32).toNatClampNeg).toInt := by rw [ex_6]
          exact W.iret (v := x_6) hx hb hr (fun tt ht hW => ⟨⟨x_6, ⟨c80_b53, c80_u7, c80_b2, c80_b4, c80_b6⟩, rfl, ⟨(by first | exact Or.inl ⟨by omega, by omega, rfl⟩ | exact Or.inr ⟨by omega, by rw [ex_6]; exact hk (by omega), hk (by omega)⟩), (show -1 ≤ c80_u7.toInt by first | omega | assumption), (show c80_u7.toInt < (u 1).toInt by first | omega | assumption)⟩, by rw [ht]; exact hP, hD⟩, hS.F ht⟩) hS.2.2 dX12_back_109
        ·
          have kc_5 : x1.toInt < (5 : Int) := i_nle c_5
          refine lv_aload_n hx hb dX12_back_85 rfl (lv_at hl 0 rfl) ?_
          refine gr_ledOf hx hb hg hown hK hP (hg _ q5_45) dX12_back_86 ?_
          refine lv_iload_n hx hb dX12_back_89 rfl (lv_at hl 1 rfl) ?_
          refine lv_aload_n hx hb dX12_back_90 rfl (lv_at hl 0 rfl) ?_
          refine gr_keptLed hx hb hg hown hK hP (hg _ q5_53) dX12_back_91 ?_
          refine lv_iload_n hx hb dX12_back_94 rfl (lv_at hl 1 rfl) ?_
          refine lr_keptLed hx hb hK hP (i_in (by omega) (by omega)) dX12_back_95 ?_
          refine lv_topi (fun x_7 ex_7 => ?_)
          have ex_7 : x_7 = (b 61) x1.toNatClampNeg := ex_7
          have hx_7 : x_7.toInt = ((b 61) x1.toNatClampNeg).toInt := by rw [ex_7]
          refine sr_ledOf hx hb hK hP hD hS (i_in (by omega) (by omega)) dX12_back_96 (fun H locs hP hD hS => ?_)
          have kimg : (upd c80_b53 x1.toNatClampNeg x_7) 0 = (b 61 0) := UPD0 i1 hk (fun q => by rw [ex_7, show x1.toNatClampNeg = 0 from (by show x1.toInt.toNat = 0; omega)])
          obtain ⟨x_8, ex_8⟩ : ∃ y : Int32, y = x1 + 1 := ⟨_, rfl⟩
          have fx_8 : x_8.toInt = x1.toInt + 1 := by rw [ex_8]; exact i_add (by first | omega | (show (_ : Int) ≤ x1.toInt + 1; omega)) (by first | omega | (show x1.toInt + 1 ≤ (_ : Int); omega))
          refine lv_iinc (v := x_8) (lv' := [(1, .int x_8), (0, .ref (bd 0))]) hx hb dX12_back_97 hl (k := 1) rfl (by rw [ex_8]; rfl) (by decide) rfl (fun ls hl => ?_)
          refine lv_goto (tgt := 80) hx hb dX12_back_100 (by decide) ?_
          exact ih.2 x_8 (upd c80_b53 x1.toNatClampNeg x_7) c80_u7 c80_b2 c80_b4 c80_b6 _ _ (by omega) (by omega) (fun q => kimg) (show -1 ≤ c80_u7.toInt by first | omega | assumption) (show c80_u7.toInt < (u 1).toInt by first | omega | assumption) (by omega) hP hD hS ls (lv_sub hl [1, 0] rfl)
  refine lv_aload_n hx hb dX12_back_0 rfl (lv_at hl 0 rfl) ?_
  refine gr_hasImage hx hb hg hown hK hP (x := (u 54)) rfl (hg _ q5_46) dX12_back_1 ?_
  refine lv_if_ne (tgt := 10) hx hb dX12_back_4 (by decide) (fun c_9 => ?_) (fun c_9 => ?_)
  ·
    have kc_9 : (u 54).toInt ≠ (0 : Int) := i_ne c_9
    refine lv_aload_n hx hb dX12_back_10 rfl (lv_at hl 0 rfl) ?_
    refine gr_told hx hb hg hown hK hP (hg _ q4_238) dX12_back_11 ?_
    refine lv_iconst (v := 0) hx hb dX12_back_14 (by decide) ?_
    refine lv_aload_n hx hb dX12_back_15 rfl (lv_at hl 0 rfl) ?_
    refine gr_keptBee hx hb hg hown hK hP (x := (u 56)) rfl (hg _ q5_48) dX12_back_16 ?_
    refine sr_told hx hb hK hP hD hS (i_in (by decide) (by decide)) dX12_back_19 (fun H locs hP hD hS => ?_)
    refine lv_aload_n hx hb dX12_back_20 rfl (lv_at hl 0 rfl) ?_
    refine gr_told hx hb hg hown hK hP (hg _ q4_238) dX12_back_21 ?_
    refine lv_iconst (v := 2) hx hb dX12_back_24 (by decide) ?_
    refine lv_aload_n hx hb dX12_back_25 rfl (lv_at hl 0 rfl) ?_
    refine gr_keptHour hx hb hg hown hK hP (x := (u 57)) rfl (hg _ q5_49) dX12_back_26 ?_
    refine sr_told hx hb hK hP hD hS (i_in (by decide) (by decide)) dX12_back_29 (fun H locs hP hD hS => ?_)
    refine lv_aload_n hx hb dX12_back_30 rfl (lv_at hl 0 rfl) ?_
    refine lv_aload_n hx hb dX12_back_31 rfl (lv_at hl 0 rfl) ?_
    refine gr_keptLiar hx hb hg hown hK hP (x := (u 58)) rfl (hg _ q5_50) dX12_back_32 ?_
    refine pr_liar hx hb hg hown hK hP hD hS (hg _ q4_239) dX12_back_35 (fun H locs hP hD hS => ?_)
    refine lv_iconst (v := 0) hx hb dX12_back_38 (by decide) ?_
    refine lv_istore_n (lv' := [(1, .int 0), (0, .ref (bd 0))]) hx hb dX12_back_39 rfl hl (by decide) rfl (fun ls hl => ?_)
    have q0_0 : (0 : Int32).toInt = 0 := rfl
    exact (hcut ((100 + ((u 55).toInt - (0 : Int32).toInt).toNat) + 1)).1 0 (b 2) (b 4) (u 58) (upd (upd (b 6) (0 : Int32).toNatClampNeg (u 56)) (2 : Int32).toNatClampNeg (u 57)) _ _ (by omega) (by omega) (show -1 ≤ (u 58).toInt by first | omega | assumption) (show (u 58).toInt < (u 1).toInt by first | omega | assumption) (Nat.lt_succ_self _) hP hD hS ls (lv_sub hl [1, 0] rfl)
  ·
    have kc_9 : (u 54).toInt = (0 : Int) := i_eq c_9
    refine lv_bipush (v := (-5)) hx hb dX12_back_7 (by decide) ?_
    have q0_m5 : ((-5) : Int32).toInt = (-5) := rfl
    have hP : va_P D vwCl (RW cs bd (va_up u 7 (u 7)) (va_up (va_up (va_up (va_up b 53 (b 53)) 2 (b 2)) 4 (b 4)) 6 (b 6)) bw) _ := hP
    have hD : va_D A (RW cs bd (va_up u 7 (u 7)) (va_up (va_up (va_up (va_up b 53 (b 53)) 2 (b 2)) 4 (b 4)) 6 (b 6)) bw) := hD
    exact W.iret (v := (-5)) hx hb hr (fun tt ht hW => ⟨⟨(-5), ⟨(b 53), (u 7), (b 2), (b 4), (b 6)⟩, rfl, ⟨(by first | exact Or.inl ⟨by omega, by omega, rfl⟩ | exact Or.inr ⟨by omega, by rw [e-5]; exact hk (by omega), hk (by omega)⟩), (show -1 ≤ (u 7).toInt by first | omega | assumption), (show (u 7).toInt < (u 1).toInt by first | omega | assumption)⟩, by rw [ht]; exact hP, hD⟩, hS.F ht⟩) hS.2.2 dX12_back_9
set_option maxHeartbeats 4000000 in
set_option maxRecDepth 100000 in
theorem k_X12_count (l : Launch) (D : va_G) (cs : Nat → ClassId) (A : Nat → Prop) (bd : Nat → Nat) (u : Nat → Int32) (b : Nat → Nat → Int32) (bw : Nat → Nat → Int64)  (p1 : Int32) (iu1_0 : 0 ≤ (u 1).toInt) (iu1_1 : (u 1).toInt ≤ 8) (iu15_0 : 0 ≤ (u 15).toInt) (iu15_1 : (u 15).toInt ≤ 120) (iu8_0 : 0 ≤ (u 8).toInt) (iu8_1 : (u 8).toInt ≤ 40) (iu62_0 : 0 ≤ (u 62).toInt) (iu62_1 : (u 62).toInt ≤ 50) (iu64_0 : 0 ≤ (u 64).toInt) (iu64_1 : (u 64).toInt ≤ 1000) : Met l yX12_count (Cond.code yX12_count cX12_count 2 (some .int) :: gw) ({ frames := 0, cells := 0, slots := 0, locals := 0 }) (va_Pc [.ref (bd 0), .int p1] (XPre D (TY cs) (RW cs bd u b bw) A)) (vp_Si (fun (r : Int32) => True)) 0 0 (fun _ => False) := by
  refine Met.ofW (cc := cX12_count) (maxL := 2) (ret := (some .int)) (by decide) rfl ?_
  intro p e s m args below meth c s₁ B hml hv
  obtain ⟨rfl, hP, hK, hD, hZ⟩ := hv
  have hx := B.exec
  have hb := B.bytes
  have hr := B.returns
  have hts := atoms_spec (ws := (Cond.code yX12_count cX12_count 2 (some .int) :: gw)) B.pre
  have hg : ∀ w ∈ gw, w.before ([.ref (bd 0), .int p1] : List Value).toArray s = true := fun w h => hts w (List.mem_cons_of_mem _ h)
  have hown : s.vm.findClass RX12 = some m.cls := findClass_of_methodNamed B.named
  have hlocks := B.notSynchronized
  have hS : va_S A s.heap s.heap [] := va_S.rf
  have hl := lv_entry ([.ref (bd 0), .int p1]) (n := 2) (Nat.le_of_ble_eq_true rfl)
  rw [lg_entry_eq]
  generalize (lg_sl ([.ref (bd 0), .int p1]) ++ List.replicate (2 - (lg_sl ([.ref (bd 0), .int p1])).length) Slot.unset).toArray = ls at hl ⊢
  have hl : lv_has ls 2 [(0, .ref (bd 0)), (1, .int p1)] := hl
  refine lv_iload_n hx hb dX12_count_0 rfl (lv_at hl 1 rfl) ?_
  rcases (show p1.toInt = 0 ∨ p1.toInt = 1 ∨ p1.toInt = 2 ∨ p1.toInt = 3 ∨ p1.toInt = 4 ∨ (p1.toInt < 0 ∨ 4 < p1.toInt) by omega) with kc_1 | kc_1 | kc_1 | kc_1 | kc_1 | kc_1
  ·
    refine lv_tableIn (tgt := 36) hx hb dX12_count_1 (by omega) (by omega) (off := 35) (by rw [kc_1]; rfl) (by decide) ?_
    refine lv_aload_n hx hb dX12_count_36 rfl (lv_at hl 0 rfl) ?_
    refine gr_people1 hx hb hg hown hK hP (x := (u 1)) rfl (hg _ q4_233) dX12_count_37 ?_
    exact W.iret (v := (u 1)) hx hb hr (fun tt ht hW => ⟨(u 1), rfl, trivial, ht⟩) (fun _ h => by cases h) dX12_count_40
  ·
    refine lv_tableIn (tgt := 41) hx hb dX12_count_1 (by omega) (by omega) (off := 40) (by rw [kc_1]; rfl) (by decide) ?_
    refine lv_aload_n hx hb dX12_count_41 rfl (lv_at hl 0 rfl) ?_
    refine gr_taped hx hb hg hown hK hP (x := (u 15)) rfl (hg _ q5_7) dX12_count_42 ?_
    exact W.iret (v := (u 15)) hx hb hr (fun tt ht hW => ⟨(u 15), rfl, trivial, ht⟩) (fun _ h => by cases h) dX12_count_45
  ·
    refine lv_tableIn (tgt := 46) hx hb dX12_count_1 (by omega) (by omega) (off := 45) (by rw [kc_1]; rfl) (by decide) ?_
    refine lv_aload_n hx hb dX12_count_46 rfl (lv_at hl 0 rfl) ?_
    refine gr_doneMany hx hb hg hown hK hP (x := (u 8)) rfl (hg _ q5_0) dX12_count_47 ?_
    exact W.iret (v := (u 8)) hx hb hr (fun tt ht hW => ⟨(u 8), rfl, trivial, ht⟩) (fun _ h => by cases h) dX12_count_50
  ·
    refine lv_tableIn (tgt := 51) hx hb dX12_count_1 (by omega) (by omega) (off := 50) (by rw [kc_1]; rfl) (by decide) ?_
    refine lv_aload_n hx hb dX12_count_51 rfl (lv_at hl 0 rfl) ?_
    refine gr_bodies hx hb hg hown hK hP (x := (u 62)) rfl (hg _ q5_54) dX12_count_52 ?_
    exact W.iret (v := (u 62)) hx hb hr (fun tt ht hW => ⟨(u 62), rfl, trivial, ht⟩) (fun _ h => by cases h) dX12_count_55
  ·
    refine lv_tableIn (tgt := 56) hx hb dX12_count_1 (by omega) (by omega) (off := 55) (by rw [kc_1]; rfl) (by decide) ?_
    refine lv_aload_n hx hb dX12_count_56 rfl (lv_at hl 0 rfl) ?_
    refine gr_traces hx hb hg hown hK hP (x := (u 64)) rfl (hg _ q5_56) dX12_count_57 ?_
    exact W.iret (v := (u 64)) hx hb hr (fun tt ht hW => ⟨(u 64), rfl, trivial, ht⟩) (fun _ h => by cases h) dX12_count_60
  ·
    refine lv_tableOut (tgt := 61) hx hb dX12_count_1 kc_1 (by decide) ?_
    refine lv_iconst (v := (-1)) hx hb dX12_count_61 (by decide) ?_
    have q0_m1 : ((-1) : Int32).toInt = (-1) := rfl
    exact W.iret (v := (-1)) hx hb hr (fun tt ht hW => ⟨(-1), rfl, trivial, ht⟩) (fun _ h => by cases h) dX12_count_62
set_option maxHeartbeats 4000000 in
set_option maxRecDepth 100000 in
theorem k_X12_trace (l : Launch) (D : va_G) (cs : Nat → ClassId) (A : Nat → Prop) (bd : Nat → Nat) (u : Nat → Int32) (b : Nat → Nat → Int32) (bw : Nat → Nat → Int64)  (p1 : Int32) (iu64_0 : 0 ≤ (u 64).toInt) (iu64_1 : (u 64).toInt ≤ 1000) : Met l yX12_trace (Cond.code yX12_trace cX12_trace 2 (some .int) :: gw) ({ frames := 0, cells := 0, slots := 0, locals := 0 }) (va_Pc [.ref (bd 0), .int p1] (XPre D (TY cs) (RW cs bd u b bw) A)) (vp_Si (fun (r : Int32) => True)) 0 0 (fun _ => False) := by
  refine Met.ofW (cc := cX12_trace) (maxL := 2) (ret := (some .int)) (by decide) rfl ?_
  intro p e s m args below meth c s₁ B hml hv
  obtain ⟨rfl, hP, hK, hD, hZ⟩ := hv
  have hx := B.exec
  have hb := B.bytes
  have hr := B.returns
  have hts := atoms_spec (ws := (Cond.code yX12_trace cX12_trace 2 (some .int) :: gw)) B.pre
  have hg : ∀ w ∈ gw, w.before ([.ref (bd 0), .int p1] : List Value).toArray s = true := fun w h => hts w (List.mem_cons_of_mem _ h)
  have hown : s.vm.findClass RX12 = some m.cls := findClass_of_methodNamed B.named
  have hlocks := B.notSynchronized
  have hS : va_S A s.heap s.heap [] := va_S.rf
  have hl := lv_entry ([.ref (bd 0), .int p1]) (n := 2) (Nat.le_of_ble_eq_true rfl)
  rw [lg_entry_eq]
  generalize (lg_sl ([.ref (bd 0), .int p1]) ++ List.replicate (2 - (lg_sl ([.ref (bd 0), .int p1])).length) Slot.unset).toArray = ls at hl ⊢
  have hl : lv_has ls 2 [(0, .ref (bd 0)), (1, .int p1)] := hl
  refine lv_iload_n hx hb dX12_trace_0 rfl (lv_at hl 1 rfl) ?_
  refine lv_if_lt (tgt := 27) hx hb dX12_trace_1 (by decide) (fun c_1 => ?_) (fun c_1 => ?_)
  ·
    have kc_1 : p1.toInt < (0 : Int) := i_lt c_1
    refine lv_iconst (v := (-1)) hx hb dX12_trace_27 (by decide) ?_
    have q0_m1 : ((-1) : Int32).toInt = (-1) := rfl
    exact W.iret (v := (-1)) hx hb hr (fun tt ht hW => ⟨(-1), rfl, trivial, ht⟩) (fun _ h => by cases h) dX12_trace_28
  ·
    have kc_1 : (0 : Int) ≤ p1.toInt := i_nlt c_1
    refine lv_iload_n hx hb dX12_trace_4 rfl (lv_at hl 1 rfl) ?_
    refine lv_aload_n hx hb dX12_trace_5 rfl (lv_at hl 0 rfl) ?_
    refine gr_traces hx hb hg hown hK hP (x := (u 64)) rfl (hg _ q5_56) dX12_trace_6 ?_
    refine lv_icmp_ge (tgt := 27) hx hb dX12_trace_9 (by decide) (fun c_2 => ?_) (fun c_2 => ?_)
    ·
      have kc_2 : (u 64).toInt ≤ p1.toInt := i_le c_2
      refine lv_iconst (v := (-1)) hx hb dX12_trace_27 (by decide) ?_
      have q0_m1 : ((-1) : Int32).toInt = (-1) := rfl
      exact W.iret (v := (-1)) hx hb hr (fun tt ht hW => ⟨(-1), rfl, trivial, ht⟩) (fun _ h => by cases h) dX12_trace_28
    ·
      have kc_2 : p1.toInt < (u 64).toInt := i_nle c_2
      refine lv_iload_n hx hb dX12_trace_12 rfl (lv_at hl 1 rfl) ?_
      refine lv_bipush (v := 24) hx hb dX12_trace_13 (by decide) ?_
      refine lv_icmp_ge (tgt := 27) hx hb dX12_trace_15 (by decide) (fun c_3 => ?_) (fun c_3 => ?_)
      ·
        have kc_3 : (24 : Int) ≤ p1.toInt := i_le c_3
        refine lv_iconst (v := (-1)) hx hb dX12_trace_27 (by decide) ?_
        have q0_m1 : ((-1) : Int32).toInt = (-1) := rfl
        exact W.iret (v := (-1)) hx hb hr (fun tt ht hW => ⟨(-1), rfl, trivial, ht⟩) (fun _ h => by cases h) dX12_trace_28
      ·
        have kc_3 : p1.toInt < (24 : Int) := i_nle c_3
        refine lv_aload_n hx hb dX12_trace_18 rfl (lv_at hl 0 rfl) ?_
        refine gr_traced hx hb hg hown hK hP (hg _ q5_57) dX12_trace_19 ?_
        refine lv_iload_n hx hb dX12_trace_22 rfl (lv_at hl 1 rfl) ?_
        refine lr_traced hx hb hK hP (i_in (by omega) (by omega)) dX12_trace_23 ?_
        refine lv_topi (fun x_4 ex_4 => ?_)
        have ex_4 : x_4 = (b 65) p1.toNatClampNeg := ex_4
        have hx_4 : x_4.toInt = ((b 65) p1.toNatClampNeg).toInt := by rw [ex_4]
        refine lv_goto (tgt := 28) hx hb dX12_trace_24 (by decide) ?_
        exact W.iret (v := x_4) hx hb hr (fun tt ht hW => ⟨x_4, rfl, trivial, ht⟩) (fun _ h => by cases h) dX12_trace_28
set_option maxHeartbeats 4000000 in
set_option maxRecDepth 100000 in
theorem k_X12_body (l : Launch) (D : va_G) (cs : Nat → ClassId) (A : Nat → Prop) (bd : Nat → Nat) (u : Nat → Int32) (b : Nat → Nat → Int32) (bw : Nat → Nat → Int64)  (p1 : Int32) (iu62_0 : 0 ≤ (u 62).toInt) (iu62_1 : (u 62).toInt ≤ 50) (ib63_0 : AB 0 7 (b 63)) : Met l yX12_body (Cond.code yX12_body cX12_body 2 (some .int) :: gw) ({ frames := 1, cells := 0, slots := 0, locals := 22 }) (va_Pc [.ref (bd 0), .int p1] (XPre D (TY cs) (RW cs bd u b bw) A)) (va_Qi (fun (r : Int32) (z : Int32 × (Nat → Int32)) => (((0 ≤ p1.toInt ∧ p1.toInt ≤ 7) ∧ (u 62).toInt < 50 ∧ r.toInt = (u 62).toInt ∧ z.1.toInt = (u 62).toInt + 1) ∨ ((0 ≤ p1.toInt ∧ p1.toInt ≤ 7) ∧ (u 62).toInt = 50 ∧ r.toInt = -3 ∧ z.1.toInt = (u 62).toInt) ∨ (¬ (0 ≤ p1.toInt ∧ p1.toInt ≤ 7) ∧ r.toInt = -1 ∧ z.1.toInt = (u 62).toInt)) ∧ (0 ≤ z.1.toInt) ∧ (z.1.toInt ≤ 50) ∧ (AB 0 7 z.2)) (XPo D (fun (z : Int32 × (Nat → Int32)) => RW cs bd (va_up u 62 z.1) (va_up b 63 z.2) bw) A) A) 0 0 A := by
  refine Met.ofW (cc := cX12_body) (maxL := 2) (ret := (some .int)) (by decide) rfl ?_
  intro p e s m args below meth c s₁ B hml hv
  obtain ⟨rfl, hP, hK, hD, hZ⟩ := hv
  have hx := B.exec
  have hb := B.bytes
  have hr := B.returns
  have hts := atoms_spec (ws := (Cond.code yX12_body cX12_body 2 (some .int) :: gw)) B.pre
  have hg : ∀ w ∈ gw, w.before ([.ref (bd 0), .int p1] : List Value).toArray s = true := fun w h => hts w (List.mem_cons_of_mem _ h)
  have hown : s.vm.findClass RX12 = some m.cls := findClass_of_methodNamed B.named
  have hlocks := B.notSynchronized
  have hS : va_S A s.heap s.heap [] := va_S.rf
  have hP : va_P D vwCl (RW cs bd u b bw) s.heap := hP
  have hl := lv_entry ([.ref (bd 0), .int p1]) (n := 2) (Nat.le_of_ble_eq_true rfl)
  rw [lg_entry_eq]
  generalize (lg_sl ([.ref (bd 0), .int p1]) ++ List.replicate (2 - (lg_sl ([.ref (bd 0), .int p1])).length) Slot.unset).toArray = ls at hl ⊢
  have hl : lv_has ls 2 [(0, .ref (bd 0)), (1, .int p1)] := hl
  refine lv_iload_n hx hb dX12_body_0 rfl (lv_at hl 1 rfl) ?_
  refine lv_iconst (v := 0) hx hb dX12_body_1 (by decide) ?_
  refine lv_bipush (v := 7) hx hb dX12_body_2 (by decide) ?_
  refine cS_p (As := [.int p1, .int 0, .int 7]) (rest := []) ⟨hx, hb, hml, hown, hg⟩ (k_X12_in l   p1 0 7 ) ca_X12_in q5_212 ⟨rfl, rfl⟩ ⟨Nat.le_of_ble_eq_true rfl, Nat.le_of_ble_eq_true rfl⟩ rfl hl.1 rfl (Nat.le_of_ble_eq_true rfl) ⟨Nat.zero_le _, Nat.zero_le _⟩ dX12_body_4 (fun r_1 wr_1 => ?_)
  have wr_1 : (r_1.toInt = 1 ∧ (0 : Int) ≤ p1.toInt ∧ p1.toInt ≤ (7 : Int)) ∨ (r_1.toInt = 0 ∧ ¬ ((0 : Int) ≤ p1.toInt ∧ p1.toInt ≤ (7 : Int))) := wr_1
  refine lv_if_ne (tgt := 12) hx hb dX12_body_7 (by decide) (fun c_2 => ?_) (fun c_2 => ?_)
  ·
    have kc_2 : r_1.toInt ≠ (0 : Int) := i_ne c_2
    refine lv_aload_n hx hb dX12_body_12 rfl (lv_at hl 0 rfl) ?_
    refine gr_bodies hx hb hg hown hK hP (x := (u 62)) rfl (hg _ q5_54) dX12_body_13 ?_
    refine lv_bipush (v := 50) hx hb dX12_body_16 (by decide) ?_
    refine lv_icmp_ne (tgt := 24) hx hb dX12_body_18 (by decide) (fun c_3 => ?_) (fun c_3 => ?_)
    ·
      have kc_3 : (u 62).toInt ≠ (50 : Int) := i_ne c_3
      refine lv_aload_n hx hb dX12_body_24 rfl (lv_at hl 0 rfl) ?_
      refine gr_kind hx hb hg hown hK hP (hg _ q5_55) dX12_body_25 ?_
      refine lv_aload_n hx hb dX12_body_28 rfl (lv_at hl 0 rfl) ?_
      refine gr_bodies hx hb hg hown hK hP (x := (u 62)) rfl (hg _ q5_54) dX12_body_29 ?_
      refine lv_iload_n hx hb dX12_body_32 rfl (lv_at hl 1 rfl) ?_
      refine sr_kind hx hb hK hP hD hS (i_in (by omega) (by omega)) dX12_body_33 (fun H locs hP hD hS => ?_)
      have hab_4 : AB 0 7 (upd (b 63) (u 62).toNatClampNeg p1) := AB_upd ib63_0 (by omega) (by omega)
      refine lv_aload_n hx hb dX12_body_34 rfl (lv_at hl 0 rfl) ?_
      refine lv_dup hx hb dX12_body_35 rfl ?_
      refine gr_bodies hx hb hg hown hK hP (x := (u 62)) rfl (hg _ q5_54) dX12_body_36 ?_
      refine lv_iconst (v := 1) hx hb dX12_body_39 (by decide) ?_
      refine lv_iadd hx hb dX12_body_40 ?_
      refine lv_topi (fun x_5 ex_5 => ?_)
      have fx_5 : x_5.toInt = (u 62).toInt + (1 : Int) := by rw [ex_5]; exact i_add (by first | omega | (show (_ : Int) ≤ (u 62).toInt + (1 : Int); omega)) (by first | omega | (show (u 62).toInt + (1 : Int) ≤ (_ : Int); omega))
      refine pr_bodies hx hb hg hown hK hP hD hS (hg _ q5_54) dX12_body_41 (fun H locs hP hD hS => ?_)
      refine lv_aload_n hx hb dX12_body_44 rfl (lv_at hl 0 rfl) ?_
      refine gr_bodies hx hb hg hown hK hP (x := x_5) rfl (hg _ q5_54) dX12_body_45 ?_
      refine lv_iconst (v := 1) hx hb dX12_body_48 (by decide) ?_
      refine lv_isub hx hb dX12_body_49 ?_
      refine lv_topi (fun x_6 ex_6 => ?_)
      have fx_6 : x_6.toInt = x_5.toInt - (1 : Int) := by rw [ex_6]; exact i_sub (by first | omega | (show (_ : Int) ≤ x_5.toInt - (1 : Int); omega)) (by first | omega | (show x_5.toInt - (1 : Int) ≤ (_ : Int); omega))
      exact W.iret (v := x_6) hx hb hr (fun tt ht hW => ⟨⟨x_6, ⟨x_5, (upd (b 63) (u 62).toNatClampNeg p1)⟩, rfl, ⟨(by first | rfl | omega | trivial | assumption | (dsimp only; first | omega | assumption)), (show 0 ≤ x_5.toInt by first | omega | assumption), (show x_5.toInt ≤ 50 by first | omega | assumption), hab_4⟩, by rw [ht]; exact hP, hD⟩, hS.F ht⟩) hS.2.2 dX12_body_50
    ·
      have kc_3 : (u 62).toInt = (50 : Int) := i_eq c_3
      refine lv_bipush (v := (-3)) hx hb dX12_body_21 (by decide) ?_
      have q0_m3 : ((-3) : Int32).toInt = (-3) := rfl
      have hP : va_P D vwCl (RW cs bd (va_up u 62 (u 62)) (va_up b 63 (b 63)) bw) _ := hP
      have hD : va_D A (RW cs bd (va_up u 62 (u 62)) (va_up b 63 (b 63)) bw) := hD
      exact W.iret (v := (-3)) hx hb hr (fun tt ht hW => ⟨⟨(-3), ⟨(u 62), (b 63)⟩, rfl, ⟨(by first | rfl | omega | trivial | assumption | (dsimp only; first | omega | assumption)), (show 0 ≤ (u 62).toInt by first | omega | assumption), (show (u 62).toInt ≤ 50 by first | omega | assumption), ib63_0⟩, by rw [ht]; exact hP, hD⟩, hS.F ht⟩) hS.2.2 dX12_body_23
  ·
    have kc_2 : r_1.toInt = (0 : Int) := i_eq c_2
    refine lv_iconst (v := (-1)) hx hb dX12_body_10 (by decide) ?_
    have q0_m1 : ((-1) : Int32).toInt = (-1) := rfl
    have hP : va_P D vwCl (RW cs bd (va_up u 62 (u 62)) (va_up b 63 (b 63)) bw) _ := hP
    have hD : va_D A (RW cs bd (va_up u 62 (u 62)) (va_up b 63 (b 63)) bw) := hD
    exact W.iret (v := (-1)) hx hb hr (fun tt ht hW => ⟨⟨(-1), ⟨(u 62), (b 63)⟩, rfl, ⟨(by first | rfl | omega | trivial | assumption | (dsimp only; first | omega | assumption)), (show 0 ≤ (u 62).toInt by first | omega | assumption), (show (u 62).toInt ≤ 50 by first | omega | assumption), ib63_0⟩, by rw [ht]; exact hP, hD⟩, hS.F ht⟩) hS.2.2 dX12_body_11
set_option maxHeartbeats 4000000 in
set_option maxRecDepth 100000 in
theorem k_X12_keep (l : Launch) (D : va_G) (cs : Nat → ClassId) (A : Nat → Prop) (bd : Nat → Nat) (u : Nat → Int32) (b : Nat → Nat → Int32) (bw : Nat → Nat → Int64)  (p1 : Int32) (p2 : Int32) (ib66_0 : AB (-6) 49 (b 66)) (iu62_0 : 0 ≤ (u 62).toInt) (iu62_1 : (u 62).toInt ≤ 50) : Met l yX12_keep (Cond.code yX12_keep cX12_keep 3 (some .int) :: gw) ({ frames := 2, cells := 0, slots := 0, locals := 43 }) (va_Pc [.ref (bd 0), .int p1, .int p2] (XPre D (TY cs) (RW cs bd u b bw) A)) (va_Qi (fun (r : Int32) (z : Nat → Int32) => ((((0 ≤ p1.toInt ∧ p1.toInt < 6) ∧ (p2.toInt = -1 ∨ (0 ≤ p2.toInt ∧ p2.toInt < (u 62).toInt))) ∧ r.toInt = 1) ∨ (¬ ((0 ≤ p1.toInt ∧ p1.toInt < 6) ∧ (p2.toInt = -1 ∨ (0 ≤ p2.toInt ∧ p2.toInt < (u 62).toInt))) ∧ r.toInt = -1)) ∧ (AB (-6) 49 z)) (XPo D (fun (z : Nat → Int32) => RW cs bd u (va_up b 66 z) bw) A) A) 0 0 A := by
  refine Met.ofW (cc := cX12_keep) (maxL := 3) (ret := (some .int)) (by decide) rfl ?_
  intro p e s m args below meth c s₁ B hml hv
  obtain ⟨rfl, hP, hK, hD, hZ⟩ := hv
  have hx := B.exec
  have hb := B.bytes
  have hr := B.returns
  have hts := atoms_spec (ws := (Cond.code yX12_keep cX12_keep 3 (some .int) :: gw)) B.pre
  have hg : ∀ w ∈ gw, w.before ([.ref (bd 0), .int p1, .int p2] : List Value).toArray s = true := fun w h => hts w (List.mem_cons_of_mem _ h)
  have hown : s.vm.findClass RX12 = some m.cls := findClass_of_methodNamed B.named
  have hlocks := B.notSynchronized
  have hS : va_S A s.heap s.heap [] := va_S.rf
  have hP : va_P D vwCl (RW cs bd u b bw) s.heap := hP
  have hl := lv_entry ([.ref (bd 0), .int p1, .int p2]) (n := 3) (Nat.le_of_ble_eq_true rfl)
  rw [lg_entry_eq]
  generalize (lg_sl ([.ref (bd 0), .int p1, .int p2]) ++ List.replicate (3 - (lg_sl ([.ref (bd 0), .int p1, .int p2])).length) Slot.unset).toArray = ls at hl ⊢
  have hl : lv_has ls 3 [(0, .ref (bd 0)), (1, .int p1), (2, .int p2)] := hl
  refine lv_iload_n hx hb dX12_keep_0 rfl (lv_at hl 1 rfl) ?_
  refine cS_p (As := [.int p1]) (rest := []) ⟨hx, hb, hml, hown, hg⟩ (k_X12_isShelf l   p1 ) ca_X12_isShelf q5_223 ⟨rfl, rfl⟩ ⟨Nat.le_of_ble_eq_true rfl, Nat.le_of_ble_eq_true rfl⟩ rfl hl.1 rfl (Nat.le_of_ble_eq_true rfl) ⟨Nat.zero_le _, Nat.zero_le _⟩ dX12_keep_1 (fun r_1 wr_1 => ?_)
  have wr_1 : (r_1.toInt = 1 ∧ 0 ≤ p1.toInt ∧ p1.toInt < 6) ∨ (r_1.toInt = 0 ∧ ¬ (0 ≤ p1.toInt ∧ p1.toInt < 6)) := wr_1
  refine lv_if_eq (tgt := 20) hx hb dX12_keep_4 (by decide) (fun c_2 => ?_) (fun c_2 => ?_)
  ·
    have kc_2 : r_1.toInt = (0 : Int) := i_eq c_2
    refine lv_iconst (v := (-1)) hx hb dX12_keep_20 (by decide) ?_
    have q0_m1 : ((-1) : Int32).toInt = (-1) := rfl
    have hP : va_P D vwCl (RW cs bd u (va_up b 66 (b 66)) bw) _ := hP
    have hD : va_D A (RW cs bd u (va_up b 66 (b 66)) bw) := hD
    exact W.iret (v := (-1)) hx hb hr (fun tt ht hW => ⟨⟨(-1), (b 66), rfl, ⟨(by first | rfl | omega | trivial | assumption | (dsimp only; first | omega | assumption)), ib66_0⟩, by rw [ht]; exact hP, hD⟩, hS.F ht⟩) hS.2.2 dX12_keep_21
  ·
    have kc_2 : r_1.toInt ≠ (0 : Int) := i_ne c_2
    refine lv_iload_n hx hb dX12_keep_7 rfl (lv_at hl 2 rfl) ?_
    refine lv_iconst (v := (-1)) hx hb dX12_keep_8 (by decide) ?_
    refine lv_icmp_eq (tgt := 22) hx hb dX12_keep_9 (by decide) (fun c_3 => ?_) (fun c_3 => ?_)
    ·
      have kc_3 : p2.toInt = (-1 : Int) := i_eq c_3
      refine lv_aload_n hx hb dX12_keep_22 rfl (lv_at hl 0 rfl) ?_
      refine gr_holds hx hb hg hown hK hP (hg _ q5_58) dX12_keep_23 ?_
      refine lv_iload_n hx hb dX12_keep_26 rfl (lv_at hl 1 rfl) ?_
      refine lv_iload_n hx hb dX12_keep_27 rfl (lv_at hl 2 rfl) ?_
      refine sr_holds hx hb hK hP hD hS (i_in (by omega) (by omega)) dX12_keep_28 (fun H locs hP hD hS => ?_)
      have hab_4 : AB (-6) 49 (upd (b 66) p1.toNatClampNeg p2) := AB_upd ib66_0 (by omega) (by omega)
      refine lv_iconst (v := 1) hx hb dX12_keep_29 (by decide) ?_
      have q0_1 : (1 : Int32).toInt = 1 := rfl
      exact W.iret (v := 1) hx hb hr (fun tt ht hW => ⟨⟨1, (upd (b 66) p1.toNatClampNeg p2), rfl, ⟨(by first | rfl | omega | trivial | assumption | (dsimp only; first | omega | assumption)), hab_4⟩, by rw [ht]; exact hP, hD⟩, hS.F ht⟩) hS.2.2 dX12_keep_30
    ·
      have kc_3 : p2.toInt ≠ (-1 : Int) := i_ne c_3
      refine lv_aload_n hx hb dX12_keep_12 rfl (lv_at hl 0 rfl) ?_
      refine lv_iload_n hx hb dX12_keep_13 rfl (lv_at hl 2 rfl) ?_
      refine cV_ro (As := [.int p2]) (rest := []) ⟨hx, hb, hml, hown, hg⟩ (k_X12_isBody l D cs A bd u b bw  p2 (show 0 ≤ (u 62).toInt by first | omega | decide) (show (u 62).toInt ≤ 50 by first | omega | decide)) ca_X12_isBody q7_44 ⟨rfl, rfl⟩ ⟨Nat.le_of_ble_eq_true rfl, Nat.le_of_ble_eq_true rfl⟩ (rc_model hK hP) hK hP hD hS hZ rfl hl.1 rfl (Nat.le_of_ble_eq_true rfl) ⟨Nat.zero_le _, Nat.zero_le _⟩ dX12_keep_14 (fun r_5 wr_5 => ?_)
      have wr_5_0 : (r_5.toInt = 1 ∧ 0 ≤ p2.toInt ∧ p2.toInt < (u 62).toInt) ∨ (r_5.toInt = 0 ∧ ¬ (0 ≤ p2.toInt ∧ p2.toInt < (u 62).toInt)) := wr_5
      refine lv_if_ne (tgt := 22) hx hb dX12_keep_17 (by decide) (fun c_6 => ?_) (fun c_6 => ?_)
      ·
        have kc_6 : r_5.toInt ≠ (0 : Int) := i_ne c_6
        refine lv_aload_n hx hb dX12_keep_22 rfl (lv_at hl 0 rfl) ?_
        refine gr_holds hx hb hg hown hK hP (hg _ q5_58) dX12_keep_23 ?_
        refine lv_iload_n hx hb dX12_keep_26 rfl (lv_at hl 1 rfl) ?_
        refine lv_iload_n hx hb dX12_keep_27 rfl (lv_at hl 2 rfl) ?_
        refine sr_holds hx hb hK hP hD hS (i_in (by omega) (by omega)) dX12_keep_28 (fun H locs hP hD hS => ?_)
        have hab_7 : AB (-6) 49 (upd (b 66) p1.toNatClampNeg p2) := AB_upd ib66_0 (by omega) (by omega)
        refine lv_iconst (v := 1) hx hb dX12_keep_29 (by decide) ?_
        have q0_1 : (1 : Int32).toInt = 1 := rfl
        exact W.iret (v := 1) hx hb hr (fun tt ht hW => ⟨⟨1, (upd (b 66) p1.toNatClampNeg p2), rfl, ⟨(by first | rfl | omega | trivial | assumption | (dsimp only; first | omega | assumption)), hab_7⟩, by rw [ht]; exact hP, hD⟩, hS.F ht⟩) hS.2.2 dX12_keep_30
      ·
        have kc_6 : r_5.toInt = (0 : Int) := i_eq c_6
        refine lv_iconst (v := (-1)) hx hb dX12_keep_20 (by decide) ?_
        have q0_m1 : ((-1) : Int32).toInt = (-1) := rfl
        have hP : va_P D vwCl (RW cs bd u (va_up b 66 (b 66)) bw) _ := hP
        have hD : va_D A (RW cs bd u (va_up b 66 (b 66)) bw) := hD
        exact W.iret (v := (-1)) hx hb hr (fun tt ht hW => ⟨⟨(-1), (b 66), rfl, ⟨(by first | rfl | omega | trivial | assumption | (dsimp only; first | omega | assumption)), ib66_0⟩, by rw [ht]; exact hP, hD⟩, hS.F ht⟩) hS.2.2 dX12_keep_21
set_option maxHeartbeats 4000000 in
set_option maxRecDepth 100000 in
theorem k_X12_row (l : Launch) (D : va_G) (cs : Nat → ClassId) (A : Nat → Prop) (bd : Nat → Nat) (u : Nat → Int32) (b : Nat → Nat → Int32) (bw : Nat → Nat → Int64)  (p1 : Int32) (p2 : Int32) (p3 : Int32) (ib66_0 : AB (-6) 49 (b 66)) (ib67_0 : AB 0 60 (b 67)) : Met l yX12_row (Cond.code yX12_row cX12_row 5 (some .int) :: gw) ({ frames := 2, cells := 0, slots := 0, locals := 42 }) (va_Pc [.ref (bd 0), .int p1, .int p2, .int p3] (XPre D (TY cs) (RW cs bd u b bw) A)) (va_Qi (fun (r : Int32) (z : (Nat → Int32) × (Nat → Int32) × (Nat → Int64)) => ((((0 ≤ p1.toInt ∧ p1.toInt < 6) ∧ 0 ≤ p2.toInt ∧ p2.toInt ≤ 4 ∧ p3.toInt ≤ 60) ∧ ((p3.toInt < 0 ∧ r.toInt = -14) ∨ (0 ≤ p3.toInt ∧ r.toInt = 1))) ∨ (¬ ((0 ≤ p1.toInt ∧ p1.toInt < 6) ∧ 0 ≤ p2.toInt ∧ p2.toInt ≤ 4 ∧ p3.toInt ≤ 60) ∧ r.toInt = -1)) ∧ (AB (-6) 49 z.1) ∧ (AB 0 60 z.2.1)) (XPo D (fun (z : (Nat → Int32) × (Nat → Int32) × (Nat → Int64)) => RW cs bd u (va_up (va_up b 66 z.1) 67 z.2.1) (va_up bw 68 z.2.2)) A) A) 0 0 A := by
  refine Met.ofW (cc := cX12_row) (maxL := 5) (ret := (some .int)) (by decide) rfl ?_
  intro p e s m args below meth c s₁ B hml hv
  obtain ⟨rfl, hP, hK, hD, hZ⟩ := hv
  have hx := B.exec
  have hb := B.bytes
  have hr := B.returns
  have hts := atoms_spec (ws := (Cond.code yX12_row cX12_row 5 (some .int) :: gw)) B.pre
  have hg : ∀ w ∈ gw, w.before ([.ref (bd 0), .int p1, .int p2, .int p3] : List Value).toArray s = true := fun w h => hts w (List.mem_cons_of_mem _ h)
  have hown : s.vm.findClass RX12 = some m.cls := findClass_of_methodNamed B.named
  have hlocks := B.notSynchronized
  have hS : va_S A s.heap s.heap [] := va_S.rf
  have hP : va_P D vwCl (RW cs bd u b bw) s.heap := hP
  have hl := lv_entry ([.ref (bd 0), .int p1, .int p2, .int p3]) (n := 5) (Nat.le_of_ble_eq_true rfl)
  rw [lg_entry_eq]
  generalize (lg_sl ([.ref (bd 0), .int p1, .int p2, .int p3]) ++ List.replicate (5 - (lg_sl ([.ref (bd 0), .int p1, .int p2, .int p3])).length) Slot.unset).toArray = ls at hl ⊢
  have hl : lv_has ls 5 [(0, .ref (bd 0)), (1, .int p1), (2, .int p2), (3, .int p3)] := hl
  have hcut : ∀ nk : Nat, (∀ (x4 : Int32) (c54_bw68 : Nat → Int64) (c54_b66 : Nat → Int32) (c54_b67 : Nat → Int32) (H : Heap) (locs : List Loc) (j1 : 0 ≤ p1.toInt) (j2 : p1.toInt < 6) (j3 : 0 ≤ p2.toInt) (j4 : p2.toInt ≤ 4) (j5 : p3.toInt ≤ 60) (j6 : 0 ≤ p3.toInt) (i1 : 60 * p1.toInt ≤ x4.toInt) (jb66_0 : AB (-6) 49 c54_b66) (jb67_0 : AB 0 60 c54_b67) (hmu : (360 - x4.toInt).toNat < nk) (hP : va_P D vwCl (RW cs bd u (va_up (va_up b 66 c54_b66) 67 c54_b67) (va_up bw 68 c54_bw68)) H) (hD : va_D A (RW cs bd u (va_up (va_up b 66 c54_b66) 67 c54_b67) (va_up bw 68 c54_bw68))) (hS : va_S A s.heap H locs) (ls : Array Slot) (hl : lv_has ls 5 [(0, .ref (bd 0)), (1, .int p1), (2, .int p2), (3, .int p3), (4, .int x4)]), W p l e (headSpec (Cond.code yX12_row cX12_row 5 (some .int) :: gw) ({ frames := 2, cells := 0, slots := 0, locals := 42 })).room s m ([.ref (bd 0), .int p1, .int p2, .int p3] : List Value).toArray below meth c H locs 0 0 (MQ below (va_Qi (fun (r : Int32) (z : (Nat → Int32) × (Nat → Int32) × (Nat → Int64)) => ((((0 ≤ p1.toInt ∧ p1.toInt < 6) ∧ 0 ≤ p2.toInt ∧ p2.toInt ≤ 4 ∧ p3.toInt ≤ 60) ∧ ((p3.toInt < 0 ∧ r.toInt = -14) ∨ (0 ≤ p3.toInt ∧ r.toInt = 1))) ∨ (¬ ((0 ≤ p1.toInt ∧ p1.toInt < 6) ∧ 0 ≤ p2.toInt ∧ p2.toInt ≤ 4 ∧ p3.toInt ≤ 60) ∧ r.toInt = -1)) ∧ (AB (-6) 49 z.1) ∧ (AB 0 60 z.2.1)) (XPo D (fun (z : (Nat → Int32) × (Nat → Int32) × (Nat → Int64)) => RW cs bd u (va_up (va_up b 66 z.1) 67 z.2.1) (va_up bw 68 z.2.2)) A) A) ([.ref (bd 0), .int p1, .int p2, .int p3] : List Value).toArray s 0 0 A) (F0 m 54 ls [])) := by
    intro nk
    induction nk with
    | zero => exact (fun x4 c54_bw68 c54_b66 c54_b67 H locs j1 j2 j3 j4 j5 j6 i1 jb66_0 jb67_0 hmu hP hD hS ls hl => absurd hmu (Nat.not_lt_zero _))
    | succ nk ih =>
      intro x4 c54_bw68 c54_b66 c54_b67 H locs j1 j2 j3 j4 j5 j6 i1 jb66_0 jb67_0 hmu hP hD hS ls hl
      refine lv_iload hx hb dX12_row_54 (lv_at hl 4 rfl) ?_
      refine lv_bipush (v := 60) hx hb dX12_row_56 (by decide) ?_
      refine lv_iload_n hx hb dX12_row_58 rfl (lv_at hl 1 rfl) ?_
      refine lv_imul hx hb dX12_row_59 ?_
      refine lv_topi (fun x_1 ex_1 => ?_)
      have fx_1 : x_1.toInt = (60 : Int) * p1.toInt := by rw [ex_1]; exact i_mul (by first | omega | (show _ ≤ (60 : Int) * p1.toInt; omega)) (by first | omega | (show (60 : Int) * p1.toInt ≤ _; omega))
      refine lv_bipush (v := 60) hx hb dX12_row_60 (by decide) ?_
      refine lv_iadd hx hb dX12_row_62 ?_
      refine lv_topi (fun x_2 ex_2 => ?_)
      have fx_2 : x_2.toInt = x_1.toInt + (60 : Int) := by rw [ex_2]; exact i_add (by first | omega | (show (_ : Int) ≤ x_1.toInt + (60 : Int); omega)) (by first | omega | (show x_1.toInt + (60 : Int) ≤ (_ : Int); omega))
      refine lv_icmp_ge (tgt := 80) hx hb dX12_row_63 (by decide) (fun c_3 => ?_) (fun c_3 => ?_)
      ·
        have kc_3 : x_2.toInt ≤ x4.toInt := i_le c_3
        refine lv_iconst (v := 1) hx hb dX12_row_80 (by decide) ?_
        have q0_1 : (1 : Int32).toInt = 1 := rfl
        exact W.iret (v := 1) hx hb hr (fun tt ht hW => ⟨⟨1, ⟨c54_b66, c54_b67, c54_bw68⟩, rfl, ⟨(by first | rfl | omega | trivial | assumption | (dsimp only; first | omega | assumption)), jb66_0, jb67_0⟩, by rw [ht]; exact hP, hD⟩, hS.F ht⟩) hS.2.2 dX12_row_81
      ·
        have kc_3 : x4.toInt < x_2.toInt := i_nle c_3
        refine lv_aload_n hx hb dX12_row_66 rfl (lv_at hl 0 rfl) ?_
        refine gr_elements hx hb hg hown hK hP (hg _ q5_60) dX12_row_67 ?_
        refine lv_iload hx hb dX12_row_70 (lv_at hl 4 rfl) ?_
        refine lv_lconst (v := 0) hx hb dX12_row_72 (by decide) ?_
        refine sr_elements hx hb hK hP hD hS (i_in (by omega) (by omega)) dX12_row_73 (fun H locs hP hD hS => ?_)
        obtain ⟨x_4, ex_4⟩ : ∃ y : Int32, y = x4 + 1 := ⟨_, rfl⟩
        have fx_4 : x_4.toInt = x4.toInt + 1 := by rw [ex_4]; exact i_add (by first | omega | (show (_ : Int) ≤ x4.toInt + 1; omega)) (by first | omega | (show x4.toInt + 1 ≤ (_ : Int); omega))
        refine lv_iinc (v := x_4) (lv' := [(4, .int x_4), (0, .ref (bd 0)), (1, .int p1), (2, .int p2), (3, .int p3)]) hx hb dX12_row_74 hl (k := 4) rfl (by rw [ex_4]; rfl) (by decide) rfl (fun ls hl => ?_)
        refine lv_goto (tgt := 54) hx hb dX12_row_77 (by decide) ?_
        exact ih x_4 (vp_updL c54_bw68 x4.toNatClampNeg 0) c54_b66 c54_b67 _ _ (by omega) (by omega) (by omega) (by omega) (by omega) (by omega) (by omega) jb66_0 jb67_0 (by omega) hP hD hS ls (lv_sub hl [1, 2, 3, 4, 0] rfl)
  refine lv_iload_n hx hb dX12_row_0 rfl (lv_at hl 1 rfl) ?_
  refine cS_p (As := [.int p1]) (rest := []) ⟨hx, hb, hml, hown, hg⟩ (k_X12_isShelf l   p1 ) ca_X12_isShelf q5_223 ⟨rfl, rfl⟩ ⟨Nat.le_of_ble_eq_true rfl, Nat.le_of_ble_eq_true rfl⟩ rfl hl.1 rfl (Nat.le_of_ble_eq_true rfl) ⟨Nat.zero_le _, Nat.zero_le _⟩ dX12_row_1 (fun r_5 wr_5 => ?_)
  have wr_5 : (r_5.toInt = 1 ∧ 0 ≤ p1.toInt ∧ p1.toInt < 6) ∨ (r_5.toInt = 0 ∧ ¬ (0 ≤ p1.toInt ∧ p1.toInt < 6)) := wr_5
  refine lv_if_eq (tgt := 22) hx hb dX12_row_4 (by decide) (fun c_6 => ?_) (fun c_6 => ?_)
  ·
    have kc_6 : r_5.toInt = (0 : Int) := i_eq c_6
    refine lv_iconst (v := (-1)) hx hb dX12_row_22 (by decide) ?_
    have q0_m1 : ((-1) : Int32).toInt = (-1) := rfl
    have hP : va_P D vwCl (RW cs bd u (va_up (va_up b 66 (b 66)) 67 (b 67)) (va_up bw 68 (bw 68))) _ := hP
    have hD : va_D A (RW cs bd u (va_up (va_up b 66 (b 66)) 67 (b 67)) (va_up bw 68 (bw 68))) := hD
    exact W.iret (v := (-1)) hx hb hr (fun tt ht hW => ⟨⟨(-1), ⟨(b 66), (b 67), (bw 68)⟩, rfl, ⟨(by first | rfl | omega | trivial | assumption | (dsimp only; first | omega | assumption)), ib66_0, ib67_0⟩, by rw [ht]; exact hP, hD⟩, hS.F ht⟩) hS.2.2 dX12_row_23
  ·
    have kc_6 : r_5.toInt ≠ (0 : Int) := i_ne c_6
    refine lv_iload_n hx hb dX12_row_7 rfl (lv_at hl 2 rfl) ?_
    refine lv_iconst (v := 0) hx hb dX12_row_8 (by decide) ?_
    refine lv_iconst (v := 4) hx hb dX12_row_9 (by decide) ?_
    refine cS_p (As := [.int p2, .int 0, .int 4]) (rest := []) ⟨hx, hb, hml, hown, hg⟩ (k_X12_in l   p2 0 4 ) ca_X12_in q5_212 ⟨rfl, rfl⟩ ⟨Nat.le_of_ble_eq_true rfl, Nat.le_of_ble_eq_true rfl⟩ rfl hl.1 rfl (Nat.le_of_ble_eq_true rfl) ⟨Nat.zero_le _, Nat.zero_le _⟩ dX12_row_10 (fun r_7 wr_7 => ?_)
    have wr_7 : (r_7.toInt = 1 ∧ (0 : Int) ≤ p2.toInt ∧ p2.toInt ≤ (4 : Int)) ∨ (r_7.toInt = 0 ∧ ¬ ((0 : Int) ≤ p2.toInt ∧ p2.toInt ≤ (4 : Int))) := wr_7
    refine lv_if_eq (tgt := 22) hx hb dX12_row_13 (by decide) (fun c_8 => ?_) (fun c_8 => ?_)
    ·
      have kc_8 : r_7.toInt = (0 : Int) := i_eq c_8
      refine lv_iconst (v := (-1)) hx hb dX12_row_22 (by decide) ?_
      have q0_m1 : ((-1) : Int32).toInt = (-1) := rfl
      have hP : va_P D vwCl (RW cs bd u (va_up (va_up b 66 (b 66)) 67 (b 67)) (va_up bw 68 (bw 68))) _ := hP
      have hD : va_D A (RW cs bd u (va_up (va_up b 66 (b 66)) 67 (b 67)) (va_up bw 68 (bw 68))) := hD
      exact W.iret (v := (-1)) hx hb hr (fun tt ht hW => ⟨⟨(-1), ⟨(b 66), (b 67), (bw 68)⟩, rfl, ⟨(by first | rfl | omega | trivial | assumption | (dsimp only; first | omega | assumption)), ib66_0, ib67_0⟩, by rw [ht]; exact hP, hD⟩, hS.F ht⟩) hS.2.2 dX12_row_23
    ·
      have kc_8 : r_7.toInt ≠ (0 : Int) := i_ne c_8
      refine lv_iload_n hx hb dX12_row_16 rfl (lv_at hl 3 rfl) ?_
      refine lv_bipush (v := 60) hx hb dX12_row_17 (by decide) ?_
      refine lv_icmp_le (tgt := 24) hx hb dX12_row_19 (by decide) (fun c_9 => ?_) (fun c_9 => ?_)
      ·
        have kc_9 : p3.toInt ≤ (60 : Int) := i_le c_9
        refine lv_iload_n hx hb dX12_row_24 rfl (lv_at hl 3 rfl) ?_
        refine lv_if_ge (tgt := 31) hx hb dX12_row_25 (by decide) (fun c_10 => ?_) (fun c_10 => ?_)
        ·
          have kc_10 : (0 : Int) ≤ p3.toInt := i_le c_10
          refine lv_aload_n hx hb dX12_row_31 rfl (lv_at hl 0 rfl) ?_
          refine gr_holds hx hb hg hown hK hP (hg _ q5_58) dX12_row_32 ?_
          refine lv_iload_n hx hb dX12_row_35 rfl (lv_at hl 1 rfl) ?_
          refine lv_bipush (v := (-2)) hx hb dX12_row_36 (by decide) ?_
          refine lv_iload_n hx hb dX12_row_38 rfl (lv_at hl 2 rfl) ?_
          refine lv_isub hx hb dX12_row_39 ?_
          refine lv_topi (fun x_11 ex_11 => ?_)
          have fx_11 : x_11.toInt = (-2 : Int) - p2.toInt := by rw [ex_11]; exact i_sub (by first | omega | (show (_ : Int) ≤ (-2 : Int) - p2.toInt; omega)) (by first | omega | (show (-2 : Int) - p2.toInt ≤ (_ : Int); omega))
          refine sr_holds hx hb hK hP hD hS (i_in (by omega) (by omega)) dX12_row_40 (fun H locs hP hD hS => ?_)
          have hab_12 : AB (-6) 49 (upd (b 66) p1.toNatClampNeg x_11) := AB_upd ib66_0 (by omega) (by omega)
          refine lv_aload_n hx hb dX12_row_41 rfl (lv_at hl 0 rfl) ?_
          refine gr_size hx hb hg hown hK hP (hg _ q5_59) dX12_row_42 ?_
          refine lv_iload_n hx hb dX12_row_45 rfl (lv_at hl 1 rfl) ?_
          refine lv_iload_n hx hb dX12_row_46 rfl (lv_at hl 3 rfl) ?_
          refine sr_size hx hb hK hP hD hS (i_in (by omega) (by omega)) dX12_row_47 (fun H locs hP hD hS => ?_)
          have hab_13 : AB 0 60 (upd (b 67) p1.toNatClampNeg p3) := AB_upd ib67_0 (by omega) (by omega)
          refine lv_bipush (v := 60) hx hb dX12_row_48 (by decide) ?_
          refine lv_iload_n hx hb dX12_row_50 rfl (lv_at hl 1 rfl) ?_
          refine lv_imul hx hb dX12_row_51 ?_
          refine lv_topi (fun x_14 ex_14 => ?_)
          have fx_14 : x_14.toInt = (60 : Int) * p1.toInt := by rw [ex_14]; exact i_mul (by first | omega | (show _ ≤ (60 : Int) * p1.toInt; omega)) (by first | omega | (show (60 : Int) * p1.toInt ≤ _; omega))
          refine lv_istore (lv' := [(4, .int x_14), (0, .ref (bd 0)), (1, .int p1), (2, .int p2), (3, .int p3)]) hx hb dX12_row_52 hl (by decide) rfl (fun ls hl => ?_)
          exact (hcut (((360 - x_14.toInt).toNat) + 1)) x_14 (bw 68) (upd (b 66) p1.toNatClampNeg x_11) (upd (b 67) p1.toNatClampNeg p3) _ _ (by omega) (by omega) (by omega) (by omega) (by omega) (by omega) (by omega) hab_12 hab_13 (Nat.lt_succ_self _) hP hD hS ls (lv_sub hl [1, 2, 3, 4, 0] rfl)
        ·
          have kc_10 : p3.toInt < (0 : Int) := i_nle c_10
          refine lv_bipush (v := (-14)) hx hb dX12_row_28 (by decide) ?_
          have q0_m14 : ((-14) : Int32).toInt = (-14) := rfl
          have hP : va_P D vwCl (RW cs bd u (va_up (va_up b 66 (b 66)) 67 (b 67)) (va_up bw 68 (bw 68))) _ := hP
          have hD : va_D A (RW cs bd u (va_up (va_up b 66 (b 66)) 67 (b 67)) (va_up bw 68 (bw 68))) := hD
          exact W.iret (v := (-14)) hx hb hr (fun tt ht hW => ⟨⟨(-14), ⟨(b 66), (b 67), (bw 68)⟩, rfl, ⟨(by first | rfl | omega | trivial | assumption | (dsimp only; first | omega | assumption)), ib66_0, ib67_0⟩, by rw [ht]; exact hP, hD⟩, hS.F ht⟩) hS.2.2 dX12_row_30
      ·
        have kc_9 : (60 : Int) < p3.toInt := i_nle c_9
        refine lv_iconst (v := (-1)) hx hb dX12_row_22 (by decide) ?_
        have q0_m1 : ((-1) : Int32).toInt = (-1) := rfl
        have hP : va_P D vwCl (RW cs bd u (va_up (va_up b 66 (b 66)) 67 (b 67)) (va_up bw 68 (bw 68))) _ := hP
        have hD : va_D A (RW cs bd u (va_up (va_up b 66 (b 66)) 67 (b 67)) (va_up bw 68 (bw 68))) := hD
        exact W.iret (v := (-1)) hx hb hr (fun tt ht hW => ⟨⟨(-1), ⟨(b 66), (b 67), (bw 68)⟩, rfl, ⟨(by first | rfl | omega | trivial | assumption | (dsimp only; first | omega | assumption)), ib66_0, ib67_0⟩, by rw [ht]; exact hP, hD⟩, hS.F ht⟩) hS.2.2 dX12_row_23
set_option maxHeartbeats 4000000 in
set_option maxRecDepth 100000 in
theorem k_X12_whyNoPlace (l : Launch) (D : va_G) (cs : Nat → ClassId) (A : Nat → Prop) (bd : Nat → Nat) (u : Nat → Int32) (b : Nat → Nat → Int32) (bw : Nat → Nat → Int64)  (p1 : Int32) (p2 : Int32) (ib66_0 : AB (-6) 49 (b 66)) (ib67_0 : AB 0 60 (b 67)) : Met l yX12_whyNoPlace (Cond.code yX12_whyNoPlace cX12_whyNoPlace 3 (some .int) :: gw) ({ frames := 2, cells := 0, slots := 0, locals := 42 }) (va_Pc [.ref (bd 0), .int p1, .int p2] (XPre D (TY cs) (RW cs bd u b bw) A)) (vp_Si (fun (r : Int32) => (r.toInt < 0 ∨ (r.toInt = 0 ∧ 0 ≤ p1.toInt ∧ p1.toInt < 6 ∧ 0 ≤ p2.toInt ∧ p2.toInt < ((b 67) p1.toNatClampNeg).toInt ∧ p2.toInt < 60)))) 0 0 (fun _ => False) := by
  refine Met.ofW (cc := cX12_whyNoPlace) (maxL := 3) (ret := (some .int)) (by decide) rfl ?_
  intro p e s m args below meth c s₁ B hml hv
  obtain ⟨rfl, hP, hK, hD, hZ⟩ := hv
  have hx := B.exec
  have hb := B.bytes
  have hr := B.returns
  have hts := atoms_spec (ws := (Cond.code yX12_whyNoPlace cX12_whyNoPlace 3 (some .int) :: gw)) B.pre
  have hg : ∀ w ∈ gw, w.before ([.ref (bd 0), .int p1, .int p2] : List Value).toArray s = true := fun w h => hts w (List.mem_cons_of_mem _ h)
  have hown : s.vm.findClass RX12 = some m.cls := findClass_of_methodNamed B.named
  have hlocks := B.notSynchronized
  have hS : va_S A s.heap s.heap [] := va_S.rf
  have hl := lv_entry ([.ref (bd 0), .int p1, .int p2]) (n := 3) (Nat.le_of_ble_eq_true rfl)
  rw [lg_entry_eq]
  generalize (lg_sl ([.ref (bd 0), .int p1, .int p2]) ++ List.replicate (3 - (lg_sl ([.ref (bd 0), .int p1, .int p2])).length) Slot.unset).toArray = ls at hl ⊢
  have hl : lv_has ls 3 [(0, .ref (bd 0)), (1, .int p1), (2, .int p2)] := hl
  refine lv_iload_n hx hb dX12_whyNoPlace_0 rfl (lv_at hl 1 rfl) ?_
  refine cS_p (As := [.int p1]) (rest := []) ⟨hx, hb, hml, hown, hg⟩ (k_X12_isShelf l   p1 ) ca_X12_isShelf q5_223 ⟨rfl, rfl⟩ ⟨Nat.le_of_ble_eq_true rfl, Nat.le_of_ble_eq_true rfl⟩ rfl hl.1 rfl (Nat.le_of_ble_eq_true rfl) ⟨Nat.zero_le _, Nat.zero_le _⟩ dX12_whyNoPlace_1 (fun r_1 wr_1 => ?_)
  have wr_1 : (r_1.toInt = 1 ∧ 0 ≤ p1.toInt ∧ p1.toInt < 6) ∨ (r_1.toInt = 0 ∧ ¬ (0 ≤ p1.toInt ∧ p1.toInt < 6)) := wr_1
  refine lv_if_ne (tgt := 9) hx hb dX12_whyNoPlace_4 (by decide) (fun c_2 => ?_) (fun c_2 => ?_)
  ·
    have kc_2 : r_1.toInt ≠ (0 : Int) := i_ne c_2
    refine lv_aload_n hx hb dX12_whyNoPlace_9 rfl (lv_at hl 0 rfl) ?_
    refine gr_holds hx hb hg hown hK hP (hg _ q5_58) dX12_whyNoPlace_10 ?_
    refine lv_iload_n hx hb dX12_whyNoPlace_13 rfl (lv_at hl 1 rfl) ?_
    refine lr_holds hx hb hK hP (i_in (by omega) (by omega)) dX12_whyNoPlace_14 ?_
    refine lv_topi (fun x_3 ex_3 => ?_)
    have ex_3 : x_3 = (b 66) p1.toNatClampNeg := ex_3
    have hx_3 : x_3.toInt = ((b 66) p1.toNatClampNeg).toInt := by rw [ex_3]
    have bx_3 := ib66_0 p1.toNatClampNeg
    rw [← ex_3] at bx_3
    refine lv_iconst (v := (-1)) hx hb dX12_whyNoPlace_15 (by decide) ?_
    refine lv_icmp_ne (tgt := 22) hx hb dX12_whyNoPlace_16 (by decide) (fun c_4 => ?_) (fun c_4 => ?_)
    ·
      have kc_4 : x_3.toInt ≠ (-1 : Int) := i_ne c_4
      refine lv_aload_n hx hb dX12_whyNoPlace_22 rfl (lv_at hl 0 rfl) ?_
      refine gr_holds hx hb hg hown hK hP (hg _ q5_58) dX12_whyNoPlace_23 ?_
      refine lv_iload_n hx hb dX12_whyNoPlace_26 rfl (lv_at hl 1 rfl) ?_
      refine lr_holds hx hb hK hP (i_in (by omega) (by omega)) dX12_whyNoPlace_27 ?_
      refine lv_topi (fun x_5 ex_5 => ?_)
      have ex_5 : x_5 = (b 66) p1.toNatClampNeg := ex_5
      have hx_5 : x_5.toInt = ((b 66) p1.toNatClampNeg).toInt := by rw [ex_5]
      have bx_5 := ib66_0 p1.toNatClampNeg
      rw [← ex_5] at bx_5
      refine lv_if_lt (tgt := 34) hx hb dX12_whyNoPlace_28 (by decide) (fun c_6 => ?_) (fun c_6 => ?_)
      ·
        have kc_6 : x_5.toInt < (0 : Int) := i_lt c_6
        refine lv_iload_n hx hb dX12_whyNoPlace_34 rfl (lv_at hl 2 rfl) ?_
        refine lv_iconst (v := 0) hx hb dX12_whyNoPlace_35 (by decide) ?_
        refine lv_aload_n hx hb dX12_whyNoPlace_36 rfl (lv_at hl 0 rfl) ?_
        refine gr_size hx hb hg hown hK hP (hg _ q5_59) dX12_whyNoPlace_37 ?_
        refine lv_iload_n hx hb dX12_whyNoPlace_40 rfl (lv_at hl 1 rfl) ?_
        refine lr_size hx hb hK hP (i_in (by omega) (by omega)) dX12_whyNoPlace_41 ?_
        refine lv_topi (fun x_7 ex_7 => ?_)
        have ex_7 : x_7 = (b 67) p1.toNatClampNeg := ex_7
        have hx_7 : x_7.toInt = ((b 67) p1.toNatClampNeg).toInt := by rw [ex_7]
        have bx_7 := ib67_0 p1.toNatClampNeg
        rw [← ex_7] at bx_7
        refine lv_iconst (v := 1) hx hb dX12_whyNoPlace_42 (by decide) ?_
        refine lv_isub hx hb dX12_whyNoPlace_43 ?_
        refine lv_topi (fun x_8 ex_8 => ?_)
        have fx_8 : x_8.toInt = x_7.toInt - (1 : Int) := by rw [ex_8]; exact i_sub (by first | omega | (show (_ : Int) ≤ x_7.toInt - (1 : Int); omega)) (by first | omega | (show x_7.toInt - (1 : Int) ≤ (_ : Int); omega))
        refine cS_p (As := [.int p2, .int 0, .int x_8]) (rest := []) ⟨hx, hb, hml, hown, hg⟩ (k_X12_in l   p2 0 x_8 ) ca_X12_in q5_212 ⟨rfl, rfl⟩ ⟨Nat.le_of_ble_eq_true rfl, Nat.le_of_ble_eq_true rfl⟩ rfl hl.1 rfl (Nat.le_of_ble_eq_true rfl) ⟨Nat.zero_le _, Nat.zero_le _⟩ dX12_whyNoPlace_44 (fun r_9 wr_9 => ?_)
        have wr_9 : (r_9.toInt = 1 ∧ (0 : Int) ≤ p2.toInt ∧ p2.toInt ≤ x_8.toInt) ∨ (r_9.toInt = 0 ∧ ¬ ((0 : Int) ≤ p2.toInt ∧ p2.toInt ≤ x_8.toInt)) := wr_9
        refine lv_if_eq (tgt := 54) hx hb dX12_whyNoPlace_47 (by decide) (fun c_10 => ?_) (fun c_10 => ?_)
        ·
          have kc_10 : r_9.toInt = (0 : Int) := i_eq c_10
          refine lv_bipush (v := (-13)) hx hb dX12_whyNoPlace_54 (by decide) ?_
          have q0_m13 : ((-13) : Int32).toInt = (-13) := rfl
          exact W.iret (v := (-13)) hx hb hr (fun tt ht hW => ⟨(-13), rfl, (by first | rfl | omega | trivial | assumption | (dsimp only; first | omega | assumption)), ht⟩) (fun _ h => by cases h) dX12_whyNoPlace_56
        ·
          have kc_10 : r_9.toInt ≠ (0 : Int) := i_ne c_10
          refine lv_iconst (v := 0) hx hb dX12_whyNoPlace_50 (by decide) ?_
          refine lv_goto (tgt := 56) hx hb dX12_whyNoPlace_51 (by decide) ?_
          have q0_0 : (0 : Int32).toInt = 0 := rfl
          exact W.iret (v := 0) hx hb hr (fun tt ht hW => ⟨0, rfl, (by first | rfl | omega | trivial | assumption | (dsimp only; first | omega | assumption)), ht⟩) (fun _ h => by cases h) dX12_whyNoPlace_56
      ·
        have kc_6 : (0 : Int) ≤ x_5.toInt := i_nlt c_6
        refine lv_bipush (v := (-12)) hx hb dX12_whyNoPlace_31 (by decide) ?_
        have q0_m12 : ((-12) : Int32).toInt = (-12) := rfl
        exact W.iret (v := (-12)) hx hb hr (fun tt ht hW => ⟨(-12), rfl, (by first | rfl | omega | trivial | assumption | (dsimp only; first | omega | assumption)), ht⟩) (fun _ h => by cases h) dX12_whyNoPlace_33
    ·
      have kc_4 : x_3.toInt = (-1 : Int) := i_eq c_4
      refine lv_bipush (v := (-11)) hx hb dX12_whyNoPlace_19 (by decide) ?_
      have q0_m11 : ((-11) : Int32).toInt = (-11) := rfl
      exact W.iret (v := (-11)) hx hb hr (fun tt ht hW => ⟨(-11), rfl, (by first | rfl | omega | trivial | assumption | (dsimp only; first | omega | assumption)), ht⟩) (fun _ h => by cases h) dX12_whyNoPlace_21
  ·
    have kc_2 : r_1.toInt = (0 : Int) := i_eq c_2
    refine lv_iconst (v := (-1)) hx hb dX12_whyNoPlace_7 (by decide) ?_
    have q0_m1 : ((-1) : Int32).toInt = (-1) := rfl
    exact W.iret (v := (-1)) hx hb hr (fun tt ht hW => ⟨(-1), rfl, (by first | rfl | omega | trivial | assumption | (dsimp only; first | omega | assumption)), ht⟩) (fun _ h => by cases h) dX12_whyNoPlace_8
set_option maxHeartbeats 4000000 in
set_option maxRecDepth 100000 in
theorem k_X12_put (l : Launch) (D : va_G) (cs : Nat → ClassId) (A : Nat → Prop) (bd : Nat → Nat) (u : Nat → Int32) (b : Nat → Nat → Int32) (bw : Nat → Nat → Int64)  (p1 : Int32) (p2 : Int32) (p3 : Int64) (ib66_0 : AB (-6) 49 (b 66)) (ib67_0 : AB 0 60 (b 67)) : Met l yX12_put (Cond.code yX12_put cX12_put 7 (some .int) :: gw) ({ frames := 3, cells := 0, slots := 0, locals := 64 }) (va_Pc [.ref (bd 0), .int p1, .int p2, .long p3] (XPre D (TY cs) (RW cs bd u b bw) A)) (va_Qi (fun (r : Int32) (z : Nat → Int64) => True) (XPo D (fun (z : Nat → Int64) => RW cs bd u b (va_up bw 68 z)) A) A) 0 0 A := by
  refine Met.ofW (cc := cX12_put) (maxL := 7) (ret := (some .int)) (by decide) rfl ?_
  intro p e s m args below meth c s₁ B hml hv
  obtain ⟨rfl, hP, hK, hD, hZ⟩ := hv
  have hx := B.exec
  have hb := B.bytes
  have hr := B.returns
  have hts := atoms_spec (ws := (Cond.code yX12_put cX12_put 7 (some .int) :: gw)) B.pre
  have hg : ∀ w ∈ gw, w.before ([.ref (bd 0), .int p1, .int p2, .long p3] : List Value).toArray s = true := fun w h => hts w (List.mem_cons_of_mem _ h)
  have hown : s.vm.findClass RX12 = some m.cls := findClass_of_methodNamed B.named
  have hlocks := B.notSynchronized
  have hS : va_S A s.heap s.heap [] := va_S.rf
  have hP : va_P D vwCl (RW cs bd u b bw) s.heap := hP
  have hl := lv_entry ([.ref (bd 0), .int p1, .int p2, .long p3]) (n := 7) (Nat.le_of_ble_eq_true rfl)
  rw [lg_entry_eq]
  generalize (lg_sl ([.ref (bd 0), .int p1, .int p2, .long p3]) ++ List.replicate (7 - (lg_sl ([.ref (bd 0), .int p1, .int p2, .long p3])).length) Slot.unset).toArray = ls at hl ⊢
  have hl : lv_has ls 7 [(0, .ref (bd 0)), (1, .int p1), (2, .int p2), (3, .long p3)] := hl
  refine lv_aload_n hx hb dX12_put_0 rfl (lv_at hl 0 rfl) ?_
  refine lv_iload_n hx hb dX12_put_1 rfl (lv_at hl 1 rfl) ?_
  refine lv_iload_n hx hb dX12_put_2 rfl (lv_at hl 2 rfl) ?_
  refine cV_ro (As := [.int p1, .int p2]) (rest := []) ⟨hx, hb, hml, hown, hg⟩ (k_X12_whyNoPlace l D cs A bd u b bw  p1 p2 ib66_0 ib67_0) ca_X12_whyNoPlace q7_115 ⟨rfl, rfl⟩ ⟨Nat.le_of_ble_eq_true rfl, Nat.le_of_ble_eq_true rfl⟩ (rc_model hK hP) hK hP hD hS hZ rfl hl.1 rfl (Nat.le_of_ble_eq_true rfl) ⟨Nat.zero_le _, Nat.zero_le _⟩ dX12_put_3 (fun r_1 wr_1 => ?_)
  have wr_1_0 : r_1.toInt < 0 ∨ (r_1.toInt = 0 ∧ 0 ≤ p1.toInt ∧ p1.toInt < 6 ∧ 0 ≤ p2.toInt ∧ p2.toInt < ((b 67) p1.toNatClampNeg).toInt ∧ p2.toInt < 60) := wr_1
  refine lv_istore (lv' := [(5, .int r_1), (0, .ref (bd 0)), (1, .int p1), (2, .int p2), (3, .long p3)]) hx hb dX12_put_6 hl (by decide) rfl (fun ls hl => ?_)
  refine lv_iload hx hb dX12_put_8 (lv_at hl 0 rfl) ?_
  refine lv_if_ge (tgt := 16) hx hb dX12_put_10 (by decide) (fun c_2 => ?_) (fun c_2 => ?_)
  ·
    have kc_2 : (0 : Int) ≤ r_1.toInt := i_le c_2
    refine lv_bipush (v := (-2)) hx hb dX12_put_16 (by decide) ?_
    refine lv_aload_n hx hb dX12_put_18 rfl (lv_at hl 1 rfl) ?_
    refine gr_holds hx hb hg hown hK hP (hg _ q5_58) dX12_put_19 ?_
    refine lv_iload_n hx hb dX12_put_22 rfl (lv_at hl 2 rfl) ?_
    refine lr_holds hx hb hK hP (i_in (by omega) (by omega)) dX12_put_23 ?_
    refine lv_topi (fun x_3 ex_3 => ?_)
    have ex_3 : x_3 = (b 66) p1.toNatClampNeg := ex_3
    have hx_3 : x_3.toInt = ((b 66) p1.toNatClampNeg).toInt := by rw [ex_3]
    have bx_3 := ib66_0 p1.toNatClampNeg
    rw [← ex_3] at bx_3
    refine lv_isub hx hb dX12_put_24 ?_
    refine lv_topi (fun x_4 ex_4 => ?_)
    have fx_4 : x_4.toInt = (-2 : Int) - x_3.toInt := by rw [ex_4]; exact i_sub (by first | omega | (show (_ : Int) ≤ (-2 : Int) - x_3.toInt; omega)) (by first | omega | (show (-2 : Int) - x_3.toInt ≤ (_ : Int); omega))
    refine lv_istore (lv' := [(6, .int x_4), (5, .int r_1), (0, .ref (bd 0)), (1, .int p1), (2, .int p2), (3, .long p3)]) hx hb dX12_put_25 hl (by decide) rfl (fun ls hl => ?_)
    refine lv_aload_n hx hb dX12_put_27 rfl (lv_at hl 2 rfl) ?_
    refine gr_elements hx hb hg hown hK hP (hg _ q5_60) dX12_put_28 ?_
    refine lv_bipush (v := 60) hx hb dX12_put_31 (by decide) ?_
    refine lv_iload_n hx hb dX12_put_33 rfl (lv_at hl 3 rfl) ?_
    refine lv_imul hx hb dX12_put_34 ?_
    refine lv_topi (fun x_5 ex_5 => ?_)
    have fx_5 : x_5.toInt = (60 : Int) * p1.toInt := by rw [ex_5]; exact i_mul (by first | omega | (show _ ≤ (60 : Int) * p1.toInt; omega)) (by first | omega | (show (60 : Int) * p1.toInt ≤ _; omega))
    refine lv_iload_n hx hb dX12_put_35 rfl (lv_at hl 4 rfl) ?_
    refine lv_iadd hx hb dX12_put_36 ?_
    refine lv_topi (fun x_6 ex_6 => ?_)
    have fx_6 : x_6.toInt = x_5.toInt + p2.toInt := by rw [ex_6]; exact i_add (by first | omega | (show (_ : Int) ≤ x_5.toInt + p2.toInt; omega)) (by first | omega | (show x_5.toInt + p2.toInt ≤ (_ : Int); omega))
    refine lv_iload hx hb dX12_put_37 (lv_at hl 0 rfl) ?_
    refine lv_if_ne (tgt := 49) hx hb dX12_put_39 (by decide) (fun c_7 => ?_) (fun c_7 => ?_)
    ·
      have kc_7 : x_4.toInt ≠ (0 : Int) := i_ne c_7
      refine lv_iload hx hb dX12_put_49 (lv_at hl 0 rfl) ?_
      refine lv_iconst (v := 1) hx hb dX12_put_51 (by decide) ?_
      refine lv_icmp_ne (tgt := 62) hx hb dX12_put_52 (by decide) (fun c_8 => ?_) (fun c_8 => ?_)
      ·
        have kc_8 : x_4.toInt ≠ (1 : Int) := i_ne c_8
        refine lv_iload hx hb dX12_put_62 (lv_at hl 0 rfl) ?_
        refine lv_iconst (v := 2) hx hb dX12_put_64 (by decide) ?_
        refine lv_icmp_ne (tgt := 74) hx hb dX12_put_65 (by decide) (fun c_9 => ?_) (fun c_9 => ?_)
        ·
          have kc_9 : x_4.toInt ≠ (2 : Int) := i_ne c_9
          refine lv_iload hx hb dX12_put_74 (lv_at hl 0 rfl) ?_
          refine lv_iconst (v := 3) hx hb dX12_put_76 (by decide) ?_
          refine lv_icmp_ne (tgt := 84) hx hb dX12_put_77 (by decide) (fun c_10 => ?_) (fun c_10 => ?_)
          ·
            have kc_10 : x_4.toInt ≠ (3 : Int) := i_ne c_10
            refine lv_lload_n hx hb dX12_put_84 rfl (lv_at hl 5 rfl) ?_
            refine lv_lconst (v := 0) hx hb dX12_put_85 (by decide) ?_
            refine W.lcmp hx hb dX12_put_86 ?_
            refine lv_topi (fun x_11 ex_11 => ?_)
            have ql_0 : (0 : Int64).toInt = 0 := rfl
            have fx_11 : (x_11.toInt = 1 ∧ (0 : Int64).toInt < p3.toInt) ∨ (x_11.toInt = 0 ∧ p3.toInt = (0 : Int64).toInt) ∨ (x_11.toInt = -1 ∧ p3.toInt < (0 : Int64).toInt) := by rw [ex_11]; exact l_cmp _ _
            refine lv_if_eq (tgt := 94) hx hb dX12_put_87 (by decide) (fun c_12 => ?_) (fun c_12 => ?_)
            ·
              have kc_12 : x_11.toInt = (0 : Int) := i_eq c_12
              refine lv_lconst (v := 0) hx hb dX12_put_94 (by decide) ?_
              refine sr_elements hx hb hK hP hD hS (i_in (by omega) (by omega)) dX12_put_95 (fun H locs hP hD hS => ?_)
              refine lv_iconst (v := 1) hx hb dX12_put_96 (by decide) ?_
              have q0_1 : (1 : Int32).toInt = 1 := rfl
              exact W.iret (v := 1) hx hb hr (fun tt ht hW => ⟨⟨1, (vp_updL (bw 68) x_6.toNatClampNeg 0), rfl, trivial, by rw [ht]; exact hP, hD⟩, hS.F ht⟩) hS.2.2 dX12_put_97
            ·
              have kc_12 : x_11.toInt ≠ (0 : Int) := i_ne c_12
              refine lv_lconst (v := 1) hx hb dX12_put_90 (by decide) ?_
              refine lv_goto (tgt := 95) hx hb dX12_put_91 (by decide) ?_
              refine sr_elements hx hb hK hP hD hS (i_in (by omega) (by omega)) dX12_put_95 (fun H locs hP hD hS => ?_)
              refine lv_iconst (v := 1) hx hb dX12_put_96 (by decide) ?_
              have q0_1 : (1 : Int32).toInt = 1 := rfl
              exact W.iret (v := 1) hx hb hr (fun tt ht hW => ⟨⟨1, (vp_updL (bw 68) x_6.toNatClampNeg 1), rfl, trivial, by rw [ht]; exact hP, hD⟩, hS.F ht⟩) hS.2.2 dX12_put_97
          ·
            have kc_10 : x_4.toInt = (3 : Int) := i_eq c_10
            refine lv_lload_n hx hb dX12_put_80 rfl (lv_at hl 5 rfl) ?_
            refine lv_goto (tgt := 95) hx hb dX12_put_81 (by decide) ?_
            refine sr_elements hx hb hK hP hD hS (i_in (by omega) (by omega)) dX12_put_95 (fun H locs hP hD hS => ?_)
            refine lv_iconst (v := 1) hx hb dX12_put_96 (by decide) ?_
            have q0_1 : (1 : Int32).toInt = 1 := rfl
            exact W.iret (v := 1) hx hb hr (fun tt ht hW => ⟨⟨1, (vp_updL (bw 68) x_6.toNatClampNeg p3), rfl, trivial, by rw [ht]; exact hP, hD⟩, hS.F ht⟩) hS.2.2 dX12_put_97
        ·
          have kc_9 : x_4.toInt = (2 : Int) := i_eq c_9
          refine lv_lload_n hx hb dX12_put_68 rfl (lv_at hl 5 rfl) ?_
          refine lv_l2i hx hb dX12_put_69 rfl ?_
          refine lv_topi (fun x_13 ex_13 => ?_)
          refine lv_i2l hx hb dX12_put_70 rfl ?_
          refine lv_topl (fun x_14 ex_14 => ?_)
          have fx_14 : x_14.toInt = x_13.toInt := by rw [ex_14]; exact l_i2l x_13
          have gx_14 := i_bd x_13
          refine lv_goto (tgt := 95) hx hb dX12_put_71 (by decide) ?_
          refine sr_elements hx hb hK hP hD hS (i_in (by omega) (by omega)) dX12_put_95 (fun H locs hP hD hS => ?_)
          refine lv_iconst (v := 1) hx hb dX12_put_96 (by decide) ?_
          have q0_1 : (1 : Int32).toInt = 1 := rfl
          exact W.iret (v := 1) hx hb hr (fun tt ht hW => ⟨⟨1, (vp_updL (bw 68) x_6.toNatClampNeg x_14), rfl, trivial, by rw [ht]; exact hP, hD⟩, hS.F ht⟩) hS.2.2 dX12_put_97
      ·
        have kc_8 : x_4.toInt = (1 : Int) := i_eq c_8
        refine lv_lload_n hx hb dX12_put_55 rfl (lv_at hl 5 rfl) ?_
        refine lv_l2i hx hb dX12_put_56 rfl ?_
        refine lv_topi (fun x_15 ex_15 => ?_)
        refine lv_i2s hx hb dX12_put_57 rfl ?_
        refine lv_topi (fun x_16 ex_16 => ?_)
        refine lv_i2l hx hb dX12_put_58 rfl ?_
        refine lv_topl (fun x_17 ex_17 => ?_)
        have fx_17 : x_17.toInt = x_16.toInt := by rw [ex_17]; exact l_i2l x_16
        have gx_17 := i_bd x_16
        refine lv_goto (tgt := 95) hx hb dX12_put_59 (by decide) ?_
        refine sr_elements hx hb hK hP hD hS (i_in (by omega) (by omega)) dX12_put_95 (fun H locs hP hD hS => ?_)
        refine lv_iconst (v := 1) hx hb dX12_put_96 (by decide) ?_
        have q0_1 : (1 : Int32).toInt = 1 := rfl
        exact W.iret (v := 1) hx hb hr (fun tt ht hW => ⟨⟨1, (vp_updL (bw 68) x_6.toNatClampNeg x_17), rfl, trivial, by rw [ht]; exact hP, hD⟩, hS.F ht⟩) hS.2.2 dX12_put_97
    ·
      have kc_7 : x_4.toInt = (0 : Int) := i_eq c_7
      refine lv_lload_n hx hb dX12_put_42 rfl (lv_at hl 5 rfl) ?_
      refine lv_l2i hx hb dX12_put_43 rfl ?_
      refine lv_topi (fun x_18 ex_18 => ?_)
      refine lv_i2b hx hb dX12_put_44 rfl ?_
      refine lv_topi (fun x_19 ex_19 => ?_)
      refine lv_i2l hx hb dX12_put_45 rfl ?_
      refine lv_topl (fun x_20 ex_20 => ?_)
      have fx_20 : x_20.toInt = x_19.toInt := by rw [ex_20]; exact l_i2l x_19
      have gx_20 := i_bd x_19
      refine lv_goto (tgt := 95) hx hb dX12_put_46 (by decide) ?_
      refine sr_elements hx hb hK hP hD hS (i_in (by omega) (by omega)) dX12_put_95 (fun H locs hP hD hS => ?_)
      refine lv_iconst (v := 1) hx hb dX12_put_96 (by decide) ?_
      have q0_1 : (1 : Int32).toInt = 1 := rfl
      exact W.iret (v := 1) hx hb hr (fun tt ht hW => ⟨⟨1, (vp_updL (bw 68) x_6.toNatClampNeg x_20), rfl, trivial, by rw [ht]; exact hP, hD⟩, hS.F ht⟩) hS.2.2 dX12_put_97
  ·
    have kc_2 : r_1.toInt < (0 : Int) := i_nle c_2
    refine lv_iload hx hb dX12_put_13 (lv_at hl 0 rfl) ?_
    have hP : va_P D vwCl (RW cs bd u b (va_up bw 68 (bw 68))) _ := hP
    have hD : va_D A (RW cs bd u b (va_up bw 68 (bw 68))) := hD
    exact W.iret (v := r_1) hx hb hr (fun tt ht hW => ⟨⟨r_1, (bw 68), rfl, trivial, by rw [ht]; exact hP, hD⟩, hS.F ht⟩) hS.2.2 dX12_put_15
set_option maxHeartbeats 4000000 in
set_option maxRecDepth 100000 in
theorem k_X12_element (l : Launch) (D : va_G) (cs : Nat → ClassId) (A : Nat → Prop) (bd : Nat → Nat) (u : Nat → Int32) (b : Nat → Nat → Int32) (bw : Nat → Nat → Int64)  (p1 : Int32) (p2 : Int32) (ib66_0 : AB (-6) 49 (b 66)) (ib67_0 : AB 0 60 (b 67)) : Met l yX12_element (Cond.code yX12_element cX12_element 3 (some .long) :: gw) ({ frames := 3, cells := 0, slots := 0, locals := 64 }) (va_Pc [.ref (bd 0), .int p1, .int p2] (XPre D (TY cs) (RW cs bd u b bw) A)) (vp_Sl (fun (r : Int64) => True)) 0 0 (fun _ => False) := by
  refine Met.ofW (cc := cX12_element) (maxL := 3) (ret := (some .long)) (by decide) rfl ?_
  intro p e s m args below meth c s₁ B hml hv
  obtain ⟨rfl, hP, hK, hD, hZ⟩ := hv
  have hx := B.exec
  have hb := B.bytes
  have hr := B.returns
  have hts := atoms_spec (ws := (Cond.code yX12_element cX12_element 3 (some .long) :: gw)) B.pre
  have hg : ∀ w ∈ gw, w.before ([.ref (bd 0), .int p1, .int p2] : List Value).toArray s = true := fun w h => hts w (List.mem_cons_of_mem _ h)
  have hown : s.vm.findClass RX12 = some m.cls := findClass_of_methodNamed B.named
  have hlocks := B.notSynchronized
  have hS : va_S A s.heap s.heap [] := va_S.rf
  have hl := lv_entry ([.ref (bd 0), .int p1, .int p2]) (n := 3) (Nat.le_of_ble_eq_true rfl)
  rw [lg_entry_eq]
  generalize (lg_sl ([.ref (bd 0), .int p1, .int p2]) ++ List.replicate (3 - (lg_sl ([.ref (bd 0), .int p1, .int p2])).length) Slot.unset).toArray = ls at hl ⊢
  have hl : lv_has ls 3 [(0, .ref (bd 0)), (1, .int p1), (2, .int p2)] := hl
  refine lv_aload_n hx hb dX12_element_0 rfl (lv_at hl 0 rfl) ?_
  refine lv_iload_n hx hb dX12_element_1 rfl (lv_at hl 1 rfl) ?_
  refine lv_iload_n hx hb dX12_element_2 rfl (lv_at hl 2 rfl) ?_
  refine cV_ro (As := [.int p1, .int p2]) (rest := []) ⟨hx, hb, hml, hown, hg⟩ (k_X12_whyNoPlace l D cs A bd u b bw  p1 p2 ib66_0 ib67_0) ca_X12_whyNoPlace q7_115 ⟨rfl, rfl⟩ ⟨Nat.le_of_ble_eq_true rfl, Nat.le_of_ble_eq_true rfl⟩ (rc_model hK hP) hK hP hD hS hZ rfl hl.1 rfl (Nat.le_of_ble_eq_true rfl) ⟨Nat.zero_le _, Nat.zero_le _⟩ dX12_element_3 (fun r_1 wr_1 => ?_)
  have wr_1_0 : r_1.toInt < 0 ∨ (r_1.toInt = 0 ∧ 0 ≤ p1.toInt ∧ p1.toInt < 6 ∧ 0 ≤ p2.toInt ∧ p2.toInt < ((b 67) p1.toNatClampNeg).toInt ∧ p2.toInt < 60) := wr_1
  refine lv_if_ge (tgt := 15) hx hb dX12_element_6 (by decide) (fun c_2 => ?_) (fun c_2 => ?_)
  ·
    have kc_2 : (0 : Int) ≤ r_1.toInt := i_le c_2
    refine lv_aload_n hx hb dX12_element_15 rfl (lv_at hl 0 rfl) ?_
    refine gr_elements hx hb hg hown hK hP (hg _ q5_60) dX12_element_16 ?_
    refine lv_bipush (v := 60) hx hb dX12_element_19 (by decide) ?_
    refine lv_iload_n hx hb dX12_element_21 rfl (lv_at hl 1 rfl) ?_
    refine lv_imul hx hb dX12_element_22 ?_
    refine lv_topi (fun x_3 ex_3 => ?_)
    have fx_3 : x_3.toInt = (60 : Int) * p1.toInt := by rw [ex_3]; exact i_mul (by first | omega | (show _ ≤ (60 : Int) * p1.toInt; omega)) (by first | omega | (show (60 : Int) * p1.toInt ≤ _; omega))
    refine lv_iload_n hx hb dX12_element_23 rfl (lv_at hl 2 rfl) ?_
    refine lv_iadd hx hb dX12_element_24 ?_
    refine lv_topi (fun x_4 ex_4 => ?_)
    have fx_4 : x_4.toInt = x_3.toInt + p2.toInt := by rw [ex_4]; exact i_add (by first | omega | (show (_ : Int) ≤ x_3.toInt + p2.toInt; omega)) (by first | omega | (show x_3.toInt + p2.toInt ≤ (_ : Int); omega))
    refine lr_elements hx hb hK hP (i_in (by omega) (by omega)) dX12_element_25 ?_
    refine lv_topl (fun x_5 ex_5 => ?_)
    have ex_5 : x_5 = (bw 68) x_4.toNatClampNeg := ex_5
    exact W.lret (v := x_5) hx hb hr (fun tt ht hW => ⟨x_5, rfl, trivial, ht⟩) (fun _ h => by cases h) dX12_element_26
  ·
    have kc_2 : r_1.toInt < (0 : Int) := i_nle c_2
    refine lv_ldc2 hx hb hown (v := (-9223372036854775808)) (hg _ q7_123) dX12_element_9 ?_
    refine lv_goto (tgt := 26) hx hb dX12_element_12 (by decide) ?_
    exact W.lret (v := (-9223372036854775808)) hx hb hr (fun tt ht hW => ⟨(-9223372036854775808), rfl, trivial, ht⟩) (fun _ h => by cases h) dX12_element_26
set_option maxHeartbeats 4000000 in
set_option maxRecDepth 100000 in
theorem k_X12_shift (l : Launch) (D : va_G) (cs : Nat → ClassId) (A : Nat → Prop) (bd : Nat → Nat) (u : Nat → Int32) (b : Nat → Nat → Int32) (bw : Nat → Nat → Int64)  (p1 : Int32) (p2 : Int32) (p3 : Int32) (p4 : Int32) (p5 : Int32) (ib66_0 : AB (-6) 49 (b 66)) (ib67_0 : AB 0 60 (b 67)) : Met l yX12_shift (Cond.code yX12_shift cX12_shift 7 (some .int) :: gw) ({ frames := 2, cells := 0, slots := 0, locals := 42 }) (va_Pc [.ref (bd 0), .int p1, .int p2, .int p3, .int p4, .int p5] (XPre D (TY cs) (RW cs bd u b bw) A)) (va_Qi (fun (r : Int32) (z : (Nat → Int64) × (Nat → Int64)) => True) (XPo D (fun (z : (Nat → Int64) × (Nat → Int64)) => RW cs bd u b (va_up (va_up bw 68 z.1) 69 z.2)) A) A) 0 0 A := by
  refine Met.ofW (cc := cX12_shift) (maxL := 7) (ret := (some .int)) (by decide) rfl ?_
  intro p e s m args below meth c s₁ B hml hv
  obtain ⟨rfl, hP, hK, hD, hZ⟩ := hv
  have hx := B.exec
  have hb := B.bytes
  have hr := B.returns
  have hts := atoms_spec (ws := (Cond.code yX12_shift cX12_shift 7 (some .int) :: gw)) B.pre
  have hg : ∀ w ∈ gw, w.before ([.ref (bd 0), .int p1, .int p2, .int p3, .int p4, .int p5] : List Value).toArray s = true := fun w h => hts w (List.mem_cons_of_mem _ h)
  have hown : s.vm.findClass RX12 = some m.cls := findClass_of_methodNamed B.named
  have hlocks := B.notSynchronized
  have hS : va_S A s.heap s.heap [] := va_S.rf
  have hP : va_P D vwCl (RW cs bd u b bw) s.heap := hP
  have hl := lv_entry ([.ref (bd 0), .int p1, .int p2, .int p3, .int p4, .int p5]) (n := 7) (Nat.le_of_ble_eq_true rfl)
  rw [lg_entry_eq]
  generalize (lg_sl ([.ref (bd 0), .int p1, .int p2, .int p3, .int p4, .int p5]) ++ List.replicate (7 - (lg_sl ([.ref (bd 0), .int p1, .int p2, .int p3, .int p4, .int p5])).length) Slot.unset).toArray = ls at hl ⊢
  have hl : lv_has ls 7 [(0, .ref (bd 0)), (1, .int p1), (2, .int p2), (3, .int p3), (4, .int p4), (5, .int p5)] := hl
  have hcut : ∀ nk : Nat, (∀ (x6 : Int32) (c113_bw69 : Nat → Int64) (H : Heap) (locs : List Loc) (j1 : 0 ≤ p1.toInt) (j2 : p1.toInt < 6) (j3 : 0 ≤ p3.toInt) (j4 : p3.toInt < 6) (j5 : 0 ≤ p2.toInt) (j6 : 0 ≤ p4.toInt) (j7 : 0 ≤ p5.toInt) (j8 : p2.toInt + p5.toInt ≤ 60) (j9 : p4.toInt + p5.toInt ≤ 60) (i6 : 0 ≤ x6.toInt) (hmu : 100 + (p5.toInt - x6.toInt).toNat < nk) (hP : va_P D vwCl (RW cs bd u b (va_up bw 69 c113_bw69)) H) (hD : va_D A (RW cs bd u b (va_up bw 69 c113_bw69))) (hS : va_S A s.heap H locs) (ls : Array Slot) (hl : lv_has ls 7 [(0, .ref (bd 0)), (1, .int p1), (2, .int p2), (3, .int p3), (4, .int p4), (5, .int p5), (6, .int x6)]), W p l e (headSpec (Cond.code yX12_shift cX12_shift 7 (some .int) :: gw) ({ frames := 2, cells := 0, slots := 0, locals := 42 })).room s m ([.ref (bd 0), .int p1, .int p2, .int p3, .int p4, .int p5] : List Value).toArray below meth c H locs 0 0 (MQ below (va_Qi (fun (r : Int32) (z : (Nat → Int64) × (Nat → Int64)) => True) (XPo D (fun (z : (Nat → Int64) × (Nat → Int64)) => RW cs bd u b (va_up (va_up bw 68 z.1) 69 z.2)) A) A) ([.ref (bd 0), .int p1, .int p2, .int p3, .int p4, .int p5] : List Value).toArray s 0 0 A) (F0 m 113 ls [])) ∧ (∀ (x6 : Int32) (c150_bw68 : Nat → Int64) (c150_bw69 : Nat → Int64) (H : Heap) (locs : List Loc) (j1 : 0 ≤ p1.toInt) (j2 : p1.toInt < 6) (j3 : 0 ≤ p3.toInt) (j4 : p3.toInt < 6) (j5 : 0 ≤ p2.toInt) (j6 : 0 ≤ p4.toInt) (j7 : 0 ≤ p5.toInt) (j8 : p2.toInt + p5.toInt ≤ 60) (j9 : p4.toInt + p5.toInt ≤ 60) (i6 : 0 ≤ x6.toInt) (hmu : (p5.toInt - x6.toInt).toNat < nk) (hP : va_P D vwCl (RW cs bd u b (va_up (va_up bw 68 c150_bw68) 69 c150_bw69)) H) (hD : va_D A (RW cs bd u b (va_up (va_up bw 68 c150_bw68) 69 c150_bw69))) (hS : va_S A s.heap H locs) (ls : Array Slot) (hl : lv_has ls 7 [(0, .ref (bd 0)), (1, .int p1), (2, .int p2), (3, .int p3), (4, .int p4), (5, .int p5), (6, .int x6)]), W p l e (headSpec (Cond.code yX12_shift cX12_shift 7 (some .int) :: gw) ({ frames := 2, cells := 0, slots := 0, locals := 42 })).room s m ([.ref (bd 0), .int p1, .int p2, .int p3, .int p4, .int p5] : List Value).toArray below meth c H locs 0 0 (MQ below (va_Qi (fun (r : Int32) (z : (Nat → Int64) × (Nat → Int64)) => True) (XPo D (fun (z : (Nat → Int64) × (Nat → Int64)) => RW cs bd u b (va_up (va_up bw 68 z.1) 69 z.2)) A) A) ([.ref (bd 0), .int p1, .int p2, .int p3, .int p4, .int p5] : List Value).toArray s 0 0 A) (F0 m 150 ls [])) := by
    intro nk
    induction nk with
    | zero => exact ⟨(fun x6 c113_bw69 H locs j1 j2 j3 j4 j5 j6 j7 j8 j9 i6 hmu hP hD hS ls hl => absurd hmu (Nat.not_lt_zero _)), (fun x6 c150_bw68 c150_bw69 H locs j1 j2 j3 j4 j5 j6 j7 j8 j9 i6 hmu hP hD hS ls hl => absurd hmu (Nat.not_lt_zero _))⟩
    | succ nk ih =>
      refine ⟨?_, ?_⟩
      ·
        intro x6 c113_bw69 H locs j1 j2 j3 j4 j5 j6 j7 j8 j9 i6 hmu hP hD hS ls hl
        refine lv_iload hx hb dX12_shift_113 (lv_at hl 6 rfl) ?_
        refine lv_iload hx hb dX12_shift_115 (lv_at hl 5 rfl) ?_
        refine lv_icmp_ge (tgt := 147) hx hb dX12_shift_117 (by decide) (fun c_1 => ?_) (fun c_1 => ?_)
        ·
          have kc_1 : p5.toInt ≤ x6.toInt := i_le c_1
          refine lv_iconst (v := 0) hx hb dX12_shift_147 (by decide) ?_
          refine lv_istore (lv' := [(6, .int 0), (0, .ref (bd 0)), (1, .int p1), (2, .int p2), (3, .int p3), (4, .int p4), (5, .int p5)]) hx hb dX12_shift_148 hl (by decide) rfl (fun ls hl => ?_)
          have q0_0 : (0 : Int32).toInt = 0 := rfl
          exact ih.2 0 (bw 68) c113_bw69 _ _ (by omega) (by omega) (by omega) (by omega) (by omega) (by omega) (by omega) (by omega) (by omega) (by omega) (by omega) hP hD hS ls (lv_sub hl [1, 2, 3, 4, 5, 6, 0] rfl)
        ·
          have kc_1 : x6.toInt < p5.toInt := i_nle c_1
          refine lv_aload_n hx hb dX12_shift_120 rfl (lv_at hl 0 rfl) ?_
          refine gr_shifted hx hb hg hown hK hP (hg _ q5_61) dX12_shift_121 ?_
          refine lv_iload hx hb dX12_shift_124 (lv_at hl 6 rfl) ?_
          refine lv_aload_n hx hb dX12_shift_126 rfl (lv_at hl 0 rfl) ?_
          refine gr_elements hx hb hg hown hK hP (hg _ q5_60) dX12_shift_127 ?_
          refine lv_bipush (v := 60) hx hb dX12_shift_130 (by decide) ?_
          refine lv_iload_n hx hb dX12_shift_132 rfl (lv_at hl 1 rfl) ?_
          refine lv_imul hx hb dX12_shift_133 ?_
          refine lv_topi (fun x_2 ex_2 => ?_)
          have fx_2 : x_2.toInt = (60 : Int) * p1.toInt := by rw [ex_2]; exact i_mul (by first | omega | (show _ ≤ (60 : Int) * p1.toInt; omega)) (by first | omega | (show (60 : Int) * p1.toInt ≤ _; omega))
          refine lv_iload_n hx hb dX12_shift_134 rfl (lv_at hl 2 rfl) ?_
          refine lv_iadd hx hb dX12_shift_135 ?_
          refine lv_topi (fun x_3 ex_3 => ?_)
          have fx_3 : x_3.toInt = x_2.toInt + p2.toInt := by rw [ex_3]; exact i_add (by first | omega | (show (_ : Int) ≤ x_2.toInt + p2.toInt; omega)) (by first | omega | (show x_2.toInt + p2.toInt ≤ (_ : Int); omega))
          refine lv_iload hx hb dX12_shift_136 (lv_at hl 6 rfl) ?_
          refine lv_iadd hx hb dX12_shift_138 ?_
          refine lv_topi (fun x_4 ex_4 => ?_)
          have fx_4 : x_4.toInt = x_3.toInt + x6.toInt := by rw [ex_4]; exact i_add (by first | omega | (show (_ : Int) ≤ x_3.toInt + x6.toInt; omega)) (by first | omega | (show x_3.toInt + x6.toInt ≤ (_ : Int); omega))
          refine lr_elements hx hb hK hP (i_in (by omega) (by omega)) dX12_shift_139 ?_
          refine lv_topl (fun x_5 ex_5 => ?_)
          have ex_5 : x_5 = (bw 68) x_4.toNatClampNeg := ex_5
          refine sr_shifted hx hb hK hP hD hS (i_in (by omega) (by omega)) dX12_shift_140 (fun H locs hP hD hS => ?_)
          obtain ⟨x_6, ex_6⟩ : ∃ y : Int32, y = x6 + 1 := ⟨_, rfl⟩
          have fx_6 : x_6.toInt = x6.toInt + 1 := by rw [ex_6]; exact i_add (by first | omega | (show (_ : Int) ≤ x6.toInt + 1; omega)) (by first | omega | (show x6.toInt + 1 ≤ (_ : Int); omega))
          refine lv_iinc (v := x_6) (lv' := [(6, .int x_6), (0, .ref (bd 0)), (1, .int p1), (2, .int p2), (3, .int p3), (4, .int p4), (5, .int p5)]) hx hb dX12_shift_141 hl (k := 6) rfl (by rw [ex_6]; rfl) (by decide) rfl (fun ls hl => ?_)
          refine lv_goto (tgt := 113) hx hb dX12_shift_144 (by decide) ?_
          exact ih.1 x_6 (vp_updL c113_bw69 x6.toNatClampNeg x_5) _ _ (by omega) (by omega) (by omega) (by omega) (by omega) (by omega) (by omega) (by omega) (by omega) (by omega) (by omega) hP hD hS ls (lv_sub hl [1, 2, 3, 4, 5, 6, 0] rfl)
      ·
        intro x6 c150_bw68 c150_bw69 H locs j1 j2 j3 j4 j5 j6 j7 j8 j9 i6 hmu hP hD hS ls hl
        refine lv_iload hx hb dX12_shift_150 (lv_at hl 6 rfl) ?_
        refine lv_iload hx hb dX12_shift_152 (lv_at hl 5 rfl) ?_
        refine lv_icmp_ge (tgt := 185) hx hb dX12_shift_154 (by decide) (fun c_7 => ?_) (fun c_7 => ?_)
        ·
          have kc_7 : p5.toInt ≤ x6.toInt := i_le c_7
          refine lv_iload hx hb dX12_shift_185 (lv_at hl 5 rfl) ?_
          exact W.iret (v := p5) hx hb hr (fun tt ht hW => ⟨⟨p5, ⟨c150_bw68, c150_bw69⟩, rfl, trivial, by rw [ht]; exact hP, hD⟩, hS.F ht⟩) hS.2.2 dX12_shift_187
        ·
          have kc_7 : x6.toInt < p5.toInt := i_nle c_7
          refine lv_aload_n hx hb dX12_shift_157 rfl (lv_at hl 0 rfl) ?_
          refine gr_elements hx hb hg hown hK hP (hg _ q5_60) dX12_shift_158 ?_
          refine lv_bipush (v := 60) hx hb dX12_shift_161 (by decide) ?_
          refine lv_iload_n hx hb dX12_shift_163 rfl (lv_at hl 3 rfl) ?_
          refine lv_imul hx hb dX12_shift_164 ?_
          refine lv_topi (fun x_8 ex_8 => ?_)
          have fx_8 : x_8.toInt = (60 : Int) * p3.toInt := by rw [ex_8]; exact i_mul (by first | omega | (show _ ≤ (60 : Int) * p3.toInt; omega)) (by first | omega | (show (60 : Int) * p3.toInt ≤ _; omega))
          refine lv_iload hx hb dX12_shift_165 (lv_at hl 4 rfl) ?_
          refine lv_iadd hx hb dX12_shift_167 ?_
          refine lv_topi (fun x_9 ex_9 => ?_)
          have fx_9 : x_9.toInt = x_8.toInt + p4.toInt := by rw [ex_9]; exact i_add (by first | omega | (show (_ : Int) ≤ x_8.toInt + p4.toInt; omega)) (by first | omega | (show x_8.toInt + p4.toInt ≤ (_ : Int); omega))
          refine lv_iload hx hb dX12_shift_168 (lv_at hl 6 rfl) ?_
          refine lv_iadd hx hb dX12_shift_170 ?_
          refine lv_topi (fun x_10 ex_10 => ?_)
          have fx_10 : x_10.toInt = x_9.toInt + x6.toInt := by rw [ex_10]; exact i_add (by first | omega | (show (_ : Int) ≤ x_9.toInt + x6.toInt; omega)) (by first | omega | (show x_9.toInt + x6.toInt ≤ (_ : Int); omega))
          refine lv_aload_n hx hb dX12_shift_171 rfl (lv_at hl 0 rfl) ?_
          refine gr_shifted hx hb hg hown hK hP (hg _ q5_61) dX12_shift_172 ?_
          refine lv_iload hx hb dX12_shift_175 (lv_at hl 6 rfl) ?_
          refine lr_shifted hx hb hK hP (i_in (by omega) (by omega)) dX12_shift_177 ?_
          refine lv_topl (fun x_11 ex_11 => ?_)
          have ex_11 : x_11 = c150_bw69 x6.toNatClampNeg := ex_11
          refine sr_elements hx hb hK hP hD hS (i_in (by omega) (by omega)) dX12_shift_178 (fun H locs hP hD hS => ?_)
          obtain ⟨x_12, ex_12⟩ : ∃ y : Int32, y = x6 + 1 := ⟨_, rfl⟩
          have fx_12 : x_12.toInt = x6.toInt + 1 := by rw [ex_12]; exact i_add (by first | omega | (show (_ : Int) ≤ x6.toInt + 1; omega)) (by first | omega | (show x6.toInt + 1 ≤ (_ : Int); omega))
          refine lv_iinc (v := x_12) (lv' := [(6, .int x_12), (0, .ref (bd 0)), (1, .int p1), (2, .int p2), (3, .int p3), (4, .int p4), (5, .int p5)]) hx hb dX12_shift_179 hl (k := 6) rfl (by rw [ex_12]; rfl) (by decide) rfl (fun ls hl => ?_)
          refine lv_goto (tgt := 150) hx hb dX12_shift_182 (by decide) ?_
          exact ih.2 x_12 (vp_updL c150_bw68 x_10.toNatClampNeg x_11) c150_bw69 _ _ (by omega) (by omega) (by omega) (by omega) (by omega) (by omega) (by omega) (by omega) (by omega) (by omega) (by omega) hP hD hS ls (lv_sub hl [1, 2, 3, 4, 5, 6, 0] rfl)
  refine lv_iload_n hx hb dX12_shift_0 rfl (lv_at hl 1 rfl) ?_
  refine cS_p (As := [.int p1]) (rest := []) ⟨hx, hb, hml, hown, hg⟩ (k_X12_isShelf l   p1 ) ca_X12_isShelf q5_223 ⟨rfl, rfl⟩ ⟨Nat.le_of_ble_eq_true rfl, Nat.le_of_ble_eq_true rfl⟩ rfl hl.1 rfl (Nat.le_of_ble_eq_true rfl) ⟨Nat.zero_le _, Nat.zero_le _⟩ dX12_shift_1 (fun r_13 wr_13 => ?_)
  have wr_13 : (r_13.toInt = 1 ∧ 0 ≤ p1.toInt ∧ p1.toInt < 6) ∨ (r_13.toInt = 0 ∧ ¬ (0 ≤ p1.toInt ∧ p1.toInt < 6)) := wr_13
  refine lv_if_eq (tgt := 14) hx hb dX12_shift_4 (by decide) (fun c_14 => ?_) (fun c_14 => ?_)
  ·
    have kc_14 : r_13.toInt = (0 : Int) := i_eq c_14
    refine lv_iconst (v := (-1)) hx hb dX12_shift_14 (by decide) ?_
    have q0_m1 : ((-1) : Int32).toInt = (-1) := rfl
    have hP : va_P D vwCl (RW cs bd u b (va_up (va_up bw 68 (bw 68)) 69 (bw 69))) _ := hP
    have hD : va_D A (RW cs bd u b (va_up (va_up bw 68 (bw 68)) 69 (bw 69))) := hD
    exact W.iret (v := (-1)) hx hb hr (fun tt ht hW => ⟨⟨(-1), ⟨(bw 68), (bw 69)⟩, rfl, trivial, by rw [ht]; exact hP, hD⟩, hS.F ht⟩) hS.2.2 dX12_shift_15
  ·
    have kc_14 : r_13.toInt ≠ (0 : Int) := i_ne c_14
    refine lv_iload_n hx hb dX12_shift_7 rfl (lv_at hl 3 rfl) ?_
    refine cS_p (As := [.int p3]) (rest := []) ⟨hx, hb, hml, hown, hg⟩ (k_X12_isShelf l   p3 ) ca_X12_isShelf q5_223 ⟨rfl, rfl⟩ ⟨Nat.le_of_ble_eq_true rfl, Nat.le_of_ble_eq_true rfl⟩ rfl hl.1 rfl (Nat.le_of_ble_eq_true rfl) ⟨Nat.zero_le _, Nat.zero_le _⟩ dX12_shift_8 (fun r_15 wr_15 => ?_)
    have wr_15 : (r_15.toInt = 1 ∧ 0 ≤ p3.toInt ∧ p3.toInt < 6) ∨ (r_15.toInt = 0 ∧ ¬ (0 ≤ p3.toInt ∧ p3.toInt < 6)) := wr_15
    refine lv_if_ne (tgt := 16) hx hb dX12_shift_11 (by decide) (fun c_16 => ?_) (fun c_16 => ?_)
    ·
      have kc_16 : r_15.toInt ≠ (0 : Int) := i_ne c_16
      refine lv_aload_n hx hb dX12_shift_16 rfl (lv_at hl 0 rfl) ?_
      refine gr_holds hx hb hg hown hK hP (hg _ q5_58) dX12_shift_17 ?_
      refine lv_iload_n hx hb dX12_shift_20 rfl (lv_at hl 1 rfl) ?_
      refine lr_holds hx hb hK hP (i_in (by omega) (by omega)) dX12_shift_21 ?_
      refine lv_topi (fun x_17 ex_17 => ?_)
      have ex_17 : x_17 = (b 66) p1.toNatClampNeg := ex_17
      have hx_17 : x_17.toInt = ((b 66) p1.toNatClampNeg).toInt := by rw [ex_17]
      have bx_17 := ib66_0 p1.toNatClampNeg
      rw [← ex_17] at bx_17
      refine lv_iconst (v := (-1)) hx hb dX12_shift_22 (by decide) ?_
      refine lv_icmp_eq (tgt := 36) hx hb dX12_shift_23 (by decide) (fun c_18 => ?_) (fun c_18 => ?_)
      ·
        have kc_18 : x_17.toInt = (-1 : Int) := i_eq c_18
        refine lv_bipush (v := (-11)) hx hb dX12_shift_36 (by decide) ?_
        have q0_m11 : ((-11) : Int32).toInt = (-11) := rfl
        have hP : va_P D vwCl (RW cs bd u b (va_up (va_up bw 68 (bw 68)) 69 (bw 69))) _ := hP
        have hD : va_D A (RW cs bd u b (va_up (va_up bw 68 (bw 68)) 69 (bw 69))) := hD
        exact W.iret (v := (-11)) hx hb hr (fun tt ht hW => ⟨⟨(-11), ⟨(bw 68), (bw 69)⟩, rfl, trivial, by rw [ht]; exact hP, hD⟩, hS.F ht⟩) hS.2.2 dX12_shift_38
      ·
        have kc_18 : x_17.toInt ≠ (-1 : Int) := i_ne c_18
        refine lv_aload_n hx hb dX12_shift_26 rfl (lv_at hl 0 rfl) ?_
        refine gr_holds hx hb hg hown hK hP (hg _ q5_58) dX12_shift_27 ?_
        refine lv_iload_n hx hb dX12_shift_30 rfl (lv_at hl 3 rfl) ?_
        refine lr_holds hx hb hK hP (i_in (by omega) (by omega)) dX12_shift_31 ?_
        refine lv_topi (fun x_19 ex_19 => ?_)
        have ex_19 : x_19 = (b 66) p3.toNatClampNeg := ex_19
        have hx_19 : x_19.toInt = ((b 66) p3.toNatClampNeg).toInt := by rw [ex_19]
        have bx_19 := ib66_0 p3.toNatClampNeg
        rw [← ex_19] at bx_19
        refine lv_iconst (v := (-1)) hx hb dX12_shift_32 (by decide) ?_
        refine lv_icmp_ne (tgt := 39) hx hb dX12_shift_33 (by decide) (fun c_20 => ?_) (fun c_20 => ?_)
        ·
          have kc_20 : x_19.toInt ≠ (-1 : Int) := i_ne c_20
          refine lv_aload_n hx hb dX12_shift_39 rfl (lv_at hl 0 rfl) ?_
          refine gr_holds hx hb hg hown hK hP (hg _ q5_58) dX12_shift_40 ?_
          refine lv_iload_n hx hb dX12_shift_43 rfl (lv_at hl 1 rfl) ?_
          refine lr_holds hx hb hK hP (i_in (by omega) (by omega)) dX12_shift_44 ?_
          refine lv_topi (fun x_21 ex_21 => ?_)
          have ex_21 : x_21 = (b 66) p1.toNatClampNeg := ex_21
          have hx_21 : x_21.toInt = ((b 66) p1.toNatClampNeg).toInt := by rw [ex_21]
          have bx_21 := ib66_0 p1.toNatClampNeg
          rw [← ex_21] at bx_21
          refine lv_if_ge (tgt := 63) hx hb dX12_shift_45 (by decide) (fun c_22 => ?_) (fun c_22 => ?_)
          ·
            have kc_22 : (0 : Int) ≤ x_21.toInt := i_le c_22
            refine lv_bipush (v := (-12)) hx hb dX12_shift_63 (by decide) ?_
            have q0_m12 : ((-12) : Int32).toInt = (-12) := rfl
            have hP : va_P D vwCl (RW cs bd u b (va_up (va_up bw 68 (bw 68)) 69 (bw 69))) _ := hP
            have hD : va_D A (RW cs bd u b (va_up (va_up bw 68 (bw 68)) 69 (bw 69))) := hD
            exact W.iret (v := (-12)) hx hb hr (fun tt ht hW => ⟨⟨(-12), ⟨(bw 68), (bw 69)⟩, rfl, trivial, by rw [ht]; exact hP, hD⟩, hS.F ht⟩) hS.2.2 dX12_shift_65
          ·
            have kc_22 : x_21.toInt < (0 : Int) := i_nle c_22
            refine lv_aload_n hx hb dX12_shift_48 rfl (lv_at hl 0 rfl) ?_
            refine gr_holds hx hb hg hown hK hP (hg _ q5_58) dX12_shift_49 ?_
            refine lv_iload_n hx hb dX12_shift_52 rfl (lv_at hl 1 rfl) ?_
            refine lr_holds hx hb hK hP (i_in (by omega) (by omega)) dX12_shift_53 ?_
            refine lv_topi (fun x_23 ex_23 => ?_)
            have ex_23 : x_23 = (b 66) p1.toNatClampNeg := ex_23
            have hx_23 : x_23.toInt = ((b 66) p1.toNatClampNeg).toInt := by rw [ex_23]
            have bx_23 := ib66_0 p1.toNatClampNeg
            rw [← ex_23] at bx_23
            refine lv_aload_n hx hb dX12_shift_54 rfl (lv_at hl 0 rfl) ?_
            refine gr_holds hx hb hg hown hK hP (hg _ q5_58) dX12_shift_55 ?_
            refine lv_iload_n hx hb dX12_shift_58 rfl (lv_at hl 3 rfl) ?_
            refine lr_holds hx hb hK hP (i_in (by omega) (by omega)) dX12_shift_59 ?_
            refine lv_topi (fun x_24 ex_24 => ?_)
            have ex_24 : x_24 = (b 66) p3.toNatClampNeg := ex_24
            have hx_24 : x_24.toInt = ((b 66) p3.toNatClampNeg).toInt := by rw [ex_24]
            have bx_24 := ib66_0 p3.toNatClampNeg
            rw [← ex_24] at bx_24
            refine lv_icmp_eq (tgt := 66) hx hb dX12_shift_60 (by decide) (fun c_25 => ?_) (fun c_25 => ?_)
            ·
              have kc_25 : x_23.toInt = x_24.toInt := i_eq c_25
              refine lv_iload hx hb dX12_shift_66 (lv_at hl 5 rfl) ?_
              refine lv_if_lt (tgt := 107) hx hb dX12_shift_68 (by decide) (fun c_26 => ?_) (fun c_26 => ?_)
              ·
                have kc_26 : p5.toInt < (0 : Int) := i_lt c_26
                refine lv_bipush (v := (-13)) hx hb dX12_shift_107 (by decide) ?_
                have q0_m13 : ((-13) : Int32).toInt = (-13) := rfl
                have hP : va_P D vwCl (RW cs bd u b (va_up (va_up bw 68 (bw 68)) 69 (bw 69))) _ := hP
                have hD : va_D A (RW cs bd u b (va_up (va_up bw 68 (bw 68)) 69 (bw 69))) := hD
                exact W.iret (v := (-13)) hx hb hr (fun tt ht hW => ⟨⟨(-13), ⟨(bw 68), (bw 69)⟩, rfl, trivial, by rw [ht]; exact hP, hD⟩, hS.F ht⟩) hS.2.2 dX12_shift_109
              ·
                have kc_26 : (0 : Int) ≤ p5.toInt := i_nlt c_26
                refine lv_iload_n hx hb dX12_shift_71 rfl (lv_at hl 2 rfl) ?_
                refine lv_if_lt (tgt := 107) hx hb dX12_shift_72 (by decide) (fun c_27 => ?_) (fun c_27 => ?_)
                ·
                  have kc_27 : p2.toInt < (0 : Int) := i_lt c_27
                  refine lv_bipush (v := (-13)) hx hb dX12_shift_107 (by decide) ?_
                  have q0_m13 : ((-13) : Int32).toInt = (-13) := rfl
                  have hP : va_P D vwCl (RW cs bd u b (va_up (va_up bw 68 (bw 68)) 69 (bw 69))) _ := hP
                  have hD : va_D A (RW cs bd u b (va_up (va_up bw 68 (bw 68)) 69 (bw 69))) := hD
                  exact W.iret (v := (-13)) hx hb hr (fun tt ht hW => ⟨⟨(-13), ⟨(bw 68), (bw 69)⟩, rfl, trivial, by rw [ht]; exact hP, hD⟩, hS.F ht⟩) hS.2.2 dX12_shift_109
                ·
                  have kc_27 : (0 : Int) ≤ p2.toInt := i_nlt c_27
                  refine lv_iload hx hb dX12_shift_75 (lv_at hl 4 rfl) ?_
                  refine lv_if_lt (tgt := 107) hx hb dX12_shift_77 (by decide) (fun c_28 => ?_) (fun c_28 => ?_)
                  ·
                    have kc_28 : p4.toInt < (0 : Int) := i_lt c_28
                    refine lv_bipush (v := (-13)) hx hb dX12_shift_107 (by decide) ?_
                    have q0_m13 : ((-13) : Int32).toInt = (-13) := rfl
                    have hP : va_P D vwCl (RW cs bd u b (va_up (va_up bw 68 (bw 68)) 69 (bw 69))) _ := hP
                    have hD : va_D A (RW cs bd u b (va_up (va_up bw 68 (bw 68)) 69 (bw 69))) := hD
                    exact W.iret (v := (-13)) hx hb hr (fun tt ht hW => ⟨⟨(-13), ⟨(bw 68), (bw 69)⟩, rfl, trivial, by rw [ht]; exact hP, hD⟩, hS.F ht⟩) hS.2.2 dX12_shift_109
                  ·
                    have kc_28 : (0 : Int) ≤ p4.toInt := i_nlt c_28
                    refine lv_iload_n hx hb dX12_shift_80 rfl (lv_at hl 2 rfl) ?_
                    refine lv_aload_n hx hb dX12_shift_81 rfl (lv_at hl 0 rfl) ?_
                    refine gr_size hx hb hg hown hK hP (hg _ q5_59) dX12_shift_82 ?_
                    refine lv_iload_n hx hb dX12_shift_85 rfl (lv_at hl 1 rfl) ?_
                    refine lr_size hx hb hK hP (i_in (by omega) (by omega)) dX12_shift_86 ?_
                    refine lv_topi (fun x_29 ex_29 => ?_)
                    have ex_29 : x_29 = (b 67) p1.toNatClampNeg := ex_29
                    have hx_29 : x_29.toInt = ((b 67) p1.toNatClampNeg).toInt := by rw [ex_29]
                    have bx_29 := ib67_0 p1.toNatClampNeg
                    rw [← ex_29] at bx_29
                    refine lv_iload hx hb dX12_shift_87 (lv_at hl 5 rfl) ?_
                    refine lv_isub hx hb dX12_shift_89 ?_
                    refine lv_topi (fun x_30 ex_30 => ?_)
                    have gb1_x_30 := i_bd p5
                    have fx_30 : x_30.toInt = x_29.toInt - p5.toInt := by rw [ex_30]; exact i_sub (by first | omega | (show (_ : Int) ≤ x_29.toInt - p5.toInt; omega)) (by first | omega | (show x_29.toInt - p5.toInt ≤ (_ : Int); omega))
                    refine lv_icmp_gt (tgt := 107) hx hb dX12_shift_90 (by decide) (fun c_31 => ?_) (fun c_31 => ?_)
                    ·
                      have kc_31 : x_30.toInt < p2.toInt := i_lt c_31
                      refine lv_bipush (v := (-13)) hx hb dX12_shift_107 (by decide) ?_
                      have q0_m13 : ((-13) : Int32).toInt = (-13) := rfl
                      have hP : va_P D vwCl (RW cs bd u b (va_up (va_up bw 68 (bw 68)) 69 (bw 69))) _ := hP
                      have hD : va_D A (RW cs bd u b (va_up (va_up bw 68 (bw 68)) 69 (bw 69))) := hD
                      exact W.iret (v := (-13)) hx hb hr (fun tt ht hW => ⟨⟨(-13), ⟨(bw 68), (bw 69)⟩, rfl, trivial, by rw [ht]; exact hP, hD⟩, hS.F ht⟩) hS.2.2 dX12_shift_109
                    ·
                      have kc_31 : p2.toInt ≤ x_30.toInt := i_nlt c_31
                      refine lv_iload hx hb dX12_shift_93 (lv_at hl 4 rfl) ?_
                      refine lv_aload_n hx hb dX12_shift_95 rfl (lv_at hl 0 rfl) ?_
                      refine gr_size hx hb hg hown hK hP (hg _ q5_59) dX12_shift_96 ?_
                      refine lv_iload_n hx hb dX12_shift_99 rfl (lv_at hl 3 rfl) ?_
                      refine lr_size hx hb hK hP (i_in (by omega) (by omega)) dX12_shift_100 ?_
                      refine lv_topi (fun x_32 ex_32 => ?_)
                      have ex_32 : x_32 = (b 67) p3.toNatClampNeg := ex_32
                      have hx_32 : x_32.toInt = ((b 67) p3.toNatClampNeg).toInt := by rw [ex_32]
                      have bx_32 := ib67_0 p3.toNatClampNeg
                      rw [← ex_32] at bx_32
                      refine lv_iload hx hb dX12_shift_101 (lv_at hl 5 rfl) ?_
                      refine lv_isub hx hb dX12_shift_103 ?_
                      refine lv_topi (fun x_33 ex_33 => ?_)
                      have gb1_x_33 := i_bd p5
                      have fx_33 : x_33.toInt = x_32.toInt - p5.toInt := by rw [ex_33]; exact i_sub (by first | omega | (show (_ : Int) ≤ x_32.toInt - p5.toInt; omega)) (by first | omega | (show x_32.toInt - p5.toInt ≤ (_ : Int); omega))
                      refine lv_icmp_le (tgt := 110) hx hb dX12_shift_104 (by decide) (fun c_34 => ?_) (fun c_34 => ?_)
                      ·
                        have kc_34 : p4.toInt ≤ x_33.toInt := i_le c_34
                        refine lv_iconst (v := 0) hx hb dX12_shift_110 (by decide) ?_
                        refine lv_istore (lv' := [(6, .int 0), (0, .ref (bd 0)), (1, .int p1), (2, .int p2), (3, .int p3), (4, .int p4), (5, .int p5)]) hx hb dX12_shift_111 hl (by decide) rfl (fun ls hl => ?_)
                        have q0_0 : (0 : Int32).toInt = 0 := rfl
                        exact (hcut ((100 + (p5.toInt - (0 : Int32).toInt).toNat) + 1)).1 0 (bw 69) _ _ (by omega) (by omega) (by omega) (by omega) (by omega) (by omega) (by omega) (by omega) (by omega) (by omega) (Nat.lt_succ_self _) hP hD hS ls (lv_sub hl [1, 2, 3, 4, 5, 6, 0] rfl)
                      ·
                        have kc_34 : x_33.toInt < p4.toInt := i_nle c_34
                        refine lv_bipush (v := (-13)) hx hb dX12_shift_107 (by decide) ?_
                        have q0_m13 : ((-13) : Int32).toInt = (-13) := rfl
                        have hP : va_P D vwCl (RW cs bd u b (va_up (va_up bw 68 (bw 68)) 69 (bw 69))) _ := hP
                        have hD : va_D A (RW cs bd u b (va_up (va_up bw 68 (bw 68)) 69 (bw 69))) := hD
                        exact W.iret (v := (-13)) hx hb hr (fun tt ht hW => ⟨⟨(-13), ⟨(bw 68), (bw 69)⟩, rfl, trivial, by rw [ht]; exact hP, hD⟩, hS.F ht⟩) hS.2.2 dX12_shift_109
            ·
              have kc_25 : x_23.toInt ≠ x_24.toInt := i_ne c_25
              refine lv_bipush (v := (-12)) hx hb dX12_shift_63 (by decide) ?_
              have q0_m12 : ((-12) : Int32).toInt = (-12) := rfl
              have hP : va_P D vwCl (RW cs bd u b (va_up (va_up bw 68 (bw 68)) 69 (bw 69))) _ := hP
              have hD : va_D A (RW cs bd u b (va_up (va_up bw 68 (bw 68)) 69 (bw 69))) := hD
              exact W.iret (v := (-12)) hx hb hr (fun tt ht hW => ⟨⟨(-12), ⟨(bw 68), (bw 69)⟩, rfl, trivial, by rw [ht]; exact hP, hD⟩, hS.F ht⟩) hS.2.2 dX12_shift_65
        ·
          have kc_20 : x_19.toInt = (-1 : Int) := i_eq c_20
          refine lv_bipush (v := (-11)) hx hb dX12_shift_36 (by decide) ?_
          have q0_m11 : ((-11) : Int32).toInt = (-11) := rfl
          have hP : va_P D vwCl (RW cs bd u b (va_up (va_up bw 68 (bw 68)) 69 (bw 69))) _ := hP
          have hD : va_D A (RW cs bd u b (va_up (va_up bw 68 (bw 68)) 69 (bw 69))) := hD
          exact W.iret (v := (-11)) hx hb hr (fun tt ht hW => ⟨⟨(-11), ⟨(bw 68), (bw 69)⟩, rfl, trivial, by rw [ht]; exact hP, hD⟩, hS.F ht⟩) hS.2.2 dX12_shift_38
    ·
      have kc_16 : r_15.toInt = (0 : Int) := i_eq c_16
      refine lv_iconst (v := (-1)) hx hb dX12_shift_14 (by decide) ?_
      have q0_m1 : ((-1) : Int32).toInt = (-1) := rfl
      have hP : va_P D vwCl (RW cs bd u b (va_up (va_up bw 68 (bw 68)) 69 (bw 69))) _ := hP
      have hD : va_D A (RW cs bd u b (va_up (va_up bw 68 (bw 68)) 69 (bw 69))) := hD
      exact W.iret (v := (-1)) hx hb hr (fun tt ht hW => ⟨⟨(-1), ⟨(bw 68), (bw 69)⟩, rfl, trivial, by rw [ht]; exact hP, hD⟩, hS.F ht⟩) hS.2.2 dX12_shift_15
set_option maxHeartbeats 4000000 in
set_option maxRecDepth 100000 in
theorem k_X12_taken (l : Launch) (D : va_G) (cs : Nat → ClassId) (A : Nat → Prop) (bd : Nat → Nat) (u : Nat → Int32) (b : Nat → Nat → Int32) (bw : Nat → Nat → Int64)  (p1 : Int32) (p2 : Int32) (ib66_0 : AB (-6) 49 (b 66)) (ib63_0 : AB 0 7 (b 63)) : Met l yX12_taken (Cond.code yX12_taken cX12_taken 3 (some .int) :: gw) ({ frames := 2, cells := 0, slots := 0, locals := 42 }) (va_Pc [.ref (bd 0), .int p1, .int p2] (XPre D (TY cs) (RW cs bd u b bw) A)) (vp_Si (fun (r : Int32) => True)) 0 0 (fun _ => False) := by
  refine Met.ofW (cc := cX12_taken) (maxL := 3) (ret := (some .int)) (by decide) rfl ?_
  intro p e s m args below meth c s₁ B hml hv
  obtain ⟨rfl, hP, hK, hD, hZ⟩ := hv
  have hx := B.exec
  have hb := B.bytes
  have hr := B.returns
  have hts := atoms_spec (ws := (Cond.code yX12_taken cX12_taken 3 (some .int) :: gw)) B.pre
  have hg : ∀ w ∈ gw, w.before ([.ref (bd 0), .int p1, .int p2] : List Value).toArray s = true := fun w h => hts w (List.mem_cons_of_mem _ h)
  have hown : s.vm.findClass RX12 = some m.cls := findClass_of_methodNamed B.named
  have hlocks := B.notSynchronized
  have hS : va_S A s.heap s.heap [] := va_S.rf
  have hl := lv_entry ([.ref (bd 0), .int p1, .int p2]) (n := 3) (Nat.le_of_ble_eq_true rfl)
  rw [lg_entry_eq]
  generalize (lg_sl ([.ref (bd 0), .int p1, .int p2]) ++ List.replicate (3 - (lg_sl ([.ref (bd 0), .int p1, .int p2])).length) Slot.unset).toArray = ls at hl ⊢
  have hl : lv_has ls 3 [(0, .ref (bd 0)), (1, .int p1), (2, .int p2)] := hl
  refine lv_iload_n hx hb dX12_taken_0 rfl (lv_at hl 1 rfl) ?_
  refine cS_p (As := [.int p1]) (rest := []) ⟨hx, hb, hml, hown, hg⟩ (k_X12_isShelf l   p1 ) ca_X12_isShelf q5_223 ⟨rfl, rfl⟩ ⟨Nat.le_of_ble_eq_true rfl, Nat.le_of_ble_eq_true rfl⟩ rfl hl.1 rfl (Nat.le_of_ble_eq_true rfl) ⟨Nat.zero_le _, Nat.zero_le _⟩ dX12_taken_1 (fun r_1 wr_1 => ?_)
  have wr_1 : (r_1.toInt = 1 ∧ 0 ≤ p1.toInt ∧ p1.toInt < 6) ∨ (r_1.toInt = 0 ∧ ¬ (0 ≤ p1.toInt ∧ p1.toInt < 6)) := wr_1
  refine lv_if_eq (tgt := 17) hx hb dX12_taken_4 (by decide) (fun c_2 => ?_) (fun c_2 => ?_)
  ·
    have kc_2 : r_1.toInt = (0 : Int) := i_eq c_2
    refine lv_iconst (v := (-1)) hx hb dX12_taken_17 (by decide) ?_
    have q0_m1 : ((-1) : Int32).toInt = (-1) := rfl
    exact W.iret (v := (-1)) hx hb hr (fun tt ht hW => ⟨(-1), rfl, trivial, ht⟩) (fun _ h => by cases h) dX12_taken_18
  ·
    have kc_2 : r_1.toInt ≠ (0 : Int) := i_ne c_2
    refine lv_iload_n hx hb dX12_taken_7 rfl (lv_at hl 2 rfl) ?_
    refine lv_iconst (v := 0) hx hb dX12_taken_8 (by decide) ?_
    refine lv_bipush (v := 7) hx hb dX12_taken_9 (by decide) ?_
    refine cS_p (As := [.int p2, .int 0, .int 7]) (rest := []) ⟨hx, hb, hml, hown, hg⟩ (k_X12_in l   p2 0 7 ) ca_X12_in q5_212 ⟨rfl, rfl⟩ ⟨Nat.le_of_ble_eq_true rfl, Nat.le_of_ble_eq_true rfl⟩ rfl hl.1 rfl (Nat.le_of_ble_eq_true rfl) ⟨Nat.zero_le _, Nat.zero_le _⟩ dX12_taken_11 (fun r_3 wr_3 => ?_)
    have wr_3 : (r_3.toInt = 1 ∧ (0 : Int) ≤ p2.toInt ∧ p2.toInt ≤ (7 : Int)) ∨ (r_3.toInt = 0 ∧ ¬ ((0 : Int) ≤ p2.toInt ∧ p2.toInt ≤ (7 : Int))) := wr_3
    refine lv_if_ne (tgt := 19) hx hb dX12_taken_14 (by decide) (fun c_4 => ?_) (fun c_4 => ?_)
    ·
      have kc_4 : r_3.toInt ≠ (0 : Int) := i_ne c_4
      refine lv_aload_n hx hb dX12_taken_19 rfl (lv_at hl 0 rfl) ?_
      refine gr_holds hx hb hg hown hK hP (hg _ q5_58) dX12_taken_20 ?_
      refine lv_iload_n hx hb dX12_taken_23 rfl (lv_at hl 1 rfl) ?_
      refine lr_holds hx hb hK hP (i_in (by omega) (by omega)) dX12_taken_24 ?_
      refine lv_topi (fun x_5 ex_5 => ?_)
      have ex_5 : x_5 = (b 66) p1.toNatClampNeg := ex_5
      have hx_5 : x_5.toInt = ((b 66) p1.toNatClampNeg).toInt := by rw [ex_5]
      have bx_5 := ib66_0 p1.toNatClampNeg
      rw [← ex_5] at bx_5
      refine lv_iconst (v := (-1)) hx hb dX12_taken_25 (by decide) ?_
      refine lv_icmp_ne (tgt := 32) hx hb dX12_taken_26 (by decide) (fun c_6 => ?_) (fun c_6 => ?_)
      ·
        have kc_6 : x_5.toInt ≠ (-1 : Int) := i_ne c_6
        refine lv_aload_n hx hb dX12_taken_32 rfl (lv_at hl 0 rfl) ?_
        refine gr_holds hx hb hg hown hK hP (hg _ q5_58) dX12_taken_33 ?_
        refine lv_iload_n hx hb dX12_taken_36 rfl (lv_at hl 1 rfl) ?_
        refine lr_holds hx hb hK hP (i_in (by omega) (by omega)) dX12_taken_37 ?_
        refine lv_topi (fun x_7 ex_7 => ?_)
        have ex_7 : x_7 = (b 66) p1.toNatClampNeg := ex_7
        have hx_7 : x_7.toInt = ((b 66) p1.toNatClampNeg).toInt := by rw [ex_7]
        have bx_7 := ib66_0 p1.toNatClampNeg
        rw [← ex_7] at bx_7
        refine lv_if_lt (tgt := 73) hx hb dX12_taken_38 (by decide) (fun c_8 => ?_) (fun c_8 => ?_)
        ·
          have kc_8 : x_7.toInt < (0 : Int) := i_lt c_8
          refine lv_bipush (v := (-12)) hx hb dX12_taken_73 (by decide) ?_
          have q0_m12 : ((-12) : Int32).toInt = (-12) := rfl
          exact W.iret (v := (-12)) hx hb hr (fun tt ht hW => ⟨(-12), rfl, trivial, ht⟩) (fun _ h => by cases h) dX12_taken_75
        ·
          have kc_8 : (0 : Int) ≤ x_7.toInt := i_nlt c_8
          refine lv_aload_n hx hb dX12_taken_41 rfl (lv_at hl 0 rfl) ?_
          refine gr_kind hx hb hg hown hK hP (hg _ q5_55) dX12_taken_42 ?_
          refine lv_aload_n hx hb dX12_taken_45 rfl (lv_at hl 0 rfl) ?_
          refine gr_holds hx hb hg hown hK hP (hg _ q5_58) dX12_taken_46 ?_
          refine lv_iload_n hx hb dX12_taken_49 rfl (lv_at hl 1 rfl) ?_
          refine lr_holds hx hb hK hP (i_in (by omega) (by omega)) dX12_taken_50 ?_
          refine lv_topi (fun x_9 ex_9 => ?_)
          have ex_9 : x_9 = (b 66) p1.toNatClampNeg := ex_9
          have hx_9 : x_9.toInt = ((b 66) p1.toNatClampNeg).toInt := by rw [ex_9]
          have bx_9 := ib66_0 p1.toNatClampNeg
          rw [← ex_9] at bx_9
          refine lr_kind hx hb hK hP (i_in (by omega) (by omega)) dX12_taken_51 ?_
          refine lv_topi (fun x_10 ex_10 => ?_)
          have ex_10 : x_10 = (b 63) x_9.toNatClampNeg := ex_10
          have hx_10 : x_10.toInt = ((b 63) x_9.toNatClampNeg).toInt := by rw [ex_10]
          have bx_10 := ib63_0 x_9.toNatClampNeg
          rw [← ex_10] at bx_10
          refine lv_iload_n hx hb dX12_taken_52 rfl (lv_at hl 2 rfl) ?_
          refine cS_p (As := [.int x_10, .int p2]) (rest := []) ⟨hx, hb, hml, hown, hg⟩ (k_X12_isUnder l   x_10 p2 ) ca_X12_isUnder q7_52 ⟨rfl, rfl⟩ ⟨Nat.le_of_ble_eq_true rfl, Nat.le_of_ble_eq_true rfl⟩ rfl hl.1 rfl (Nat.le_of_ble_eq_true rfl) ⟨Nat.zero_le _, Nat.zero_le _⟩ dX12_taken_53 (fun r_11 wr_11 => ?_)
          have wr_11 : 0 ≤ r_11.toInt ∧ r_11.toInt ≤ 1 := wr_11
          refine lv_if_eq (tgt := 73) hx hb dX12_taken_56 (by decide) (fun c_12 => ?_) (fun c_12 => ?_)
          ·
            have kc_12 : r_11.toInt = (0 : Int) := i_eq c_12
            refine lv_bipush (v := (-12)) hx hb dX12_taken_73 (by decide) ?_
            have q0_m12 : ((-12) : Int32).toInt = (-12) := rfl
            exact W.iret (v := (-12)) hx hb hr (fun tt ht hW => ⟨(-12), rfl, trivial, ht⟩) (fun _ h => by cases h) dX12_taken_75
          ·
            have kc_12 : r_11.toInt ≠ (0 : Int) := i_ne c_12
            refine lv_aload_n hx hb dX12_taken_59 rfl (lv_at hl 0 rfl) ?_
            refine gr_kind hx hb hg hown hK hP (hg _ q5_55) dX12_taken_60 ?_
            refine lv_aload_n hx hb dX12_taken_63 rfl (lv_at hl 0 rfl) ?_
            refine gr_holds hx hb hg hown hK hP (hg _ q5_58) dX12_taken_64 ?_
            refine lv_iload_n hx hb dX12_taken_67 rfl (lv_at hl 1 rfl) ?_
            refine lr_holds hx hb hK hP (i_in (by omega) (by omega)) dX12_taken_68 ?_
            refine lv_topi (fun x_13 ex_13 => ?_)
            have ex_13 : x_13 = (b 66) p1.toNatClampNeg := ex_13
            have hx_13 : x_13.toInt = ((b 66) p1.toNatClampNeg).toInt := by rw [ex_13]
            have bx_13 := ib66_0 p1.toNatClampNeg
            rw [← ex_13] at bx_13
            refine lr_kind hx hb hK hP (i_in (by omega) (by omega)) dX12_taken_69 ?_
            refine lv_topi (fun x_14 ex_14 => ?_)
            have ex_14 : x_14 = (b 63) x_13.toNatClampNeg := ex_14
            have hx_14 : x_14.toInt = ((b 63) x_13.toNatClampNeg).toInt := by rw [ex_14]
            have bx_14 := ib63_0 x_13.toNatClampNeg
            rw [← ex_14] at bx_14
            refine lv_goto (tgt := 75) hx hb dX12_taken_70 (by decide) ?_
            exact W.iret (v := x_14) hx hb hr (fun tt ht hW => ⟨x_14, rfl, trivial, ht⟩) (fun _ h => by cases h) dX12_taken_75
      ·
        have kc_6 : x_5.toInt = (-1 : Int) := i_eq c_6
        refine lv_bipush (v := (-11)) hx hb dX12_taken_29 (by decide) ?_
        have q0_m11 : ((-11) : Int32).toInt = (-11) := rfl
        exact W.iret (v := (-11)) hx hb hr (fun tt ht hW => ⟨(-11), rfl, trivial, ht⟩) (fun _ h => by cases h) dX12_taken_31
    ·
      have kc_4 : r_3.toInt = (0 : Int) := i_eq c_4
      refine lv_iconst (v := (-1)) hx hb dX12_taken_17 (by decide) ?_
      have q0_m1 : ((-1) : Int32).toInt = (-1) := rfl
      exact W.iret (v := (-1)) hx hb hr (fun tt ht hW => ⟨(-1), rfl, trivial, ht⟩) (fun _ h => by cases h) dX12_taken_18
