set_option maxHeartbeats 4000000 in
set_option maxRecDepth 100000 in
theorem k_X12_image (l : Launch) (D : va_G) (cs : Nat → ClassId) (A : Nat → Prop) (bd : Nat → Nat) (u : Nat → Int32) (b : Nat → Nat → Int32) (bw : Nat → Nat → Int64)   (iu1_0 : 0 ≤ (u 1).toInt) (iu1_1 : (u 1).toInt ≤ 8) (iu7_0 : -1 ≤ (u 7).toInt) (iu7_1 : (u 7).toInt < (u 1).toInt) (iu55_0 : 0 ≤ (u 55).toInt) (iu55_1 : (u 55).toInt ≤ 8) (iu55_2 : (u 55).toInt ≤ (u 1).toInt) (iu58_0 : (u 54).toInt = 0 ∨ (-1 ≤ (u 58).toInt ∧ (u 58).toInt < (u 1).toInt)) : Met l yX12_image (Cond.code yX12_image cX12_image 2 (some .int) :: gw) ({ frames := 0, cells := 0, slots := 0, locals := 0 }) (va_Pc [.ref (bd 0)] (XPre D (TY cs) (RW cs bd u b bw) A)) (va_Qi (fun (r : Int32) (z : (Nat → Int32) × Int32 × Int32 × Int32 × Int32 × Int32 × (Nat → Int32) × (Nat → Int32)) => (r = ((b 53) 0)) ∧ (z.1 0 = ((b 53) 0)) ∧ (z.2.2.1.toInt = (u 1).toInt) ∧ (z.2.1.toInt = 1) ∧ (0 ≤ z.2.2.1.toInt) ∧ (z.2.2.1.toInt ≤ 8) ∧ (z.2.2.1.toInt ≤ (u 1).toInt) ∧ (z.2.1.toInt = 0 ∨ (-1 ≤ z.2.2.2.2.2.1.toInt ∧ z.2.2.2.2.2.1.toInt < (u 1).toInt))) (XPo D (fun (z : (Nat → Int32) × Int32 × Int32 × Int32 × Int32 × Int32 × (Nat → Int32) × (Nat → Int32)) => RW cs bd (va_up (va_up (va_up (va_up (va_up u 54 z.2.1) 55 z.2.2.1) 56 z.2.2.2.1) 57 z.2.2.2.2.1) 58 z.2.2.2.2.2.1) (va_up (va_up (va_up b 61 z.1) 59 z.2.2.2.2.2.2.1) 60 z.2.2.2.2.2.2.2) bw) A) A) 0 0 A := by
  refine Met.ofW (cc := cX12_image) (maxL := 2) (ret := (some .int)) (by decide) rfl ?_
  intro p e s m args below meth c s₁ B hml hv
  obtain ⟨rfl, hP, hK, hD, hZ⟩ := hv
  have hx := B.exec
  have hb := B.bytes
  have hr := B.returns
  have hts := atoms_spec (ws := (Cond.code yX12_image cX12_image 2 (some .int) :: gw)) B.pre
  have hg : ∀ w ∈ gw, w.before ([.ref (bd 0)] : List Value).toArray s = true := fun w h => hts w (List.mem_cons_of_mem _ h)
  have hown : s.vm.findClass RX12 = some m.cls := findClass_of_methodNamed B.named
  have hlocks := B.notSynchronized
  have hS : va_S A s.heap s.heap [] := va_S.rf
  have hP : va_P D vwCl (RW cs bd u b bw) s.heap := hP
  have hl := lv_entry ([.ref (bd 0)]) (n := 2) (Nat.le_of_ble_eq_true rfl)
  rw [lg_entry_eq]
  generalize (lg_sl ([.ref (bd 0)]) ++ List.replicate (2 - (lg_sl ([.ref (bd 0)])).length) Slot.unset).toArray = ls at hl ⊢
  have hl : lv_has ls 2 [(0, .ref (bd 0))] := hl
  have hcut : ∀ nk : Nat, (∀ (x1 : Int32) (c43_b59 : Nat → Int32) (c43_b60 : Nat → Int32) (c43_u54 : Int32) (c43_u55 : Int32) (c43_u56 : Int32) (c43_u57 : Int32) (c43_u58 : Int32) (H : Heap) (locs : List Loc) (i1 : 0 ≤ x1.toInt) (h54 : c43_u54.toInt = 1) (h55 : c43_u55.toInt = (u 1).toInt) (ju55_0 : 0 ≤ c43_u55.toInt) (ju55_1 : c43_u55.toInt ≤ 8) (ju55_2 : c43_u55.toInt ≤ (u 1).toInt) (ju58_0 : c43_u54.toInt = 0 ∨ (-1 ≤ c43_u58.toInt ∧ c43_u58.toInt < (u 1).toInt)) (hmu : 100 + ((u 1).toInt - x1.toInt).toNat < nk) (hP : va_P D vwCl (RW cs bd (va_up (va_up (va_up (va_up (va_up u 54 c43_u54) 55 c43_u55) 56 c43_u56) 57 c43_u57) 58 c43_u58) (va_up (va_up b 59 c43_b59) 60 c43_b60) bw) H) (hD : va_D A (RW cs bd (va_up (va_up (va_up (va_up (va_up u 54 c43_u54) 55 c43_u55) 56 c43_u56) 57 c43_u57) 58 c43_u58) (va_up (va_up b 59 c43_b59) 60 c43_b60) bw)) (hS : va_S A s.heap H locs) (ls : Array Slot) (hl : lv_has ls 2 [(0, .ref (bd 0)), (1, .int x1)]), W p l e (headSpec (Cond.code yX12_image cX12_image 2 (some .int) :: gw) ({ frames := 0, cells := 0, slots := 0, locals := 0 })).room s m ([.ref (bd 0)] : List Value).toArray below meth c H locs 0 0 (MQ below (va_Qi (fun (r : Int32) (z : (Nat → Int32) × Int32 × Int32 × Int32 × Int32 × Int32 × (Nat → Int32) × (Nat → Int32)) => (r = ((b 53) 0)) ∧ (z.1 0 = ((b 53) 0)) ∧ (z.2.2.1.toInt = (u 1).toInt) ∧ (z.2.1.toInt = 1) ∧ (0 ≤ z.2.2.1.toInt) ∧ (z.2.2.1.toInt ≤ 8) ∧ (z.2.2.1.toInt ≤ (u 1).toInt) ∧ (z.2.1.toInt = 0 ∨ (-1 ≤ z.2.2.2.2.2.1.toInt ∧ z.2.2.2.2.2.1.toInt < (u 1).toInt))) (XPo D (fun (z : (Nat → Int32) × Int32 × Int32 × Int32 × Int32 × Int32 × (Nat → Int32) × (Nat → Int32)) => RW cs bd (va_up (va_up (va_up (va_up (va_up u 54 z.2.1) 55 z.2.2.1) 56 z.2.2.2.1) 57 z.2.2.2.2.1) 58 z.2.2.2.2.2.1) (va_up (va_up (va_up b 61 z.1) 59 z.2.2.2.2.2.2.1) 60 z.2.2.2.2.2.2.2) bw) A) A) ([.ref (bd 0)] : List Value).toArray s 0 0 A) (F0 m 43 ls [])) ∧ (∀ (x1 : Int32) (c83_b61 : Nat → Int32) (c83_u54 : Int32) (c83_u55 : Int32) (c83_u56 : Int32) (c83_u57 : Int32) (c83_u58 : Int32) (c83_b59 : Nat → Int32) (c83_b60 : Nat → Int32) (H : Heap) (locs : List Loc) (i1 : 0 ≤ x1.toInt) (h54 : c83_u54.toInt = 1) (h55 : c83_u55.toInt = (u 1).toInt) (hk : 0 < x1.toInt → c83_b61 0 = ((b 53) 0)) (ju55_0 : 0 ≤ c83_u55.toInt) (ju55_1 : c83_u55.toInt ≤ 8) (ju55_2 : c83_u55.toInt ≤ (u 1).toInt) (ju58_0 : c83_u54.toInt = 0 ∨ (-1 ≤ c83_u58.toInt ∧ c83_u58.toInt < (u 1).toInt)) (hmu : (5 - x1.toInt).toNat < nk) (hP : va_P D vwCl (RW cs bd (va_up (va_up (va_up (va_up (va_up u 54 c83_u54) 55 c83_u55) 56 c83_u56) 57 c83_u57) 58 c83_u58) (va_up (va_up (va_up b 61 c83_b61) 59 c83_b59) 60 c83_b60) bw) H) (hD : va_D A (RW cs bd (va_up (va_up (va_up (va_up (va_up u 54 c83_u54) 55 c83_u55) 56 c83_u56) 57 c83_u57) 58 c83_u58) (va_up (va_up (va_up b 61 c83_b61) 59 c83_b59) 60 c83_b60) bw)) (hS : va_S A s.heap H locs) (ls : Array Slot) (hl : lv_has ls 2 [(0, .ref (bd 0)), (1, .int x1)]), W p l e (headSpec (Cond.code yX12_image cX12_image 2 (some .int) :: gw) ({ frames := 0, cells := 0, slots := 0, locals := 0 })).room s m ([.ref (bd 0)] : List Value).toArray below meth c H locs 0 0 (MQ below (va_Qi (fun (r : Int32) (z : (Nat → Int32) × Int32 × Int32 × Int32 × Int32 × Int32 × (Nat → Int32) × (Nat → Int32)) => (r = ((b 53) 0)) ∧ (z.1 0 = ((b 53) 0)) ∧ (z.2.2.1.toInt = (u 1).toInt) ∧ (z.2.1.toInt = 1) ∧ (0 ≤ z.2.2.1.toInt) ∧ (z.2.2.1.toInt ≤ 8) ∧ (z.2.2.1.toInt ≤ (u 1).toInt) ∧ (z.2.1.toInt = 0 ∨ (-1 ≤ z.2.2.2.2.2.1.toInt ∧ z.2.2.2.2.2.1.toInt < (u 1).toInt))) (XPo D (fun (z : (Nat → Int32) × Int32 × Int32 × Int32 × Int32 × Int32 × (Nat → Int32) × (Nat → Int32)) => RW cs bd (va_up (va_up (va_up (va_up (va_up u 54 z.2.1) 55 z.2.2.1) 56 z.2.2.2.1) 57 z.2.2.2.2.1) 58 z.2.2.2.2.2.1) (va_up (va_up (va_up b 61 z.1) 59 z.2.2.2.2.2.2.1) 60 z.2.2.2.2.2.2.2) bw) A) A) ([.ref (bd 0)] : List Value).toArray s 0 0 A) (F0 m 83 ls [])) := by
    intro nk
    induction nk with
    | zero => exact ⟨(fun x1 c43_b59 c43_b60 c43_u54 c43_u55 c43_u56 c43_u57 c43_u58 H locs i1 h54 h55 ju55_0 ju55_1 ju55_2 ju58_0 hmu hP hD hS ls hl => absurd hmu (Nat.not_lt_zero _)), (fun x1 c83_b61 c83_u54 c83_u55 c83_u56 c83_u57 c83_u58 c83_b59 c83_b60 H locs i1 h54 h55 hk ju55_0 ju55_1 ju55_2 ju58_0 hmu hP hD hS ls hl => absurd hmu (Nat.not_lt_zero _))⟩
    | succ nk ih =>
      refine ⟨?_, ?_⟩
      ·
        intro x1 c43_b59 c43_b60 c43_u54 c43_u55 c43_u56 c43_u57 c43_u58 H locs i1 h54 h55 ju55_0 ju55_1 ju55_2 ju58_0 hmu hP hD hS ls hl
        refine lv_iload_n hx hb dX12_image_43 rfl (lv_at hl 1 rfl) ?_
        refine lv_aload_n hx hb dX12_image_44 rfl (lv_at hl 0 rfl) ?_
        refine gr_people1 hx hb hg hown hK hP (x := (u 1)) rfl (hg _ q4_233) dX12_image_45 ?_
        refine lv_icmp_ge (tgt := 81) hx hb dX12_image_48 (by decide) (fun c_1 => ?_) (fun c_1 => ?_)
        ·
          have kc_1 : (u 1).toInt ≤ x1.toInt := i_le c_1
          refine lv_iconst (v := 0) hx hb dX12_image_81 (by decide) ?_
          refine lv_istore_n (lv' := [(1, .int 0), (0, .ref (bd 0))]) hx hb dX12_image_82 rfl hl (by decide) rfl (fun ls hl => ?_)
          have q0_0 : (0 : Int32).toInt = 0 := rfl
          exact ih.2 0 (b 61) c43_u54 c43_u55 c43_u56 c43_u57 c43_u58 c43_b59 c43_b60 _ _ (by omega) (by omega) (by omega) (fun q => absurd q (by omega)) (show 0 ≤ c43_u55.toInt by first | omega | assumption) (show c43_u55.toInt ≤ 8 by first | omega | assumption) (show c43_u55.toInt ≤ (u 1).toInt by first | omega | assumption) (show c43_u54.toInt = 0 ∨ (-1 ≤ c43_u58.toInt ∧ c43_u58.toInt < (u 1).toInt) by first | omega | assumption) (by omega) hP hD hS ls (lv_sub hl [1, 0] rfl)
        ·
          have kc_1 : x1.toInt < (u 1).toInt := i_nle c_1
          refine lv_aload_n hx hb dX12_image_51 rfl (lv_at hl 0 rfl) ?_
          refine gr_keptCell hx hb hg hown hK hP (hg _ q5_51) dX12_image_52 ?_
          refine lv_iload_n hx hb dX12_image_55 rfl (lv_at hl 1 rfl) ?_
          refine lv_aload_n hx hb dX12_image_56 rfl (lv_at hl 0 rfl) ?_
          refine gr_cellOf hx hb hg hown hK hP (hg _ q4_234) dX12_image_57 ?_
          refine lv_iload_n hx hb dX12_image_60 rfl (lv_at hl 1 rfl) ?_
          refine lr_cellOf hx hb hK hP (i_in (by omega) (by omega)) dX12_image_61 ?_
          refine lv_topi (fun x_2 ex_2 => ?_)
          have ex_2 : x_2 = (b 2) x1.toNatClampNeg := ex_2
          have hx_2 : x_2.toInt = ((b 2) x1.toNatClampNeg).toInt := by rw [ex_2]
          refine sr_keptCell hx hb hK hP hD hS (i_in (by omega) (by omega)) dX12_image_62 (fun H locs hP hD hS => ?_)
          refine lv_aload_n hx hb dX12_image_63 rfl (lv_at hl 0 rfl) ?_
          refine gr_keptPads hx hb hg hown hK hP (hg _ q5_52) dX12_image_64 ?_
          refine lv_iload_n hx hb dX12_image_67 rfl (lv_at hl 1 rfl) ?_
          refine lv_aload_n hx hb dX12_image_68 rfl (lv_at hl 0 rfl) ?_
          refine gr_pads hx hb hg hown hK hP (hg _ q4_236) dX12_image_69 ?_
          refine lv_iload_n hx hb dX12_image_72 rfl (lv_at hl 1 rfl) ?_
          refine lr_pads hx hb hK hP (i_in (by omega) (by omega)) dX12_image_73 ?_
          refine lv_topi (fun x_3 ex_3 => ?_)
          have ex_3 : x_3 = (b 4) x1.toNatClampNeg := ex_3
          have hx_3 : x_3.toInt = ((b 4) x1.toNatClampNeg).toInt := by rw [ex_3]
          refine sr_keptPads hx hb hK hP hD hS (i_in (by omega) (by omega)) dX12_image_74 (fun H locs hP hD hS => ?_)
          obtain ⟨x_4, ex_4⟩ : ∃ y : Int32, y = x1 + 1 := ⟨_, rfl⟩
          have fx_4 : x_4.toInt = x1.toInt + 1 := by rw [ex_4]; exact i_add (by first | omega | (show (_ : Int) ≤ x1.toInt + 1; omega)) (by first | omega | (show x1.toInt + 1 ≤ (_ : Int); omega))
          refine lv_iinc (v := x_4) (lv' := [(1, .int x_4), (0, .ref (bd 0))]) hx hb dX12_image_75 hl (k := 1) rfl (by rw [ex_4]; rfl) (by decide) rfl (fun ls hl => ?_)
          refine lv_goto (tgt := 43) hx hb dX12_image_78 (by decide) ?_
          exact ih.1 x_4 (upd c43_b59 x1.toNatClampNeg x_2) (upd c43_b60 x1.toNatClampNeg x_3) c43_u54 c43_u55 c43_u56 c43_u57 c43_u58 _ _ (by omega) (by omega) (by omega) (show 0 ≤ c43_u55.toInt by first | omega | assumption) (show c43_u55.toInt ≤ 8 by first | omega | assumption) (show c43_u55.toInt ≤ (u 1).toInt by first | omega | assumption) (show c43_u54.toInt = 0 ∨ (-1 ≤ c43_u58.toInt ∧ c43_u58.toInt < (u 1).toInt) by first | omega | assumption) (by omega) hP hD hS ls (lv_sub hl [1, 0] rfl)
      ·
        intro x1 c83_b61 c83_u54 c83_u55 c83_u56 c83_u57 c83_u58 c83_b59 c83_b60 H locs i1 h54 h55 hk ju55_0 ju55_1 ju55_2 ju58_0 hmu hP hD hS ls hl
        refine lv_iload_n hx hb dX12_image_83 rfl (lv_at hl 1 rfl) ?_
        refine lv_iconst (v := 5) hx hb dX12_image_84 (by decide) ?_
        refine lv_icmp_ge (tgt := 106) hx hb dX12_image_85 (by decide) (fun c_5 => ?_) (fun c_5 => ?_)
        ·
          have kc_5 : (5 : Int) ≤ x1.toInt := i_le c_5
          refine lv_aload_n hx hb dX12_image_106 rfl (lv_at hl 0 rfl) ?_
          refine gr_ledOf hx hb hg hown hK hP (hg _ q5_45) dX12_image_107 ?_
          refine lv_iconst (v := 0) hx hb dX12_image_110 (by decide) ?_
          refine lr_ledOf hx hb hK hP (i_in (by decide) (by decide)) dX12_image_111 ?_
          refine lv_topi (fun x_6 ex_6 => ?_)
          have ex_6 : x_6 = (b 53) (0 : Int32).toNatClampNeg := ex_6
          have hx_6 : x_6.toInt = ((b 53) (0 : Int32).toNatClampNeg).toInt := by rw [ex_6]
          exact W.iret (v := x_6) hx hb hr (fun tt ht hW => ⟨⟨x_6, ⟨c83_b61, c83_u54, c83_u55, c83_u56, c83_u57, c83_u58, c83_b59, c83_b60⟩, rfl, ⟨(by first | rfl | assumption | (rw [ex_6]; rfl)), (by first | rfl | assumption | exact hk (by omega)), (by first | rfl | omega | trivial | assumption | (dsimp only; first | omega | assumption)), (by first | rfl | omega | trivial | assumption | (dsimp only; first | omega | assumption)), (show 0 ≤ c83_u55.toInt by first | omega | assumption), (show c83_u55.toInt ≤ 8 by first | omega | assumption), (show c83_u55.toInt ≤ (u 1).toInt by first | omega | assumption), (show c83_u54.toInt = 0 ∨ (-1 ≤ c83_u58.toInt ∧ c83_u58.toInt < (u 1).toInt) by first | omega | assumption)⟩, by rw [ht]; exact hP, hD⟩, hS.F ht⟩) hS.2.2 dX12_image_112
        ·
          have kc_5 : x1.toInt < (5 : Int) := i_nle c_5
          refine lv_aload_n hx hb dX12_image_88 rfl (lv_at hl 0 rfl) ?_
          refine gr_keptLed hx hb hg hown hK hP (hg _ q5_53) dX12_image_89 ?_
          refine lv_iload_n hx hb dX12_image_92 rfl (lv_at hl 1 rfl) ?_
          refine lv_aload_n hx hb dX12_image_93 rfl (lv_at hl 0 rfl) ?_
          refine gr_ledOf hx hb hg hown hK hP (hg _ q5_45) dX12_image_94 ?_
          refine lv_iload_n hx hb dX12_image_97 rfl (lv_at hl 1 rfl) ?_
          refine lr_ledOf hx hb hK hP (i_in (by omega) (by omega)) dX12_image_98 ?_
          refine lv_topi (fun x_7 ex_7 => ?_)
          have ex_7 : x_7 = (b 53) x1.toNatClampNeg := ex_7
          have hx_7 : x_7.toInt = ((b 53) x1.toNatClampNeg).toInt := by rw [ex_7]
          refine sr_keptLed hx hb hK hP hD hS (i_in (by omega) (by omega)) dX12_image_99 (fun H locs hP hD hS => ?_)
          have kimg : (upd c83_b61 x1.toNatClampNeg x_7) 0 = (b 53 0) := UPD0 i1 hk (fun q => by rw [ex_7, show x1.toNatClampNeg = 0 from (by show x1.toInt.toNat = 0; omega)])
          obtain ⟨x_8, ex_8⟩ : ∃ y : Int32, y = x1 + 1 := ⟨_, rfl⟩
          have fx_8 : x_8.toInt = x1.toInt + 1 := by rw [ex_8]; exact i_add (by first | omega | (show (_ : Int) ≤ x1.toInt + 1; omega)) (by first | omega | (show x1.toInt + 1 ≤ (_ : Int); omega))
          refine lv_iinc (v := x_8) (lv' := [(1, .int x_8), (0, .ref (bd 0))]) hx hb dX12_image_100 hl (k := 1) rfl (by rw [ex_8]; rfl) (by decide) rfl (fun ls hl => ?_)
          refine lv_goto (tgt := 83) hx hb dX12_image_103 (by decide) ?_
          exact ih.2 x_8 (upd c83_b61 x1.toNatClampNeg x_7) c83_u54 c83_u55 c83_u56 c83_u57 c83_u58 c83_b59 c83_b60 _ _ (by omega) (by omega) (by omega) (fun q => kimg) (show 0 ≤ c83_u55.toInt by first | omega | assumption) (show c83_u55.toInt ≤ 8 by first | omega | assumption) (show c83_u55.toInt ≤ (u 1).toInt by first | omega | assumption) (show c83_u54.toInt = 0 ∨ (-1 ≤ c83_u58.toInt ∧ c83_u58.toInt < (u 1).toInt) by first | omega | assumption) (by omega) hP hD hS ls (lv_sub hl [1, 0] rfl)
  refine lv_aload_n hx hb dX12_image_0 rfl (lv_at hl 0 rfl) ?_
  refine lv_iconst (v := 1) hx hb dX12_image_1 (by decide) ?_
  refine pr_hasImage hx hb hg hown hK hP hD hS rfl rfl (hg _ q5_46) dX12_image_2 (fun H locs hP hD hS => ?_)
  refine lv_aload_n hx hb dX12_image_5 rfl (lv_at hl 0 rfl) ?_
  refine lv_aload_n hx hb dX12_image_6 rfl (lv_at hl 0 rfl) ?_
  refine gr_people1 hx hb hg hown hK hP (x := (u 1)) rfl (hg _ q4_233) dX12_image_7 ?_
  refine pr_keptMany hx hb hg hown hK hP hD hS (hg _ q5_47) dX12_image_10 (fun H locs hP hD hS => ?_)
  refine lv_aload_n hx hb dX12_image_13 rfl (lv_at hl 0 rfl) ?_
  refine lv_aload_n hx hb dX12_image_14 rfl (lv_at hl 0 rfl) ?_
  refine gr_told hx hb hg hown hK hP (hg _ q4_238) dX12_image_15 ?_
  refine lv_iconst (v := 0) hx hb dX12_image_18 (by decide) ?_
  refine lr_told hx hb hK hP (i_in (by decide) (by decide)) dX12_image_19 ?_
  refine lv_topi (fun x_9 ex_9 => ?_)
  have ex_9 : x_9 = (b 6) (0 : Int32).toNatClampNeg := ex_9
  have hx_9 : x_9.toInt = ((b 6) (0 : Int32).toNatClampNeg).toInt := by rw [ex_9]
  refine pr_keptBee hx hb hg hown hK hP hD hS (hg _ q5_48) dX12_image_20 (fun H locs hP hD hS => ?_)
  refine lv_aload_n hx hb dX12_image_23 rfl (lv_at hl 0 rfl) ?_
  refine lv_aload_n hx hb dX12_image_24 rfl (lv_at hl 0 rfl) ?_
  refine gr_told hx hb hg hown hK hP (hg _ q4_238) dX12_image_25 ?_
  refine lv_iconst (v := 2) hx hb dX12_image_28 (by decide) ?_
  refine lr_told hx hb hK hP (i_in (by decide) (by decide)) dX12_image_29 ?_
  refine lv_topi (fun x_10 ex_10 => ?_)
  have ex_10 : x_10 = (b 6) (2 : Int32).toNatClampNeg := ex_10
  have hx_10 : x_10.toInt = ((b 6) (2 : Int32).toNatClampNeg).toInt := by rw [ex_10]
  refine pr_keptHour hx hb hg hown hK hP hD hS (hg _ q5_49) dX12_image_30 (fun H locs hP hD hS => ?_)
  refine lv_aload_n hx hb dX12_image_33 rfl (lv_at hl 0 rfl) ?_
  refine lv_aload_n hx hb dX12_image_34 rfl (lv_at hl 0 rfl) ?_
  refine gr_liar hx hb hg hown hK hP (x := (u 7)) rfl (hg _ q4_239) dX12_image_35 ?_
  refine pr_keptLiar hx hb hg hown hK hP hD hS (hg _ q5_50) dX12_image_38 (fun H locs hP hD hS => ?_)
  refine lv_iconst (v := 0) hx hb dX12_image_41 (by decide) ?_
  refine lv_istore_n (lv' := [(1, .int 0), (0, .ref (bd 0))]) hx hb dX12_image_42 rfl hl (by decide) rfl (fun ls hl => ?_)
  have q0_1 : (1 : Int32).toInt = 1 := rfl
  have q0_0 : (0 : Int32).toInt = 0 := rfl
  exact (hcut ((100 + ((u 1).toInt - (0 : Int32).toInt).toNat) + 1)).1 0 (b 59) (b 60) 1 (u 1) x_9 x_10 (u 7) _ _ (by omega) (by omega) (by omega) (show 0 ≤ (u 1).toInt by first | omega | assumption) (show (u 1).toInt ≤ 8 by first | omega | assumption) (show (u 1).toInt ≤ (u 1).toInt by first | omega | assumption) (show (1 : Int) = 0 ∨ (-1 ≤ (u 7).toInt ∧ (u 7).toInt < (u 1).toInt) by first | omega | assumption) (Nat.lt_succ_self _) hP hD hS ls (lv_sub hl [1, 0] rfl)
set_option maxHeartbeats 4000000 in
set_option maxRecDepth 100000 in
theorem k_X12_back (l : Launch) (D : va_G) (cs : Nat → ClassId) (A : Nat → Prop) (bd : Nat → Nat) (u : Nat → Int32) (b : Nat → Nat → Int32) (bw : Nat → Nat → Int64)   (iu1_0 : 0 ≤ (u 1).toInt) (iu1_1 : (u 1).toInt ≤ 8) (iu55_0 : 0 ≤ (u 55).toInt) (iu55_1 : (u 55).toInt ≤ 8) (iu55_2 : (u 55).toInt ≤ (u 1).toInt) (iu58_0 : (u 54).toInt = 0 ∨ (-1 ≤ (u 58).toInt ∧ (u 58).toInt < (u 1).toInt)) (iu7_0 : -1 ≤ (u 7).toInt) (iu7_1 : (u 7).toInt < (u 1).toInt) : Met l yX12_back (Cond.code yX12_back cX12_back 2 (some .int) :: gw) ({ frames := 0, cells := 0, slots := 0, locals := 0 }) (va_Pc [.ref (bd 0)] (XPre D (TY cs) (RW cs bd u b bw) A)) (va_Qi (fun (r : Int32) (z : (Nat → Int32) × Int32 × (Nat → Int32) × (Nat → Int32) × (Nat → Int32)) => (((u 54).toInt = 0 ∧ r.toInt = -5 ∧ z.1 0 = ((b 53) 0)) ∨ ((u 54).toInt ≠ 0 ∧ r = ((b 61) 0) ∧ z.1 0 = ((b 61) 0))) ∧ (-1 ≤ z.2.1.toInt) ∧ (z.2.1.toInt < (u 1).toInt)) (XPo D (fun (z : (Nat → Int32) × Int32 × (Nat → Int32) × (Nat → Int32) × (Nat → Int32)) => RW cs bd (va_up u 7 z.2.1) (va_up (va_up (va_up (va_up b 53 z.1) 2 z.2.2.1) 4 z.2.2.2.1) 6 z.2.2.2.2) bw) A) A) 0 0 A := by
  refine Met.ofW (cc := cX12_back) (maxL := 2) (ret := (some .int)) (by decide) rfl ?_
  intro p e s m args below meth c s₁ B hml hv
  obtain ⟨rfl, hP, hK, hD, hZ⟩ := hv
  have hx := B.exec
  have hb := B.bytes
  have hr := B.returns
  have hts := atoms_spec (ws := (Cond.code yX12_back cX12_back 2 (some .int) :: gw)) B.pre
  have hg : ∀ w ∈ gw, w.before ([.ref (bd 0)] : List Value).toArray s = true := fun w h => hts w (List.mem_cons_of_mem _ h)
  have hown : s.vm.findClass RX12 = some m.cls := findClass_of_methodNamed B.named
  have hlocks := B.notSynchronized
  have hS : va_S A s.heap s.heap [] := va_S.rf
  have hP : va_P D vwCl (RW cs bd u b bw) s.heap := hP
  have hl := lv_entry ([.ref (bd 0)]) (n := 2) (Nat.le_of_ble_eq_true rfl)
  rw [lg_entry_eq]
  generalize (lg_sl ([.ref (bd 0)]) ++ List.replicate (2 - (lg_sl ([.ref (bd 0)])).length) Slot.unset).toArray = ls at hl ⊢
  have hl : lv_has ls 2 [(0, .ref (bd 0))] := hl
  have hcut : ∀ nk : Nat, (∀ (x1 : Int32) (c40_b2 : Nat → Int32) (c40_b4 : Nat → Int32) (c40_u7 : Int32) (c40_b6 : Nat → Int32) (H : Heap) (locs : List Loc) (i1 : 0 ≤ x1.toInt) (h54 : (u 54).toInt ≠ 0) (ju7_0 : -1 ≤ c40_u7.toInt) (ju7_1 : c40_u7.toInt < (u 1).toInt) (hmu : 100 + ((u 55).toInt - x1.toInt).toNat < nk) (hP : va_P D vwCl (RW cs bd (va_up u 7 c40_u7) (va_up (va_up (va_up b 2 c40_b2) 4 c40_b4) 6 c40_b6) bw) H) (hD : va_D A (RW cs bd (va_up u 7 c40_u7) (va_up (va_up (va_up b 2 c40_b2) 4 c40_b4) 6 c40_b6) bw)) (hS : va_S A s.heap H locs) (ls : Array Slot) (hl : lv_has ls 2 [(0, .ref (bd 0)), (1, .int x1)]), W p l e (headSpec (Cond.code yX12_back cX12_back 2 (some .int) :: gw) ({ frames := 0, cells := 0, slots := 0, locals := 0 })).room s m ([.ref (bd 0)] : List Value).toArray below meth c H locs 0 0 (MQ below (va_Qi (fun (r : Int32) (z : (Nat → Int32) × Int32 × (Nat → Int32) × (Nat → Int32) × (Nat → Int32)) => (((u 54).toInt = 0 ∧ r.toInt = -5 ∧ z.1 0 = ((b 53) 0)) ∨ ((u 54).toInt ≠ 0 ∧ r = ((b 61) 0) ∧ z.1 0 = ((b 61) 0))) ∧ (-1 ≤ z.2.1.toInt) ∧ (z.2.1.toInt < (u 1).toInt)) (XPo D (fun (z : (Nat → Int32) × Int32 × (Nat → Int32) × (Nat → Int32) × (Nat → Int32)) => RW cs bd (va_up u 7 z.2.1) (va_up (va_up (va_up (va_up b 53 z.1) 2 z.2.2.1) 4 z.2.2.2.1) 6 z.2.2.2.2) bw) A) A) ([.ref (bd 0)] : List Value).toArray s 0 0 A) (F0 m 40 ls [])) ∧ (∀ (x1 : Int32) (c80_b53 : Nat → Int32) (c80_u7 : Int32) (c80_b2 : Nat → Int32) (c80_b4 : Nat → Int32) (c80_b6 : Nat → Int32) (H : Heap) (locs : List Loc) (i1 : 0 ≤ x1.toInt) (h54 : (u 54).toInt ≠ 0) (hk : 0 < x1.toInt → c80_b53 0 = ((b 61) 0)) (ju7_0 : -1 ≤ c80_u7.toInt) (ju7_1 : c80_u7.toInt < (u 1).toInt) (hmu : (5 - x1.toInt).toNat < nk) (hP : va_P D vwCl (RW cs bd (va_up u 7 c80_u7) (va_up (va_up (va_up (va_up b 53 c80_b53) 2 c80_b2) 4 c80_b4) 6 c80_b6) bw) H) (hD : va_D A (RW cs bd (va_up u 7 c80_u7) (va_up (va_up (va_up (va_up b 53 c80_b53) 2 c80_b2) 4 c80_b4) 6 c80_b6) bw)) (hS : va_S A s.heap H locs) (ls : Array Slot) (hl : lv_has ls 2 [(0, .ref (bd 0)), (1, .int x1)]), W p l e (headSpec (Cond.code yX12_back cX12_back 2 (some .int) :: gw) ({ frames := 0, cells := 0, slots := 0, locals := 0 })).room s m ([.ref (bd 0)] : List Value).toArray below meth c H locs 0 0 (MQ below (va_Qi (fun (r : Int32) (z : (Nat → Int32) × Int32 × (Nat → Int32) × (Nat → Int32) × (Nat → Int32)) => (((u 54).toInt = 0 ∧ r.toInt = -5 ∧ z.1 0 = ((b 53) 0)) ∨ ((u 54).toInt ≠ 0 ∧ r = ((b 61) 0) ∧ z.1 0 = ((b 61) 0))) ∧ (-1 ≤ z.2.1.toInt) ∧ (z.2.1.toInt < (u 1).toInt)) (XPo D (fun (z : (Nat → Int32) × Int32 × (Nat → Int32) × (Nat → Int32) × (Nat → Int32)) => RW cs bd (va_up u 7 z.2.1) (va_up (va_up (va_up (va_up b 53 z.1) 2 z.2.2.1) 4 z.2.2.2.1) 6 z.2.2.2.2) bw) A) A) ([.ref (bd 0)] : List Value).toArray s 0 0 A) (F0 m 80 ls [])) := by
    intro nk
    induction nk with
    | zero => exact ⟨(fun x1 c40_b2 c40_b4 c40_u7 c40_b6 H locs i1 h54 ju7_0 ju7_1 hmu hP hD hS ls hl => absurd hmu (Nat.not_lt_zero _)), (fun x1 c80_b53 c80_u7 c80_b2 c80_b4 c80_b6 H locs i1 h54 hk ju7_0 ju7_1 hmu hP hD hS ls hl => absurd hmu (Nat.not_lt_zero _))⟩
    | succ nk ih =>
      refine ⟨?_, ?_⟩
      ·
        intro x1 c40_b2 c40_b4 c40_u7 c40_b6 H locs i1 h54 ju7_0 ju7_1 hmu hP hD hS ls hl
        refine lv_iload_n hx hb dX12_back_40 rfl (lv_at hl 1 rfl) ?_
        refine lv_aload_n hx hb dX12_back_41 rfl (lv_at hl 0 rfl) ?_
        refine gr_keptMany hx hb hg hown hK hP (x := (u 55)) rfl (hg _ q5_47) dX12_back_42 ?_
        refine lv_icmp_ge (tgt := 78) hx hb dX12_back_45 (by decide) (fun c_1 => ?_) (fun c_1 => ?_)
        ·
          have kc_1 : (u 55).toInt ≤ x1.toInt := i_le c_1
          refine lv_iconst (v := 0) hx hb dX12_back_78 (by decide) ?_
          refine lv_istore_n (lv' := [(1, .int 0), (0, .ref (bd 0))]) hx hb dX12_back_79 rfl hl (by decide) rfl (fun ls hl => ?_)
          have q0_0 : (0 : Int32).toInt = 0 := rfl
          exact ih.2 0 (b 53) c40_u7 c40_b2 c40_b4 c40_b6 _ _ (by omega) (by omega) (fun q => absurd q (by omega)) (show -1 ≤ c40_u7.toInt by first | omega | assumption) (show c40_u7.toInt < (u 1).toInt by first | omega | assumption) (by omega) hP hD hS ls (lv_sub hl [1, 0] rfl)
        ·
          have kc_1 : x1.toInt < (u 55).toInt := i_nle c_1
          refine lv_aload_n hx hb dX12_back_48 rfl (lv_at hl 0 rfl) ?_
          refine gr_cellOf hx hb hg hown hK hP (hg _ q4_234) dX12_back_49 ?_
          refine lv_iload_n hx hb dX12_back_52 rfl (lv_at hl 1 rfl) ?_
          refine lv_aload_n hx hb dX12_back_53 rfl (lv_at hl 0 rfl) ?_
          refine gr_keptCell hx hb hg hown hK hP (hg _ q5_51) dX12_back_54 ?_
          refine lv_iload_n hx hb dX12_back_57 rfl (lv_at hl 1 rfl) ?_
          refine lr_keptCell hx hb hK hP (i_in (by omega) (by omega)) dX12_back_58 ?_
          refine lv_topi (fun x_2 ex_2 => ?_)
          have ex_2 : x_2 = (b 59) x1.toNatClampNeg := ex_2
          have hx_2 : x_2.toInt = ((b 59) x1.toNatClampNeg).toInt := by rw [ex_2]
          refine sr_cellOf hx hb hK hP hD hS (i_in (by omega) (by omega)) dX12_back_59 (fun H locs hP hD hS => ?_)
          refine lv_aload_n hx hb dX12_back_60 rfl (lv_at hl 0 rfl) ?_
          refine gr_pads hx hb hg hown hK hP (hg _ q4_236) dX12_back_61 ?_
          refine lv_iload_n hx hb dX12_back_64 rfl (lv_at hl 1 rfl) ?_
          refine lv_aload_n hx hb dX12_back_65 rfl (lv_at hl 0 rfl) ?_
          refine gr_keptPads hx hb hg hown hK hP (hg _ q5_52) dX12_back_66 ?_
          refine lv_iload_n hx hb dX12_back_69 rfl (lv_at hl 1 rfl) ?_
          refine lr_keptPads hx hb hK hP (i_in (by omega) (by omega)) dX12_back_70 ?_
          refine lv_topi (fun x_3 ex_3 => ?_)
          have ex_3 : x_3 = (b 60) x1.toNatClampNeg := ex_3
          have hx_3 : x_3.toInt = ((b 60) x1.toNatClampNeg).toInt := by rw [ex_3]
          refine sr_pads hx hb hK hP hD hS (i_in (by omega) (by omega)) dX12_back_71 (fun H locs hP hD hS => ?_)
          obtain ⟨x_4, ex_4⟩ : ∃ y : Int32, y = x1 + 1 := ⟨_, rfl⟩
          have fx_4 : x_4.toInt = x1.toInt + 1 := by rw [ex_4]; exact i_add (by first | omega | (show (_ : Int) ≤ x1.toInt + 1; omega)) (by first | omega | (show x1.toInt + 1 ≤ (_ : Int); omega))
          refine lv_iinc (v := x_4) (lv' := [(1, .int x_4), (0, .ref (bd 0))]) hx hb dX12_back_72 hl (k := 1) rfl (by rw [ex_4]; rfl) (by decide) rfl (fun ls hl => ?_)
          refine lv_goto (tgt := 40) hx hb dX12_back_75 (by decide) ?_
          exact ih.1 x_4 (upd c40_b2 x1.toNatClampNeg x_2) (upd c40_b4 x1.toNatClampNeg x_3) c40_u7 c40_b6 _ _ (by omega) (by omega) (show -1 ≤ c40_u7.toInt by first | omega | assumption) (show c40_u7.toInt < (u 1).toInt by first | omega | assumption) (by omega) hP hD hS ls (lv_sub hl [1, 0] rfl)
      ·
        intro x1 c80_b53 c80_u7 c80_b2 c80_b4 c80_b6 H locs i1 h54 hk ju7_0 ju7_1 hmu hP hD hS ls hl
        refine lv_iload_n hx hb dX12_back_80 rfl (lv_at hl 1 rfl) ?_
        refine lv_iconst (v := 5) hx hb dX12_back_81 (by decide) ?_
        refine lv_icmp_ge (tgt := 103) hx hb dX12_back_82 (by decide) (fun c_5 => ?_) (fun c_5 => ?_)
        ·
          have kc_5 : (5 : Int) ≤ x1.toInt := i_le c_5
          refine lv_aload_n hx hb dX12_back_103 rfl (lv_at hl 0 rfl) ?_
          refine gr_ledOf hx hb hg hown hK hP (hg _ q5_45) dX12_back_104 ?_
          refine lv_iconst (v := 0) hx hb dX12_back_107 (by decide) ?_
          refine lr_ledOf hx hb hK hP (i_in (by decide) (by decide)) dX12_back_108 ?_
          refine lv_topi (fun x_6 ex_6 => ?_)
          have ex_6 : x_6 = c80_b53 (0 : Int32).toNatClampNeg := ex_6
          have hx_6 : x_6.toInt = (c80_b53 (0 : Int32).toNatClampNeg).toInt := by rw [ex_6]
          exact W.iret (v := x_6) hx hb hr (fun tt ht hW => ⟨⟨x_6, ⟨c80_b53, c80_u7, c80_b2, c80_b4, c80_b6⟩, rfl, ⟨(by first | exact Or.inl ⟨by omega, by omega, rfl⟩ | exact Or.inr ⟨by omega, by rw [ex_6]; exact hk (by omega), hk (by omega)⟩), (show -1 ≤ c80_u7.toInt by first | omega | assumption), (show c80_u7.toInt < (u 1).toInt by first | omega | assumption)⟩, by rw [ht]; exact hP, hD⟩, hS.F ht⟩) hS.2.2 dX12_back_109
        ·
          have kc_5 : x1.toInt < (5 : Int) := i_nle c_5
          refine lv_aload_n hx hb dX12_back_85 rfl (lv_at hl 0 rfl) ?_
          refine gr_ledOf hx hb hg hown hK hP (hg _ q5_45) dX12_back_86 ?_
          refine lv_iload_n hx hb dX12_back_89 rfl (lv_at hl 1 rfl) ?_
          refine lv_aload_n hx hb dX12_back_90 rfl (lv_at hl 0 rfl) ?_
          refine gr_keptLed hx hb hg hown hK hP (hg _ q5_53) dX12_back_91 ?_
          refine lv_iload_n hx hb dX12_back_94 rfl (lv_at hl 1 rfl) ?_
          refine lr_keptLed hx hb hK hP (i_in (by omega) (by omega)) dX12_back_95 ?_
          refine lv_topi (fun x_7 ex_7 => ?_)
          have ex_7 : x_7 = (b 61) x1.toNatClampNeg := ex_7
          have hx_7 : x_7.toInt = ((b 61) x1.toNatClampNeg).toInt := by rw [ex_7]
          refine sr_ledOf hx hb hK hP hD hS (i_in (by omega) (by omega)) dX12_back_96 (fun H locs hP hD hS => ?_)
          have kimg : (upd c80_b53 x1.toNatClampNeg x_7) 0 = (b 61 0) := UPD0 i1 hk (fun q => by rw [ex_7, show x1.toNatClampNeg = 0 from (by show x1.toInt.toNat = 0; omega)])
          obtain ⟨x_8, ex_8⟩ : ∃ y : Int32, y = x1 + 1 := ⟨_, rfl⟩
          have fx_8 : x_8.toInt = x1.toInt + 1 := by rw [ex_8]; exact i_add (by first | omega | (show (_ : Int) ≤ x1.toInt + 1; omega)) (by first | omega | (show x1.toInt + 1 ≤ (_ : Int); omega))
          refine lv_iinc (v := x_8) (lv' := [(1, .int x_8), (0, .ref (bd 0))]) hx hb dX12_back_97 hl (k := 1) rfl (by rw [ex_8]; rfl) (by decide) rfl (fun ls hl => ?_)
          refine lv_goto (tgt := 80) hx hb dX12_back_100 (by decide) ?_
          exact ih.2 x_8 (upd c80_b53 x1.toNatClampNeg x_7) c80_u7 c80_b2 c80_b4 c80_b6 _ _ (by omega) (by omega) (fun q => kimg) (show -1 ≤ c80_u7.toInt by first | omega | assumption) (show c80_u7.toInt < (u 1).toInt by first | omega | assumption) (by omega) hP hD hS ls (lv_sub hl [1, 0] rfl)
  refine lv_aload_n hx hb dX12_back_0 rfl (lv_at hl 0 rfl) ?_
  refine gr_hasImage hx hb hg hown hK hP (x := (u 54)) rfl (hg _ q5_46) dX12_back_1 ?_
  refine lv_if_ne (tgt := 10) hx hb dX12_back_4 (by decide) (fun c_9 => ?_) (fun c_9 => ?_)
  ·
    have kc_9 : (u 54).toInt ≠ (0 : Int) := i_ne c_9
    refine lv_aload_n hx hb dX12_back_10 rfl (lv_at hl 0 rfl) ?_
    refine gr_told hx hb hg hown hK hP (hg _ q4_238) dX12_back_11 ?_
    refine lv_iconst (v := 0) hx hb dX12_back_14 (by decide) ?_
    refine lv_aload_n hx hb dX12_back_15 rfl (lv_at hl 0 rfl) ?_
    refine gr_keptBee hx hb hg hown hK hP (x := (u 56)) rfl (hg _ q5_48) dX12_back_16 ?_
    refine sr_told hx hb hK hP hD hS (i_in (by decide) (by decide)) dX12_back_19 (fun H locs hP hD hS => ?_)
    refine lv_aload_n hx hb dX12_back_20 rfl (lv_at hl 0 rfl) ?_
    refine gr_told hx hb hg hown hK hP (hg _ q4_238) dX12_back_21 ?_
    refine lv_iconst (v := 2) hx hb dX12_back_24 (by decide) ?_
    refine lv_aload_n hx hb dX12_back_25 rfl (lv_at hl 0 rfl) ?_
    refine gr_keptHour hx hb hg hown hK hP (x := (u 57)) rfl (hg _ q5_49) dX12_back_26 ?_
    refine sr_told hx hb hK hP hD hS (i_in (by decide) (by decide)) dX12_back_29 (fun H locs hP hD hS => ?_)
    refine lv_aload_n hx hb dX12_back_30 rfl (lv_at hl 0 rfl) ?_
    refine lv_aload_n hx hb dX12_back_31 rfl (lv_at hl 0 rfl) ?_
    refine gr_keptLiar hx hb hg hown hK hP (x := (u 58)) rfl (hg _ q5_50) dX12_back_32 ?_
    refine pr_liar hx hb hg hown hK hP hD hS (hg _ q4_239) dX12_back_35 (fun H locs hP hD hS => ?_)
    refine lv_iconst (v := 0) hx hb dX12_back_38 (by decide) ?_
    refine lv_istore_n (lv' := [(1, .int 0), (0, .ref (bd 0))]) hx hb dX12_back_39 rfl hl (by decide) rfl (fun ls hl => ?_)
    have q0_0 : (0 : Int32).toInt = 0 := rfl
    exact (hcut ((100 + ((u 55).toInt - (0 : Int32).toInt).toNat) + 1)).1 0 (b 2) (b 4) (u 58) (upd (upd (b 6) (0 : Int32).toNatClampNeg (u 56)) (2 : Int32).toNatClampNeg (u 57)) _ _ (by omega) (by omega) (show -1 ≤ (u 58).toInt by first | omega | assumption) (show (u 58).toInt < (u 1).toInt by first | omega | assumption) (Nat.lt_succ_self _) hP hD hS ls (lv_sub hl [1, 0] rfl)
  ·
    have kc_9 : (u 54).toInt = (0 : Int) := i_eq c_9
    refine lv_bipush (v := (-5)) hx hb dX12_back_7 (by decide) ?_
    have q0_m5 : ((-5) : Int32).toInt = (-5) := rfl
    have hP : va_P D vwCl (RW cs bd (va_up u 7 (u 7)) (va_up (va_up (va_up (va_up b 53 (b 53)) 2 (b 2)) 4 (b 4)) 6 (b 6)) bw) _ := hP
    have hD : va_D A (RW cs bd (va_up u 7 (u 7)) (va_up (va_up (va_up (va_up b 53 (b 53)) 2 (b 2)) 4 (b 4)) 6 (b 6)) bw) := hD
    exact W.iret (v := (-5)) hx hb hr (fun tt ht hW => ⟨⟨(-5), ⟨(b 53), (u 7), (b 2), (b 4), (b 6)⟩, rfl, ⟨(by first | exact Or.inl ⟨by omega, by omega, rfl⟩ | exact Or.inr ⟨by omega, by rw [e-5]; exact hk (by omega), hk (by omega)⟩), (show -1 ≤ (u 7).toInt by first | omega | assumption), (show (u 7).toInt < (u 1).toInt by first | omega | assumption)⟩, by rw [ht]; exact hP, hD⟩, hS.F ht⟩) hS.2.2 dX12_back_9
set_option maxHeartbeats 4000000 in
set_option maxRecDepth 100000 in
theorem k_X12_count (l : Launch) (D : va_G) (cs : Nat → ClassId) (A : Nat → Prop) (bd : Nat → Nat) (u : Nat → Int32) (b : Nat → Nat → Int32) (bw : Nat → Nat → Int64)  (p1 : Int32) (iu1_0 : 0 ≤ (u 1).toInt) (iu1_1 : (u 1).toInt ≤ 8) (iu15_0 : 0 ≤ (u 15).toInt) (iu15_1 : (u 15).toInt ≤ 120) (iu8_0 : 0 ≤ (u 8).toInt) (iu8_1 : (u 8).toInt ≤ 40) (iu62_0 : 0 ≤ (u 62).toInt) (iu62_1 : (u 62).toInt ≤ 50) (iu64_0 : 0 ≤ (u 64).toInt) (iu64_1 : (u 64).toInt ≤ 1000) : Met l yX12_count (Cond.code yX12_count cX12_count 2 (some .int) :: gw) ({ frames := 0, cells := 0, slots := 0, locals := 0 }) (va_Pc [.ref (bd 0), .int p1] (XPre D (TY cs) (RW cs bd u b bw) A)) (vp_Si (fun (r : Int32) => True)) 0 0 (fun _ => False) := by
  refine Met.ofW (cc := cX12_count) (maxL := 2) (ret := (some .int)) (by decide) rfl ?_
  intro p e s m args below meth c s₁ B hml hv
  obtain ⟨rfl, hP, hK, hD, hZ⟩ := hv
  have hx := B.exec
  have hb := B.bytes
  have hr := B.returns
  have hts := atoms_spec (ws := (Cond.code yX12_count cX12_count 2 (some .int) :: gw)) B.pre
  have hg : ∀ w ∈ gw, w.before ([.ref (bd 0), .int p1] : List Value).toArray s = true := fun w h => hts w (List.mem_cons_of_mem _ h)
  have hown : s.vm.findClass RX12 = some m.cls := findClass_of_methodNamed B.named
  have hlocks := B.notSynchronized
  have hS : va_S A s.heap s.heap [] := va_S.rf
  have hl := lv_entry ([.ref (bd 0), .int p1]) (n := 2) (Nat.le_of_ble_eq_true rfl)
  rw [lg_entry_eq]
  generalize (lg_sl ([.ref (bd 0), .int p1]) ++ List.replicate (2 - (lg_sl ([.ref (bd 0), .int p1])).length) Slot.unset).toArray = ls at hl ⊢
  have hl : lv_has ls 2 [(0, .ref (bd 0)), (1, .int p1)] := hl
  refine lv_iload_n hx hb dX12_count_0 rfl (lv_at hl 1 rfl) ?_
  rcases (show p1.toInt = 0 ∨ p1.toInt = 1 ∨ p1.toInt = 2 ∨ p1.toInt = 3 ∨ p1.toInt = 4 ∨ (p1.toInt < 0 ∨ 4 < p1.toInt) by omega) with kc_1 | kc_1 | kc_1 | kc_1 | kc_1 | kc_1
  ·
    refine lv_tableIn (tgt := 36) hx hb dX12_count_1 (by omega) (by omega) (off := 35) (by rw [kc_1]; rfl) (by decide) ?_
    refine lv_aload_n hx hb dX12_count_36 rfl (lv_at hl 0 rfl) ?_
    refine gr_people1 hx hb hg hown hK hP (x := (u 1)) rfl (hg _ q4_233) dX12_count_37 ?_
    exact W.iret (v := (u 1)) hx hb hr (fun tt ht hW => ⟨(u 1), rfl, trivial, ht⟩) (fun _ h => by cases h) dX12_count_40
  ·
    refine lv_tableIn (tgt := 41) hx hb dX12_count_1 (by omega) (by omega) (off := 40) (by rw [kc_1]; rfl) (by decide) ?_
    refine lv_aload_n hx hb dX12_count_41 rfl (lv_at hl 0 rfl) ?_
    refine gr_taped hx hb hg hown hK hP (x := (u 15)) rfl (hg _ q5_7) dX12_count_42 ?_
    exact W.iret (v := (u 15)) hx hb hr (fun tt ht hW => ⟨(u 15), rfl, trivial, ht⟩) (fun _ h => by cases h) dX12_count_45
  ·
    refine lv_tableIn (tgt := 46) hx hb dX12_count_1 (by omega) (by omega) (off := 45) (by rw [kc_1]; rfl) (by decide) ?_
    refine lv_aload_n hx hb dX12_count_46 rfl (lv_at hl 0 rfl) ?_
    refine gr_doneMany hx hb hg hown hK hP (x := (u 8)) rfl (hg _ q5_0) dX12_count_47 ?_
    exact W.iret (v := (u 8)) hx hb hr (fun tt ht hW => ⟨(u 8), rfl, trivial, ht⟩) (fun _ h => by cases h) dX12_count_50
  ·
    refine lv_tableIn (tgt := 51) hx hb dX12_count_1 (by omega) (by omega) (off := 50) (by rw [kc_1]; rfl) (by decide) ?_
    refine lv_aload_n hx hb dX12_count_51 rfl (lv_at hl 0 rfl) ?_
    refine gr_bodies hx hb hg hown hK hP (x := (u 62)) rfl (hg _ q5_54) dX12_count_52 ?_
    exact W.iret (v := (u 62)) hx hb hr (fun tt ht hW => ⟨(u 62), rfl, trivial, ht⟩) (fun _ h => by cases h) dX12_count_55
  ·
    refine lv_tableIn (tgt := 56) hx hb dX12_count_1 (by omega) (by omega) (off := 55) (by rw [kc_1]; rfl) (by decide) ?_
    refine lv_aload_n hx hb dX12_count_56 rfl (lv_at hl 0 rfl) ?_
    refine gr_traces hx hb hg hown hK hP (x := (u 64)) rfl (hg _ q5_56) dX12_count_57 ?_
    exact W.iret (v := (u 64)) hx hb hr (fun tt ht hW => ⟨(u 64), rfl, trivial, ht⟩) (fun _ h => by cases h) dX12_count_60
  ·
    refine lv_tableOut (tgt := 61) hx hb dX12_count_1 kc_1 (by decide) ?_
    refine lv_iconst (v := (-1)) hx hb dX12_count_61 (by decide) ?_
    have q0_m1 : ((-1) : Int32).toInt = (-1) := rfl
    exact W.iret (v := (-1)) hx hb hr (fun tt ht hW => ⟨(-1), rfl, trivial, ht⟩) (fun _ h => by cases h) dX12_count_62
set_option maxHeartbeats 4000000 in
set_option maxRecDepth 100000 in
theorem k_X12_trace (l : Launch) (D : va_G) (cs : Nat → ClassId) (A : Nat → Prop) (bd : Nat → Nat) (u : Nat → Int32) (b : Nat → Nat → Int32) (bw : Nat → Nat → Int64)  (p1 : Int32) (iu64_0 : 0 ≤ (u 64).toInt) (iu64_1 : (u 64).toInt ≤ 1000) : Met l yX12_trace (Cond.code yX12_trace cX12_trace 2 (some .int) :: gw) ({ frames := 0, cells := 0, slots := 0, locals := 0 }) (va_Pc [.ref (bd 0), .int p1] (XPre D (TY cs) (RW cs bd u b bw) A)) (vp_Si (fun (r : Int32) => (((0 ≤ p1.toInt ∧ p1.toInt < (u 64).toInt ∧ p1.toInt < 24) ∧ r = (b 65) p1.toNatClampNeg) ∨ (¬ (0 ≤ p1.toInt ∧ p1.toInt < (u 64).toInt ∧ p1.toInt < 24) ∧ r.toInt = -1)))) 0 0 (fun _ => False) := by
  refine Met.ofW (cc := cX12_trace) (maxL := 2) (ret := (some .int)) (by decide) rfl ?_
  intro p e s m args below meth c s₁ B hml hv
  obtain ⟨rfl, hP, hK, hD, hZ⟩ := hv
  have hx := B.exec
  have hb := B.bytes
  have hr := B.returns
  have hts := atoms_spec (ws := (Cond.code yX12_trace cX12_trace 2 (some .int) :: gw)) B.pre
  have hg : ∀ w ∈ gw, w.before ([.ref (bd 0), .int p1] : List Value).toArray s = true := fun w h => hts w (List.mem_cons_of_mem _ h)
  have hown : s.vm.findClass RX12 = some m.cls := findClass_of_methodNamed B.named
  have hlocks := B.notSynchronized
  have hS : va_S A s.heap s.heap [] := va_S.rf
  have hl := lv_entry ([.ref (bd 0), .int p1]) (n := 2) (Nat.le_of_ble_eq_true rfl)
  rw [lg_entry_eq]
  generalize (lg_sl ([.ref (bd 0), .int p1]) ++ List.replicate (2 - (lg_sl ([.ref (bd 0), .int p1])).length) Slot.unset).toArray = ls at hl ⊢
  have hl : lv_has ls 2 [(0, .ref (bd 0)), (1, .int p1)] := hl
  refine lv_iload_n hx hb dX12_trace_0 rfl (lv_at hl 1 rfl) ?_
  refine lv_if_lt (tgt := 27) hx hb dX12_trace_1 (by decide) (fun c_1 => ?_) (fun c_1 => ?_)
  ·
    have kc_1 : p1.toInt < (0 : Int) := i_lt c_1
    refine lv_iconst (v := (-1)) hx hb dX12_trace_27 (by decide) ?_
    have q0_m1 : ((-1) : Int32).toInt = (-1) := rfl
    exact W.iret (v := (-1)) hx hb hr (fun tt ht hW => ⟨(-1), rfl, (by first | exact Or.inl ⟨by omega, by simp only []⟩ | exact Or.inr ⟨by omega, by omega⟩), ht⟩) (fun _ h => by cases h) dX12_trace_28
  ·
    have kc_1 : (0 : Int) ≤ p1.toInt := i_nlt c_1
    refine lv_iload_n hx hb dX12_trace_4 rfl (lv_at hl 1 rfl) ?_
    refine lv_aload_n hx hb dX12_trace_5 rfl (lv_at hl 0 rfl) ?_
    refine gr_traces hx hb hg hown hK hP (x := (u 64)) rfl (hg _ q5_56) dX12_trace_6 ?_
    refine lv_icmp_ge (tgt := 27) hx hb dX12_trace_9 (by decide) (fun c_2 => ?_) (fun c_2 => ?_)
    ·
      have kc_2 : (u 64).toInt ≤ p1.toInt := i_le c_2
      refine lv_iconst (v := (-1)) hx hb dX12_trace_27 (by decide) ?_
      have q0_m1 : ((-1) : Int32).toInt = (-1) := rfl
      exact W.iret (v := (-1)) hx hb hr (fun tt ht hW => ⟨(-1), rfl, (by first | exact Or.inl ⟨by omega, by simp only []⟩ | exact Or.inr ⟨by omega, by omega⟩), ht⟩) (fun _ h => by cases h) dX12_trace_28
    ·
      have kc_2 : p1.toInt < (u 64).toInt := i_nle c_2
      refine lv_iload_n hx hb dX12_trace_12 rfl (lv_at hl 1 rfl) ?_
      refine lv_bipush (v := 24) hx hb dX12_trace_13 (by decide) ?_
      refine lv_icmp_ge (tgt := 27) hx hb dX12_trace_15 (by decide) (fun c_3 => ?_) (fun c_3 => ?_)
      ·
        have kc_3 : (24 : Int) ≤ p1.toInt := i_le c_3
        refine lv_iconst (v := (-1)) hx hb dX12_trace_27 (by decide) ?_
        have q0_m1 : ((-1) : Int32).toInt = (-1) := rfl
        exact W.iret (v := (-1)) hx hb hr (fun tt ht hW => ⟨(-1), rfl, (by first | exact Or.inl ⟨by omega, by simp only []⟩ | exact Or.inr ⟨by omega, by omega⟩), ht⟩) (fun _ h => by cases h) dX12_trace_28
      ·
        have kc_3 : p1.toInt < (24 : Int) := i_nle c_3
        refine lv_aload_n hx hb dX12_trace_18 rfl (lv_at hl 0 rfl) ?_
        refine gr_traced hx hb hg hown hK hP (hg _ q5_57) dX12_trace_19 ?_
        refine lv_iload_n hx hb dX12_trace_22 rfl (lv_at hl 1 rfl) ?_
        refine lr_traced hx hb hK hP (i_in (by omega) (by omega)) dX12_trace_23 ?_
        refine lv_topi (fun x_4 ex_4 => ?_)
        have ex_4 : x_4 = (b 65) p1.toNatClampNeg := ex_4
        have hx_4 : x_4.toInt = ((b 65) p1.toNatClampNeg).toInt := by rw [ex_4]
        refine lv_goto (tgt := 28) hx hb dX12_trace_24 (by decide) ?_
        exact W.iret (v := x_4) hx hb hr (fun tt ht hW => ⟨x_4, rfl, (by first | exact Or.inl ⟨by omega, by simp only [ex_4]⟩ | exact Or.inr ⟨by omega, by omega⟩), ht⟩) (fun _ h => by cases h) dX12_trace_28
set_option maxHeartbeats 4000000 in
set_option maxRecDepth 100000 in
theorem k_X12_body (l : Launch) (D : va_G) (cs : Nat → ClassId) (A : Nat → Prop) (bd : Nat → Nat) (u : Nat → Int32) (b : Nat → Nat → Int32) (bw : Nat → Nat → Int64)  (p1 : Int32) (iu62_0 : 0 ≤ (u 62).toInt) (iu62_1 : (u 62).toInt ≤ 50) (ib63_0 : AB 0 7 (b 63)) : Met l yX12_body (Cond.code yX12_body cX12_body 2 (some .int) :: gw) ({ frames := 1, cells := 0, slots := 0, locals := 22 }) (va_Pc [.ref (bd 0), .int p1] (XPre D (TY cs) (RW cs bd u b bw) A)) (va_Qi (fun (r : Int32) (z : Int32 × (Nat → Int32)) => (((0 ≤ p1.toInt ∧ p1.toInt ≤ 7) ∧ (u 62).toInt < 50 ∧ r.toInt = (u 62).toInt ∧ z.1.toInt = (u 62).toInt + 1) ∨ ((0 ≤ p1.toInt ∧ p1.toInt ≤ 7) ∧ (u 62).toInt = 50 ∧ r.toInt = -3 ∧ z.1.toInt = (u 62).toInt) ∨ (¬ (0 ≤ p1.toInt ∧ p1.toInt ≤ 7) ∧ r.toInt = -1 ∧ z.1.toInt = (u 62).toInt)) ∧ ((((0 ≤ p1.toInt ∧ p1.toInt ≤ 7) ∧ (u 62).toInt < 50) ∧ z.2 = upd (b 63) (u 62).toNatClampNeg p1) ∨ (¬ ((0 ≤ p1.toInt ∧ p1.toInt ≤ 7) ∧ (u 62).toInt < 50) ∧ z.2 = (b 63))) ∧ (0 ≤ z.1.toInt) ∧ (z.1.toInt ≤ 50) ∧ (AB 0 7 z.2)) (XPo D (fun (z : Int32 × (Nat → Int32)) => RW cs bd (va_up u 62 z.1) (va_up b 63 z.2) bw) A) A) 0 0 A := by
  refine Met.ofW (cc := cX12_body) (maxL := 2) (ret := (some .int)) (by decide) rfl ?_
  intro p e s m args below meth c s₁ B hml hv
  obtain ⟨rfl, hP, hK, hD, hZ⟩ := hv
  have hx := B.exec
  have hb := B.bytes
  have hr := B.returns
  have hts := atoms_spec (ws := (Cond.code yX12_body cX12_body 2 (some .int) :: gw)) B.pre
  have hg : ∀ w ∈ gw, w.before ([.ref (bd 0), .int p1] : List Value).toArray s = true := fun w h => hts w (List.mem_cons_of_mem _ h)
  have hown : s.vm.findClass RX12 = some m.cls := findClass_of_methodNamed B.named
  have hlocks := B.notSynchronized
  have hS : va_S A s.heap s.heap [] := va_S.rf
  have hP : va_P D vwCl (RW cs bd u b bw) s.heap := hP
  have hl := lv_entry ([.ref (bd 0), .int p1]) (n := 2) (Nat.le_of_ble_eq_true rfl)
  rw [lg_entry_eq]
  generalize (lg_sl ([.ref (bd 0), .int p1]) ++ List.replicate (2 - (lg_sl ([.ref (bd 0), .int p1])).length) Slot.unset).toArray = ls at hl ⊢
  have hl : lv_has ls 2 [(0, .ref (bd 0)), (1, .int p1)] := hl
  refine lv_iload_n hx hb dX12_body_0 rfl (lv_at hl 1 rfl) ?_
  refine lv_iconst (v := 0) hx hb dX12_body_1 (by decide) ?_
  refine lv_bipush (v := 7) hx hb dX12_body_2 (by decide) ?_
  refine cS_p (As := [.int p1, .int 0, .int 7]) (rest := []) ⟨hx, hb, hml, hown, hg⟩ (k_X12_in l   p1 0 7 ) ca_X12_in q5_212 ⟨rfl, rfl⟩ ⟨Nat.le_of_ble_eq_true rfl, Nat.le_of_ble_eq_true rfl⟩ rfl hl.1 rfl (Nat.le_of_ble_eq_true rfl) ⟨Nat.zero_le _, Nat.zero_le _⟩ dX12_body_4 (fun r_1 wr_1 => ?_)
  have wr_1 : (r_1.toInt = 1 ∧ (0 : Int) ≤ p1.toInt ∧ p1.toInt ≤ (7 : Int)) ∨ (r_1.toInt = 0 ∧ ¬ ((0 : Int) ≤ p1.toInt ∧ p1.toInt ≤ (7 : Int))) := wr_1
  refine lv_if_ne (tgt := 12) hx hb dX12_body_7 (by decide) (fun c_2 => ?_) (fun c_2 => ?_)
  ·
    have kc_2 : r_1.toInt ≠ (0 : Int) := i_ne c_2
    refine lv_aload_n hx hb dX12_body_12 rfl (lv_at hl 0 rfl) ?_
    refine gr_bodies hx hb hg hown hK hP (x := (u 62)) rfl (hg _ q5_54) dX12_body_13 ?_
    refine lv_bipush (v := 50) hx hb dX12_body_16 (by decide) ?_
    refine lv_icmp_ne (tgt := 24) hx hb dX12_body_18 (by decide) (fun c_3 => ?_) (fun c_3 => ?_)
    ·
      have kc_3 : (u 62).toInt ≠ (50 : Int) := i_ne c_3
      refine lv_aload_n hx hb dX12_body_24 rfl (lv_at hl 0 rfl) ?_
      refine gr_kind hx hb hg hown hK hP (hg _ q5_55) dX12_body_25 ?_
      refine lv_aload_n hx hb dX12_body_28 rfl (lv_at hl 0 rfl) ?_
      refine gr_bodies hx hb hg hown hK hP (x := (u 62)) rfl (hg _ q5_54) dX12_body_29 ?_
      refine lv_iload_n hx hb dX12_body_32 rfl (lv_at hl 1 rfl) ?_
      refine sr_kind hx hb hK hP hD hS (i_in (by omega) (by omega)) dX12_body_33 (fun H locs hP hD hS => ?_)
      have hab_4 : AB 0 7 (upd (b 63) (u 62).toNatClampNeg p1) := AB_upd ib63_0 (by omega) (by omega)
      refine lv_aload_n hx hb dX12_body_34 rfl (lv_at hl 0 rfl) ?_
      refine lv_dup hx hb dX12_body_35 rfl ?_
      refine gr_bodies hx hb hg hown hK hP (x := (u 62)) rfl (hg _ q5_54) dX12_body_36 ?_
      refine lv_iconst (v := 1) hx hb dX12_body_39 (by decide) ?_
      refine lv_iadd hx hb dX12_body_40 ?_
      refine lv_topi (fun x_5 ex_5 => ?_)
      have fx_5 : x_5.toInt = (u 62).toInt + (1 : Int) := by rw [ex_5]; exact i_add (by first | omega | (show (_ : Int) ≤ (u 62).toInt + (1 : Int); omega)) (by first | omega | (show (u 62).toInt + (1 : Int) ≤ (_ : Int); omega))
      refine pr_bodies hx hb hg hown hK hP hD hS (hg _ q5_54) dX12_body_41 (fun H locs hP hD hS => ?_)
      refine lv_aload_n hx hb dX12_body_44 rfl (lv_at hl 0 rfl) ?_
      refine gr_bodies hx hb hg hown hK hP (x := x_5) rfl (hg _ q5_54) dX12_body_45 ?_
      refine lv_iconst (v := 1) hx hb dX12_body_48 (by decide) ?_
      refine lv_isub hx hb dX12_body_49 ?_
      refine lv_topi (fun x_6 ex_6 => ?_)
      have fx_6 : x_6.toInt = x_5.toInt - (1 : Int) := by rw [ex_6]; exact i_sub (by first | omega | (show (_ : Int) ≤ x_5.toInt - (1 : Int); omega)) (by first | omega | (show x_5.toInt - (1 : Int) ≤ (_ : Int); omega))
      exact W.iret (v := x_6) hx hb hr (fun tt ht hW => ⟨⟨x_6, ⟨x_5, (upd (b 63) (u 62).toNatClampNeg p1)⟩, rfl, ⟨(by first | rfl | omega | trivial | assumption | (dsimp only; first | omega | assumption)), (by (try dsimp only); first | exact Or.inl ⟨by omega, by first | rfl | assumption⟩ | exact Or.inr ⟨by omega, by first | rfl | assumption⟩ | (exfalso; omega) | (rcases wr_1_1 with ⟨q1, q2⟩ | ⟨q1, q2⟩ <;> first | exact Or.inl ⟨by omega, q2⟩ | exact Or.inr ⟨by omega, q2⟩)), (show 0 ≤ x_5.toInt by first | omega | assumption), (show x_5.toInt ≤ 50 by first | omega | assumption), hab_4⟩, by rw [ht]; exact hP, hD⟩, hS.F ht⟩) hS.2.2 dX12_body_50
    ·
      have kc_3 : (u 62).toInt = (50 : Int) := i_eq c_3
      refine lv_bipush (v := (-3)) hx hb dX12_body_21 (by decide) ?_
      have q0_m3 : ((-3) : Int32).toInt = (-3) := rfl
      have hP : va_P D vwCl (RW cs bd (va_up u 62 (u 62)) (va_up b 63 (b 63)) bw) _ := hP
      have hD : va_D A (RW cs bd (va_up u 62 (u 62)) (va_up b 63 (b 63)) bw) := hD
      exact W.iret (v := (-3)) hx hb hr (fun tt ht hW => ⟨⟨(-3), ⟨(u 62), (b 63)⟩, rfl, ⟨(by first | rfl | omega | trivial | assumption | (dsimp only; first | omega | assumption)), (by (try dsimp only); first | exact Or.inl ⟨by omega, by first | rfl | assumption⟩ | exact Or.inr ⟨by omega, by first | rfl | assumption⟩ | (exfalso; omega) | (rcases wr_1_1 with ⟨q1, q2⟩ | ⟨q1, q2⟩ <;> first | exact Or.inl ⟨by omega, q2⟩ | exact Or.inr ⟨by omega, q2⟩)), (show 0 ≤ (u 62).toInt by first | omega | assumption), (show (u 62).toInt ≤ 50 by first | omega | assumption), ib63_0⟩, by rw [ht]; exact hP, hD⟩, hS.F ht⟩) hS.2.2 dX12_body_23
  ·
    have kc_2 : r_1.toInt = (0 : Int) := i_eq c_2
    refine lv_iconst (v := (-1)) hx hb dX12_body_10 (by decide) ?_
    have q0_m1 : ((-1) : Int32).toInt = (-1) := rfl
    have hP : va_P D vwCl (RW cs bd (va_up u 62 (u 62)) (va_up b 63 (b 63)) bw) _ := hP
    have hD : va_D A (RW cs bd (va_up u 62 (u 62)) (va_up b 63 (b 63)) bw) := hD
    exact W.iret (v := (-1)) hx hb hr (fun tt ht hW => ⟨⟨(-1), ⟨(u 62), (b 63)⟩, rfl, ⟨(by first | rfl | omega | trivial | assumption | (dsimp only; first | omega | assumption)), (by (try dsimp only); first | exact Or.inl ⟨by omega, by first | rfl | assumption⟩ | exact Or.inr ⟨by omega, by first | rfl | assumption⟩ | (exfalso; omega) | (rcases wr_1_1 with ⟨q1, q2⟩ | ⟨q1, q2⟩ <;> first | exact Or.inl ⟨by omega, q2⟩ | exact Or.inr ⟨by omega, q2⟩)), (show 0 ≤ (u 62).toInt by first | omega | assumption), (show (u 62).toInt ≤ 50 by first | omega | assumption), ib63_0⟩, by rw [ht]; exact hP, hD⟩, hS.F ht⟩) hS.2.2 dX12_body_11
set_option maxHeartbeats 4000000 in
set_option maxRecDepth 100000 in
theorem k_X12_keep (l : Launch) (D : va_G) (cs : Nat → ClassId) (A : Nat → Prop) (bd : Nat → Nat) (u : Nat → Int32) (b : Nat → Nat → Int32) (bw : Nat → Nat → Int64)  (p1 : Int32) (p2 : Int32) (ib66_0 : AB (-6) 49 (b 66)) (iu62_0 : 0 ≤ (u 62).toInt) (iu62_1 : (u 62).toInt ≤ 50) : Met l yX12_keep (Cond.code yX12_keep cX12_keep 3 (some .int) :: gw) ({ frames := 2, cells := 0, slots := 0, locals := 43 }) (va_Pc [.ref (bd 0), .int p1, .int p2] (XPre D (TY cs) (RW cs bd u b bw) A)) (va_Qi (fun (r : Int32) (z : Nat → Int32) => ((((0 ≤ p1.toInt ∧ p1.toInt < 6) ∧ (p2.toInt = -1 ∨ (0 ≤ p2.toInt ∧ p2.toInt < (u 62).toInt))) ∧ r.toInt = 1) ∨ (¬ ((0 ≤ p1.toInt ∧ p1.toInt < 6) ∧ (p2.toInt = -1 ∨ (0 ≤ p2.toInt ∧ p2.toInt < (u 62).toInt))) ∧ r.toInt = -1)) ∧ (r.toInt = 1 → z = upd (b 66) p1.toNatClampNeg p2) ∧ (r.toInt ≠ 1 → z = (b 66)) ∧ (AB (-6) 49 z)) (XPo D (fun (z : Nat → Int32) => RW cs bd u (va_up b 66 z) bw) A) A) 0 0 A := by
  refine Met.ofW (cc := cX12_keep) (maxL := 3) (ret := (some .int)) (by decide) rfl ?_
  intro p e s m args below meth c s₁ B hml hv
  obtain ⟨rfl, hP, hK, hD, hZ⟩ := hv
  have hx := B.exec
  have hb := B.bytes
  have hr := B.returns
  have hts := atoms_spec (ws := (Cond.code yX12_keep cX12_keep 3 (some .int) :: gw)) B.pre
  have hg : ∀ w ∈ gw, w.before ([.ref (bd 0), .int p1, .int p2] : List Value).toArray s = true := fun w h => hts w (List.mem_cons_of_mem _ h)
  have hown : s.vm.findClass RX12 = some m.cls := findClass_of_methodNamed B.named
  have hlocks := B.notSynchronized
  have hS : va_S A s.heap s.heap [] := va_S.rf
  have hP : va_P D vwCl (RW cs bd u b bw) s.heap := hP
  have hl := lv_entry ([.ref (bd 0), .int p1, .int p2]) (n := 3) (Nat.le_of_ble_eq_true rfl)
  rw [lg_entry_eq]
  generalize (lg_sl ([.ref (bd 0), .int p1, .int p2]) ++ List.replicate (3 - (lg_sl ([.ref (bd 0), .int p1, .int p2])).length) Slot.unset).toArray = ls at hl ⊢
  have hl : lv_has ls 3 [(0, .ref (bd 0)), (1, .int p1), (2, .int p2)] := hl
  refine lv_iload_n hx hb dX12_keep_0 rfl (lv_at hl 1 rfl) ?_
  refine cS_p (As := [.int p1]) (rest := []) ⟨hx, hb, hml, hown, hg⟩ (k_X12_isShelf l   p1 ) ca_X12_isShelf q5_223 ⟨rfl, rfl⟩ ⟨Nat.le_of_ble_eq_true rfl, Nat.le_of_ble_eq_true rfl⟩ rfl hl.1 rfl (Nat.le_of_ble_eq_true rfl) ⟨Nat.zero_le _, Nat.zero_le _⟩ dX12_keep_1 (fun r_1 wr_1 => ?_)
  have wr_1 : (r_1.toInt = 1 ∧ 0 ≤ p1.toInt ∧ p1.toInt < 6) ∨ (r_1.toInt = 0 ∧ ¬ (0 ≤ p1.toInt ∧ p1.toInt < 6)) := wr_1
  refine lv_if_eq (tgt := 20) hx hb dX12_keep_4 (by decide) (fun c_2 => ?_) (fun c_2 => ?_)
  ·
    have kc_2 : r_1.toInt = (0 : Int) := i_eq c_2
    refine lv_iconst (v := (-1)) hx hb dX12_keep_20 (by decide) ?_
    have q0_m1 : ((-1) : Int32).toInt = (-1) := rfl
    have hP : va_P D vwCl (RW cs bd u (va_up b 66 (b 66)) bw) _ := hP
    have hD : va_D A (RW cs bd u (va_up b 66 (b 66)) bw) := hD
    exact W.iret (v := (-1)) hx hb hr (fun tt ht hW => ⟨⟨(-1), (b 66), rfl, ⟨(by first | rfl | omega | trivial | assumption | (dsimp only; first | omega | assumption)), (fun q => absurd q (by decide)), (fun _ => rfl), ib66_0⟩, by rw [ht]; exact hP, hD⟩, hS.F ht⟩) hS.2.2 dX12_keep_21
  ·
    have kc_2 : r_1.toInt ≠ (0 : Int) := i_ne c_2
    refine lv_iload_n hx hb dX12_keep_7 rfl (lv_at hl 2 rfl) ?_
    refine lv_iconst (v := (-1)) hx hb dX12_keep_8 (by decide) ?_
    refine lv_icmp_eq (tgt := 22) hx hb dX12_keep_9 (by decide) (fun c_3 => ?_) (fun c_3 => ?_)
    ·
      have kc_3 : p2.toInt = (-1 : Int) := i_eq c_3
      refine lv_aload_n hx hb dX12_keep_22 rfl (lv_at hl 0 rfl) ?_
      refine gr_holds hx hb hg hown hK hP (hg _ q5_58) dX12_keep_23 ?_
      refine lv_iload_n hx hb dX12_keep_26 rfl (lv_at hl 1 rfl) ?_
      refine lv_iload_n hx hb dX12_keep_27 rfl (lv_at hl 2 rfl) ?_
      refine sr_holds hx hb hK hP hD hS (i_in (by omega) (by omega)) dX12_keep_28 (fun H locs hP hD hS => ?_)
      have hab_4 : AB (-6) 49 (upd (b 66) p1.toNatClampNeg p2) := AB_upd ib66_0 (by omega) (by omega)
      refine lv_iconst (v := 1) hx hb dX12_keep_29 (by decide) ?_
      have q0_1 : (1 : Int32).toInt = 1 := rfl
      exact W.iret (v := 1) hx hb hr (fun tt ht hW => ⟨⟨1, (upd (b 66) p1.toNatClampNeg p2), rfl, ⟨(by first | rfl | omega | trivial | assumption | (dsimp only; first | omega | assumption)), (fun _ => rfl), (fun q => absurd rfl q), hab_4⟩, by rw [ht]; exact hP, hD⟩, hS.F ht⟩) hS.2.2 dX12_keep_30
    ·
      have kc_3 : p2.toInt ≠ (-1 : Int) := i_ne c_3
      refine lv_aload_n hx hb dX12_keep_12 rfl (lv_at hl 0 rfl) ?_
      refine lv_iload_n hx hb dX12_keep_13 rfl (lv_at hl 2 rfl) ?_
      refine cV_ro (As := [.int p2]) (rest := []) ⟨hx, hb, hml, hown, hg⟩ (k_X12_isBody l D cs A bd u b bw  p2 (show 0 ≤ (u 62).toInt by first | omega | decide) (show (u 62).toInt ≤ 50 by first | omega | decide)) ca_X12_isBody q7_44 ⟨rfl, rfl⟩ ⟨Nat.le_of_ble_eq_true rfl, Nat.le_of_ble_eq_true rfl⟩ (rc_model hK hP) hK hP hD hS hZ rfl hl.1 rfl (Nat.le_of_ble_eq_true rfl) ⟨Nat.zero_le _, Nat.zero_le _⟩ dX12_keep_14 (fun r_5 wr_5 => ?_)
      have wr_5_0 : (r_5.toInt = 1 ∧ 0 ≤ p2.toInt ∧ p2.toInt < (u 62).toInt) ∨ (r_5.toInt = 0 ∧ ¬ (0 ≤ p2.toInt ∧ p2.toInt < (u 62).toInt)) := wr_5
      refine lv_if_ne (tgt := 22) hx hb dX12_keep_17 (by decide) (fun c_6 => ?_) (fun c_6 => ?_)
      ·
        have kc_6 : r_5.toInt ≠ (0 : Int) := i_ne c_6
        refine lv_aload_n hx hb dX12_keep_22 rfl (lv_at hl 0 rfl) ?_
        refine gr_holds hx hb hg hown hK hP (hg _ q5_58) dX12_keep_23 ?_
        refine lv_iload_n hx hb dX12_keep_26 rfl (lv_at hl 1 rfl) ?_
        refine lv_iload_n hx hb dX12_keep_27 rfl (lv_at hl 2 rfl) ?_
        refine sr_holds hx hb hK hP hD hS (i_in (by omega) (by omega)) dX12_keep_28 (fun H locs hP hD hS => ?_)
        have hab_7 : AB (-6) 49 (upd (b 66) p1.toNatClampNeg p2) := AB_upd ib66_0 (by omega) (by omega)
        refine lv_iconst (v := 1) hx hb dX12_keep_29 (by decide) ?_
        have q0_1 : (1 : Int32).toInt = 1 := rfl
        exact W.iret (v := 1) hx hb hr (fun tt ht hW => ⟨⟨1, (upd (b 66) p1.toNatClampNeg p2), rfl, ⟨(by first | rfl | omega | trivial | assumption | (dsimp only; first | omega | assumption)), (fun _ => rfl), (fun q => absurd rfl q), hab_7⟩, by rw [ht]; exact hP, hD⟩, hS.F ht⟩) hS.2.2 dX12_keep_30
      ·
        have kc_6 : r_5.toInt = (0 : Int) := i_eq c_6
        refine lv_iconst (v := (-1)) hx hb dX12_keep_20 (by decide) ?_
        have q0_m1 : ((-1) : Int32).toInt = (-1) := rfl
        have hP : va_P D vwCl (RW cs bd u (va_up b 66 (b 66)) bw) _ := hP
        have hD : va_D A (RW cs bd u (va_up b 66 (b 66)) bw) := hD
        exact W.iret (v := (-1)) hx hb hr (fun tt ht hW => ⟨⟨(-1), (b 66), rfl, ⟨(by first | rfl | omega | trivial | assumption | (dsimp only; first | omega | assumption)), (fun q => absurd q (by decide)), (fun _ => rfl), ib66_0⟩, by rw [ht]; exact hP, hD⟩, hS.F ht⟩) hS.2.2 dX12_keep_21
