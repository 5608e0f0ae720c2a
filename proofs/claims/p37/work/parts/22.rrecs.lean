def C_X12_goOrders (n : Nat) : Prop := ∀ (l : Launch) (D : va_G) (cs : Nat → ClassId) (A : Nat → Prop) (bd : Nat → Nat) (u : Nat → Int32) (b : Nat → Nat → Int32) (bw : Nat → Nat → Int64)  (p1 : Int32) (p2 : Int32) (p3 : Int32) (p4 : Int32) (h1 : 0 ≤ p1.toInt) (h2 : p1.toInt < 6) (hk0 : 0 ≤ p2.toInt) (hk1 : p2.toInt ≤ (u 41).toInt) (ho7 : (u 41).toInt ≤ 7) (hdn : 7 ≤ p2.toInt + (n : Int)) (hlk : LOKD (u 41) (bw 68) p1 (u 1)) (hlaw : LAWOK (b 20) (b 21) (b 22) (b 23) (b 24)) (iu41_0 : 0 ≤ (u 41).toInt) (iu41_1 : (u 41).toInt ≤ 24) (iu1_0 : 0 ≤ (u 1).toInt) (iu1_1 : (u 1).toInt ≤ 8) (iu29_0 : -1 ≤ (u 29).toInt) (iu29_1 : (u 29).toInt < (u 1).toInt) (ib23_0 : AB (-32768) 32767 (b 23)) (ib24_0 : AB (-32768) 32767 (b 24)) (ib20_0 : AB (-128) 127 (b 20)), Met l yX12_goOrders (Cond.code yX12_goOrders cX12_goOrders 12 none :: gw) ({ frames := 2 * n + 8, cells := 0, slots := 0, locals := 100 * n + 300 }) (va_Pc [.ref (bd 0), .int p1, .int p2, .int p3, .int p4] (XPre D (TY cs) (RW cs bd u b bw) A)) (va_Qv (fun (z : Int32 × Int32 × (Nat → Int32) × Int32 × Int32 × Int32 × Int32 × Int32 × Int32 × (Nat → Int32) × (Nat → Int32) × (Nat → Int32) × (Nat → Int32)) => (-1 ≤ z.2.2.2.2.2.2.1.toInt) ∧ (z.2.2.2.2.2.2.1.toInt < (u 1).toInt)) (XPo D (fun (z : Int32 × Int32 × (Nat → Int32) × Int32 × Int32 × Int32 × Int32 × Int32 × Int32 × (Nat → Int32) × (Nat → Int32) × (Nat → Int32) × (Nat → Int32)) => RW cs bd (va_up (va_up (va_up (va_up (va_up (va_up (va_up (va_up u 43 z.1) 42 z.2.1) 33 z.2.2.2.1) 34 z.2.2.2.2.1) 28 z.2.2.2.2.2.1) 29 z.2.2.2.2.2.2.1) 30 z.2.2.2.2.2.2.2.1) 31 z.2.2.2.2.2.2.2.2.1) (va_up (va_up (va_up (va_up (va_up b 40 z.2.2.1) 39 z.2.2.2.2.2.2.2.2.2.1) 32 z.2.2.2.2.2.2.2.2.2.2.1) 25 z.2.2.2.2.2.2.2.2.2.2.2.1) 26 z.2.2.2.2.2.2.2.2.2.2.2.2) bw) A) A) 0 0 A
set_option maxHeartbeats 4000000 in
set_option maxRecDepth 100000 in
theorem s_X12_goOrders (n : Nat) (hrec : ∀ k, k + 1 = n → C_X12_goOrders k) : C_X12_goOrders n := by
  intro l D cs A bd u b bw p1 p2 p3 p4 h1 h2 hk0 hk1 ho7 hdn hlk hlaw iu41_0 iu41_1 iu1_0 iu1_1 iu29_0 iu29_1 ib23_0 ib24_0 ib20_0
  refine Met.ofW (cc := cX12_goOrders) (maxL := 12) (ret := none) (by decide) rfl ?_
  intro p e s m args below meth c s₁ B hml hv
  obtain ⟨rfl, hP, hK, hD, hZ⟩ := hv
  have hx := B.exec
  have hb := B.bytes
  have hr := B.returns
  have hts := atoms_spec (ws := (Cond.code yX12_goOrders cX12_goOrders 12 none :: gw)) B.pre
  have hg : ∀ w ∈ gw, w.before ([.ref (bd 0), .int p1, .int p2, .int p3, .int p4] : List Value).toArray s = true := fun w h => hts w (List.mem_cons_of_mem _ h)
  have hown : s.vm.findClass RX12 = some m.cls := findClass_of_methodNamed B.named
  have hlocks := B.notSynchronized
  have hS : va_S A s.heap s.heap [] := va_S.rf
  have hP : va_P D vwCl (RW cs bd u b bw) s.heap := hP
  have hl := lv_entry ([.ref (bd 0), .int p1, .int p2, .int p3, .int p4]) (n := 12) (Nat.le_of_ble_eq_true rfl)
  rw [lg_entry_eq]
  generalize (lg_sl ([.ref (bd 0), .int p1, .int p2, .int p3, .int p4]) ++ List.replicate (12 - (lg_sl ([.ref (bd 0), .int p1, .int p2, .int p3, .int p4])).length) Slot.unset).toArray = ls at hl ⊢
  have hl : lv_has ls 12 [(0, .ref (bd 0)), (1, .int p1), (2, .int p2), (3, .int p3), (4, .int p4)] := hl
  have hcut : ∀ nk : Nat, (∀ (x5 : Int32) (c49_b40 : Nat → Int32) (c49_u42 : Int32) (c49_u43 : Int32) (H : Heap) (locs : List Loc) (hk2 : 0 ≤ p2.toInt) (hk7 : p2.toInt ≤ 7) (i5 : 0 ≤ x5.toInt) (hmu : (p2.toInt - x5.toInt).toNat < nk) (hP : va_P D vwCl (RW cs bd (va_up (va_up u 42 c49_u42) 43 c49_u43) (va_up b 40 c49_b40) bw) H) (hD : va_D A (RW cs bd (va_up (va_up u 42 c49_u42) 43 c49_u43) (va_up b 40 c49_b40) bw)) (hS : va_S A s.heap H locs) (ls : Array Slot) (hl : lv_has ls 12 [(0, .ref (bd 0)), (2, .int p2), (5, .int x5)]), W p l e (headSpec (Cond.code yX12_goOrders cX12_goOrders 12 none :: gw) ({ frames := 2 * n + 8, cells := 0, slots := 0, locals := 100 * n + 300 })).room s m ([.ref (bd 0), .int p1, .int p2, .int p3, .int p4] : List Value).toArray below meth c H locs 0 0 (MQ below (va_Qv (fun (z : Int32 × Int32 × (Nat → Int32) × Int32 × Int32 × Int32 × Int32 × Int32 × Int32 × (Nat → Int32) × (Nat → Int32) × (Nat → Int32) × (Nat → Int32)) => (-1 ≤ z.2.2.2.2.2.2.1.toInt) ∧ (z.2.2.2.2.2.2.1.toInt < (u 1).toInt)) (XPo D (fun (z : Int32 × Int32 × (Nat → Int32) × Int32 × Int32 × Int32 × Int32 × Int32 × Int32 × (Nat → Int32) × (Nat → Int32) × (Nat → Int32) × (Nat → Int32)) => RW cs bd (va_up (va_up (va_up (va_up (va_up (va_up (va_up (va_up u 43 z.1) 42 z.2.1) 33 z.2.2.2.1) 34 z.2.2.2.2.1) 28 z.2.2.2.2.2.1) 29 z.2.2.2.2.2.2.1) 30 z.2.2.2.2.2.2.2.1) 31 z.2.2.2.2.2.2.2.2.1) (va_up (va_up (va_up (va_up (va_up b 40 z.2.2.1) 39 z.2.2.2.2.2.2.2.2.2.1) 32 z.2.2.2.2.2.2.2.2.2.2.1) 25 z.2.2.2.2.2.2.2.2.2.2.2.1) 26 z.2.2.2.2.2.2.2.2.2.2.2.2) bw) A) A) ([.ref (bd 0), .int p1, .int p2, .int p3, .int p4] : List Value).toArray s 0 0 A) (F0 m 49 ls [])) ∧ (∀ (x5 : Int32) (x6 : Int32) (x7 : Int32) (x8 : Int32) (x9 : Int32) (c103_u33 : Int32) (c103_u34 : Int32) (c103_u28 : Int32) (c103_u29 : Int32) (c103_u30 : Int32) (c103_u31 : Int32) (c103_b39 : Nat → Int32) (c103_b32 : Nat → Int32) (c103_b25 : Nat → Int32) (c103_b26 : Nat → Int32) (c103_u43 : Int32) (c103_u42 : Int32) (c103_b40 : Nat → Int32) (H : Heap) (locs : List Loc) (hk6 : p2.toInt < (u 41).toInt) (i6 : -1 ≤ x6.toInt) (i6b : x6.toInt < (u 1).toInt) (i9 : 0 ≤ x9.toInt) (ju29_0 : -1 ≤ c103_u29.toInt) (ju29_1 : c103_u29.toInt < (u 1).toInt) (hmu : 100 + ((u 41).toInt - x9.toInt).toNat < nk) (hP : va_P D vwCl (RW cs bd (va_up (va_up (va_up (va_up (va_up (va_up (va_up (va_up u 33 c103_u33) 34 c103_u34) 28 c103_u28) 29 c103_u29) 30 c103_u30) 31 c103_u31) 43 c103_u43) 42 c103_u42) (va_up (va_up (va_up (va_up (va_up b 39 c103_b39) 32 c103_b32) 25 c103_b25) 26 c103_b26) 40 c103_b40) bw) H) (hD : va_D A (RW cs bd (va_up (va_up (va_up (va_up (va_up (va_up (va_up (va_up u 33 c103_u33) 34 c103_u34) 28 c103_u28) 29 c103_u29) 30 c103_u30) 31 c103_u31) 43 c103_u43) 42 c103_u42) (va_up (va_up (va_up (va_up (va_up b 39 c103_b39) 32 c103_b32) 25 c103_b25) 26 c103_b26) 40 c103_b40) bw)) (hS : va_S A s.heap H locs) (ls : Array Slot) (hl : lv_has ls 12 [(0, .ref (bd 0)), (1, .int p1), (2, .int p2), (3, .int p3), (4, .int p4), (5, .int x5), (6, .int x6), (7, .int x7), (8, .int x8), (9, .int x9)]), W p l e (headSpec (Cond.code yX12_goOrders cX12_goOrders 12 none :: gw) ({ frames := 2 * n + 8, cells := 0, slots := 0, locals := 100 * n + 300 })).room s m ([.ref (bd 0), .int p1, .int p2, .int p3, .int p4] : List Value).toArray below meth c H locs 0 0 (MQ below (va_Qv (fun (z : Int32 × Int32 × (Nat → Int32) × Int32 × Int32 × Int32 × Int32 × Int32 × Int32 × (Nat → Int32) × (Nat → Int32) × (Nat → Int32) × (Nat → Int32)) => (-1 ≤ z.2.2.2.2.2.2.1.toInt) ∧ (z.2.2.2.2.2.2.1.toInt < (u 1).toInt)) (XPo D (fun (z : Int32 × Int32 × (Nat → Int32) × Int32 × Int32 × Int32 × Int32 × Int32 × Int32 × (Nat → Int32) × (Nat → Int32) × (Nat → Int32) × (Nat → Int32)) => RW cs bd (va_up (va_up (va_up (va_up (va_up (va_up (va_up (va_up u 43 z.1) 42 z.2.1) 33 z.2.2.2.1) 34 z.2.2.2.2.1) 28 z.2.2.2.2.2.1) 29 z.2.2.2.2.2.2.1) 30 z.2.2.2.2.2.2.2.1) 31 z.2.2.2.2.2.2.2.2.1) (va_up (va_up (va_up (va_up (va_up b 40 z.2.2.1) 39 z.2.2.2.2.2.2.2.2.2.1) 32 z.2.2.2.2.2.2.2.2.2.2.1) 25 z.2.2.2.2.2.2.2.2.2.2.2.1) 26 z.2.2.2.2.2.2.2.2.2.2.2.2) bw) A) A) ([.ref (bd 0), .int p1, .int p2, .int p3, .int p4] : List Value).toArray s 0 0 A) (F0 m 103 ls [])) := by
    intro nk
    induction nk with
    | zero => exact ⟨(fun x5 c49_b40 c49_u42 c49_u43 H locs hk2 hk7 i5 hmu hP hD hS ls hl => absurd hmu (Nat.not_lt_zero _)), (fun x5 x6 x7 x8 x9 c103_u33 c103_u34 c103_u28 c103_u29 c103_u30 c103_u31 c103_b39 c103_b32 c103_b25 c103_b26 c103_u43 c103_u42 c103_b40 H locs hk6 i6 i6b i9 ju29_0 ju29_1 hmu hP hD hS ls hl => absurd hmu (Nat.not_lt_zero _))⟩
    | succ nk ih =>
      refine ⟨?_, ?_⟩
      ·
        intro x5 c49_b40 c49_u42 c49_u43 H locs hk2 hk7 i5 hmu hP hD hS ls hl
        refine lv_iload hx hb dX12_goOrders_49 (lv_at hl 2 rfl) ?_
        refine lv_iload_n hx hb dX12_goOrders_51 rfl (lv_at hl 1 rfl) ?_
        refine lv_icmp_ge (tgt := 75) hx hb dX12_goOrders_52 (by decide) (fun c_1 => ?_) (fun c_1 => ?_)
        ·
          have kc_1 : p2.toInt ≤ x5.toInt := i_le c_1
          have hP : va_P D vwCl (RW cs bd (va_up (va_up (va_up (va_up (va_up (va_up (va_up (va_up u 43 c49_u43) 42 c49_u42) 33 (u 33)) 34 (u 34)) 28 (u 28)) 29 (u 29)) 30 (u 30)) 31 (u 31)) (va_up (va_up (va_up (va_up (va_up b 40 c49_b40) 39 (b 39)) 32 (b 32)) 25 (b 25)) 26 (b 26)) bw) _ := hP
          have hD : va_D A (RW cs bd (va_up (va_up (va_up (va_up (va_up (va_up (va_up (va_up u 43 c49_u43) 42 c49_u42) 33 (u 33)) 34 (u 34)) 28 (u 28)) 29 (u 29)) 30 (u 30)) 31 (u 31)) (va_up (va_up (va_up (va_up (va_up b 40 c49_b40) 39 (b 39)) 32 (b 32)) 25 (b 25)) 26 (b 26)) bw) := hD
          exact W.vret hx hb hr (fun tt ht hW => ⟨⟨⟨c49_u43, c49_u42, c49_b40, (u 33), (u 34), (u 28), (u 29), (u 30), (u 31), (b 39), (b 32), (b 25), (b 26)⟩, rfl, ⟨(show -1 ≤ (u 29).toInt by first | omega | assumption), (show (u 29).toInt < (u 1).toInt by first | omega | assumption)⟩, by rw [ht]; exact hP, hD⟩, hS.F ht⟩) hS.2.2 dX12_goOrders_75
        ·
          have kc_1 : x5.toInt < p2.toInt := i_nle c_1
          refine lv_aload_n hx hb dX12_goOrders_55 rfl (lv_at hl 0 rfl) ?_
          refine gr_bestPlaced hx hb hg hown hK hP (hg _ q5_32) dX12_goOrders_56 ?_
          refine lv_iload hx hb dX12_goOrders_59 (lv_at hl 2 rfl) ?_
          refine lv_aload_n hx hb dX12_goOrders_61 rfl (lv_at hl 0 rfl) ?_
          refine gr_placed hx hb hg hown hK hP (hg _ q5_31) dX12_goOrders_62 ?_
          refine lv_iload hx hb dX12_goOrders_65 (lv_at hl 2 rfl) ?_
          refine lr_placed hx hb hK hP (i_in (by omega) (by omega)) dX12_goOrders_67 ?_
          refine lv_topi (fun x_2 ex_2 => ?_)
          have ex_2 : x_2 = (b 39) x5.toNatClampNeg := ex_2
          have hx_2 : x_2.toInt = ((b 39) x5.toNatClampNeg).toInt := by rw [ex_2]
          refine sr_bestPlaced hx hb hK hP hD hS (i_in (by omega) (by omega)) dX12_goOrders_68 (fun H locs hP hD hS => ?_)
          obtain ⟨x_3, ex_3⟩ : ∃ y : Int32, y = x5 + 1 := ⟨_, rfl⟩
          have fx_3 : x_3.toInt = x5.toInt + 1 := by rw [ex_3]; exact i_add (by first | omega | (show (_ : Int) ≤ x5.toInt + 1; omega)) (by first | omega | (show x5.toInt + 1 ≤ (_ : Int); omega))
          refine lv_iinc (v := x_3) (lv' := [(5, .int x_3), (0, .ref (bd 0)), (2, .int p2)]) hx hb dX12_goOrders_69 hl (k := 2) rfl (by rw [ex_3]; rfl) (by decide) rfl (fun ls hl => ?_)
          refine lv_goto (tgt := 49) hx hb dX12_goOrders_72 (by decide) ?_
          exact ih.1 x_3 (upd c49_b40 x5.toNatClampNeg x_2) c49_u42 c49_u43 _ _ (by omega) (by omega) (by omega) (by omega) hP hD hS ls (lv_sub hl [1, 2, 0] rfl)
      ·
        intro x5 x6 x7 x8 x9 c103_u33 c103_u34 c103_u28 c103_u29 c103_u30 c103_u31 c103_b39 c103_b32 c103_b25 c103_b26 c103_u43 c103_u42 c103_b40 H locs hk6 i6 i6b i9 ju29_0 ju29_1 hmu hP hD hS ls hl
        refine lv_iload hx hb dX12_goOrders_103 (lv_at hl 9 rfl) ?_
        refine lv_aload_n hx hb dX12_goOrders_105 rfl (lv_at hl 0 rfl) ?_
        refine gr_ordersMany hx hb hg hown hK hP (x := (u 41)) rfl (hg _ q5_33) dX12_goOrders_106 ?_
        refine lv_icmp_ge (tgt := 256) hx hb dX12_goOrders_109 (by decide) (fun c_4 => ?_) (fun c_4 => ?_)
        ·
          have kc_4 : (u 41).toInt ≤ x9.toInt := i_le c_4
          have hP : va_P D vwCl (RW cs bd (va_up (va_up (va_up (va_up (va_up (va_up (va_up (va_up u 43 c103_u43) 42 c103_u42) 33 c103_u33) 34 c103_u34) 28 c103_u28) 29 c103_u29) 30 c103_u30) 31 c103_u31) (va_up (va_up (va_up (va_up (va_up b 40 c103_b40) 39 c103_b39) 32 c103_b32) 25 c103_b25) 26 c103_b26) bw) _ := hP
          have hD : va_D A (RW cs bd (va_up (va_up (va_up (va_up (va_up (va_up (va_up (va_up u 43 c103_u43) 42 c103_u42) 33 c103_u33) 34 c103_u34) 28 c103_u28) 29 c103_u29) 30 c103_u30) 31 c103_u31) (va_up (va_up (va_up (va_up (va_up b 40 c103_b40) 39 c103_b39) 32 c103_b32) 25 c103_b25) 26 c103_b26) bw) := hD
          exact W.vret hx hb hr (fun tt ht hW => ⟨⟨⟨c103_u43, c103_u42, c103_b40, c103_u33, c103_u34, c103_u28, c103_u29, c103_u30, c103_u31, c103_b39, c103_b32, c103_b25, c103_b26⟩, rfl, ⟨(show -1 ≤ c103_u29.toInt by first | omega | assumption), (show c103_u29.toInt < (u 1).toInt by first | omega | assumption)⟩, by rw [ht]; exact hP, hD⟩, hS.F ht⟩) hS.2.2 dX12_goOrders_256
        ·
          have kc_4 : x9.toInt < (u 41).toInt := i_nle c_4
          refine lv_iload_n hx hb dX12_goOrders_112 rfl (lv_at hl 3 rfl) ?_
          refine lv_iload hx hb dX12_goOrders_113 (lv_at hl 9 rfl) ?_
          refine lv_ishr hx hb dX12_goOrders_115 ?_
          refine lv_topi (fun x_5 ex_5 => ?_)
          refine lv_iconst (v := 1) hx hb dX12_goOrders_116 (by decide) ?_
          refine lv_iand hx hb dX12_goOrders_117 ?_
          refine lv_topi (fun x_6 ex_6 => ?_)
          refine lv_iconst (v := 1) hx hb dX12_goOrders_118 (by decide) ?_
          refine lv_icmp_ne (tgt := 125) hx hb dX12_goOrders_119 (by decide) (fun c_7 => ?_) (fun c_7 => ?_)
          ·
            have kc_7 : x_6.toInt ≠ (1 : Int) := i_ne c_7
            refine lv_aload_n hx hb dX12_goOrders_125 rfl (lv_at hl 0 rfl) ?_
            refine gr_placed hx hb hg hown hK hP (hg _ q5_31) dX12_goOrders_126 ?_
            refine lv_iload_n hx hb dX12_goOrders_129 rfl (lv_at hl 2 rfl) ?_
            refine lv_iload hx hb dX12_goOrders_130 (lv_at hl 9 rfl) ?_
            refine sr_placed hx hb hK hP hD hS (i_in (by omega) (by omega)) dX12_goOrders_132 (fun H locs hP hD hS => ?_)
            refine lv_aload_n hx hb dX12_goOrders_133 rfl (lv_at hl 0 rfl) ?_
            refine lv_aload_n hx hb dX12_goOrders_134 rfl (lv_at hl 0 rfl) ?_
            refine lv_iload_n hx hb dX12_goOrders_135 rfl (lv_at hl 1 rfl) ?_
            refine lv_iload hx hb dX12_goOrders_136 (lv_at hl 9 rfl) ?_
            refine cV_ro (As := [.int p1, .int x9]) (rest := [.ref (bd 0)]) ⟨hx, hb, hml, hown, hg⟩ (k_X12_at l D cs A bd (va_up (va_up (va_up (va_up (va_up (va_up (va_up (va_up u 33 c103_u33) 34 c103_u34) 28 c103_u28) 29 c103_u29) 30 c103_u30) 31 c103_u31) 43 c103_u43) 42 c103_u42) (va_up (va_up (va_up (va_up (va_up b 32 c103_b32) 25 c103_b25) 26 c103_b26) 40 c103_b40) 39 (upd c103_b39 p2.toNatClampNeg x9)) bw  p1 x9 (show 0 ≤ p1.toInt by first | omega | decide) (show p1.toInt < 6 by first | omega | decide) (show 0 ≤ x9.toInt by first | omega | decide) (show x9.toInt < 60 by first | omega | decide)) ca_X12_at q6_144 ⟨rfl, rfl⟩ ⟨(show 0 + 1 ≤ 2 * n + 8 by omega), (show 8 + (3 + 11) + (0) ≤ 100 * n + 300 by omega)⟩ (rc_model hK hP) hK hP hD hS hZ rfl hl.1 rfl (Nat.le_of_ble_eq_true rfl) ⟨Nat.zero_le _, Nat.zero_le _⟩ dX12_goOrders_138 (fun r_8 wr_8 => ?_)
            have wr_8_0 : r_8.toInt = ((bw 68) (60 * p1.toInt.toNat + x9.toInt.toNat)).toInt32.toInt := wr_8
            have hl_9 := hlk (x9).toInt.toNat (by omega)
            refine lv_iconst (v := 2) hx hb dX12_goOrders_141 (by decide) ?_
            refine lv_idiv hx hb dX12_goOrders_142 (by decide) ?_
            refine lv_topi (fun x_10 ex_10 => ?_)
            have fx_10 : x_10.toInt = r_8.toInt / (2 : Int) := by rw [ex_10]; exact i_div (by omega) (by first | omega | decide)
            refine lv_aload_n hx hb dX12_goOrders_143 rfl (lv_at hl 0 rfl) ?_
            refine lv_iload_n hx hb dX12_goOrders_144 rfl (lv_at hl 1 rfl) ?_
            refine lv_iload hx hb dX12_goOrders_145 (lv_at hl 9 rfl) ?_
            refine cV_ro (As := [.int p1, .int x9]) (rest := [.int x_10, .ref (bd 0)]) ⟨hx, hb, hml, hown, hg⟩ (k_X12_at l D cs A bd (va_up (va_up (va_up (va_up (va_up (va_up (va_up (va_up u 33 c103_u33) 34 c103_u34) 28 c103_u28) 29 c103_u29) 30 c103_u30) 31 c103_u31) 43 c103_u43) 42 c103_u42) (va_up (va_up (va_up (va_up (va_up b 32 c103_b32) 25 c103_b25) 26 c103_b26) 40 c103_b40) 39 (upd c103_b39 p2.toNatClampNeg x9)) bw  p1 x9 (show 0 ≤ p1.toInt by first | omega | decide) (show p1.toInt < 6 by first | omega | decide) (show 0 ≤ x9.toInt by first | omega | decide) (show x9.toInt < 60 by first | omega | decide)) ca_X12_at q6_144 ⟨rfl, rfl⟩ ⟨(show 0 + 1 ≤ 2 * n + 8 by omega), (show 8 + (3 + 11) + (0) ≤ 100 * n + 300 by omega)⟩ (rc_model hK hP) hK hP hD hS hZ rfl hl.1 rfl (Nat.le_of_ble_eq_true rfl) ⟨Nat.zero_le _, Nat.zero_le _⟩ dX12_goOrders_147 (fun r_11 wr_11 => ?_)
            have wr_11_0 : r_11.toInt = ((bw 68) (60 * p1.toInt.toNat + x9.toInt.toNat)).toInt32.toInt := wr_11
            refine lv_iconst (v := 2) hx hb dX12_goOrders_150 (by decide) ?_
            refine lv_irem hx hb dX12_goOrders_151 (by decide) ?_
            refine lv_topi (fun x_12 ex_12 => ?_)
            have fx_12 : x_12.toInt = r_11.toInt % (2 : Int) := by rw [ex_12]; exact i_rem (by omega) (by first | omega | decide)
            refine lv_iconst (v := 1) hx hb dX12_goOrders_152 (by decide) ?_
            refine lv_icmp_ne (tgt := 160) hx hb dX12_goOrders_153 (by decide) (fun c_13 => ?_) (fun c_13 => ?_)
            ·
              have kc_13 : x_12.toInt ≠ (1 : Int) := i_ne c_13
              refine lv_iconst (v := 0) hx hb dX12_goOrders_160 (by decide) ?_
              refine cV_i (As := [.int x_10, .int 0]) (rest := []) ⟨hx, hb, hml, hown, hg⟩ (k_X12_goSaying l D cs A bd (va_up (va_up (va_up (va_up (va_up (va_up (va_up (va_up u 33 c103_u33) 34 c103_u34) 28 c103_u28) 29 c103_u29) 30 c103_u30) 31 c103_u31) 43 c103_u43) 42 c103_u42) (va_up (va_up (va_up (va_up (va_up b 32 c103_b32) 25 c103_b25) 26 c103_b26) 40 c103_b40) 39 (upd c103_b39 p2.toNatClampNeg x9)) bw  x_10 0 (show 0 ≤ x_10.toInt by first | omega | decide) (show x_10.toInt < (u 1).toInt by first | omega | decide) hlaw (show 0 ≤ (u 1).toInt by first | omega | decide) (show (u 1).toInt ≤ 8 by first | omega | decide) (show -1 ≤ c103_u29.toInt by first | omega | decide) (show c103_u29.toInt < (u 1).toInt by first | omega | decide) ib23_0 ib24_0 ib20_0) ca_X12_goSaying q6_148 ⟨rfl, rfl⟩ ⟨(show 4 + 1 ≤ 2 * n + 8 by omega), (show 8 + (4 + 11) + (93) ≤ 100 * n + 300 by omega)⟩ (rc_model hK hP) hK hP hD hS hZ rfl hl.1 rfl (Nat.le_of_ble_eq_true rfl) ⟨Nat.zero_le _, Nat.zero_le _⟩ dX12_goOrders_161 (fun r_14 z_24 H locs wr_14 hP hD hS => ?_)
              obtain ⟨o_u33_15, o_u34_16, o_u30_17, o_u28_18, o_u29_19, o_b32_20, o_u31_21, o_b25_22, o_b26_23⟩ := z_24
              have hP : va_P D vwCl (RW cs bd (va_up (va_up (va_up (va_up (va_up (va_up (va_up (va_up u 43 c103_u43) 42 c103_u42) 33 o_u33_15) 34 o_u34_16) 30 o_u30_17) 28 o_u28_18) 29 o_u29_19) 31 o_u31_21) (va_up (va_up (va_up (va_up (va_up b 40 c103_b40) 39 (upd c103_b39 p2.toNatClampNeg x9)) 32 o_b32_20) 25 o_b25_22) 26 o_b26_23) bw) H := hP
              have hD : va_D A (RW cs bd (va_up (va_up (va_up (va_up (va_up (va_up (va_up (va_up u 43 c103_u43) 42 c103_u42) 33 o_u33_15) 34 o_u34_16) 30 o_u30_17) 28 o_u28_18) 29 o_u29_19) 31 o_u31_21) (va_up (va_up (va_up (va_up (va_up b 40 c103_b40) 39 (upd c103_b39 p2.toNatClampNeg x9)) 32 o_b32_20) 25 o_b25_22) 26 o_b26_23) bw) := hD
              obtain ⟨wr_14_0, wr_14_1, wr_14_2⟩ : (r_14.toInt = -1 ∨ (0 ≤ r_14.toInt ∧ r_14.toInt < (u 1).toInt)) ∧ (-1 ≤ o_u29_19.toInt) ∧ (o_u29_19.toInt < (u 1).toInt) := wr_14
              refine lv_istore (lv' := [(10, .int r_14), (0, .ref (bd 0)), (1, .int p1), (2, .int p2), (3, .int p3), (4, .int p4), (5, .int x5), (6, .int x6), (7, .int x7), (8, .int x8), (9, .int x9)]) hx hb dX12_goOrders_164 hl (by decide) rfl (fun ls hl => ?_)
              refine lv_aload_n hx hb dX12_goOrders_166 rfl (lv_at hl 1 rfl) ?_
              refine gr_hurt1 hx hb hg hown hK hP (x := o_u33_15) rfl (hg _ q5_25) dX12_goOrders_167 ?_
              refine lv_istore (lv' := [(11, .int o_u33_15), (10, .int r_14), (0, .ref (bd 0)), (1, .int p1), (2, .int p2), (3, .int p3), (4, .int p4), (5, .int x5), (6, .int x6), (7, .int x7), (8, .int x8), (9, .int x9)]) hx hb dX12_goOrders_170 hl (by decide) rfl (fun ls hl => ?_)
              refine lv_aload_n hx hb dX12_goOrders_172 rfl (lv_at hl 2 rfl) ?_
              refine lv_iload_n hx hb dX12_goOrders_173 rfl (lv_at hl 3 rfl) ?_
              refine lv_iload_n hx hb dX12_goOrders_174 rfl (lv_at hl 4 rfl) ?_
              refine lv_iconst (v := 1) hx hb dX12_goOrders_175 (by decide) ?_
              refine lv_iadd hx hb dX12_goOrders_176 ?_
              refine lv_topi (fun x_25 ex_25 => ?_)
              have fx_25 : x_25.toInt = p2.toInt + (1 : Int) := by rw [ex_25]; exact i_add (by first | omega | (show (_ : Int) ≤ p2.toInt + (1 : Int); omega)) (by first | omega | (show p2.toInt + (1 : Int) ≤ (_ : Int); omega))
              refine lv_iload_n hx hb dX12_goOrders_177 rfl (lv_at hl 5 rfl) ?_
              refine lv_iconst (v := 1) hx hb dX12_goOrders_178 (by decide) ?_
              refine lv_iload hx hb dX12_goOrders_179 (lv_at hl 11 rfl) ?_
              refine lv_ishl hx hb dX12_goOrders_181 ?_
              refine lv_topi (fun x_26 ex_26 => ?_)
              refine lv_ior hx hb dX12_goOrders_182 ?_
              refine lv_topi (fun x_27 ex_27 => ?_)
              refine lv_iload hx hb dX12_goOrders_183 (lv_at hl 1 rfl) ?_
              refine lv_if_lt (tgt := 200) hx hb dX12_goOrders_185 (by decide) (fun c_28 => ?_) (fun c_28 => ?_)
              ·
                have kc_28 : r_14.toInt < (0 : Int) := i_lt c_28
                refine lv_iload hx hb dX12_goOrders_200 (lv_at hl 6 rfl) ?_
                refine cV_v (As := [.int p1, .int x_25, .int x_27, .int p4]) (rest := []) ⟨hx, hb, hml, hown, hg⟩ ((hrec (n - 1) (by omega)) l D cs A bd (va_up (va_up (va_up (va_up (va_up (va_up (va_up (va_up u 43 c103_u43) 42 c103_u42) 33 o_u33_15) 34 o_u34_16) 30 o_u30_17) 28 o_u28_18) 29 o_u29_19) 31 o_u31_21) (va_up (va_up (va_up (va_up (va_up b 40 c103_b40) 39 (upd c103_b39 p2.toNatClampNeg x9)) 32 o_b32_20) 25 o_b25_22) 26 o_b26_23) bw  p1 x_25 x_27 p4 (show 0 ≤ p1.toInt by first | omega | decide) (show p1.toInt < 6 by first | omega | decide) (show 0 ≤ x_25.toInt by first | omega | decide) (show x_25.toInt ≤ (u 41).toInt by first | omega | decide) (show (u 41).toInt ≤ 7 by first | omega | decide) (show 7 ≤ x_25.toInt + ((n - 1 : Nat) : Int) by first | omega | decide) (by assumption) hlaw (show 0 ≤ (u 41).toInt by first | omega | decide) (show (u 41).toInt ≤ 24 by first | omega | decide) (show 0 ≤ (u 1).toInt by first | omega | decide) (show (u 1).toInt ≤ 8 by first | omega | decide) (show -1 ≤ o_u29_19.toInt by first | omega | decide) (show o_u29_19.toInt < (u 1).toInt by first | omega | decide) ib23_0 ib24_0 ib20_0) ca_X12_goOrders q6_183 ⟨rfl, rfl⟩ ⟨(show 2 * (n - 1) + 8 + 1 ≤ 2 * n + 8 by omega), (show 8 + (12 + 11) + (100 * (n - 1) + 300) ≤ 100 * n + 300 by omega)⟩ (rc_model hK hP) hK hP hD hS hZ rfl hl.1 rfl (Nat.le_of_ble_eq_true rfl) ⟨Nat.zero_le _, Nat.zero_le _⟩ dX12_goOrders_202 (fun z_43 H locs wr_29 hP hD hS => ?_)
                obtain ⟨o_u43_30, o_u42_31, o_b40_32, o_u33_33, o_u34_34, o_u28_35, o_u29_36, o_u30_37, o_u31_38, o_b39_39, o_b32_40, o_b25_41, o_b26_42⟩ := z_43
                have hP : va_P D vwCl (RW cs bd (va_up (va_up (va_up (va_up (va_up (va_up (va_up (va_up u 43 o_u43_30) 42 o_u42_31) 33 o_u33_33) 34 o_u34_34) 28 o_u28_35) 29 o_u29_36) 30 o_u30_37) 31 o_u31_38) (va_up (va_up (va_up (va_up (va_up b 40 o_b40_32) 39 o_b39_39) 32 o_b32_40) 25 o_b25_41) 26 o_b26_42) bw) H := hP
                have hD : va_D A (RW cs bd (va_up (va_up (va_up (va_up (va_up (va_up (va_up (va_up u 43 o_u43_30) 42 o_u42_31) 33 o_u33_33) 34 o_u34_34) 28 o_u28_35) 29 o_u29_36) 30 o_u30_37) 31 o_u31_38) (va_up (va_up (va_up (va_up (va_up b 40 o_b40_32) 39 o_b39_39) 32 o_b32_40) 25 o_b25_41) 26 o_b26_42) bw) := hD
                obtain ⟨wr_29_0, wr_29_1⟩ : (-1 ≤ o_u29_36.toInt) ∧ (o_u29_36.toInt < (u 1).toInt) := wr_29
                refine lv_iload hx hb dX12_goOrders_205 (lv_at hl 1 rfl) ?_
                refine lv_if_lt (tgt := 226) hx hb dX12_goOrders_207 (by decide) (fun c_44 => ?_) (fun c_44 => ?_)
                ·
                  have kc_44 : r_14.toInt < (0 : Int) := i_lt c_44
                  refine lv_aload_n hx hb dX12_goOrders_226 rfl (lv_at hl 2 rfl) ?_
                  refine lv_iload hx hb dX12_goOrders_227 (lv_at hl 7 rfl) ?_
                  refine pr_bee1 hx hb hg hown hK hP hD hS (hg _ q5_20) dX12_goOrders_229 (fun H locs hP hD hS => ?_)
                  refine lv_aload_n hx hb dX12_goOrders_232 rfl (lv_at hl 2 rfl) ?_
                  refine lv_iload hx hb dX12_goOrders_233 (lv_at hl 8 rfl) ?_
                  refine pr_liar1 hx hb hg hown hK hP hD hS (hg _ q5_21) dX12_goOrders_235 (fun H locs hP hD hS => ?_)
                  refine lv_aload_n hx hb dX12_goOrders_238 rfl (lv_at hl 2 rfl) ?_
                  refine lv_iload hx hb dX12_goOrders_239 (lv_at hl 9 rfl) ?_
                  refine pr_hour1 hx hb hg hown hK hP hD hS (hg _ q5_22) dX12_goOrders_241 (fun H locs hP hD hS => ?_)
                  refine lv_aload_n hx hb dX12_goOrders_244 rfl (lv_at hl 2 rfl) ?_
                  refine lv_iload hx hb dX12_goOrders_245 (lv_at hl 10 rfl) ?_
                  refine pr_lies1 hx hb hg hown hK hP hD hS (hg _ q5_23) dX12_goOrders_247 (fun H locs hP hD hS => ?_)
                  obtain ⟨x_45, ex_45⟩ : ∃ y : Int32, y = x9 + 1 := ⟨_, rfl⟩
                  have fx_45 : x_45.toInt = x9.toInt + 1 := by rw [ex_45]; exact i_add (by first | omega | (show (_ : Int) ≤ x9.toInt + 1; omega)) (by first | omega | (show x9.toInt + 1 ≤ (_ : Int); omega))
                  refine lv_iinc (v := x_45) (lv' := [(9, .int x_45), (11, .int o_u33_15), (10, .int r_14), (0, .ref (bd 0)), (1, .int p1), (2, .int p2), (3, .int p3), (4, .int p4), (5, .int x5), (6, .int x6), (7, .int x7), (8, .int x8)]) hx hb dX12_goOrders_250 hl (k := 11) rfl (by rw [ex_45]; rfl) (by decide) rfl (fun ls hl => ?_)
                  refine lv_goto (tgt := 103) hx hb dX12_goOrders_253 (by decide) ?_
                  exact ih.2 x5 x6 x7 x8 x_45 o_u33_33 o_u34_34 x5 x6 x7 x8 o_b39_39 o_b32_40 o_b25_41 o_b26_42 o_u43_30 o_u42_31 o_b40_32 _ _ (by omega) (by omega) (by omega) (by omega) (show -1 ≤ x6.toInt by first | omega | assumption) (show x6.toInt < (u 1).toInt by first | omega | assumption) (by omega) hP hD hS ls (lv_sub hl [3, 4, 5, 6, 7, 8, 9, 10, 11, 0] rfl)
                ·
                  have kc_44 : (0 : Int) ≤ r_14.toInt := i_nlt c_44
                  exfalso; omega
              ·
                have kc_28 : (0 : Int) ≤ r_14.toInt := i_nlt c_28
                refine lv_iload hx hb dX12_goOrders_188 (lv_at hl 0 rfl) ?_
                refine lv_if_eq (tgt := 200) hx hb dX12_goOrders_190 (by decide) (fun c_46 => ?_) (fun c_46 => ?_)
                ·
                  have kc_46 : o_u33_15.toInt = (0 : Int) := i_eq c_46
                  refine lv_iload hx hb dX12_goOrders_200 (lv_at hl 6 rfl) ?_
                  refine cV_v (As := [.int p1, .int x_25, .int x_27, .int p4]) (rest := []) ⟨hx, hb, hml, hown, hg⟩ ((hrec (n - 1) (by omega)) l D cs A bd (va_up (va_up (va_up (va_up (va_up (va_up (va_up (va_up u 43 c103_u43) 42 c103_u42) 33 o_u33_15) 34 o_u34_16) 30 o_u30_17) 28 o_u28_18) 29 o_u29_19) 31 o_u31_21) (va_up (va_up (va_up (va_up (va_up b 40 c103_b40) 39 (upd c103_b39 p2.toNatClampNeg x9)) 32 o_b32_20) 25 o_b25_22) 26 o_b26_23) bw  p1 x_25 x_27 p4 (show 0 ≤ p1.toInt by first | omega | decide) (show p1.toInt < 6 by first | omega | decide) (show 0 ≤ x_25.toInt by first | omega | decide) (show x_25.toInt ≤ (u 41).toInt by first | omega | decide) (show (u 41).toInt ≤ 7 by first | omega | decide) (show 7 ≤ x_25.toInt + ((n - 1 : Nat) : Int) by first | omega | decide) (by assumption) hlaw (show 0 ≤ (u 41).toInt by first | omega | decide) (show (u 41).toInt ≤ 24 by first | omega | decide) (show 0 ≤ (u 1).toInt by first | omega | decide) (show (u 1).toInt ≤ 8 by first | omega | decide) (show -1 ≤ o_u29_19.toInt by first | omega | decide) (show o_u29_19.toInt < (u 1).toInt by first | omega | decide) ib23_0 ib24_0 ib20_0) ca_X12_goOrders q6_183 ⟨rfl, rfl⟩ ⟨(show 2 * (n - 1) + 8 + 1 ≤ 2 * n + 8 by omega), (show 8 + (12 + 11) + (100 * (n - 1) + 300) ≤ 100 * n + 300 by omega)⟩ (rc_model hK hP) hK hP hD hS hZ rfl hl.1 rfl (Nat.le_of_ble_eq_true rfl) ⟨Nat.zero_le _, Nat.zero_le _⟩ dX12_goOrders_202 (fun z_61 H locs wr_47 hP hD hS => ?_)
                  obtain ⟨o_u43_48, o_u42_49, o_b40_50, o_u33_51, o_u34_52, o_u28_53, o_u29_54, o_u30_55, o_u31_56, o_b39_57, o_b32_58, o_b25_59, o_b26_60⟩ := z_61
                  have hP : va_P D vwCl (RW cs bd (va_up (va_up (va_up (va_up (va_up (va_up (va_up (va_up u 43 o_u43_48) 42 o_u42_49) 33 o_u33_51) 34 o_u34_52) 28 o_u28_53) 29 o_u29_54) 30 o_u30_55) 31 o_u31_56) (va_up (va_up (va_up (va_up (va_up b 40 o_b40_50) 39 o_b39_57) 32 o_b32_58) 25 o_b25_59) 26 o_b26_60) bw) H := hP
                  have hD : va_D A (RW cs bd (va_up (va_up (va_up (va_up (va_up (va_up (va_up (va_up u 43 o_u43_48) 42 o_u42_49) 33 o_u33_51) 34 o_u34_52) 28 o_u28_53) 29 o_u29_54) 30 o_u30_55) 31 o_u31_56) (va_up (va_up (va_up (va_up (va_up b 40 o_b40_50) 39 o_b39_57) 32 o_b32_58) 25 o_b25_59) 26 o_b26_60) bw) := hD
                  obtain ⟨wr_47_0, wr_47_1⟩ : (-1 ≤ o_u29_54.toInt) ∧ (o_u29_54.toInt < (u 1).toInt) := wr_47
                  refine lv_iload hx hb dX12_goOrders_205 (lv_at hl 1 rfl) ?_
                  refine lv_if_lt (tgt := 226) hx hb dX12_goOrders_207 (by decide) (fun c_62 => ?_) (fun c_62 => ?_)
                  ·
                    have kc_62 : r_14.toInt < (0 : Int) := i_lt c_62
                    exfalso; omega
                  ·
                    have kc_62 : (0 : Int) ≤ r_14.toInt := i_nlt c_62
                    refine lv_iload hx hb dX12_goOrders_210 (lv_at hl 0 rfl) ?_
                    refine lv_if_ne (tgt := 226) hx hb dX12_goOrders_212 (by decide) (fun c_63 => ?_) (fun c_63 => ?_)
                    ·
                      have kc_63 : o_u33_15.toInt ≠ (0 : Int) := i_ne c_63
                      exfalso; omega
                    ·
                      have kc_63 : o_u33_15.toInt = (0 : Int) := i_eq c_63
                      refine lv_aload_n hx hb dX12_goOrders_215 rfl (lv_at hl 2 rfl) ?_
                      refine gr_pads1 hx hb hg hown hK hP (hg _ q5_24) dX12_goOrders_216 ?_
                      refine lv_iload hx hb dX12_goOrders_219 (lv_at hl 1 rfl) ?_
                      refine lv_dup2_11 hx hb dX12_goOrders_221 rfl rfl ?_
                      refine lr_pads1 hx hb hK hP (i_in (by omega) (by omega)) dX12_goOrders_222 ?_
                      refine lv_topi (fun x_64 ex_64 => ?_)
                      have ex_64 : x_64 = o_b32_58 r_14.toNatClampNeg := ex_64
                      have hx_64 : x_64.toInt = (o_b32_58 r_14.toNatClampNeg).toInt := by rw [ex_64]
                      refine lv_iconst (v := 1) hx hb dX12_goOrders_223 (by decide) ?_
                      refine lv_iadd hx hb dX12_goOrders_224 ?_
                      refine lv_topi (fun x_65 ex_65 => ?_)
                      refine sr_pads1 hx hb hK hP hD hS (i_in (by omega) (by omega)) dX12_goOrders_225 (fun H locs hP hD hS => ?_)
                      refine lv_aload_n hx hb dX12_goOrders_226 rfl (lv_at hl 2 rfl) ?_
                      refine lv_iload hx hb dX12_goOrders_227 (lv_at hl 7 rfl) ?_
                      refine pr_bee1 hx hb hg hown hK hP hD hS (hg _ q5_20) dX12_goOrders_229 (fun H locs hP hD hS => ?_)
                      refine lv_aload_n hx hb dX12_goOrders_232 rfl (lv_at hl 2 rfl) ?_
                      refine lv_iload hx hb dX12_goOrders_233 (lv_at hl 8 rfl) ?_
                      refine pr_liar1 hx hb hg hown hK hP hD hS (hg _ q5_21) dX12_goOrders_235 (fun H locs hP hD hS => ?_)
                      refine lv_aload_n hx hb dX12_goOrders_238 rfl (lv_at hl 2 rfl) ?_
                      refine lv_iload hx hb dX12_goOrders_239 (lv_at hl 9 rfl) ?_
                      refine pr_hour1 hx hb hg hown hK hP hD hS (hg _ q5_22) dX12_goOrders_241 (fun H locs hP hD hS => ?_)
                      refine lv_aload_n hx hb dX12_goOrders_244 rfl (lv_at hl 2 rfl) ?_
                      refine lv_iload hx hb dX12_goOrders_245 (lv_at hl 10 rfl) ?_
                      refine pr_lies1 hx hb hg hown hK hP hD hS (hg _ q5_23) dX12_goOrders_247 (fun H locs hP hD hS => ?_)
                      obtain ⟨x_66, ex_66⟩ : ∃ y : Int32, y = x9 + 1 := ⟨_, rfl⟩
                      have fx_66 : x_66.toInt = x9.toInt + 1 := by rw [ex_66]; exact i_add (by first | omega | (show (_ : Int) ≤ x9.toInt + 1; omega)) (by first | omega | (show x9.toInt + 1 ≤ (_ : Int); omega))
                      refine lv_iinc (v := x_66) (lv' := [(9, .int x_66), (11, .int o_u33_15), (10, .int r_14), (0, .ref (bd 0)), (1, .int p1), (2, .int p2), (3, .int p3), (4, .int p4), (5, .int x5), (6, .int x6), (7, .int x7), (8, .int x8)]) hx hb dX12_goOrders_250 hl (k := 11) rfl (by rw [ex_66]; rfl) (by decide) rfl (fun ls hl => ?_)
                      refine lv_goto (tgt := 103) hx hb dX12_goOrders_253 (by decide) ?_
                      exact ih.2 x5 x6 x7 x8 x_66 o_u33_51 o_u34_52 x5 x6 x7 x8 o_b39_57 (upd o_b32_58 r_14.toNatClampNeg x_65) o_b25_59 o_b26_60 o_u43_48 o_u42_49 o_b40_50 _ _ (by omega) (by omega) (by omega) (by omega) (show -1 ≤ x6.toInt by first | omega | assumption) (show x6.toInt < (u 1).toInt by first | omega | assumption) (by omega) hP hD hS ls (lv_sub hl [3, 4, 5, 6, 7, 8, 9, 10, 11, 0] rfl)
                ·
                  have kc_46 : o_u33_15.toInt ≠ (0 : Int) := i_ne c_46
                  refine lv_iload hx hb dX12_goOrders_193 (lv_at hl 6 rfl) ?_
                  refine lv_iconst (v := 1) hx hb dX12_goOrders_195 (by decide) ?_
                  refine lv_iadd hx hb dX12_goOrders_196 ?_
                  refine lv_topi (fun x_67 ex_67 => ?_)
                  refine lv_goto (tgt := 202) hx hb dX12_goOrders_197 (by decide) ?_
                  refine cV_v (As := [.int p1, .int x_25, .int x_27, .int x_67]) (rest := []) ⟨hx, hb, hml, hown, hg⟩ ((hrec (n - 1) (by omega)) l D cs A bd (va_up (va_up (va_up (va_up (va_up (va_up (va_up (va_up u 43 c103_u43) 42 c103_u42) 33 o_u33_15) 34 o_u34_16) 30 o_u30_17) 28 o_u28_18) 29 o_u29_19) 31 o_u31_21) (va_up (va_up (va_up (va_up (va_up b 40 c103_b40) 39 (upd c103_b39 p2.toNatClampNeg x9)) 32 o_b32_20) 25 o_b25_22) 26 o_b26_23) bw  p1 x_25 x_27 x_67 (show 0 ≤ p1.toInt by first | omega | decide) (show p1.toInt < 6 by first | omega | decide) (show 0 ≤ x_25.toInt by first | omega | decide) (show x_25.toInt ≤ (u 41).toInt by first | omega | decide) (show (u 41).toInt ≤ 7 by first | omega | decide) (show 7 ≤ x_25.toInt + ((n - 1 : Nat) : Int) by first | omega | decide) (by assumption) hlaw (show 0 ≤ (u 41).toInt by first | omega | decide) (show (u 41).toInt ≤ 24 by first | omega | decide) (show 0 ≤ (u 1).toInt by first | omega | decide) (show (u 1).toInt ≤ 8 by first | omega | decide) (show -1 ≤ o_u29_19.toInt by first | omega | decide) (show o_u29_19.toInt < (u 1).toInt by first | omega | decide) ib23_0 ib24_0 ib20_0) ca_X12_goOrders q6_183 ⟨rfl, rfl⟩ ⟨(show 2 * (n - 1) + 8 + 1 ≤ 2 * n + 8 by omega), (show 8 + (12 + 11) + (100 * (n - 1) + 300) ≤ 100 * n + 300 by omega)⟩ (rc_model hK hP) hK hP hD hS hZ rfl hl.1 rfl (Nat.le_of_ble_eq_true rfl) ⟨Nat.zero_le _, Nat.zero_le _⟩ dX12_goOrders_202 (fun z_82 H locs wr_68 hP hD hS => ?_)
                  obtain ⟨o_u43_69, o_u42_70, o_b40_71, o_u33_72, o_u34_73, o_u28_74, o_u29_75, o_u30_76, o_u31_77, o_b39_78, o_b32_79, o_b25_80, o_b26_81⟩ := z_82
                  have hP : va_P D vwCl (RW cs bd (va_up (va_up (va_up (va_up (va_up (va_up (va_up (va_up u 43 o_u43_69) 42 o_u42_70) 33 o_u33_72) 34 o_u34_73) 28 o_u28_74) 29 o_u29_75) 30 o_u30_76) 31 o_u31_77) (va_up (va_up (va_up (va_up (va_up b 40 o_b40_71) 39 o_b39_78) 32 o_b32_79) 25 o_b25_80) 26 o_b26_81) bw) H := hP
                  have hD : va_D A (RW cs bd (va_up (va_up (va_up (va_up (va_up (va_up (va_up (va_up u 43 o_u43_69) 42 o_u42_70) 33 o_u33_72) 34 o_u34_73) 28 o_u28_74) 29 o_u29_75) 30 o_u30_76) 31 o_u31_77) (va_up (va_up (va_up (va_up (va_up b 40 o_b40_71) 39 o_b39_78) 32 o_b32_79) 25 o_b25_80) 26 o_b26_81) bw) := hD
                  obtain ⟨wr_68_0, wr_68_1⟩ : (-1 ≤ o_u29_75.toInt) ∧ (o_u29_75.toInt < (u 1).toInt) := wr_68
                  refine lv_iload hx hb dX12_goOrders_205 (lv_at hl 1 rfl) ?_
                  refine lv_if_lt (tgt := 226) hx hb dX12_goOrders_207 (by decide) (fun c_83 => ?_) (fun c_83 => ?_)
                  ·
                    have kc_83 : r_14.toInt < (0 : Int) := i_lt c_83
                    exfalso; omega
                  ·
                    have kc_83 : (0 : Int) ≤ r_14.toInt := i_nlt c_83
                    refine lv_iload hx hb dX12_goOrders_210 (lv_at hl 0 rfl) ?_
                    refine lv_if_ne (tgt := 226) hx hb dX12_goOrders_212 (by decide) (fun c_84 => ?_) (fun c_84 => ?_)
                    ·
                      have kc_84 : o_u33_15.toInt ≠ (0 : Int) := i_ne c_84
                      refine lv_aload_n hx hb dX12_goOrders_226 rfl (lv_at hl 2 rfl) ?_
                      refine lv_iload hx hb dX12_goOrders_227 (lv_at hl 7 rfl) ?_
                      refine pr_bee1 hx hb hg hown hK hP hD hS (hg _ q5_20) dX12_goOrders_229 (fun H locs hP hD hS => ?_)
                      refine lv_aload_n hx hb dX12_goOrders_232 rfl (lv_at hl 2 rfl) ?_
                      refine lv_iload hx hb dX12_goOrders_233 (lv_at hl 8 rfl) ?_
                      refine pr_liar1 hx hb hg hown hK hP hD hS (hg _ q5_21) dX12_goOrders_235 (fun H locs hP hD hS => ?_)
                      refine lv_aload_n hx hb dX12_goOrders_238 rfl (lv_at hl 2 rfl) ?_
                      refine lv_iload hx hb dX12_goOrders_239 (lv_at hl 9 rfl) ?_
                      refine pr_hour1 hx hb hg hown hK hP hD hS (hg _ q5_22) dX12_goOrders_241 (fun H locs hP hD hS => ?_)
                      refine lv_aload_n hx hb dX12_goOrders_244 rfl (lv_at hl 2 rfl) ?_
                      refine lv_iload hx hb dX12_goOrders_245 (lv_at hl 10 rfl) ?_
                      refine pr_lies1 hx hb hg hown hK hP hD hS (hg _ q5_23) dX12_goOrders_247 (fun H locs hP hD hS => ?_)
                      obtain ⟨x_85, ex_85⟩ : ∃ y : Int32, y = x9 + 1 := ⟨_, rfl⟩
                      have fx_85 : x_85.toInt = x9.toInt + 1 := by rw [ex_85]; exact i_add (by first | omega | (show (_ : Int) ≤ x9.toInt + 1; omega)) (by first | omega | (show x9.toInt + 1 ≤ (_ : Int); omega))
                      refine lv_iinc (v := x_85) (lv' := [(9, .int x_85), (11, .int o_u33_15), (10, .int r_14), (0, .ref (bd 0)), (1, .int p1), (2, .int p2), (3, .int p3), (4, .int p4), (5, .int x5), (6, .int x6), (7, .int x7), (8, .int x8)]) hx hb dX12_goOrders_250 hl (k := 11) rfl (by rw [ex_85]; rfl) (by decide) rfl (fun ls hl => ?_)
                      refine lv_goto (tgt := 103) hx hb dX12_goOrders_253 (by decide) ?_
                      exact ih.2 x5 x6 x7 x8 x_85 o_u33_72 o_u34_73 x5 x6 x7 x8 o_b39_78 o_b32_79 o_b25_80 o_b26_81 o_u43_69 o_u42_70 o_b40_71 _ _ (by omega) (by omega) (by omega) (by omega) (show -1 ≤ x6.toInt by first | omega | assumption) (show x6.toInt < (u 1).toInt by first | omega | assumption) (by omega) hP hD hS ls (lv_sub hl [3, 4, 5, 6, 7, 8, 9, 10, 11, 0] rfl)
                    ·
                      have kc_84 : o_u33_15.toInt = (0 : Int) := i_eq c_84
                      refine lv_aload_n hx hb dX12_goOrders_215 rfl (lv_at hl 2 rfl) ?_
                      refine gr_pads1 hx hb hg hown hK hP (hg _ q5_24) dX12_goOrders_216 ?_
                      refine lv_iload hx hb dX12_goOrders_219 (lv_at hl 1 rfl) ?_
                      refine lv_dup2_11 hx hb dX12_goOrders_221 rfl rfl ?_
                      refine lr_pads1 hx hb hK hP (i_in (by omega) (by omega)) dX12_goOrders_222 ?_
                      refine lv_topi (fun x_86 ex_86 => ?_)
                      have ex_86 : x_86 = o_b32_79 r_14.toNatClampNeg := ex_86
                      have hx_86 : x_86.toInt = (o_b32_79 r_14.toNatClampNeg).toInt := by rw [ex_86]
                      refine lv_iconst (v := 1) hx hb dX12_goOrders_223 (by decide) ?_
                      refine lv_iadd hx hb dX12_goOrders_224 ?_
                      refine lv_topi (fun x_87 ex_87 => ?_)
                      refine sr_pads1 hx hb hK hP hD hS (i_in (by omega) (by omega)) dX12_goOrders_225 (fun H locs hP hD hS => ?_)
                      refine lv_aload_n hx hb dX12_goOrders_226 rfl (lv_at hl 2 rfl) ?_
                      refine lv_iload hx hb dX12_goOrders_227 (lv_at hl 7 rfl) ?_
                      refine pr_bee1 hx hb hg hown hK hP hD hS (hg _ q5_20) dX12_goOrders_229 (fun H locs hP hD hS => ?_)
                      refine lv_aload_n hx hb dX12_goOrders_232 rfl (lv_at hl 2 rfl) ?_
                      refine lv_iload hx hb dX12_goOrders_233 (lv_at hl 8 rfl) ?_
                      refine pr_liar1 hx hb hg hown hK hP hD hS (hg _ q5_21) dX12_goOrders_235 (fun H locs hP hD hS => ?_)
                      refine lv_aload_n hx hb dX12_goOrders_238 rfl (lv_at hl 2 rfl) ?_
                      refine lv_iload hx hb dX12_goOrders_239 (lv_at hl 9 rfl) ?_
                      refine pr_hour1 hx hb hg hown hK hP hD hS (hg _ q5_22) dX12_goOrders_241 (fun H locs hP hD hS => ?_)
                      refine lv_aload_n hx hb dX12_goOrders_244 rfl (lv_at hl 2 rfl) ?_
                      refine lv_iload hx hb dX12_goOrders_245 (lv_at hl 10 rfl) ?_
                      refine pr_lies1 hx hb hg hown hK hP hD hS (hg _ q5_23) dX12_goOrders_247 (fun H locs hP hD hS => ?_)
                      obtain ⟨x_88, ex_88⟩ : ∃ y : Int32, y = x9 + 1 := ⟨_, rfl⟩
                      have fx_88 : x_88.toInt = x9.toInt + 1 := by rw [ex_88]; exact i_add (by first | omega | (show (_ : Int) ≤ x9.toInt + 1; omega)) (by first | omega | (show x9.toInt + 1 ≤ (_ : Int); omega))
                      refine lv_iinc (v := x_88) (lv' := [(9, .int x_88), (11, .int o_u33_15), (10, .int r_14), (0, .ref (bd 0)), (1, .int p1), (2, .int p2), (3, .int p3), (4, .int p4), (5, .int x5), (6, .int x6), (7, .int x7), (8, .int x8)]) hx hb dX12_goOrders_250 hl (k := 11) rfl (by rw [ex_88]; rfl) (by decide) rfl (fun ls hl => ?_)
                      refine lv_goto (tgt := 103) hx hb dX12_goOrders_253 (by decide) ?_
                      exact ih.2 x5 x6 x7 x8 x_88 o_u33_72 o_u34_73 x5 x6 x7 x8 o_b39_78 (upd o_b32_79 r_14.toNatClampNeg x_87) o_b25_80 o_b26_81 o_u43_69 o_u42_70 o_b40_71 _ _ (by omega) (by omega) (by omega) (by omega) (show -1 ≤ x6.toInt by first | omega | assumption) (show x6.toInt < (u 1).toInt by first | omega | assumption) (by omega) hP hD hS ls (lv_sub hl [3, 4, 5, 6, 7, 8, 9, 10, 11, 0] rfl)
            ·
              have kc_13 : x_12.toInt = (1 : Int) := i_eq c_13
              refine lv_iconst (v := 1) hx hb dX12_goOrders_156 (by decide) ?_
              refine lv_goto (tgt := 161) hx hb dX12_goOrders_157 (by decide) ?_
              refine cV_i (As := [.int x_10, .int 1]) (rest := []) ⟨hx, hb, hml, hown, hg⟩ (k_X12_goSaying l D cs A bd (va_up (va_up (va_up (va_up (va_up (va_up (va_up (va_up u 33 c103_u33) 34 c103_u34) 28 c103_u28) 29 c103_u29) 30 c103_u30) 31 c103_u31) 43 c103_u43) 42 c103_u42) (va_up (va_up (va_up (va_up (va_up b 32 c103_b32) 25 c103_b25) 26 c103_b26) 40 c103_b40) 39 (upd c103_b39 p2.toNatClampNeg x9)) bw  x_10 1 (show 0 ≤ x_10.toInt by first | omega | decide) (show x_10.toInt < (u 1).toInt by first | omega | decide) hlaw (show 0 ≤ (u 1).toInt by first | omega | decide) (show (u 1).toInt ≤ 8 by first | omega | decide) (show -1 ≤ c103_u29.toInt by first | omega | decide) (show c103_u29.toInt < (u 1).toInt by first | omega | decide) ib23_0 ib24_0 ib20_0) ca_X12_goSaying q6_148 ⟨rfl, rfl⟩ ⟨(show 4 + 1 ≤ 2 * n + 8 by omega), (show 8 + (4 + 11) + (93) ≤ 100 * n + 300 by omega)⟩ (rc_model hK hP) hK hP hD hS hZ rfl hl.1 rfl (Nat.le_of_ble_eq_true rfl) ⟨Nat.zero_le _, Nat.zero_le _⟩ dX12_goOrders_161 (fun r_89 z_99 H locs wr_89 hP hD hS => ?_)
              obtain ⟨o_u33_90, o_u34_91, o_u30_92, o_u28_93, o_u29_94, o_b32_95, o_u31_96, o_b25_97, o_b26_98⟩ := z_99
              have hP : va_P D vwCl (RW cs bd (va_up (va_up (va_up (va_up (va_up (va_up (va_up (va_up u 43 c103_u43) 42 c103_u42) 33 o_u33_90) 34 o_u34_91) 30 o_u30_92) 28 o_u28_93) 29 o_u29_94) 31 o_u31_96) (va_up (va_up (va_up (va_up (va_up b 40 c103_b40) 39 (upd c103_b39 p2.toNatClampNeg x9)) 32 o_b32_95) 25 o_b25_97) 26 o_b26_98) bw) H := hP
              have hD : va_D A (RW cs bd (va_up (va_up (va_up (va_up (va_up (va_up (va_up (va_up u 43 c103_u43) 42 c103_u42) 33 o_u33_90) 34 o_u34_91) 30 o_u30_92) 28 o_u28_93) 29 o_u29_94) 31 o_u31_96) (va_up (va_up (va_up (va_up (va_up b 40 c103_b40) 39 (upd c103_b39 p2.toNatClampNeg x9)) 32 o_b32_95) 25 o_b25_97) 26 o_b26_98) bw) := hD
              obtain ⟨wr_89_0, wr_89_1, wr_89_2⟩ : (r_89.toInt = -1 ∨ (0 ≤ r_89.toInt ∧ r_89.toInt < (u 1).toInt)) ∧ (-1 ≤ o_u29_94.toInt) ∧ (o_u29_94.toInt < (u 1).toInt) := wr_89
              refine lv_istore (lv' := [(10, .int r_89), (0, .ref (bd 0)), (1, .int p1), (2, .int p2), (3, .int p3), (4, .int p4), (5, .int x5), (6, .int x6), (7, .int x7), (8, .int x8), (9, .int x9)]) hx hb dX12_goOrders_164 hl (by decide) rfl (fun ls hl => ?_)
              refine lv_aload_n hx hb dX12_goOrders_166 rfl (lv_at hl 1 rfl) ?_
              refine gr_hurt1 hx hb hg hown hK hP (x := o_u33_90) rfl (hg _ q5_25) dX12_goOrders_167 ?_
              refine lv_istore (lv' := [(11, .int o_u33_90), (10, .int r_89), (0, .ref (bd 0)), (1, .int p1), (2, .int p2), (3, .int p3), (4, .int p4), (5, .int x5), (6, .int x6), (7, .int x7), (8, .int x8), (9, .int x9)]) hx hb dX12_goOrders_170 hl (by decide) rfl (fun ls hl => ?_)
              refine lv_aload_n hx hb dX12_goOrders_172 rfl (lv_at hl 2 rfl) ?_
              refine lv_iload_n hx hb dX12_goOrders_173 rfl (lv_at hl 3 rfl) ?_
              refine lv_iload_n hx hb dX12_goOrders_174 rfl (lv_at hl 4 rfl) ?_
              refine lv_iconst (v := 1) hx hb dX12_goOrders_175 (by decide) ?_
              refine lv_iadd hx hb dX12_goOrders_176 ?_
              refine lv_topi (fun x_100 ex_100 => ?_)
              have fx_100 : x_100.toInt = p2.toInt + (1 : Int) := by rw [ex_100]; exact i_add (by first | omega | (show (_ : Int) ≤ p2.toInt + (1 : Int); omega)) (by first | omega | (show p2.toInt + (1 : Int) ≤ (_ : Int); omega))
              refine lv_iload_n hx hb dX12_goOrders_177 rfl (lv_at hl 5 rfl) ?_
              refine lv_iconst (v := 1) hx hb dX12_goOrders_178 (by decide) ?_
              refine lv_iload hx hb dX12_goOrders_179 (lv_at hl 11 rfl) ?_
              refine lv_ishl hx hb dX12_goOrders_181 ?_
              refine lv_topi (fun x_101 ex_101 => ?_)
              refine lv_ior hx hb dX12_goOrders_182 ?_
              refine lv_topi (fun x_102 ex_102 => ?_)
              refine lv_iload hx hb dX12_goOrders_183 (lv_at hl 1 rfl) ?_
              refine lv_if_lt (tgt := 200) hx hb dX12_goOrders_185 (by decide) (fun c_103 => ?_) (fun c_103 => ?_)
              ·
                have kc_103 : r_89.toInt < (0 : Int) := i_lt c_103
                refine lv_iload hx hb dX12_goOrders_200 (lv_at hl 6 rfl) ?_
                refine cV_v (As := [.int p1, .int x_100, .int x_102, .int p4]) (rest := []) ⟨hx, hb, hml, hown, hg⟩ ((hrec (n - 1) (by omega)) l D cs A bd (va_up (va_up (va_up (va_up (va_up (va_up (va_up (va_up u 43 c103_u43) 42 c103_u42) 33 o_u33_90) 34 o_u34_91) 30 o_u30_92) 28 o_u28_93) 29 o_u29_94) 31 o_u31_96) (va_up (va_up (va_up (va_up (va_up b 40 c103_b40) 39 (upd c103_b39 p2.toNatClampNeg x9)) 32 o_b32_95) 25 o_b25_97) 26 o_b26_98) bw  p1 x_100 x_102 p4 (show 0 ≤ p1.toInt by first | omega | decide) (show p1.toInt < 6 by first | omega | decide) (show 0 ≤ x_100.toInt by first | omega | decide) (show x_100.toInt ≤ (u 41).toInt by first | omega | decide) (show (u 41).toInt ≤ 7 by first | omega | decide) (show 7 ≤ x_100.toInt + ((n - 1 : Nat) : Int) by first | omega | decide) (by assumption) hlaw (show 0 ≤ (u 41).toInt by first | omega | decide) (show (u 41).toInt ≤ 24 by first | omega | decide) (show 0 ≤ (u 1).toInt by first | omega | decide) (show (u 1).toInt ≤ 8 by first | omega | decide) (show -1 ≤ o_u29_94.toInt by first | omega | decide) (show o_u29_94.toInt < (u 1).toInt by first | omega | decide) ib23_0 ib24_0 ib20_0) ca_X12_goOrders q6_183 ⟨rfl, rfl⟩ ⟨(show 2 * (n - 1) + 8 + 1 ≤ 2 * n + 8 by omega), (show 8 + (12 + 11) + (100 * (n - 1) + 300) ≤ 100 * n + 300 by omega)⟩ (rc_model hK hP) hK hP hD hS hZ rfl hl.1 rfl (Nat.le_of_ble_eq_true rfl) ⟨Nat.zero_le _, Nat.zero_le _⟩ dX12_goOrders_202 (fun z_118 H locs wr_104 hP hD hS => ?_)
                obtain ⟨o_u43_105, o_u42_106, o_b40_107, o_u33_108, o_u34_109, o_u28_110, o_u29_111, o_u30_112, o_u31_113, o_b39_114, o_b32_115, o_b25_116, o_b26_117⟩ := z_118
                have hP : va_P D vwCl (RW cs bd (va_up (va_up (va_up (va_up (va_up (va_up (va_up (va_up u 43 o_u43_105) 42 o_u42_106) 33 o_u33_108) 34 o_u34_109) 28 o_u28_110) 29 o_u29_111) 30 o_u30_112) 31 o_u31_113) (va_up (va_up (va_up (va_up (va_up b 40 o_b40_107) 39 o_b39_114) 32 o_b32_115) 25 o_b25_116) 26 o_b26_117) bw) H := hP
                have hD : va_D A (RW cs bd (va_up (va_up (va_up (va_up (va_up (va_up (va_up (va_up u 43 o_u43_105) 42 o_u42_106) 33 o_u33_108) 34 o_u34_109) 28 o_u28_110) 29 o_u29_111) 30 o_u30_112) 31 o_u31_113) (va_up (va_up (va_up (va_up (va_up b 40 o_b40_107) 39 o_b39_114) 32 o_b32_115) 25 o_b25_116) 26 o_b26_117) bw) := hD
                obtain ⟨wr_104_0, wr_104_1⟩ : (-1 ≤ o_u29_111.toInt) ∧ (o_u29_111.toInt < (u 1).toInt) := wr_104
                refine lv_iload hx hb dX12_goOrders_205 (lv_at hl 1 rfl) ?_
                refine lv_if_lt (tgt := 226) hx hb dX12_goOrders_207 (by decide) (fun c_119 => ?_) (fun c_119 => ?_)
                ·
                  have kc_119 : r_89.toInt < (0 : Int) := i_lt c_119
                  refine lv_aload_n hx hb dX12_goOrders_226 rfl (lv_at hl 2 rfl) ?_
                  refine lv_iload hx hb dX12_goOrders_227 (lv_at hl 7 rfl) ?_
                  refine pr_bee1 hx hb hg hown hK hP hD hS (hg _ q5_20) dX12_goOrders_229 (fun H locs hP hD hS => ?_)
                  refine lv_aload_n hx hb dX12_goOrders_232 rfl (lv_at hl 2 rfl) ?_
                  refine lv_iload hx hb dX12_goOrders_233 (lv_at hl 8 rfl) ?_
                  refine pr_liar1 hx hb hg hown hK hP hD hS (hg _ q5_21) dX12_goOrders_235 (fun H locs hP hD hS => ?_)
                  refine lv_aload_n hx hb dX12_goOrders_238 rfl (lv_at hl 2 rfl) ?_
                  refine lv_iload hx hb dX12_goOrders_239 (lv_at hl 9 rfl) ?_
                  refine pr_hour1 hx hb hg hown hK hP hD hS (hg _ q5_22) dX12_goOrders_241 (fun H locs hP hD hS => ?_)
                  refine lv_aload_n hx hb dX12_goOrders_244 rfl (lv_at hl 2 rfl) ?_
                  refine lv_iload hx hb dX12_goOrders_245 (lv_at hl 10 rfl) ?_
                  refine pr_lies1 hx hb hg hown hK hP hD hS (hg _ q5_23) dX12_goOrders_247 (fun H locs hP hD hS => ?_)
                  obtain ⟨x_120, ex_120⟩ : ∃ y : Int32, y = x9 + 1 := ⟨_, rfl⟩
                  have fx_120 : x_120.toInt = x9.toInt + 1 := by rw [ex_120]; exact i_add (by first | omega | (show (_ : Int) ≤ x9.toInt + 1; omega)) (by first | omega | (show x9.toInt + 1 ≤ (_ : Int); omega))
                  refine lv_iinc (v := x_120) (lv' := [(9, .int x_120), (11, .int o_u33_90), (10, .int r_89), (0, .ref (bd 0)), (1, .int p1), (2, .int p2), (3, .int p3), (4, .int p4), (5, .int x5), (6, .int x6), (7, .int x7), (8, .int x8)]) hx hb dX12_goOrders_250 hl (k := 11) rfl (by rw [ex_120]; rfl) (by decide) rfl (fun ls hl => ?_)
                  refine lv_goto (tgt := 103) hx hb dX12_goOrders_253 (by decide) ?_
                  exact ih.2 x5 x6 x7 x8 x_120 o_u33_108 o_u34_109 x5 x6 x7 x8 o_b39_114 o_b32_115 o_b25_116 o_b26_117 o_u43_105 o_u42_106 o_b40_107 _ _ (by omega) (by omega) (by omega) (by omega) (show -1 ≤ x6.toInt by first | omega | assumption) (show x6.toInt < (u 1).toInt by first | omega | assumption) (by omega) hP hD hS ls (lv_sub hl [3, 4, 5, 6, 7, 8, 9, 10, 11, 0] rfl)
                ·
                  have kc_119 : (0 : Int) ≤ r_89.toInt := i_nlt c_119
                  exfalso; omega
              ·
                have kc_103 : (0 : Int) ≤ r_89.toInt := i_nlt c_103
                refine lv_iload hx hb dX12_goOrders_188 (lv_at hl 0 rfl) ?_
                refine lv_if_eq (tgt := 200) hx hb dX12_goOrders_190 (by decide) (fun c_121 => ?_) (fun c_121 => ?_)
                ·
                  have kc_121 : o_u33_90.toInt = (0 : Int) := i_eq c_121
                  refine lv_iload hx hb dX12_goOrders_200 (lv_at hl 6 rfl) ?_
                  refine cV_v (As := [.int p1, .int x_100, .int x_102, .int p4]) (rest := []) ⟨hx, hb, hml, hown, hg⟩ ((hrec (n - 1) (by omega)) l D cs A bd (va_up (va_up (va_up (va_up (va_up (va_up (va_up (va_up u 43 c103_u43) 42 c103_u42) 33 o_u33_90) 34 o_u34_91) 30 o_u30_92) 28 o_u28_93) 29 o_u29_94) 31 o_u31_96) (va_up (va_up (va_up (va_up (va_up b 40 c103_b40) 39 (upd c103_b39 p2.toNatClampNeg x9)) 32 o_b32_95) 25 o_b25_97) 26 o_b26_98) bw  p1 x_100 x_102 p4 (show 0 ≤ p1.toInt by first | omega | decide) (show p1.toInt < 6 by first | omega | decide) (show 0 ≤ x_100.toInt by first | omega | decide) (show x_100.toInt ≤ (u 41).toInt by first | omega | decide) (show (u 41).toInt ≤ 7 by first | omega | decide) (show 7 ≤ x_100.toInt + ((n - 1 : Nat) : Int) by first | omega | decide) (by assumption) hlaw (show 0 ≤ (u 41).toInt by first | omega | decide) (show (u 41).toInt ≤ 24 by first | omega | decide) (show 0 ≤ (u 1).toInt by first | omega | decide) (show (u 1).toInt ≤ 8 by first | omega | decide) (show -1 ≤ o_u29_94.toInt by first | omega | decide) (show o_u29_94.toInt < (u 1).toInt by first | omega | decide) ib23_0 ib24_0 ib20_0) ca_X12_goOrders q6_183 ⟨rfl, rfl⟩ ⟨(show 2 * (n - 1) + 8 + 1 ≤ 2 * n + 8 by omega), (show 8 + (12 + 11) + (100 * (n - 1) + 300) ≤ 100 * n + 300 by omega)⟩ (rc_model hK hP) hK hP hD hS hZ rfl hl.1 rfl (Nat.le_of_ble_eq_true rfl) ⟨Nat.zero_le _, Nat.zero_le _⟩ dX12_goOrders_202 (fun z_136 H locs wr_122 hP hD hS => ?_)
                  obtain ⟨o_u43_123, o_u42_124, o_b40_125, o_u33_126, o_u34_127, o_u28_128, o_u29_129, o_u30_130, o_u31_131, o_b39_132, o_b32_133, o_b25_134, o_b26_135⟩ := z_136
                  have hP : va_P D vwCl (RW cs bd (va_up (va_up (va_up (va_up (va_up (va_up (va_up (va_up u 43 o_u43_123) 42 o_u42_124) 33 o_u33_126) 34 o_u34_127) 28 o_u28_128) 29 o_u29_129) 30 o_u30_130) 31 o_u31_131) (va_up (va_up (va_up (va_up (va_up b 40 o_b40_125) 39 o_b39_132) 32 o_b32_133) 25 o_b25_134) 26 o_b26_135) bw) H := hP
                  have hD : va_D A (RW cs bd (va_up (va_up (va_up (va_up (va_up (va_up (va_up (va_up u 43 o_u43_123) 42 o_u42_124) 33 o_u33_126) 34 o_u34_127) 28 o_u28_128) 29 o_u29_129) 30 o_u30_130) 31 o_u31_131) (va_up (va_up (va_up (va_up (va_up b 40 o_b40_125) 39 o_b39_132) 32 o_b32_133) 25 o_b25_134) 26 o_b26_135) bw) := hD
                  obtain ⟨wr_122_0, wr_122_1⟩ : (-1 ≤ o_u29_129.toInt) ∧ (o_u29_129.toInt < (u 1).toInt) := wr_122
                  refine lv_iload hx hb dX12_goOrders_205 (lv_at hl 1 rfl) ?_
                  refine lv_if_lt (tgt := 226) hx hb dX12_goOrders_207 (by decide) (fun c_137 => ?_) (fun c_137 => ?_)
                  ·
                    have kc_137 : r_89.toInt < (0 : Int) := i_lt c_137
                    exfalso; omega
                  ·
                    have kc_137 : (0 : Int) ≤ r_89.toInt := i_nlt c_137
                    refine lv_iload hx hb dX12_goOrders_210 (lv_at hl 0 rfl) ?_
                    refine lv_if_ne (tgt := 226) hx hb dX12_goOrders_212 (by decide) (fun c_138 => ?_) (fun c_138 => ?_)
                    ·
                      have kc_138 : o_u33_90.toInt ≠ (0 : Int) := i_ne c_138
                      exfalso; omega
                    ·
                      have kc_138 : o_u33_90.toInt = (0 : Int) := i_eq c_138
                      refine lv_aload_n hx hb dX12_goOrders_215 rfl (lv_at hl 2 rfl) ?_
                      refine gr_pads1 hx hb hg hown hK hP (hg _ q5_24) dX12_goOrders_216 ?_
                      refine lv_iload hx hb dX12_goOrders_219 (lv_at hl 1 rfl) ?_
                      refine lv_dup2_11 hx hb dX12_goOrders_221 rfl rfl ?_
                      refine lr_pads1 hx hb hK hP (i_in (by omega) (by omega)) dX12_goOrders_222 ?_
                      refine lv_topi (fun x_139 ex_139 => ?_)
                      have ex_139 : x_139 = o_b32_133 r_89.toNatClampNeg := ex_139
                      have hx_139 : x_139.toInt = (o_b32_133 r_89.toNatClampNeg).toInt := by rw [ex_139]
                      refine lv_iconst (v := 1) hx hb dX12_goOrders_223 (by decide) ?_
                      refine lv_iadd hx hb dX12_goOrders_224 ?_
                      refine lv_topi (fun x_140 ex_140 => ?_)
                      refine sr_pads1 hx hb hK hP hD hS (i_in (by omega) (by omega)) dX12_goOrders_225 (fun H locs hP hD hS => ?_)
                      refine lv_aload_n hx hb dX12_goOrders_226 rfl (lv_at hl 2 rfl) ?_
                      refine lv_iload hx hb dX12_goOrders_227 (lv_at hl 7 rfl) ?_
                      refine pr_bee1 hx hb hg hown hK hP hD hS (hg _ q5_20) dX12_goOrders_229 (fun H locs hP hD hS => ?_)
                      refine lv_aload_n hx hb dX12_goOrders_232 rfl (lv_at hl 2 rfl) ?_
                      refine lv_iload hx hb dX12_goOrders_233 (lv_at hl 8 rfl) ?_
                      refine pr_liar1 hx hb hg hown hK hP hD hS (hg _ q5_21) dX12_goOrders_235 (fun H locs hP hD hS => ?_)
                      refine lv_aload_n hx hb dX12_goOrders_238 rfl (lv_at hl 2 rfl) ?_
                      refine lv_iload hx hb dX12_goOrders_239 (lv_at hl 9 rfl) ?_
                      refine pr_hour1 hx hb hg hown hK hP hD hS (hg _ q5_22) dX12_goOrders_241 (fun H locs hP hD hS => ?_)
                      refine lv_aload_n hx hb dX12_goOrders_244 rfl (lv_at hl 2 rfl) ?_
                      refine lv_iload hx hb dX12_goOrders_245 (lv_at hl 10 rfl) ?_
                      refine pr_lies1 hx hb hg hown hK hP hD hS (hg _ q5_23) dX12_goOrders_247 (fun H locs hP hD hS => ?_)
                      obtain ⟨x_141, ex_141⟩ : ∃ y : Int32, y = x9 + 1 := ⟨_, rfl⟩
                      have fx_141 : x_141.toInt = x9.toInt + 1 := by rw [ex_141]; exact i_add (by first | omega | (show (_ : Int) ≤ x9.toInt + 1; omega)) (by first | omega | (show x9.toInt + 1 ≤ (_ : Int); omega))
                      refine lv_iinc (v := x_141) (lv' := [(9, .int x_141), (11, .int o_u33_90), (10, .int r_89), (0, .ref (bd 0)), (1, .int p1), (2, .int p2), (3, .int p3), (4, .int p4), (5, .int x5), (6, .int x6), (7, .int x7), (8, .int x8)]) hx hb dX12_goOrders_250 hl (k := 11) rfl (by rw [ex_141]; rfl) (by decide) rfl (fun ls hl => ?_)
                      refine lv_goto (tgt := 103) hx hb dX12_goOrders_253 (by decide) ?_
                      exact ih.2 x5 x6 x7 x8 x_141 o_u33_126 o_u34_127 x5 x6 x7 x8 o_b39_132 (upd o_b32_133 r_89.toNatClampNeg x_140) o_b25_134 o_b26_135 o_u43_123 o_u42_124 o_b40_125 _ _ (by omega) (by omega) (by omega) (by omega) (show -1 ≤ x6.toInt by first | omega | assumption) (show x6.toInt < (u 1).toInt by first | omega | assumption) (by omega) hP hD hS ls (lv_sub hl [3, 4, 5, 6, 7, 8, 9, 10, 11, 0] rfl)
                ·
                  have kc_121 : o_u33_90.toInt ≠ (0 : Int) := i_ne c_121
                  refine lv_iload hx hb dX12_goOrders_193 (lv_at hl 6 rfl) ?_
                  refine lv_iconst (v := 1) hx hb dX12_goOrders_195 (by decide) ?_
                  refine lv_iadd hx hb dX12_goOrders_196 ?_
                  refine lv_topi (fun x_142 ex_142 => ?_)
                  refine lv_goto (tgt := 202) hx hb dX12_goOrders_197 (by decide) ?_
                  refine cV_v (As := [.int p1, .int x_100, .int x_102, .int x_142]) (rest := []) ⟨hx, hb, hml, hown, hg⟩ ((hrec (n - 1) (by omega)) l D cs A bd (va_up (va_up (va_up (va_up (va_up (va_up (va_up (va_up u 43 c103_u43) 42 c103_u42) 33 o_u33_90) 34 o_u34_91) 30 o_u30_92) 28 o_u28_93) 29 o_u29_94) 31 o_u31_96) (va_up (va_up (va_up (va_up (va_up b 40 c103_b40) 39 (upd c103_b39 p2.toNatClampNeg x9)) 32 o_b32_95) 25 o_b25_97) 26 o_b26_98) bw  p1 x_100 x_102 x_142 (show 0 ≤ p1.toInt by first | omega | decide) (show p1.toInt < 6 by first | omega | decide) (show 0 ≤ x_100.toInt by first | omega | decide) (show x_100.toInt ≤ (u 41).toInt by first | omega | decide) (show (u 41).toInt ≤ 7 by first | omega | decide) (show 7 ≤ x_100.toInt + ((n - 1 : Nat) : Int) by first | omega | decide) (by assumption) hlaw (show 0 ≤ (u 41).toInt by first | omega | decide) (show (u 41).toInt ≤ 24 by first | omega | decide) (show 0 ≤ (u 1).toInt by first | omega | decide) (show (u 1).toInt ≤ 8 by first | omega | decide) (show -1 ≤ o_u29_94.toInt by first | omega | decide) (show o_u29_94.toInt < (u 1).toInt by first | omega | decide) ib23_0 ib24_0 ib20_0) ca_X12_goOrders q6_183 ⟨rfl, rfl⟩ ⟨(show 2 * (n - 1) + 8 + 1 ≤ 2 * n + 8 by omega), (show 8 + (12 + 11) + (100 * (n - 1) + 300) ≤ 100 * n + 300 by omega)⟩ (rc_model hK hP) hK hP hD hS hZ rfl hl.1 rfl (Nat.le_of_ble_eq_true rfl) ⟨Nat.zero_le _, Nat.zero_le _⟩ dX12_goOrders_202 (fun z_157 H locs wr_143 hP hD hS => ?_)
                  obtain ⟨o_u43_144, o_u42_145, o_b40_146, o_u33_147, o_u34_148, o_u28_149, o_u29_150, o_u30_151, o_u31_152, o_b39_153, o_b32_154, o_b25_155, o_b26_156⟩ := z_157
                  have hP : va_P D vwCl (RW cs bd (va_up (va_up (va_up (va_up (va_up (va_up (va_up (va_up u 43 o_u43_144) 42 o_u42_145) 33 o_u33_147) 34 o_u34_148) 28 o_u28_149) 29 o_u29_150) 30 o_u30_151) 31 o_u31_152) (va_up (va_up (va_up (va_up (va_up b 40 o_b40_146) 39 o_b39_153) 32 o_b32_154) 25 o_b25_155) 26 o_b26_156) bw) H := hP
                  have hD : va_D A (RW cs bd (va_up (va_up (va_up (va_up (va_up (va_up (va_up (va_up u 43 o_u43_144) 42 o_u42_145) 33 o_u33_147) 34 o_u34_148) 28 o_u28_149) 29 o_u29_150) 30 o_u30_151) 31 o_u31_152) (va_up (va_up (va_up (va_up (va_up b 40 o_b40_146) 39 o_b39_153) 32 o_b32_154) 25 o_b25_155) 26 o_b26_156) bw) := hD
                  obtain ⟨wr_143_0, wr_143_1⟩ : (-1 ≤ o_u29_150.toInt) ∧ (o_u29_150.toInt < (u 1).toInt) := wr_143
                  refine lv_iload hx hb dX12_goOrders_205 (lv_at hl 1 rfl) ?_
                  refine lv_if_lt (tgt := 226) hx hb dX12_goOrders_207 (by decide) (fun c_158 => ?_) (fun c_158 => ?_)
                  ·
                    have kc_158 : r_89.toInt < (0 : Int) := i_lt c_158
                    exfalso; omega
                  ·
                    have kc_158 : (0 : Int) ≤ r_89.toInt := i_nlt c_158
                    refine lv_iload hx hb dX12_goOrders_210 (lv_at hl 0 rfl) ?_
                    refine lv_if_ne (tgt := 226) hx hb dX12_goOrders_212 (by decide) (fun c_159 => ?_) (fun c_159 => ?_)
                    ·
                      have kc_159 : o_u33_90.toInt ≠ (0 : Int) := i_ne c_159
                      refine lv_aload_n hx hb dX12_goOrders_226 rfl (lv_at hl 2 rfl) ?_
                      refine lv_iload hx hb dX12_goOrders_227 (lv_at hl 7 rfl) ?_
                      refine pr_bee1 hx hb hg hown hK hP hD hS (hg _ q5_20) dX12_goOrders_229 (fun H locs hP hD hS => ?_)
                      refine lv_aload_n hx hb dX12_goOrders_232 rfl (lv_at hl 2 rfl) ?_
                      refine lv_iload hx hb dX12_goOrders_233 (lv_at hl 8 rfl) ?_
                      refine pr_liar1 hx hb hg hown hK hP hD hS (hg _ q5_21) dX12_goOrders_235 (fun H locs hP hD hS => ?_)
                      refine lv_aload_n hx hb dX12_goOrders_238 rfl (lv_at hl 2 rfl) ?_
                      refine lv_iload hx hb dX12_goOrders_239 (lv_at hl 9 rfl) ?_
                      refine pr_hour1 hx hb hg hown hK hP hD hS (hg _ q5_22) dX12_goOrders_241 (fun H locs hP hD hS => ?_)
                      refine lv_aload_n hx hb dX12_goOrders_244 rfl (lv_at hl 2 rfl) ?_
                      refine lv_iload hx hb dX12_goOrders_245 (lv_at hl 10 rfl) ?_
                      refine pr_lies1 hx hb hg hown hK hP hD hS (hg _ q5_23) dX12_goOrders_247 (fun H locs hP hD hS => ?_)
                      obtain ⟨x_160, ex_160⟩ : ∃ y : Int32, y = x9 + 1 := ⟨_, rfl⟩
                      have fx_160 : x_160.toInt = x9.toInt + 1 := by rw [ex_160]; exact i_add (by first | omega | (show (_ : Int) ≤ x9.toInt + 1; omega)) (by first | omega | (show x9.toInt + 1 ≤ (_ : Int); omega))
                      refine lv_iinc (v := x_160) (lv' := [(9, .int x_160), (11, .int o_u33_90), (10, .int r_89), (0, .ref (bd 0)), (1, .int p1), (2, .int p2), (3, .int p3), (4, .int p4), (5, .int x5), (6, .int x6), (7, .int x7), (8, .int x8)]) hx hb dX12_goOrders_250 hl (k := 11) rfl (by rw [ex_160]; rfl) (by decide) rfl (fun ls hl => ?_)
                      refine lv_goto (tgt := 103) hx hb dX12_goOrders_253 (by decide) ?_
                      exact ih.2 x5 x6 x7 x8 x_160 o_u33_147 o_u34_148 x5 x6 x7 x8 o_b39_153 o_b32_154 o_b25_155 o_b26_156 o_u43_144 o_u42_145 o_b40_146 _ _ (by omega) (by omega) (by omega) (by omega) (show -1 ≤ x6.toInt by first | omega | assumption) (show x6.toInt < (u 1).toInt by first | omega | assumption) (by omega) hP hD hS ls (lv_sub hl [3, 4, 5, 6, 7, 8, 9, 10, 11, 0] rfl)
                    ·
                      have kc_159 : o_u33_90.toInt = (0 : Int) := i_eq c_159
                      refine lv_aload_n hx hb dX12_goOrders_215 rfl (lv_at hl 2 rfl) ?_
                      refine gr_pads1 hx hb hg hown hK hP (hg _ q5_24) dX12_goOrders_216 ?_
                      refine lv_iload hx hb dX12_goOrders_219 (lv_at hl 1 rfl) ?_
                      refine lv_dup2_11 hx hb dX12_goOrders_221 rfl rfl ?_
                      refine lr_pads1 hx hb hK hP (i_in (by omega) (by omega)) dX12_goOrders_222 ?_
                      refine lv_topi (fun x_161 ex_161 => ?_)
                      have ex_161 : x_161 = o_b32_154 r_89.toNatClampNeg := ex_161
                      have hx_161 : x_161.toInt = (o_b32_154 r_89.toNatClampNeg).toInt := by rw [ex_161]
                      refine lv_iconst (v := 1) hx hb dX12_goOrders_223 (by decide) ?_
                      refine lv_iadd hx hb dX12_goOrders_224 ?_
                      refine lv_topi (fun x_162 ex_162 => ?_)
                      refine sr_pads1 hx hb hK hP hD hS (i_in (by omega) (by omega)) dX12_goOrders_225 (fun H locs hP hD hS => ?_)
                      refine lv_aload_n hx hb dX12_goOrders_226 rfl (lv_at hl 2 rfl) ?_
                      refine lv_iload hx hb dX12_goOrders_227 (lv_at hl 7 rfl) ?_
                      refine pr_bee1 hx hb hg hown hK hP hD hS (hg _ q5_20) dX12_goOrders_229 (fun H locs hP hD hS => ?_)
                      refine lv_aload_n hx hb dX12_goOrders_232 rfl (lv_at hl 2 rfl) ?_
                      refine lv_iload hx hb dX12_goOrders_233 (lv_at hl 8 rfl) ?_
                      refine pr_liar1 hx hb hg hown hK hP hD hS (hg _ q5_21) dX12_goOrders_235 (fun H locs hP hD hS => ?_)
                      refine lv_aload_n hx hb dX12_goOrders_238 rfl (lv_at hl 2 rfl) ?_
                      refine lv_iload hx hb dX12_goOrders_239 (lv_at hl 9 rfl) ?_
                      refine pr_hour1 hx hb hg hown hK hP hD hS (hg _ q5_22) dX12_goOrders_241 (fun H locs hP hD hS => ?_)
                      refine lv_aload_n hx hb dX12_goOrders_244 rfl (lv_at hl 2 rfl) ?_
                      refine lv_iload hx hb dX12_goOrders_245 (lv_at hl 10 rfl) ?_
                      refine pr_lies1 hx hb hg hown hK hP hD hS (hg _ q5_23) dX12_goOrders_247 (fun H locs hP hD hS => ?_)
                      obtain ⟨x_163, ex_163⟩ : ∃ y : Int32, y = x9 + 1 := ⟨_, rfl⟩
                      have fx_163 : x_163.toInt = x9.toInt + 1 := by rw [ex_163]; exact i_add (by first | omega | (show (_ : Int) ≤ x9.toInt + 1; omega)) (by first | omega | (show x9.toInt + 1 ≤ (_ : Int); omega))
                      refine lv_iinc (v := x_163) (lv' := [(9, .int x_163), (11, .int o_u33_90), (10, .int r_89), (0, .ref (bd 0)), (1, .int p1), (2, .int p2), (3, .int p3), (4, .int p4), (5, .int x5), (6, .int x6), (7, .int x7), (8, .int x8)]) hx hb dX12_goOrders_250 hl (k := 11) rfl (by rw [ex_163]; rfl) (by decide) rfl (fun ls hl => ?_)
                      refine lv_goto (tgt := 103) hx hb dX12_goOrders_253 (by decide) ?_
                      exact ih.2 x5 x6 x7 x8 x_163 o_u33_147 o_u34_148 x5 x6 x7 x8 o_b39_153 (upd o_b32_154 r_89.toNatClampNeg x_162) o_b25_155 o_b26_156 o_u43_144 o_u42_145 o_b40_146 _ _ (by omega) (by omega) (by omega) (by omega) (show -1 ≤ x6.toInt by first | omega | assumption) (show x6.toInt < (u 1).toInt by first | omega | assumption) (by omega) hP hD hS ls (lv_sub hl [3, 4, 5, 6, 7, 8, 9, 10, 11, 0] rfl)
          ·
            have kc_7 : x_6.toInt = (1 : Int) := i_eq c_7
            refine lv_goto (tgt := 250) hx hb dX12_goOrders_122 (by decide) ?_
            obtain ⟨x_164, ex_164⟩ : ∃ y : Int32, y = x9 + 1 := ⟨_, rfl⟩
            have fx_164 : x_164.toInt = x9.toInt + 1 := by rw [ex_164]; exact i_add (by first | omega | (show (_ : Int) ≤ x9.toInt + 1; omega)) (by first | omega | (show x9.toInt + 1 ≤ (_ : Int); omega))
            refine lv_iinc (v := x_164) (lv' := [(9, .int x_164), (0, .ref (bd 0)), (1, .int p1), (2, .int p2), (3, .int p3), (4, .int p4), (5, .int x5), (6, .int x6), (7, .int x7), (8, .int x8)]) hx hb dX12_goOrders_250 hl (k := 9) rfl (by rw [ex_164]; rfl) (by decide) rfl (fun ls hl => ?_)
            refine lv_goto (tgt := 103) hx hb dX12_goOrders_253 (by decide) ?_
            exact ih.2 x5 x6 x7 x8 x_164 c103_u33 c103_u34 c103_u28 c103_u29 c103_u30 c103_u31 c103_b39 c103_b32 c103_b25 c103_b26 c103_u43 c103_u42 c103_b40 _ _ (by omega) (by omega) (by omega) (by omega) (show -1 ≤ c103_u29.toInt by first | omega | assumption) (show c103_u29.toInt < (u 1).toInt by first | omega | assumption) (by omega) hP hD hS ls (lv_sub hl [1, 2, 3, 4, 5, 6, 7, 8, 9, 0] rfl)
  refine lv_iload_n hx hb dX12_goOrders_0 rfl (lv_at hl 2 rfl) ?_
  refine lv_aload_n hx hb dX12_goOrders_1 rfl (lv_at hl 0 rfl) ?_
  refine gr_ordersMany hx hb hg hown hK hP (x := (u 41)) rfl (hg _ q5_33) dX12_goOrders_2 ?_
  refine lv_icmp_ne (tgt := 76) hx hb dX12_goOrders_5 (by decide) (fun c_165 => ?_) (fun c_165 => ?_)
  ·
    have kc_165 : p2.toInt ≠ (u 41).toInt := i_ne c_165
    refine lv_aload_n hx hb dX12_goOrders_76 rfl (lv_at hl 0 rfl) ?_
    refine gr_bee1 hx hb hg hown hK hP (x := (u 28)) rfl (hg _ q5_20) dX12_goOrders_77 ?_
    refine lv_istore (lv' := [(5, .int (u 28)), (0, .ref (bd 0)), (1, .int p1), (2, .int p2), (3, .int p3), (4, .int p4)]) hx hb dX12_goOrders_80 hl (by decide) rfl (fun ls hl => ?_)
    refine lv_aload_n hx hb dX12_goOrders_82 rfl (lv_at hl 1 rfl) ?_
    refine gr_liar1 hx hb hg hown hK hP (x := (u 29)) rfl (hg _ q5_21) dX12_goOrders_83 ?_
    refine lv_istore (lv' := [(6, .int (u 29)), (5, .int (u 28)), (0, .ref (bd 0)), (1, .int p1), (2, .int p2), (3, .int p3), (4, .int p4)]) hx hb dX12_goOrders_86 hl (by decide) rfl (fun ls hl => ?_)
    refine lv_aload_n hx hb dX12_goOrders_88 rfl (lv_at hl 2 rfl) ?_
    refine gr_hour1 hx hb hg hown hK hP (x := (u 30)) rfl (hg _ q5_22) dX12_goOrders_89 ?_
    refine lv_istore (lv' := [(7, .int (u 30)), (6, .int (u 29)), (5, .int (u 28)), (0, .ref (bd 0)), (1, .int p1), (2, .int p2), (3, .int p3), (4, .int p4)]) hx hb dX12_goOrders_92 hl (by decide) rfl (fun ls hl => ?_)
    refine lv_aload_n hx hb dX12_goOrders_94 rfl (lv_at hl 3 rfl) ?_
    refine gr_lies1 hx hb hg hown hK hP (x := (u 31)) rfl (hg _ q5_23) dX12_goOrders_95 ?_
    refine lv_istore (lv' := [(8, .int (u 31)), (7, .int (u 30)), (6, .int (u 29)), (5, .int (u 28)), (0, .ref (bd 0)), (1, .int p1), (2, .int p2), (3, .int p3), (4, .int p4)]) hx hb dX12_goOrders_98 hl (by decide) rfl (fun ls hl => ?_)
    refine lv_iconst (v := 0) hx hb dX12_goOrders_100 (by decide) ?_
    refine lv_istore (lv' := [(9, .int 0), (8, .int (u 31)), (7, .int (u 30)), (6, .int (u 29)), (5, .int (u 28)), (0, .ref (bd 0)), (1, .int p1), (2, .int p2), (3, .int p3), (4, .int p4)]) hx hb dX12_goOrders_101 hl (by decide) rfl (fun ls hl => ?_)
    have q0_0 : (0 : Int32).toInt = 0 := rfl
    exact (hcut ((100 + ((u 41).toInt - (0 : Int32).toInt).toNat) + 1)).2 (u 28) (u 29) (u 30) (u 31) 0 (u 33) (u 34) (u 28) (u 29) (u 30) (u 31) (b 39) (b 32) (b 25) (b 26) (u 43) (u 42) (b 40) _ _ (by omega) (by omega) (by omega) (by omega) (show -1 ≤ (u 29).toInt by first | omega | assumption) (show (u 29).toInt < (u 1).toInt by first | omega | assumption) (Nat.lt_succ_self _) hP hD hS ls (lv_sub hl [5, 6, 7, 8, 9, 4, 3, 2, 1, 0] rfl)
  ·
    have kc_165 : p2.toInt = (u 41).toInt := i_eq c_165
    refine lv_iload hx hb dX12_goOrders_8 (lv_at hl 4 rfl) ?_
    refine lv_if_ne (tgt := 23) hx hb dX12_goOrders_10 (by decide) (fun c_166 => ?_) (fun c_166 => ?_)
    ·
      have kc_166 : p4.toInt ≠ (0 : Int) := i_ne c_166
      refine lv_aload_n hx hb dX12_goOrders_23 rfl (lv_at hl 0 rfl) ?_
      refine gr_leastHurts hx hb hg hown hK hP (x := (u 42)) rfl (hg _ q5_34) dX12_goOrders_24 ?_
      refine lv_if_lt (tgt := 40) hx hb dX12_goOrders_27 (by decide) (fun c_167 => ?_) (fun c_167 => ?_)
      ·
        have kc_167 : (u 42).toInt < (0 : Int) := i_lt c_167
        refine lv_aload_n hx hb dX12_goOrders_40 rfl (lv_at hl 0 rfl) ?_
        refine lv_iload hx hb dX12_goOrders_41 (lv_at hl 4 rfl) ?_
        refine pr_leastHurts hx hb hg hown hK hP hD hS (hg _ q5_34) dX12_goOrders_43 (fun H locs hP hD hS => ?_)
        refine lv_iconst (v := 0) hx hb dX12_goOrders_46 (by decide) ?_
        refine lv_istore (lv' := [(5, .int 0), (0, .ref (bd 0)), (1, .int p1), (2, .int p2), (3, .int p3), (4, .int p4)]) hx hb dX12_goOrders_47 hl (by decide) rfl (fun ls hl => ?_)
        have q0_0 : (0 : Int32).toInt = 0 := rfl
        exact (hcut (((p2.toInt - (0 : Int32).toInt).toNat) + 1)).1 0 (b 40) p4 (u 43) _ _ (by omega) (by omega) (by omega) (Nat.lt_succ_self _) hP hD hS ls (lv_sub hl [1, 3, 0] rfl)
      ·
        have kc_167 : (0 : Int) ≤ (u 42).toInt := i_nlt c_167
        refine lv_iload hx hb dX12_goOrders_30 (lv_at hl 4 rfl) ?_
        refine lv_aload_n hx hb dX12_goOrders_32 rfl (lv_at hl 0 rfl) ?_
        refine gr_leastHurts hx hb hg hown hK hP (x := (u 42)) rfl (hg _ q5_34) dX12_goOrders_33 ?_
        refine lv_icmp_lt (tgt := 40) hx hb dX12_goOrders_36 (by decide) (fun c_168 => ?_) (fun c_168 => ?_)
        ·
          have kc_168 : p4.toInt < (u 42).toInt := i_lt c_168
          refine lv_aload_n hx hb dX12_goOrders_40 rfl (lv_at hl 0 rfl) ?_
          refine lv_iload hx hb dX12_goOrders_41 (lv_at hl 4 rfl) ?_
          refine pr_leastHurts hx hb hg hown hK hP hD hS (hg _ q5_34) dX12_goOrders_43 (fun H locs hP hD hS => ?_)
          refine lv_iconst (v := 0) hx hb dX12_goOrders_46 (by decide) ?_
          refine lv_istore (lv' := [(5, .int 0), (0, .ref (bd 0)), (1, .int p1), (2, .int p2), (3, .int p3), (4, .int p4)]) hx hb dX12_goOrders_47 hl (by decide) rfl (fun ls hl => ?_)
          have q0_0 : (0 : Int32).toInt = 0 := rfl
          exact (hcut (((p2.toInt - (0 : Int32).toInt).toNat) + 1)).1 0 (b 40) p4 (u 43) _ _ (by omega) (by omega) (by omega) (Nat.lt_succ_self _) hP hD hS ls (lv_sub hl [1, 3, 0] rfl)
        ·
          have kc_168 : (u 42).toInt ≤ p4.toInt := i_nlt c_168
          have hP : va_P D vwCl (RW cs bd (va_up (va_up (va_up (va_up (va_up (va_up (va_up (va_up u 43 (u 43)) 42 (u 42)) 33 (u 33)) 34 (u 34)) 28 (u 28)) 29 (u 29)) 30 (u 30)) 31 (u 31)) (va_up (va_up (va_up (va_up (va_up b 40 (b 40)) 39 (b 39)) 32 (b 32)) 25 (b 25)) 26 (b 26)) bw) _ := hP
          have hD : va_D A (RW cs bd (va_up (va_up (va_up (va_up (va_up (va_up (va_up (va_up u 43 (u 43)) 42 (u 42)) 33 (u 33)) 34 (u 34)) 28 (u 28)) 29 (u 29)) 30 (u 30)) 31 (u 31)) (va_up (va_up (va_up (va_up (va_up b 40 (b 40)) 39 (b 39)) 32 (b 32)) 25 (b 25)) 26 (b 26)) bw) := hD
          exact W.vret hx hb hr (fun tt ht hW => ⟨⟨⟨(u 43), (u 42), (b 40), (u 33), (u 34), (u 28), (u 29), (u 30), (u 31), (b 39), (b 32), (b 25), (b 26)⟩, rfl, ⟨(show -1 ≤ (u 29).toInt by first | omega | assumption), (show (u 29).toInt < (u 1).toInt by first | omega | assumption)⟩, by rw [ht]; exact hP, hD⟩, hS.F ht⟩) hS.2.2 dX12_goOrders_39
    ·
      have kc_166 : p4.toInt = (0 : Int) := i_eq c_166
      refine lv_aload_n hx hb dX12_goOrders_13 rfl (lv_at hl 0 rfl) ?_
      refine lv_dup hx hb dX12_goOrders_14 rfl ?_
      refine gr_quiets hx hb hg hown hK hP (x := (u 43)) rfl (hg _ q5_35) dX12_goOrders_15 ?_
      refine lv_iconst (v := 1) hx hb dX12_goOrders_18 (by decide) ?_
      refine lv_iadd hx hb dX12_goOrders_19 ?_
      refine lv_topi (fun x_169 ex_169 => ?_)
      refine pr_quiets hx hb hg hown hK hP hD hS (hg _ q5_35) dX12_goOrders_20 (fun H locs hP hD hS => ?_)
      refine lv_aload_n hx hb dX12_goOrders_23 rfl (lv_at hl 0 rfl) ?_
      refine gr_leastHurts hx hb hg hown hK hP (x := (u 42)) rfl (hg _ q5_34) dX12_goOrders_24 ?_
      refine lv_if_lt (tgt := 40) hx hb dX12_goOrders_27 (by decide) (fun c_170 => ?_) (fun c_170 => ?_)
      ·
        have kc_170 : (u 42).toInt < (0 : Int) := i_lt c_170
        refine lv_aload_n hx hb dX12_goOrders_40 rfl (lv_at hl 0 rfl) ?_
        refine lv_iload hx hb dX12_goOrders_41 (lv_at hl 4 rfl) ?_
        refine pr_leastHurts hx hb hg hown hK hP hD hS (hg _ q5_34) dX12_goOrders_43 (fun H locs hP hD hS => ?_)
        refine lv_iconst (v := 0) hx hb dX12_goOrders_46 (by decide) ?_
        refine lv_istore (lv' := [(5, .int 0), (0, .ref (bd 0)), (1, .int p1), (2, .int p2), (3, .int p3), (4, .int p4)]) hx hb dX12_goOrders_47 hl (by decide) rfl (fun ls hl => ?_)
        have q0_0 : (0 : Int32).toInt = 0 := rfl
        exact (hcut (((p2.toInt - (0 : Int32).toInt).toNat) + 1)).1 0 (b 40) p4 x_169 _ _ (by omega) (by omega) (by omega) (Nat.lt_succ_self _) hP hD hS ls (lv_sub hl [1, 3, 0] rfl)
      ·
        have kc_170 : (0 : Int) ≤ (u 42).toInt := i_nlt c_170
        refine lv_iload hx hb dX12_goOrders_30 (lv_at hl 4 rfl) ?_
        refine lv_aload_n hx hb dX12_goOrders_32 rfl (lv_at hl 0 rfl) ?_
        refine gr_leastHurts hx hb hg hown hK hP (x := (u 42)) rfl (hg _ q5_34) dX12_goOrders_33 ?_
        refine lv_icmp_lt (tgt := 40) hx hb dX12_goOrders_36 (by decide) (fun c_171 => ?_) (fun c_171 => ?_)
        ·
          have kc_171 : p4.toInt < (u 42).toInt := i_lt c_171
          refine lv_aload_n hx hb dX12_goOrders_40 rfl (lv_at hl 0 rfl) ?_
          refine lv_iload hx hb dX12_goOrders_41 (lv_at hl 4 rfl) ?_
          refine pr_leastHurts hx hb hg hown hK hP hD hS (hg _ q5_34) dX12_goOrders_43 (fun H locs hP hD hS => ?_)
          refine lv_iconst (v := 0) hx hb dX12_goOrders_46 (by decide) ?_
          refine lv_istore (lv' := [(5, .int 0), (0, .ref (bd 0)), (1, .int p1), (2, .int p2), (3, .int p3), (4, .int p4)]) hx hb dX12_goOrders_47 hl (by decide) rfl (fun ls hl => ?_)
          have q0_0 : (0 : Int32).toInt = 0 := rfl
          exact (hcut (((p2.toInt - (0 : Int32).toInt).toNat) + 1)).1 0 (b 40) p4 x_169 _ _ (by omega) (by omega) (by omega) (Nat.lt_succ_self _) hP hD hS ls (lv_sub hl [1, 3, 0] rfl)
        ·
          have kc_171 : (u 42).toInt ≤ p4.toInt := i_nlt c_171
          have hP : va_P D vwCl (RW cs bd (va_up (va_up (va_up (va_up (va_up (va_up (va_up (va_up u 43 x_169) 42 (u 42)) 33 (u 33)) 34 (u 34)) 28 (u 28)) 29 (u 29)) 30 (u 30)) 31 (u 31)) (va_up (va_up (va_up (va_up (va_up b 40 (b 40)) 39 (b 39)) 32 (b 32)) 25 (b 25)) 26 (b 26)) bw) _ := hP
          have hD : va_D A (RW cs bd (va_up (va_up (va_up (va_up (va_up (va_up (va_up (va_up u 43 x_169) 42 (u 42)) 33 (u 33)) 34 (u 34)) 28 (u 28)) 29 (u 29)) 30 (u 30)) 31 (u 31)) (va_up (va_up (va_up (va_up (va_up b 40 (b 40)) 39 (b 39)) 32 (b 32)) 25 (b 25)) 26 (b 26)) bw) := hD
          exact W.vret hx hb hr (fun tt ht hW => ⟨⟨⟨x_169, (u 42), (b 40), (u 33), (u 34), (u 28), (u 29), (u 30), (u 31), (b 39), (b 32), (b 25), (b 26)⟩, rfl, ⟨(show -1 ≤ (u 29).toInt by first | omega | assumption), (show (u 29).toInt < (u 1).toInt by first | omega | assumption)⟩, by rw [ht]; exact hP, hD⟩, hS.F ht⟩) hS.2.2 dX12_goOrders_39
theorem k_X12_goOrders : ∀ n, C_X12_goOrders n := by
  intro n
  induction n with
  | zero => exact s_X12_goOrders 0 (fun k h => absurd h (by omega))
  | succ n ih => exact s_X12_goOrders (n + 1) (fun k h => by (have e : k = n := by omega); subst e; exact ih)
set_option maxHeartbeats 4000000 in
set_option maxRecDepth 100000 in
theorem k_X12_orders (l : Launch) (D : va_G) (cs : Nat → ClassId) (A : Nat → Prop) (bd : Nat → Nat) (u : Nat → Int32) (b : Nat → Nat → Int32) (bw : Nat → Nat → Int64)  (p1 : Int32) (p2 : Int32) (hlaw : LAWOK (b 20) (b 21) (b 22) (b 23) (b 24)) (ib66_0 : AB (-6) 49 (b 66)) (ib67_0 : AB 0 60 (b 67)) (iu1_0 : 0 ≤ (u 1).toInt) (iu1_1 : (u 1).toInt ≤ 8) (iu41_0 : 0 ≤ (u 41).toInt) (iu41_1 : (u 41).toInt ≤ 24) (iu7_0 : -1 ≤ (u 7).toInt) (iu7_1 : (u 7).toInt < (u 1).toInt) (ib23_0 : AB (-32768) 32767 (b 23)) (ib24_0 : AB (-32768) 32767 (b 24)) (ib20_0 : AB (-128) 127 (b 20)) : Met l yX12_orders (Cond.code yX12_orders cX12_orders 3 (some .int) :: gw) ({ frames := 23, cells := 0, slots := 0, locals := 1031 }) (va_Pc [.ref (bd 0), .int p1, .int p2] (XPre D (TY cs) (RW cs bd u b bw) A)) (va_Qi (fun (r : Int32) (z : Int32 × Int32 × Int32 × Int32 × Int32 × Int32 × Int32 × Int32 × Int32 × (Nat → Int32) × (Nat → Int32) × (Nat → Int32) × (Nat → Int32) × (Nat → Int32)) => (0 ≤ z.1.toInt) ∧ (z.1.toInt ≤ 24)) (XPo D (fun (z : Int32 × Int32 × Int32 × Int32 × Int32 × Int32 × Int32 × Int32 × Int32 × (Nat → Int32) × (Nat → Int32) × (Nat → Int32) × (Nat → Int32) × (Nat → Int32)) => RW cs bd (va_up (va_up (va_up (va_up (va_up (va_up (va_up (va_up (va_up u 41 z.1) 43 z.2.1) 42 z.2.2.1) 33 z.2.2.2.1) 34 z.2.2.2.2.1) 28 z.2.2.2.2.2.1) 29 z.2.2.2.2.2.2.1) 30 z.2.2.2.2.2.2.2.1) 31 z.2.2.2.2.2.2.2.2.1) (va_up (va_up (va_up (va_up (va_up b 40 z.2.2.2.2.2.2.2.2.2.1) 39 z.2.2.2.2.2.2.2.2.2.2.1) 32 z.2.2.2.2.2.2.2.2.2.2.2.1) 25 z.2.2.2.2.2.2.2.2.2.2.2.2.1) 26 z.2.2.2.2.2.2.2.2.2.2.2.2.2) bw) A) A) 0 0 A := by
  refine Met.ofW (cc := cX12_orders) (maxL := 3) (ret := (some .int)) (by decide) rfl ?_
  intro p e s m args below meth c s₁ B hml hv
  obtain ⟨rfl, hP, hK, hD, hZ⟩ := hv
  have hx := B.exec
  have hb := B.bytes
  have hr := B.returns
  have hts := atoms_spec (ws := (Cond.code yX12_orders cX12_orders 3 (some .int) :: gw)) B.pre
  have hg : ∀ w ∈ gw, w.before ([.ref (bd 0), .int p1, .int p2] : List Value).toArray s = true := fun w h => hts w (List.mem_cons_of_mem _ h)
  have hown : s.vm.findClass RX12 = some m.cls := findClass_of_methodNamed B.named
  have hlocks := B.notSynchronized
  have hS : va_S A s.heap s.heap [] := va_S.rf
  have hP : va_P D vwCl (RW cs bd u b bw) s.heap := hP
  have hl := lv_entry ([.ref (bd 0), .int p1, .int p2]) (n := 3) (Nat.le_of_ble_eq_true rfl)
  rw [lg_entry_eq]
  generalize (lg_sl ([.ref (bd 0), .int p1, .int p2]) ++ List.replicate (3 - (lg_sl ([.ref (bd 0), .int p1, .int p2])).length) Slot.unset).toArray = ls at hl ⊢
  have hl : lv_has ls 3 [(0, .ref (bd 0)), (1, .int p1), (2, .int p2)] := hl
  refine lv_iload_n hx hb dX12_orders_0 rfl (lv_at hl 1 rfl) ?_
  refine cS_p (As := [.int p1]) (rest := []) ⟨hx, hb, hml, hown, hg⟩ (k_X12_isShelf l   p1 ) ca_X12_isShelf q5_223 ⟨rfl, rfl⟩ ⟨Nat.le_of_ble_eq_true rfl, Nat.le_of_ble_eq_true rfl⟩ rfl hl.1 rfl (Nat.le_of_ble_eq_true rfl) ⟨Nat.zero_le _, Nat.zero_le _⟩ dX12_orders_1 (fun r_1 wr_1 => ?_)
  have wr_1 : (r_1.toInt = 1 ∧ 0 ≤ p1.toInt ∧ p1.toInt < 6) ∨ (r_1.toInt = 0 ∧ ¬ (0 ≤ p1.toInt ∧ p1.toInt < 6)) := wr_1
  refine lv_if_eq (tgt := 13) hx hb dX12_orders_4 (by decide) (fun c_2 => ?_) (fun c_2 => ?_)
  ·
    have kc_2 : r_1.toInt = (0 : Int) := i_eq c_2
    refine lv_iconst (v := (-1)) hx hb dX12_orders_13 (by decide) ?_
    have q0_m1 : ((-1) : Int32).toInt = (-1) := rfl
    have hP : va_P D vwCl (RW cs bd (va_up (va_up (va_up (va_up (va_up (va_up (va_up (va_up (va_up u 41 (u 41)) 43 (u 43)) 42 (u 42)) 33 (u 33)) 34 (u 34)) 28 (u 28)) 29 (u 29)) 30 (u 30)) 31 (u 31)) (va_up (va_up (va_up (va_up (va_up b 40 (b 40)) 39 (b 39)) 32 (b 32)) 25 (b 25)) 26 (b 26)) bw) _ := hP
    have hD : va_D A (RW cs bd (va_up (va_up (va_up (va_up (va_up (va_up (va_up (va_up (va_up u 41 (u 41)) 43 (u 43)) 42 (u 42)) 33 (u 33)) 34 (u 34)) 28 (u 28)) 29 (u 29)) 30 (u 30)) 31 (u 31)) (va_up (va_up (va_up (va_up (va_up b 40 (b 40)) 39 (b 39)) 32 (b 32)) 25 (b 25)) 26 (b 26)) bw) := hD
    exact W.iret (v := (-1)) hx hb hr (fun tt ht hW => ⟨⟨(-1), ⟨(u 41), (u 43), (u 42), (u 33), (u 34), (u 28), (u 29), (u 30), (u 31), (b 40), (b 39), (b 32), (b 25), (b 26)⟩, rfl, ⟨(show 0 ≤ (u 41).toInt by first | omega | assumption), (show (u 41).toInt ≤ 24 by first | omega | assumption)⟩, by rw [ht]; exact hP, hD⟩, hS.F ht⟩) hS.2.2 dX12_orders_14
  ·
    have kc_2 : r_1.toInt ≠ (0 : Int) := i_ne c_2
    refine lv_iload_n hx hb dX12_orders_7 rfl (lv_at hl 2 rfl) ?_
    refine lv_bipush (v := (-2)) hx hb dX12_orders_8 (by decide) ?_
    refine lv_icmp_ge (tgt := 15) hx hb dX12_orders_10 (by decide) (fun c_3 => ?_) (fun c_3 => ?_)
    ·
      have kc_3 : (-2 : Int) ≤ p2.toInt := i_le c_3
      refine lv_aload_n hx hb dX12_orders_15 rfl (lv_at hl 0 rfl) ?_
      refine lv_iload_n hx hb dX12_orders_16 rfl (lv_at hl 1 rfl) ?_
      refine lv_iconst (v := 0) hx hb dX12_orders_17 (by decide) ?_
      refine cV_ro (As := [.int p1, .int 0]) (rest := []) ⟨hx, hb, hml, hown, hg⟩ (k_X12_rowFault l D cs A bd u b bw  p1 0 (show 0 ≤ p1.toInt by first | omega | decide) (show p1.toInt < 6 by first | omega | decide) ib66_0) ca_X12_rowFault q6_132 ⟨rfl, rfl⟩ ⟨Nat.le_of_ble_eq_true rfl, Nat.le_of_ble_eq_true rfl⟩ (rc_model hK hP) hK hP hD hS hZ rfl hl.1 rfl (Nat.le_of_ble_eq_true rfl) ⟨Nat.zero_le _, Nat.zero_le _⟩ dX12_orders_18 (fun r_4 wr_4 => ?_)
      have wr_4_0 : r_4.toInt = 0 ∨ r_4.toInt = -11 ∨ r_4.toInt = -12 := wr_4
      refine lv_if_ge (tgt := 31) hx hb dX12_orders_21 (by decide) (fun c_5 => ?_) (fun c_5 => ?_)
      ·
        have kc_5 : (0 : Int) ≤ r_4.toInt := i_le c_5
        refine lv_aload_n hx hb dX12_orders_31 rfl (lv_at hl 0 rfl) ?_
        refine lv_aload_n hx hb dX12_orders_32 rfl (lv_at hl 0 rfl) ?_
        refine lv_iload_n hx hb dX12_orders_33 rfl (lv_at hl 1 rfl) ?_
        refine lv_bipush (v := 24) hx hb dX12_orders_34 (by decide) ?_
        refine cV_ro (As := [.int p1, .int 24]) (rest := [.ref (bd 0)]) ⟨hx, hb, hml, hown, hg⟩ (k_X12_longOf l D cs A bd u b bw  p1 24 (show 0 ≤ p1.toInt by first | omega | decide) (show p1.toInt < 6 by first | omega | decide) (show (24 : Int) ≤ 24 by first | omega | decide) ib67_0 (show 0 ≤ (u 1).toInt by first | omega | decide) (show (u 1).toInt ≤ 8 by first | omega | decide)) ca_X12_longOf q6_140 ⟨rfl, rfl⟩ ⟨Nat.le_of_ble_eq_true rfl, Nat.le_of_ble_eq_true rfl⟩ (rc_model hK hP) hK hP hD hS hZ rfl hl.1 rfl (Nat.le_of_ble_eq_true rfl) ⟨Nat.zero_le _, Nat.zero_le _⟩ dX12_orders_36 (fun r_6 wr_6 => ?_)
        obtain ⟨wr_6_0, wr_6_1, wr_6_2⟩ : (0 ≤ r_6.toInt) ∧ (r_6.toInt ≤ 24) ∧ (LOKD r_6 (bw 68) p1 (u 1)) := wr_6
        refine pr_ordersMany hx hb hg hown hK hP hD hS (hg _ q5_33) dX12_orders_39 (fun H locs hP hD hS => ?_)
        refine lv_aload_n hx hb dX12_orders_42 rfl (lv_at hl 0 rfl) ?_
        refine gr_ordersMany hx hb hg hown hK hP (x := r_6) rfl (hg _ q5_33) dX12_orders_43 ?_
        refine lv_bipush (v := 7) hx hb dX12_orders_46 (by decide) ?_
        refine lv_icmp_le (tgt := 54) hx hb dX12_orders_48 (by decide) (fun c_7 => ?_) (fun c_7 => ?_)
        ·
          have kc_7 : r_6.toInt ≤ (7 : Int) := i_le c_7
          refine lv_aload_n hx hb dX12_orders_54 rfl (lv_at hl 0 rfl) ?_
          refine lv_iconst (v := 0) hx hb dX12_orders_55 (by decide) ?_
          refine cV_v (As := [.int 0]) (rest := []) ⟨hx, hb, hml, hown, hg⟩ (k_X12_layNow l D cs A bd (va_up u 41 r_6) b bw  0 (show 0 ≤ (u 1).toInt by first | omega | decide) (show (u 1).toInt ≤ 8 by first | omega | decide) (show -1 ≤ (u 7).toInt by first | omega | decide) (show (u 7).toInt < (u 1).toInt by first | omega | decide)) ca_X12_layNow q6_93 ⟨rfl, rfl⟩ ⟨Nat.le_of_ble_eq_true rfl, Nat.le_of_ble_eq_true rfl⟩ (rc_model hK hP) hK hP hD hS hZ rfl hl.1 rfl (Nat.le_of_ble_eq_true rfl) ⟨Nat.zero_le _, Nat.zero_le _⟩ dX12_orders_56 (fun z_14 H locs wr_8 hP hD hS => ?_)
          obtain ⟨o_u28_9, o_u29_10, o_u30_11, o_u31_12, o_b32_13⟩ := z_14
          have hP : va_P D vwCl (RW cs bd (va_up (va_up (va_up (va_up (va_up u 41 r_6) 28 o_u28_9) 29 o_u29_10) 30 o_u30_11) 31 o_u31_12) (va_up b 32 o_b32_13) bw) H := hP
          have hD : va_D A (RW cs bd (va_up (va_up (va_up (va_up (va_up u 41 r_6) 28 o_u28_9) 29 o_u29_10) 30 o_u30_11) 31 o_u31_12) (va_up b 32 o_b32_13) bw) := hD
          obtain ⟨wr_8_0, wr_8_1, wr_8_2⟩ : (o_u31_12 = (0 : Int32)) ∧ (-1 ≤ o_u29_10.toInt) ∧ (o_u29_10.toInt < (u 1).toInt) := wr_8
          refine lv_aload_n hx hb dX12_orders_59 rfl (lv_at hl 0 rfl) ?_
          refine lv_iconst (v := (-1)) hx hb dX12_orders_60 (by decide) ?_
          refine pr_leastHurts hx hb hg hown hK hP hD hS (hg _ q5_34) dX12_orders_61 (fun H locs hP hD hS => ?_)
          refine lv_aload_n hx hb dX12_orders_64 rfl (lv_at hl 0 rfl) ?_
          refine lv_iconst (v := 0) hx hb dX12_orders_65 (by decide) ?_
          refine pr_quiets hx hb hg hown hK hP hD hS (hg _ q5_35) dX12_orders_66 (fun H locs hP hD hS => ?_)
          refine lv_aload_n hx hb dX12_orders_69 rfl (lv_at hl 0 rfl) ?_
          refine lv_iload_n hx hb dX12_orders_70 rfl (lv_at hl 1 rfl) ?_
          refine lv_iconst (v := 0) hx hb dX12_orders_71 (by decide) ?_
          refine lv_iconst (v := 0) hx hb dX12_orders_72 (by decide) ?_
          refine lv_iconst (v := 0) hx hb dX12_orders_73 (by decide) ?_
          refine cV_v (As := [.int p1, .int 0, .int 0, .int 0]) (rest := []) ⟨hx, hb, hml, hown, hg⟩ ((k_X12_goOrders 7) l D cs A bd (va_up (va_up (va_up (va_up (va_up (va_up (va_up u 41 r_6) 28 o_u28_9) 29 o_u29_10) 30 o_u30_11) 31 o_u31_12) 42 (-1)) 43 0) (va_up b 32 o_b32_13) bw  p1 0 0 0 (show 0 ≤ p1.toInt by first | omega | decide) (show p1.toInt < 6 by first | omega | decide) (show 0 ≤ (0 : Int) by first | omega | decide) (show (0 : Int) ≤ r_6.toInt by first | omega | decide) (show r_6.toInt ≤ 7 by first | omega | decide) (show 7 ≤ (0 : Int) + ((7 : Nat) : Int) by first | omega | decide) (by assumption) hlaw (show 0 ≤ r_6.toInt by first | omega | decide) (show r_6.toInt ≤ 24 by first | omega | decide) (show 0 ≤ (u 1).toInt by first | omega | decide) (show (u 1).toInt ≤ 8 by first | omega | decide) (show -1 ≤ o_u29_10.toInt by first | omega | decide) (show o_u29_10.toInt < (u 1).toInt by first | omega | decide) ib23_0 ib24_0 ib20_0) ca_X12_goOrders q6_183 ⟨rfl, rfl⟩ ⟨Nat.le_of_ble_eq_true rfl, Nat.le_of_ble_eq_true rfl⟩ (rc_model hK hP) hK hP hD hS hZ rfl hl.1 rfl (Nat.le_of_ble_eq_true rfl) ⟨Nat.zero_le _, Nat.zero_le _⟩ dX12_orders_74 (fun z_29 H locs wr_15 hP hD hS => ?_)
          obtain ⟨o_u43_16, o_u42_17, o_b40_18, o_u33_19, o_u34_20, o_u28_21, o_u29_22, o_u30_23, o_u31_24, o_b39_25, o_b32_26, o_b25_27, o_b26_28⟩ := z_29
          have hP : va_P D vwCl (RW cs bd (va_up (va_up (va_up (va_up (va_up (va_up (va_up (va_up (va_up u 41 r_6) 43 o_u43_16) 42 o_u42_17) 33 o_u33_19) 34 o_u34_20) 28 o_u28_21) 29 o_u29_22) 30 o_u30_23) 31 o_u31_24) (va_up (va_up (va_up (va_up (va_up b 40 o_b40_18) 39 o_b39_25) 32 o_b32_26) 25 o_b25_27) 26 o_b26_28) bw) H := hP
          have hD : va_D A (RW cs bd (va_up (va_up (va_up (va_up (va_up (va_up (va_up (va_up (va_up u 41 r_6) 43 o_u43_16) 42 o_u42_17) 33 o_u33_19) 34 o_u34_20) 28 o_u28_21) 29 o_u29_22) 30 o_u30_23) 31 o_u31_24) (va_up (va_up (va_up (va_up (va_up b 40 o_b40_18) 39 o_b39_25) 32 o_b32_26) 25 o_b25_27) 26 o_b26_28) bw) := hD
          obtain ⟨wr_15_0, wr_15_1⟩ : (-1 ≤ o_u29_22.toInt) ∧ (o_u29_22.toInt < (u 1).toInt) := wr_15
          refine lv_iload_n hx hb dX12_orders_77 rfl (lv_at hl 2 rfl) ?_
          refine lv_bipush (v := (-2)) hx hb dX12_orders_78 (by decide) ?_
          refine lv_icmp_ne (tgt := 88) hx hb dX12_orders_80 (by decide) (fun c_30 => ?_) (fun c_30 => ?_)
          ·
            have kc_30 : p2.toInt ≠ (-2 : Int) := i_ne c_30
            refine lv_iload_n hx hb dX12_orders_88 rfl (lv_at hl 2 rfl) ?_
            refine lv_if_ge (tgt := 99) hx hb dX12_orders_89 (by decide) (fun c_31 => ?_) (fun c_31 => ?_)
            ·
              have kc_31 : (0 : Int) ≤ p2.toInt := i_le c_31
              refine lv_iload_n hx hb dX12_orders_99 rfl (lv_at hl 2 rfl) ?_
              refine lv_aload_n hx hb dX12_orders_100 rfl (lv_at hl 0 rfl) ?_
              refine gr_ordersMany hx hb hg hown hK hP (x := r_6) rfl (hg _ q5_33) dX12_orders_101 ?_
              refine lv_icmp_ge (tgt := 116) hx hb dX12_orders_104 (by decide) (fun c_32 => ?_) (fun c_32 => ?_)
              ·
                have kc_32 : r_6.toInt ≤ p2.toInt := i_le c_32
                refine lv_bipush (v := (-2)) hx hb dX12_orders_116 (by decide) ?_
                have q0_m2 : ((-2) : Int32).toInt = (-2) := rfl
                exact W.iret (v := (-2)) hx hb hr (fun tt ht hW => ⟨⟨(-2), ⟨r_6, o_u43_16, o_u42_17, o_u33_19, o_u34_20, o_u28_21, o_u29_22, o_u30_23, o_u31_24, o_b40_18, o_b39_25, o_b32_26, o_b25_27, o_b26_28⟩, rfl, ⟨(show 0 ≤ r_6.toInt by first | omega | assumption), (show r_6.toInt ≤ 24 by first | omega | assumption)⟩, by rw [ht]; exact hP, hD⟩, hS.F ht⟩) hS.2.2 dX12_orders_118
              ·
                have kc_32 : p2.toInt < r_6.toInt := i_nle c_32
                refine lv_aload_n hx hb dX12_orders_107 rfl (lv_at hl 0 rfl) ?_
                refine gr_bestPlaced hx hb hg hown hK hP (hg _ q5_32) dX12_orders_108 ?_
                refine lv_iload_n hx hb dX12_orders_111 rfl (lv_at hl 2 rfl) ?_
                refine lr_bestPlaced hx hb hK hP (i_in (by omega) (by omega)) dX12_orders_112 ?_
                refine lv_topi (fun x_33 ex_33 => ?_)
                have ex_33 : x_33 = o_b40_18 p2.toNatClampNeg := ex_33
                have hx_33 : x_33.toInt = (o_b40_18 p2.toNatClampNeg).toInt := by rw [ex_33]
                refine lv_goto (tgt := 118) hx hb dX12_orders_113 (by decide) ?_
                exact W.iret (v := x_33) hx hb hr (fun tt ht hW => ⟨⟨x_33, ⟨r_6, o_u43_16, o_u42_17, o_u33_19, o_u34_20, o_u28_21, o_u29_22, o_u30_23, o_u31_24, o_b40_18, o_b39_25, o_b32_26, o_b25_27, o_b26_28⟩, rfl, ⟨(show 0 ≤ r_6.toInt by first | omega | assumption), (show r_6.toInt ≤ 24 by first | omega | assumption)⟩, by rw [ht]; exact hP, hD⟩, hS.F ht⟩) hS.2.2 dX12_orders_118
            ·
              have kc_31 : p2.toInt < (0 : Int) := i_nle c_31
              refine lv_aload_n hx hb dX12_orders_92 rfl (lv_at hl 0 rfl) ?_
              refine gr_leastHurts hx hb hg hown hK hP (x := o_u42_17) rfl (hg _ q5_34) dX12_orders_93 ?_
              refine lv_goto (tgt := 118) hx hb dX12_orders_96 (by decide) ?_
              exact W.iret (v := o_u42_17) hx hb hr (fun tt ht hW => ⟨⟨o_u42_17, ⟨r_6, o_u43_16, o_u42_17, o_u33_19, o_u34_20, o_u28_21, o_u29_22, o_u30_23, o_u31_24, o_b40_18, o_b39_25, o_b32_26, o_b25_27, o_b26_28⟩, rfl, ⟨(show 0 ≤ r_6.toInt by first | omega | assumption), (show r_6.toInt ≤ 24 by first | omega | assumption)⟩, by rw [ht]; exact hP, hD⟩, hS.F ht⟩) hS.2.2 dX12_orders_118
          ·
            have kc_30 : p2.toInt = (-2 : Int) := i_eq c_30
            refine lv_aload_n hx hb dX12_orders_83 rfl (lv_at hl 0 rfl) ?_
            refine gr_quiets hx hb hg hown hK hP (x := o_u43_16) rfl (hg _ q5_35) dX12_orders_84 ?_
            exact W.iret (v := o_u43_16) hx hb hr (fun tt ht hW => ⟨⟨o_u43_16, ⟨r_6, o_u43_16, o_u42_17, o_u33_19, o_u34_20, o_u28_21, o_u29_22, o_u30_23, o_u31_24, o_b40_18, o_b39_25, o_b32_26, o_b25_27, o_b26_28⟩, rfl, ⟨(show 0 ≤ r_6.toInt by first | omega | assumption), (show r_6.toInt ≤ 24 by first | omega | assumption)⟩, by rw [ht]; exact hP, hD⟩, hS.F ht⟩) hS.2.2 dX12_orders_87
        ·
          have kc_7 : (7 : Int) < r_6.toInt := i_nle c_7
          refine lv_bipush (v := (-5)) hx hb dX12_orders_51 (by decide) ?_
          have q0_m5 : ((-5) : Int32).toInt = (-5) := rfl
          have hP : va_P D vwCl (RW cs bd (va_up (va_up (va_up (va_up (va_up (va_up (va_up (va_up (va_up u 41 r_6) 43 (u 43)) 42 (u 42)) 33 (u 33)) 34 (u 34)) 28 (u 28)) 29 (u 29)) 30 (u 30)) 31 (u 31)) (va_up (va_up (va_up (va_up (va_up b 40 (b 40)) 39 (b 39)) 32 (b 32)) 25 (b 25)) 26 (b 26)) bw) _ := hP
          have hD : va_D A (RW cs bd (va_up (va_up (va_up (va_up (va_up (va_up (va_up (va_up (va_up u 41 r_6) 43 (u 43)) 42 (u 42)) 33 (u 33)) 34 (u 34)) 28 (u 28)) 29 (u 29)) 30 (u 30)) 31 (u 31)) (va_up (va_up (va_up (va_up (va_up b 40 (b 40)) 39 (b 39)) 32 (b 32)) 25 (b 25)) 26 (b 26)) bw) := hD
          exact W.iret (v := (-5)) hx hb hr (fun tt ht hW => ⟨⟨(-5), ⟨r_6, (u 43), (u 42), (u 33), (u 34), (u 28), (u 29), (u 30), (u 31), (b 40), (b 39), (b 32), (b 25), (b 26)⟩, rfl, ⟨(show 0 ≤ r_6.toInt by first | omega | assumption), (show r_6.toInt ≤ 24 by first | omega | assumption)⟩, by rw [ht]; exact hP, hD⟩, hS.F ht⟩) hS.2.2 dX12_orders_53
      ·
        have kc_5 : r_4.toInt < (0 : Int) := i_nle c_5
        refine lv_aload_n hx hb dX12_orders_24 rfl (lv_at hl 0 rfl) ?_
        refine lv_iload_n hx hb dX12_orders_25 rfl (lv_at hl 1 rfl) ?_
        refine lv_iconst (v := 0) hx hb dX12_orders_26 (by decide) ?_
        refine cV_ro (As := [.int p1, .int 0]) (rest := []) ⟨hx, hb, hml, hown, hg⟩ (k_X12_rowFault l D cs A bd u b bw  p1 0 (show 0 ≤ p1.toInt by first | omega | decide) (show p1.toInt < 6 by first | omega | decide) ib66_0) ca_X12_rowFault q6_132 ⟨rfl, rfl⟩ ⟨Nat.le_of_ble_eq_true rfl, Nat.le_of_ble_eq_true rfl⟩ (rc_model hK hP) hK hP hD hS hZ rfl hl.1 rfl (Nat.le_of_ble_eq_true rfl) ⟨Nat.zero_le _, Nat.zero_le _⟩ dX12_orders_27 (fun r_34 wr_34 => ?_)
        have wr_34_0 : r_34.toInt = 0 ∨ r_34.toInt = -11 ∨ r_34.toInt = -12 := wr_34
        have hP : va_P D vwCl (RW cs bd (va_up (va_up (va_up (va_up (va_up (va_up (va_up (va_up (va_up u 41 (u 41)) 43 (u 43)) 42 (u 42)) 33 (u 33)) 34 (u 34)) 28 (u 28)) 29 (u 29)) 30 (u 30)) 31 (u 31)) (va_up (va_up (va_up (va_up (va_up b 40 (b 40)) 39 (b 39)) 32 (b 32)) 25 (b 25)) 26 (b 26)) bw) _ := hP
        have hD : va_D A (RW cs bd (va_up (va_up (va_up (va_up (va_up (va_up (va_up (va_up (va_up u 41 (u 41)) 43 (u 43)) 42 (u 42)) 33 (u 33)) 34 (u 34)) 28 (u 28)) 29 (u 29)) 30 (u 30)) 31 (u 31)) (va_up (va_up (va_up (va_up (va_up b 40 (b 40)) 39 (b 39)) 32 (b 32)) 25 (b 25)) 26 (b 26)) bw) := hD
        exact W.iret (v := r_34) hx hb hr (fun tt ht hW => ⟨⟨r_34, ⟨(u 41), (u 43), (u 42), (u 33), (u 34), (u 28), (u 29), (u 30), (u 31), (b 40), (b 39), (b 32), (b 25), (b 26)⟩, rfl, ⟨(show 0 ≤ (u 41).toInt by first | omega | assumption), (show (u 41).toInt ≤ 24 by first | omega | assumption)⟩, by rw [ht]; exact hP, hD⟩, hS.F ht⟩) hS.2.2 dX12_orders_30
    ·
      have kc_3 : p2.toInt < (-2 : Int) := i_nle c_3
      refine lv_iconst (v := (-1)) hx hb dX12_orders_13 (by decide) ?_
      have q0_m1 : ((-1) : Int32).toInt = (-1) := rfl
      have hP : va_P D vwCl (RW cs bd (va_up (va_up (va_up (va_up (va_up (va_up (va_up (va_up (va_up u 41 (u 41)) 43 (u 43)) 42 (u 42)) 33 (u 33)) 34 (u 34)) 28 (u 28)) 29 (u 29)) 30 (u 30)) 31 (u 31)) (va_up (va_up (va_up (va_up (va_up b 40 (b 40)) 39 (b 39)) 32 (b 32)) 25 (b 25)) 26 (b 26)) bw) _ := hP
      have hD : va_D A (RW cs bd (va_up (va_up (va_up (va_up (va_up (va_up (va_up (va_up (va_up u 41 (u 41)) 43 (u 43)) 42 (u 42)) 33 (u 33)) 34 (u 34)) 28 (u 28)) 29 (u 29)) 30 (u 30)) 31 (u 31)) (va_up (va_up (va_up (va_up (va_up b 40 (b 40)) 39 (b 39)) 32 (b 32)) 25 (b 25)) 26 (b 26)) bw) := hD
      exact W.iret (v := (-1)) hx hb hr (fun tt ht hW => ⟨⟨(-1), ⟨(u 41), (u 43), (u 42), (u 33), (u 34), (u 28), (u 29), (u 30), (u 31), (b 40), (b 39), (b 32), (b 25), (b 26)⟩, rfl, ⟨(show 0 ≤ (u 41).toInt by first | omega | assumption), (show (u 41).toInt ≤ 24 by first | omega | assumption)⟩, by rw [ht]; exact hP, hD⟩, hS.F ht⟩) hS.2.2 dX12_orders_14
set_option maxHeartbeats 4000000 in
set_option maxRecDepth 100000 in
theorem k_X12_bitOf (l : Launch) (D : va_G) (cs : Nat → ClassId) (A : Nat → Prop) (bd : Nat → Nat) (u : Nat → Int32) (b : Nat → Nat → Int32) (bw : Nat → Nat → Int64)  (p1 : Int32)  : Met l yX12_bitOf (Cond.code yX12_bitOf cX12_bitOf 2 (some .int) :: gw) ({ frames := 0, cells := 0, slots := 0, locals := 0 }) (va_Pc [.ref (bd 0), .int p1] (XPre D (TY cs) (RW cs bd u b bw) A)) (vp_Si (fun (r : Int32) => True)) 0 0 (fun _ => False) := by
  refine Met.ofW (cc := cX12_bitOf) (maxL := 2) (ret := (some .int)) (by decide) rfl ?_
  intro p e s m args below meth c s₁ B hml hv
  obtain ⟨rfl, hP, hK, hD, hZ⟩ := hv
  have hx := B.exec
  have hb := B.bytes
  have hr := B.returns
  have hts := atoms_spec (ws := (Cond.code yX12_bitOf cX12_bitOf 2 (some .int) :: gw)) B.pre
  have hg : ∀ w ∈ gw, w.before ([.ref (bd 0), .int p1] : List Value).toArray s = true := fun w h => hts w (List.mem_cons_of_mem _ h)
  have hown : s.vm.findClass RX12 = some m.cls := findClass_of_methodNamed B.named
  have hlocks := B.notSynchronized
  have hS : va_S A s.heap s.heap [] := va_S.rf
  have hl := lv_entry ([.ref (bd 0), .int p1]) (n := 2) (Nat.le_of_ble_eq_true rfl)
  rw [lg_entry_eq]
  generalize (lg_sl ([.ref (bd 0), .int p1]) ++ List.replicate (2 - (lg_sl ([.ref (bd 0), .int p1])).length) Slot.unset).toArray = ls at hl ⊢
  have hl : lv_has ls 2 [(0, .ref (bd 0)), (1, .int p1)] := hl
  refine lv_iload_n hx hb dX12_bitOf_0 rfl (lv_at hl 1 rfl) ?_
  refine lv_aload_n hx hb dX12_bitOf_1 rfl (lv_at hl 0 rfl) ?_
  refine gr_wordA hx hb hg hown hK hP (x := (u 44)) rfl (hg _ q5_36) dX12_bitOf_2 ?_
  refine lv_icmp_ne (tgt := 12) hx hb dX12_bitOf_5 (by decide) (fun c_1 => ?_) (fun c_1 => ?_)
  ·
    have kc_1 : p1.toInt ≠ (u 44).toInt := i_ne c_1
    refine lv_iload_n hx hb dX12_bitOf_12 rfl (lv_at hl 1 rfl) ?_
    refine lv_aload_n hx hb dX12_bitOf_13 rfl (lv_at hl 0 rfl) ?_
    refine gr_wordB hx hb hg hown hK hP (x := (u 45)) rfl (hg _ q5_37) dX12_bitOf_14 ?_
    refine lv_icmp_ne (tgt := 24) hx hb dX12_bitOf_17 (by decide) (fun c_2 => ?_) (fun c_2 => ?_)
    ·
      have kc_2 : p1.toInt ≠ (u 45).toInt := i_ne c_2
      refine lv_iconst (v := 0) hx hb dX12_bitOf_24 (by decide) ?_
      have q0_0 : (0 : Int32).toInt = 0 := rfl
      exact W.iret (v := 0) hx hb hr (fun tt ht hW => ⟨0, rfl, trivial, ht⟩) (fun _ h => by cases h) dX12_bitOf_25
    ·
      have kc_2 : p1.toInt = (u 45).toInt := i_eq c_2
      refine lv_iconst (v := 2) hx hb dX12_bitOf_20 (by decide) ?_
      refine lv_goto (tgt := 25) hx hb dX12_bitOf_21 (by decide) ?_
      have q0_2 : (2 : Int32).toInt = 2 := rfl
      exact W.iret (v := 2) hx hb hr (fun tt ht hW => ⟨2, rfl, trivial, ht⟩) (fun _ h => by cases h) dX12_bitOf_25
  ·
    have kc_1 : p1.toInt = (u 44).toInt := i_eq c_1
    refine lv_iconst (v := 1) hx hb dX12_bitOf_8 (by decide) ?_
    refine lv_goto (tgt := 25) hx hb dX12_bitOf_9 (by decide) ?_
    have q0_1 : (1 : Int32).toInt = 1 := rfl
    exact W.iret (v := 1) hx hb hr (fun tt ht hW => ⟨1, rfl, trivial, ht⟩) (fun _ h => by cases h) dX12_bitOf_25
set_option maxHeartbeats 4000000 in
set_option maxRecDepth 100000 in
theorem k_X12_lastStill (l : Launch) (D : va_G) (cs : Nat → ClassId) (A : Nat → Prop) (bd : Nat → Nat) (u : Nat → Int32) (b : Nat → Nat → Int32) (bw : Nat → Nat → Int64)  (p1 : Int32) (h9a : 0 ≤ (u 44).toInt) (h9b : (u 44).toInt < (u 1).toInt) (h10a : 0 ≤ (u 45).toInt) (h10b : (u 45).toInt < (u 1).toInt) (hlaw : LAWOK (b 20) (b 21) (b 22) (b 23) (b 24)) (iu1_0 : 0 ≤ (u 1).toInt) (iu1_1 : (u 1).toInt ≤ 8) (iu29_0 : -1 ≤ (u 29).toInt) (iu29_1 : (u 29).toInt < (u 1).toInt) (ib23_0 : AB (-32768) 32767 (b 23)) (ib24_0 : AB (-32768) 32767 (b 24)) (ib20_0 : AB (-128) 127 (b 20)) : Met l yX12_lastStill (Cond.code yX12_lastStill cX12_lastStill 5 (some .int) :: gw) ({ frames := 5, cells := 0, slots := 0, locals := 116 }) (va_Pc [.ref (bd 0), .int p1] (XPre D (TY cs) (RW cs bd u b bw) A)) (va_Qi (fun (r : Int32) (z : Int32 × Int32 × Int32 × Int32 × Int32 × Int32 × (Nat → Int32) × (Nat → Int32) × (Nat → Int32)) => (-1 ≤ z.2.2.2.2.1.toInt) ∧ (z.2.2.2.2.1.toInt < (u 1).toInt)) (XPo D (fun (z : Int32 × Int32 × Int32 × Int32 × Int32 × Int32 × (Nat → Int32) × (Nat → Int32) × (Nat → Int32)) => RW cs bd (va_up (va_up (va_up (va_up (va_up (va_up u 33 z.1) 34 z.2.1) 30 z.2.2.1) 28 z.2.2.2.1) 29 z.2.2.2.2.1) 31 z.2.2.2.2.2.1) (va_up (va_up (va_up b 32 z.2.2.2.2.2.2.1) 25 z.2.2.2.2.2.2.2.1) 26 z.2.2.2.2.2.2.2.2) bw) A) A) 0 0 A := by
  refine Met.ofW (cc := cX12_lastStill) (maxL := 5) (ret := (some .int)) (by decide) rfl ?_
  intro p e s m args below meth c s₁ B hml hv
  obtain ⟨rfl, hP, hK, hD, hZ⟩ := hv
  have hx := B.exec
  have hb := B.bytes
  have hr := B.returns
  have hts := atoms_spec (ws := (Cond.code yX12_lastStill cX12_lastStill 5 (some .int) :: gw)) B.pre
  have hg : ∀ w ∈ gw, w.before ([.ref (bd 0), .int p1] : List Value).toArray s = true := fun w h => hts w (List.mem_cons_of_mem _ h)
  have hown : s.vm.findClass RX12 = some m.cls := findClass_of_methodNamed B.named
  have hlocks := B.notSynchronized
  have hS : va_S A s.heap s.heap [] := va_S.rf
  have hP : va_P D vwCl (RW cs bd u b bw) s.heap := hP
  have hl := lv_entry ([.ref (bd 0), .int p1]) (n := 5) (Nat.le_of_ble_eq_true rfl)
  rw [lg_entry_eq]
  generalize (lg_sl ([.ref (bd 0), .int p1]) ++ List.replicate (5 - (lg_sl ([.ref (bd 0), .int p1])).length) Slot.unset).toArray = ls at hl ⊢
  have hl : lv_has ls 5 [(0, .ref (bd 0)), (1, .int p1)] := hl
  have hcut : ∀ nk : Nat, (∀ (x2 : Int32) (x3 : Int32) (c4_u33 : Int32) (c4_u34 : Int32) (c4_u30 : Int32) (c4_u28 : Int32) (c4_u29 : Int32) (c4_u31 : Int32) (c4_b32 : Nat → Int32) (c4_b25 : Nat → Int32) (c4_b26 : Nat → Int32) (H : Heap) (locs : List Loc) (i3 : 0 ≤ x3.toInt) (ju29_0 : -1 ≤ c4_u29.toInt) (ju29_1 : c4_u29.toInt < (u 1).toInt) (hmu : (4 - x3.toInt).toNat < nk) (hP : va_P D vwCl (RW cs bd (va_up (va_up (va_up (va_up (va_up (va_up u 33 c4_u33) 34 c4_u34) 30 c4_u30) 28 c4_u28) 29 c4_u29) 31 c4_u31) (va_up (va_up (va_up b 32 c4_b32) 25 c4_b25) 26 c4_b26) bw) H) (hD : va_D A (RW cs bd (va_up (va_up (va_up (va_up (va_up (va_up u 33 c4_u33) 34 c4_u34) 30 c4_u30) 28 c4_u28) 29 c4_u29) 31 c4_u31) (va_up (va_up (va_up b 32 c4_b32) 25 c4_b25) 26 c4_b26) bw)) (hS : va_S A s.heap H locs) (ls : Array Slot) (hl : lv_has ls 5 [(0, .ref (bd 0)), (2, .int x2), (3, .int x3)]), W p l e (headSpec (Cond.code yX12_lastStill cX12_lastStill 5 (some .int) :: gw) ({ frames := 5, cells := 0, slots := 0, locals := 116 })).room s m ([.ref (bd 0), .int p1] : List Value).toArray below meth c H locs 0 0 (MQ below (va_Qi (fun (r : Int32) (z : Int32 × Int32 × Int32 × Int32 × Int32 × Int32 × (Nat → Int32) × (Nat → Int32) × (Nat → Int32)) => (-1 ≤ z.2.2.2.2.1.toInt) ∧ (z.2.2.2.2.1.toInt < (u 1).toInt)) (XPo D (fun (z : Int32 × Int32 × Int32 × Int32 × Int32 × Int32 × (Nat → Int32) × (Nat → Int32) × (Nat → Int32)) => RW cs bd (va_up (va_up (va_up (va_up (va_up (va_up u 33 z.1) 34 z.2.1) 30 z.2.2.1) 28 z.2.2.2.1) 29 z.2.2.2.2.1) 31 z.2.2.2.2.2.1) (va_up (va_up (va_up b 32 z.2.2.2.2.2.2.1) 25 z.2.2.2.2.2.2.2.1) 26 z.2.2.2.2.2.2.2.2) bw) A) A) ([.ref (bd 0), .int p1] : List Value).toArray s 0 0 A) (F0 m 4 ls [])) := by
    intro nk
    induction nk with
    | zero => exact (fun x2 x3 c4_u33 c4_u34 c4_u30 c4_u28 c4_u29 c4_u31 c4_b32 c4_b25 c4_b26 H locs i3 ju29_0 ju29_1 hmu hP hD hS ls hl => absurd hmu (Nat.not_lt_zero _))
    | succ nk ih =>
      intro x2 x3 c4_u33 c4_u34 c4_u30 c4_u28 c4_u29 c4_u31 c4_b32 c4_b25 c4_b26 H locs i3 ju29_0 ju29_1 hmu hP hD hS ls hl
      refine lv_iload_n hx hb dX12_lastStill_4 rfl (lv_at hl 2 rfl) ?_
      refine lv_iconst (v := 4) hx hb dX12_lastStill_5 (by decide) ?_
      refine lv_icmp_ge (tgt := 40) hx hb dX12_lastStill_6 (by decide) (fun c_1 => ?_) (fun c_1 => ?_)
      ·
        have kc_1 : (4 : Int) ≤ x3.toInt := i_le c_1
        refine lv_iload_n hx hb dX12_lastStill_40 rfl (lv_at hl 1 rfl) ?_
        exact W.iret (v := x2) hx hb hr (fun tt ht hW => ⟨⟨x2, ⟨c4_u33, c4_u34, c4_u30, c4_u28, c4_u29, c4_u31, c4_b32, c4_b25, c4_b26⟩, rfl, ⟨(show -1 ≤ c4_u29.toInt by first | omega | assumption), (show c4_u29.toInt < (u 1).toInt by first | omega | assumption)⟩, by rw [ht]; exact hP, hD⟩, hS.F ht⟩) hS.2.2 dX12_lastStill_41
      ·
        have kc_1 : x3.toInt < (4 : Int) := i_nle c_1
        refine lv_aload_n hx hb dX12_lastStill_9 rfl (lv_at hl 0 rfl) ?_
        refine lv_aload_n hx hb dX12_lastStill_10 rfl (lv_at hl 0 rfl) ?_
        refine gr_wordA hx hb hg hown hK hP (x := (u 44)) rfl (hg _ q5_36) dX12_lastStill_11 ?_
        refine lv_iconst (v := 0) hx hb dX12_lastStill_14 (by decide) ?_
        refine cV_i (As := [.int (u 44), .int 0]) (rest := []) ⟨hx, hb, hml, hown, hg⟩ (k_X12_goSaying l D cs A bd (va_up (va_up (va_up (va_up (va_up (va_up u 33 c4_u33) 34 c4_u34) 30 c4_u30) 28 c4_u28) 29 c4_u29) 31 c4_u31) (va_up (va_up (va_up b 32 c4_b32) 25 c4_b25) 26 c4_b26) bw  (u 44) 0 (show 0 ≤ (u 44).toInt by first | omega | decide) (show (u 44).toInt < (u 1).toInt by first | omega | decide) hlaw (show 0 ≤ (u 1).toInt by first | omega | decide) (show (u 1).toInt ≤ 8 by first | omega | decide) (show -1 ≤ c4_u29.toInt by first | omega | decide) (show c4_u29.toInt < (u 1).toInt by first | omega | decide) ib23_0 ib24_0 ib20_0) ca_X12_goSaying q6_148 ⟨rfl, rfl⟩ ⟨Nat.le_of_ble_eq_true rfl, Nat.le_of_ble_eq_true rfl⟩ (rc_model hK hP) hK hP hD hS hZ rfl hl.1 rfl (Nat.le_of_ble_eq_true rfl) ⟨Nat.zero_le _, Nat.zero_le _⟩ dX12_lastStill_15 (fun r_2 z_12 H locs wr_2 hP hD hS => ?_)
        obtain ⟨o_u33_3, o_u34_4, o_u30_5, o_u28_6, o_u29_7, o_b32_8, o_u31_9, o_b25_10, o_b26_11⟩ := z_12
        have hP : va_P D vwCl (RW cs bd (va_up (va_up (va_up (va_up (va_up (va_up u 33 o_u33_3) 34 o_u34_4) 30 o_u30_5) 28 o_u28_6) 29 o_u29_7) 31 o_u31_9) (va_up (va_up (va_up b 32 o_b32_8) 25 o_b25_10) 26 o_b26_11) bw) H := hP
        have hD : va_D A (RW cs bd (va_up (va_up (va_up (va_up (va_up (va_up u 33 o_u33_3) 34 o_u34_4) 30 o_u30_5) 28 o_u28_6) 29 o_u29_7) 31 o_u31_9) (va_up (va_up (va_up b 32 o_b32_8) 25 o_b25_10) 26 o_b26_11) bw) := hD
        obtain ⟨wr_2_0, wr_2_1, wr_2_2⟩ : (r_2.toInt = -1 ∨ (0 ≤ r_2.toInt ∧ r_2.toInt < (u 1).toInt)) ∧ (-1 ≤ o_u29_7.toInt) ∧ (o_u29_7.toInt < (u 1).toInt) := wr_2
        refine lv_istore (lv' := [(4, .int r_2), (0, .ref (bd 0)), (2, .int x2), (3, .int x3)]) hx hb dX12_lastStill_18 hl (by decide) rfl (fun ls hl => ?_)
        refine lv_iload hx hb dX12_lastStill_20 (lv_at hl 0 rfl) ?_
        refine lv_if_lt (tgt := 34) hx hb dX12_lastStill_22 (by decide) (fun c_13 => ?_) (fun c_13 => ?_)
        ·
          have kc_13 : r_2.toInt < (0 : Int) := i_lt c_13
          obtain ⟨x_14, ex_14⟩ : ∃ y : Int32, y = x3 + 1 := ⟨_, rfl⟩
          have fx_14 : x_14.toInt = x3.toInt + 1 := by rw [ex_14]; exact i_add (by first | omega | (show (_ : Int) ≤ x3.toInt + 1; omega)) (by first | omega | (show x3.toInt + 1 ≤ (_ : Int); omega))
          refine lv_iinc (v := x_14) (lv' := [(3, .int x_14), (4, .int r_2), (0, .ref (bd 0)), (2, .int x2)]) hx hb dX12_lastStill_34 hl (k := 3) rfl (by rw [ex_14]; rfl) (by decide) rfl (fun ls hl => ?_)
          refine lv_goto (tgt := 4) hx hb dX12_lastStill_37 (by decide) ?_
          exact ih x2 x_14 o_u33_3 o_u34_4 o_u30_5 o_u28_6 o_u29_7 o_u31_9 o_b32_8 o_b25_10 o_b26_11 _ _ (by omega) (show -1 ≤ o_u29_7.toInt by first | omega | assumption) (show o_u29_7.toInt < (u 1).toInt by first | omega | assumption) (by omega) hP hD hS ls (lv_sub hl [2, 3, 0] rfl)
        ·
          have kc_13 : (0 : Int) ≤ r_2.toInt := i_nlt c_13
          refine lv_iload_n hx hb dX12_lastStill_25 rfl (lv_at hl 2 rfl) ?_
          refine lv_aload_n hx hb dX12_lastStill_26 rfl (lv_at hl 1 rfl) ?_
          refine lv_iload hx hb dX12_lastStill_27 (lv_at hl 0 rfl) ?_
          refine cV_ro (As := [.int r_2]) (rest := [.int x2]) ⟨hx, hb, hml, hown, hg⟩ (k_X12_bitOf l D cs A bd (va_up (va_up (va_up (va_up (va_up (va_up u 33 o_u33_3) 34 o_u34_4) 30 o_u30_5) 28 o_u28_6) 29 o_u29_7) 31 o_u31_9) (va_up (va_up (va_up b 32 o_b32_8) 25 o_b25_10) 26 o_b26_11) bw  r_2 ) ca_X12_bitOf q6_203 ⟨rfl, rfl⟩ ⟨Nat.le_of_ble_eq_true rfl, Nat.le_of_ble_eq_true rfl⟩ (rc_model hK hP) hK hP hD hS hZ rfl hl.1 rfl (Nat.le_of_ble_eq_true rfl) ⟨Nat.zero_le _, Nat.zero_le _⟩ dX12_lastStill_29 (fun r_15 wr_15 => ?_)
          have wr_15_0 : True := wr_15
          refine lv_ior hx hb dX12_lastStill_32 ?_
          refine lv_topi (fun x_16 ex_16 => ?_)
          refine lv_istore_n (lv' := [(2, .int x_16), (4, .int r_2), (0, .ref (bd 0)), (3, .int x3)]) hx hb dX12_lastStill_33 rfl hl (by decide) rfl (fun ls hl => ?_)
          obtain ⟨x_17, ex_17⟩ : ∃ y : Int32, y = x3 + 1 := ⟨_, rfl⟩
          have fx_17 : x_17.toInt = x3.toInt + 1 := by rw [ex_17]; exact i_add (by first | omega | (show (_ : Int) ≤ x3.toInt + 1; omega)) (by first | omega | (show x3.toInt + 1 ≤ (_ : Int); omega))
          refine lv_iinc (v := x_17) (lv' := [(3, .int x_17), (2, .int x_16), (4, .int r_2), (0, .ref (bd 0))]) hx hb dX12_lastStill_34 hl (k := 3) rfl (by rw [ex_17]; rfl) (by decide) rfl (fun ls hl => ?_)
          refine lv_goto (tgt := 4) hx hb dX12_lastStill_37 (by decide) ?_
          exact ih x_16 x_17 o_u33_3 o_u34_4 o_u30_5 o_u28_6 o_u29_7 o_u31_9 o_b32_8 o_b25_10 o_b26_11 _ _ (by omega) (show -1 ≤ o_u29_7.toInt by first | omega | assumption) (show o_u29_7.toInt < (u 1).toInt by first | omega | assumption) (by omega) hP hD hS ls (lv_sub hl [3, 1, 0] rfl)
  refine lv_iload_n hx hb dX12_lastStill_0 rfl (lv_at hl 1 rfl) ?_
  refine lv_istore_n (lv' := [(2, .int p1), (0, .ref (bd 0)), (1, .int p1)]) hx hb dX12_lastStill_1 rfl hl (by decide) rfl (fun ls hl => ?_)
  refine lv_iconst (v := 0) hx hb dX12_lastStill_2 (by decide) ?_
  refine lv_istore_n (lv' := [(3, .int 0), (2, .int p1), (0, .ref (bd 0)), (1, .int p1)]) hx hb dX12_lastStill_3 rfl hl (by decide) rfl (fun ls hl => ?_)
  have q0_0 : (0 : Int32).toInt = 0 := rfl
  exact (hcut (((4 - (0 : Int32).toInt).toNat) + 1)) p1 0 (u 33) (u 34) (u 30) (u 28) (u 29) (u 31) (b 32) (b 25) (b 26) _ _ (by omega) (show -1 ≤ (u 29).toInt by first | omega | assumption) (show (u 29).toInt < (u 1).toInt by first | omega | assumption) (Nat.lt_succ_self _) hP hD hS ls (lv_sub hl [2, 1, 0] rfl)
def C_X12_lastBy (n : Nat) : Prop := ∀ (l : Launch) (D : va_G) (cs : Nat → ClassId) (A : Nat → Prop) (bd : Nat → Nat) (u : Nat → Int32) (b : Nat → Nat → Int32) (bw : Nat → Nat → Int64)  (p1 : Int32) (p2 : Int32) (p3 : Int32) (p4 : Int32) (hl0 : 0 ≤ p1.toInt) (hln : p1.toInt ≤ (n : Int)) (h9a : 0 ≤ (u 44).toInt) (h9b : (u 44).toInt < (u 1).toInt) (h10a : 0 ≤ (u 45).toInt) (h10b : (u 45).toInt < (u 1).toInt) (hlaw : LAWOK (b 20) (b 21) (b 22) (b 23) (b 24)) (hl1 : 1 ≤ p1.toInt) (hl9 : p1.toInt ≤ 6) (iu1_0 : 0 ≤ (u 1).toInt) (iu1_1 : (u 1).toInt ≤ 8) (iu29_0 : -1 ≤ (u 29).toInt) (iu29_1 : (u 29).toInt < (u 1).toInt) (ib23_0 : AB (-32768) 32767 (b 23)) (ib24_0 : AB (-32768) 32767 (b 24)) (ib20_0 : AB (-128) 127 (b 20)), Met l yX12_lastBy (Cond.code yX12_lastBy cX12_lastBy 12 (some .int) :: gw) ({ frames := 2 * n + 9, cells := 0, slots := 0, locals := 100 * n + 300 }) (va_Pc [.ref (bd 0), .int p1, .int p2, .int p3, .int p4] (XPre D (TY cs) (RW cs bd u b bw) A)) (va_Qi (fun (r : Int32) (z : Int32 × Int32 × Int32 × Int32 × Int32 × Int32 × (Nat → Int32) × (Nat → Int32) × (Nat → Int32)) => (-1 ≤ z.2.2.2.2.1.toInt) ∧ (z.2.2.2.2.1.toInt < (u 1).toInt)) (XPo D (fun (z : Int32 × Int32 × Int32 × Int32 × Int32 × Int32 × (Nat → Int32) × (Nat → Int32) × (Nat → Int32)) => RW cs bd (va_up (va_up (va_up (va_up (va_up (va_up u 33 z.1) 34 z.2.1) 30 z.2.2.1) 28 z.2.2.2.1) 29 z.2.2.2.2.1) 31 z.2.2.2.2.2.1) (va_up (va_up (va_up b 32 z.2.2.2.2.2.2.1) 25 z.2.2.2.2.2.2.2.1) 26 z.2.2.2.2.2.2.2.2) bw) A) A) 0 0 A
def C_X12_lastOf (n : Nat) : Prop := ∀ (l : Launch) (D : va_G) (cs : Nat → ClassId) (A : Nat → Prop) (bd : Nat → Nat) (u : Nat → Int32) (b : Nat → Nat → Int32) (bw : Nat → Nat → Int64)  (p1 : Int32) (p2 : Int32) (p3 : Int32) (hl0 : 0 ≤ p1.toInt) (hln : p1.toInt ≤ (n : Int)) (h9a : 0 ≤ (u 44).toInt) (h9b : (u 44).toInt < (u 1).toInt) (h10a : 0 ≤ (u 45).toInt) (h10b : (u 45).toInt < (u 1).toInt) (hlaw : LAWOK (b 20) (b 21) (b 22) (b 23) (b 24)) (hl9 : p1.toInt ≤ 6) (iu1_0 : 0 ≤ (u 1).toInt) (iu1_1 : (u 1).toInt ≤ 8) (iu29_0 : -1 ≤ (u 29).toInt) (iu29_1 : (u 29).toInt < (u 1).toInt) (ib23_0 : AB (-32768) 32767 (b 23)) (ib24_0 : AB (-32768) 32767 (b 24)) (ib20_0 : AB (-128) 127 (b 20)), Met l yX12_lastOf (Cond.code yX12_lastOf cX12_lastOf 9 (some .int) :: gw) ({ frames := 2 * n + 10, cells := 0, slots := 0, locals := 100 * n + 350 }) (va_Pc [.ref (bd 0), .int p1, .int p2, .int p3] (XPre D (TY cs) (RW cs bd u b bw) A)) (va_Qi (fun (r : Int32) (z : Int32 × Int32 × Int32 × Int32 × Int32 × Int32 × (Nat → Int32) × (Nat → Int32) × (Nat → Int32)) => (-1 ≤ z.2.2.2.2.1.toInt) ∧ (z.2.2.2.2.1.toInt < (u 1).toInt)) (XPo D (fun (z : Int32 × Int32 × Int32 × Int32 × Int32 × Int32 × (Nat → Int32) × (Nat → Int32) × (Nat → Int32)) => RW cs bd (va_up (va_up (va_up (va_up (va_up (va_up u 33 z.1) 34 z.2.1) 30 z.2.2.1) 28 z.2.2.2.1) 29 z.2.2.2.2.1) 31 z.2.2.2.2.2.1) (va_up (va_up (va_up b 32 z.2.2.2.2.2.2.1) 25 z.2.2.2.2.2.2.2.1) 26 z.2.2.2.2.2.2.2.2) bw) A) A) 0 0 A
set_option maxHeartbeats 4000000 in
set_option maxRecDepth 100000 in
theorem s_X12_lastBy (n : Nat) (hO : ∀ k, k + 1 = n → C_X12_lastOf k) : C_X12_lastBy n := by
  intro l D cs A bd u b bw p1 p2 p3 p4 hl0 hln h9a h9b h10a h10b hlaw hl1 hl9 iu1_0 iu1_1 iu29_0 iu29_1 ib23_0 ib24_0 ib20_0
  refine Met.ofW (cc := cX12_lastBy) (maxL := 12) (ret := (some .int)) (by decide) rfl ?_
  intro p e s m args below meth c s₁ B hml hv
  obtain ⟨rfl, hP, hK, hD, hZ⟩ := hv
  have hx := B.exec
  have hb := B.bytes
  have hr := B.returns
  have hts := atoms_spec (ws := (Cond.code yX12_lastBy cX12_lastBy 12 (some .int) :: gw)) B.pre
  have hg : ∀ w ∈ gw, w.before ([.ref (bd 0), .int p1, .int p2, .int p3, .int p4] : List Value).toArray s = true := fun w h => hts w (List.mem_cons_of_mem _ h)
  have hown : s.vm.findClass RX12 = some m.cls := findClass_of_methodNamed B.named
  have hlocks := B.notSynchronized
  have hS : va_S A s.heap s.heap [] := va_S.rf
  have hP : va_P D vwCl (RW cs bd u b bw) s.heap := hP
  have hl := lv_entry ([.ref (bd 0), .int p1, .int p2, .int p3, .int p4]) (n := 12) (Nat.le_of_ble_eq_true rfl)
  rw [lg_entry_eq]
  generalize (lg_sl ([.ref (bd 0), .int p1, .int p2, .int p3, .int p4]) ++ List.replicate (12 - (lg_sl ([.ref (bd 0), .int p1, .int p2, .int p3, .int p4])).length) Slot.unset).toArray = ls at hl ⊢
  have hl : lv_has ls 12 [(0, .ref (bd 0)), (1, .int p1), (2, .int p2), (3, .int p3), (4, .int p4)] := hl
  refine lv_aload_n hx hb dX12_lastBy_0 rfl (lv_at hl 0 rfl) ?_
  refine gr_bee1 hx hb hg hown hK hP (x := (u 28)) rfl (hg _ q5_20) dX12_lastBy_1 ?_
  refine lv_istore (lv' := [(5, .int (u 28)), (0, .ref (bd 0)), (1, .int p1), (2, .int p2), (3, .int p3), (4, .int p4)]) hx hb dX12_lastBy_4 hl (by decide) rfl (fun ls hl => ?_)
  refine lv_aload_n hx hb dX12_lastBy_6 rfl (lv_at hl 1 rfl) ?_
  refine gr_liar1 hx hb hg hown hK hP (x := (u 29)) rfl (hg _ q5_21) dX12_lastBy_7 ?_
  refine lv_istore (lv' := [(6, .int (u 29)), (5, .int (u 28)), (0, .ref (bd 0)), (1, .int p1), (2, .int p2), (3, .int p3), (4, .int p4)]) hx hb dX12_lastBy_10 hl (by decide) rfl (fun ls hl => ?_)
  refine lv_aload_n hx hb dX12_lastBy_12 rfl (lv_at hl 2 rfl) ?_
  refine gr_hour1 hx hb hg hown hK hP (x := (u 30)) rfl (hg _ q5_22) dX12_lastBy_13 ?_
  refine lv_istore (lv' := [(7, .int (u 30)), (6, .int (u 29)), (5, .int (u 28)), (0, .ref (bd 0)), (1, .int p1), (2, .int p2), (3, .int p3), (4, .int p4)]) hx hb dX12_lastBy_16 hl (by decide) rfl (fun ls hl => ?_)
  refine lv_aload_n hx hb dX12_lastBy_18 rfl (lv_at hl 3 rfl) ?_
  refine gr_lies1 hx hb hg hown hK hP (x := (u 31)) rfl (hg _ q5_23) dX12_lastBy_19 ?_
  refine lv_istore (lv' := [(8, .int (u 31)), (7, .int (u 30)), (6, .int (u 29)), (5, .int (u 28)), (0, .ref (bd 0)), (1, .int p1), (2, .int p2), (3, .int p3), (4, .int p4)]) hx hb dX12_lastBy_22 hl (by decide) rfl (fun ls hl => ?_)
  refine lv_aload_n hx hb dX12_lastBy_24 rfl (lv_at hl 4 rfl) ?_
  refine lv_iload_n hx hb dX12_lastBy_25 rfl (lv_at hl 6 rfl) ?_
  refine lv_if_eq (tgt := 36) hx hb dX12_lastBy_26 (by decide) (fun c_1 => ?_) (fun c_1 => ?_)
  ·
    have kc_1 : p2.toInt = (0 : Int) := i_eq c_1
    refine lv_aload_n hx hb dX12_lastBy_36 rfl (lv_at hl 4 rfl) ?_
    refine gr_wordB hx hb hg hown hK hP (x := (u 45)) rfl (hg _ q5_37) dX12_lastBy_37 ?_
    refine lv_iload hx hb dX12_lastBy_40 (lv_at hl 8 rfl) ?_
    refine cV_i (As := [.int (u 45), .int p4]) (rest := []) ⟨hx, hb, hml, hown, hg⟩ (k_X12_goSaying l D cs A bd u b bw  (u 45) p4 (show 0 ≤ (u 45).toInt by first | omega | decide) (show (u 45).toInt < (u 1).toInt by first | omega | decide) hlaw (show 0 ≤ (u 1).toInt by first | omega | decide) (show (u 1).toInt ≤ 8 by first | omega | decide) (show -1 ≤ (u 29).toInt by first | omega | decide) (show (u 29).toInt < (u 1).toInt by first | omega | decide) ib23_0 ib24_0 ib20_0) ca_X12_goSaying q6_148 ⟨rfl, rfl⟩ ⟨(show 4 + 1 ≤ 2 * n + 9 by omega), (show 8 + (4 + 11) + (93) ≤ 100 * n + 300 by omega)⟩ (rc_model hK hP) hK hP hD hS hZ rfl hl.1 rfl (Nat.le_of_ble_eq_true rfl) ⟨Nat.zero_le _, Nat.zero_le _⟩ dX12_lastBy_42 (fun r_2 z_12 H locs wr_2 hP hD hS => ?_)
    obtain ⟨o_u33_3, o_u34_4, o_u30_5, o_u28_6, o_u29_7, o_b32_8, o_u31_9, o_b25_10, o_b26_11⟩ := z_12
    have hP : va_P D vwCl (RW cs bd (va_up (va_up (va_up (va_up (va_up (va_up u 33 o_u33_3) 34 o_u34_4) 30 o_u30_5) 28 o_u28_6) 29 o_u29_7) 31 o_u31_9) (va_up (va_up (va_up b 32 o_b32_8) 25 o_b25_10) 26 o_b26_11) bw) H := hP
    have hD : va_D A (RW cs bd (va_up (va_up (va_up (va_up (va_up (va_up u 33 o_u33_3) 34 o_u34_4) 30 o_u30_5) 28 o_u28_6) 29 o_u29_7) 31 o_u31_9) (va_up (va_up (va_up b 32 o_b32_8) 25 o_b25_10) 26 o_b26_11) bw) := hD
    obtain ⟨wr_2_0, wr_2_1, wr_2_2⟩ : (r_2.toInt = -1 ∨ (0 ≤ r_2.toInt ∧ r_2.toInt < (u 1).toInt)) ∧ (-1 ≤ o_u29_7.toInt) ∧ (o_u29_7.toInt < (u 1).toInt) := wr_2
    refine lv_istore (lv' := [(9, .int r_2), (8, .int (u 31)), (7, .int (u 30)), (6, .int (u 29)), (5, .int (u 28)), (0, .ref (bd 0)), (1, .int p1), (2, .int p2), (3, .int p3), (4, .int p4)]) hx hb dX12_lastBy_45 hl (by decide) rfl (fun ls hl => ?_)
    refine lv_aload_n hx hb dX12_lastBy_47 rfl (lv_at hl 5 rfl) ?_
    refine gr_hurt1 hx hb hg hown hK hP (x := o_u33_3) rfl (hg _ q5_25) dX12_lastBy_48 ?_
    refine lv_istore (lv' := [(10, .int o_u33_3), (9, .int r_2), (8, .int (u 31)), (7, .int (u 30)), (6, .int (u 29)), (5, .int (u 28)), (0, .ref (bd 0)), (1, .int p1), (2, .int p2), (3, .int p3), (4, .int p4)]) hx hb dX12_lastBy_51 hl (by decide) rfl (fun ls hl => ?_)
    refine lv_aload_n hx hb dX12_lastBy_53 rfl (lv_at hl 6 rfl) ?_
    refine lv_iload_n hx hb dX12_lastBy_54 rfl (lv_at hl 7 rfl) ?_
    refine lv_iconst (v := 1) hx hb dX12_lastBy_55 (by decide) ?_
    refine lv_isub hx hb dX12_lastBy_56 ?_
    refine lv_topi (fun x_13 ex_13 => ?_)
    have fx_13 : x_13.toInt = p1.toInt - (1 : Int) := by rw [ex_13]; exact i_sub (by first | omega | (show (_ : Int) ≤ p1.toInt - (1 : Int); omega)) (by first | omega | (show p1.toInt - (1 : Int) ≤ (_ : Int); omega))
    refine lv_iload_n hx hb dX12_lastBy_57 rfl (lv_at hl 8 rfl) ?_
    refine lv_if_ne (tgt := 65) hx hb dX12_lastBy_58 (by decide) (fun c_14 => ?_) (fun c_14 => ?_)
    ·
      have kc_14 : p2.toInt ≠ (0 : Int) := i_ne c_14
      exfalso; omega
    ·
      have kc_14 : p2.toInt = (0 : Int) := i_eq c_14
      refine lv_iconst (v := 1) hx hb dX12_lastBy_61 (by decide) ?_
      refine lv_goto (tgt := 66) hx hb dX12_lastBy_62 (by decide) ?_
      refine lv_iload hx hb dX12_lastBy_66 (lv_at hl 1 rfl) ?_
      refine lv_if_ge (tgt := 75) hx hb dX12_lastBy_68 (by decide) (fun c_15 => ?_) (fun c_15 => ?_)
      ·
        have kc_15 : (0 : Int) ≤ r_2.toInt := i_le c_15
        refine lv_iload_n hx hb dX12_lastBy_75 rfl (lv_at hl 9 rfl) ?_
        refine lv_aload_n hx hb dX12_lastBy_76 rfl (lv_at hl 6 rfl) ?_
        refine lv_iload hx hb dX12_lastBy_77 (lv_at hl 1 rfl) ?_
        refine cV_ro (As := [.int r_2]) (rest := [.int p3, .int 1, .int x_13, .ref (bd 0)]) ⟨hx, hb, hml, hown, hg⟩ (k_X12_bitOf l D cs A bd (va_up (va_up (va_up (va_up (va_up (va_up u 33 o_u33_3) 34 o_u34_4) 30 o_u30_5) 28 o_u28_6) 29 o_u29_7) 31 o_u31_9) (va_up (va_up (va_up b 32 o_b32_8) 25 o_b25_10) 26 o_b26_11) bw  r_2 ) ca_X12_bitOf q6_203 ⟨rfl, rfl⟩ ⟨(show 0 + 1 ≤ 2 * n + 9 by omega), (show 8 + (2 + 11) + (0) ≤ 100 * n + 300 by omega)⟩ (rc_model hK hP) hK hP hD hS hZ rfl hl.1 rfl (Nat.le_of_ble_eq_true rfl) ⟨Nat.zero_le _, Nat.zero_le _⟩ dX12_lastBy_79 (fun r_16 wr_16 => ?_)
        have wr_16_0 : True := wr_16
        refine lv_ior hx hb dX12_lastBy_82 ?_
        refine lv_topi (fun x_17 ex_17 => ?_)
        refine cV_i (As := [.int x_13, .int 1, .int x_17]) (rest := []) ⟨hx, hb, hml, hown, hg⟩ ((hO (n - 1) (by omega)) l D cs A bd (va_up (va_up (va_up (va_up (va_up (va_up u 33 o_u33_3) 34 o_u34_4) 30 o_u30_5) 28 o_u28_6) 29 o_u29_7) 31 o_u31_9) (va_up (va_up (va_up b 32 o_b32_8) 25 o_b25_10) 26 o_b26_11) bw  x_13 1 x_17 (show 0 ≤ x_13.toInt by first | omega | decide) (show x_13.toInt ≤ ((n - 1 : Nat) : Int) by first | omega | decide) (show 0 ≤ (u 44).toInt by first | omega | decide) (show (u 44).toInt < (u 1).toInt by first | omega | decide) (show 0 ≤ (u 45).toInt by first | omega | decide) (show (u 45).toInt < (u 1).toInt by first | omega | decide) hlaw (show x_13.toInt ≤ 6 by first | omega | decide) (show 0 ≤ (u 1).toInt by first | omega | decide) (show (u 1).toInt ≤ 8 by first | omega | decide) (show -1 ≤ o_u29_7.toInt by first | omega | decide) (show o_u29_7.toInt < (u 1).toInt by first | omega | decide) ib23_0 ib24_0 ib20_0) ca_X12_lastOf q6_207 ⟨rfl, rfl⟩ ⟨(show 2 * (n - 1) + 10 + 1 ≤ 2 * n + 9 by omega), (show 8 + (9 + 11) + (100 * (n - 1) + 350) ≤ 100 * n + 300 by omega)⟩ (rc_model hK hP) hK hP hD hS hZ rfl hl.1 rfl (Nat.le_of_ble_eq_true rfl) ⟨Nat.zero_le _, Nat.zero_le _⟩ dX12_lastBy_83 (fun r_18 z_28 H locs wr_18 hP hD hS => ?_)
        obtain ⟨o_u33_19, o_u34_20, o_u30_21, o_u28_22, o_u29_23, o_u31_24, o_b32_25, o_b25_26, o_b26_27⟩ := z_28
        have hP : va_P D vwCl (RW cs bd (va_up (va_up (va_up (va_up (va_up (va_up u 33 o_u33_19) 34 o_u34_20) 30 o_u30_21) 28 o_u28_22) 29 o_u29_23) 31 o_u31_24) (va_up (va_up (va_up b 32 o_b32_25) 25 o_b25_26) 26 o_b26_27) bw) H := hP
        have hD : va_D A (RW cs bd (va_up (va_up (va_up (va_up (va_up (va_up u 33 o_u33_19) 34 o_u34_20) 30 o_u30_21) 28 o_u28_22) 29 o_u29_23) 31 o_u31_24) (va_up (va_up (va_up b 32 o_b32_25) 25 o_b25_26) 26 o_b26_27) bw) := hD
        obtain ⟨wr_18_0, wr_18_1⟩ : (-1 ≤ o_u29_23.toInt) ∧ (o_u29_23.toInt < (u 1).toInt) := wr_18
        refine lv_istore (lv' := [(11, .int r_18), (10, .int o_u33_3), (9, .int r_2), (8, .int (u 31)), (7, .int (u 30)), (6, .int (u 29)), (5, .int (u 28)), (0, .ref (bd 0)), (1, .int p1), (2, .int p2), (3, .int p3), (4, .int p4)]) hx hb dX12_lastBy_86 hl (by decide) rfl (fun ls hl => ?_)
        refine lv_iload hx hb dX12_lastBy_88 (lv_at hl 2 rfl) ?_
        refine lv_if_lt (tgt := 109) hx hb dX12_lastBy_90 (by decide) (fun c_29 => ?_) (fun c_29 => ?_)
        ·
          have kc_29 : r_2.toInt < (0 : Int) := i_lt c_29
          exfalso; omega
        ·
          have kc_29 : (0 : Int) ≤ r_2.toInt := i_nlt c_29
          refine lv_iload hx hb dX12_lastBy_93 (lv_at hl 1 rfl) ?_
          refine lv_if_ne (tgt := 109) hx hb dX12_lastBy_95 (by decide) (fun c_30 => ?_) (fun c_30 => ?_)
          ·
            have kc_30 : o_u33_3.toInt ≠ (0 : Int) := i_ne c_30
            refine lv_aload_n hx hb dX12_lastBy_109 rfl (lv_at hl 7 rfl) ?_
            refine lv_iload hx hb dX12_lastBy_110 (lv_at hl 6 rfl) ?_
            refine pr_bee1 hx hb hg hown hK hP hD hS (hg _ q5_20) dX12_lastBy_112 (fun H locs hP hD hS => ?_)
            refine lv_aload_n hx hb dX12_lastBy_115 rfl (lv_at hl 7 rfl) ?_
            refine lv_iload hx hb dX12_lastBy_116 (lv_at hl 5 rfl) ?_
            refine pr_liar1 hx hb hg hown hK hP hD hS (hg _ q5_21) dX12_lastBy_118 (fun H locs hP hD hS => ?_)
            refine lv_aload_n hx hb dX12_lastBy_121 rfl (lv_at hl 7 rfl) ?_
            refine lv_iload hx hb dX12_lastBy_122 (lv_at hl 4 rfl) ?_
            refine pr_hour1 hx hb hg hown hK hP hD hS (hg _ q5_22) dX12_lastBy_124 (fun H locs hP hD hS => ?_)
            refine lv_aload_n hx hb dX12_lastBy_127 rfl (lv_at hl 7 rfl) ?_
            refine lv_iload hx hb dX12_lastBy_128 (lv_at hl 3 rfl) ?_
            refine pr_lies1 hx hb hg hown hK hP hD hS (hg _ q5_23) dX12_lastBy_130 (fun H locs hP hD hS => ?_)
            refine lv_iload hx hb dX12_lastBy_133 (lv_at hl 0 rfl) ?_
            have hP : va_P D vwCl (RW cs bd (va_up (va_up (va_up (va_up (va_up (va_up u 33 o_u33_19) 34 o_u34_20) 30 (u 30)) 28 (u 28)) 29 (u 29)) 31 (u 31)) (va_up (va_up (va_up b 32 o_b32_25) 25 o_b25_26) 26 o_b26_27) bw) _ := hP
            have hD : va_D A (RW cs bd (va_up (va_up (va_up (va_up (va_up (va_up u 33 o_u33_19) 34 o_u34_20) 30 (u 30)) 28 (u 28)) 29 (u 29)) 31 (u 31)) (va_up (va_up (va_up b 32 o_b32_25) 25 o_b25_26) 26 o_b26_27) bw) := hD
            exact W.iret (v := r_18) hx hb hr (fun tt ht hW => ⟨⟨r_18, ⟨o_u33_19, o_u34_20, (u 30), (u 28), (u 29), (u 31), o_b32_25, o_b25_26, o_b26_27⟩, rfl, ⟨(show -1 ≤ (u 29).toInt by first | omega | assumption), (show (u 29).toInt < (u 1).toInt by first | omega | assumption)⟩, by rw [ht]; exact hP, hD⟩, hS.F ht⟩) hS.2.2 dX12_lastBy_135
          ·
            have kc_30 : o_u33_3.toInt = (0 : Int) := i_eq c_30
            refine lv_aload_n hx hb dX12_lastBy_98 rfl (lv_at hl 7 rfl) ?_
            refine gr_pads1 hx hb hg hown hK hP (hg _ q5_24) dX12_lastBy_99 ?_
            refine lv_iload hx hb dX12_lastBy_102 (lv_at hl 2 rfl) ?_
            refine lv_dup2_11 hx hb dX12_lastBy_104 rfl rfl ?_
            refine lr_pads1 hx hb hK hP (i_in (by omega) (by omega)) dX12_lastBy_105 ?_
            refine lv_topi (fun x_31 ex_31 => ?_)
            have ex_31 : x_31 = o_b32_25 r_2.toNatClampNeg := ex_31
            have hx_31 : x_31.toInt = (o_b32_25 r_2.toNatClampNeg).toInt := by rw [ex_31]
            refine lv_iconst (v := 1) hx hb dX12_lastBy_106 (by decide) ?_
            refine lv_iadd hx hb dX12_lastBy_107 ?_
            refine lv_topi (fun x_32 ex_32 => ?_)
            refine sr_pads1 hx hb hK hP hD hS (i_in (by omega) (by omega)) dX12_lastBy_108 (fun H locs hP hD hS => ?_)
            refine lv_aload_n hx hb dX12_lastBy_109 rfl (lv_at hl 7 rfl) ?_
            refine lv_iload hx hb dX12_lastBy_110 (lv_at hl 6 rfl) ?_
            refine pr_bee1 hx hb hg hown hK hP hD hS (hg _ q5_20) dX12_lastBy_112 (fun H locs hP hD hS => ?_)
            refine lv_aload_n hx hb dX12_lastBy_115 rfl (lv_at hl 7 rfl) ?_
            refine lv_iload hx hb dX12_lastBy_116 (lv_at hl 5 rfl) ?_
            refine pr_liar1 hx hb hg hown hK hP hD hS (hg _ q5_21) dX12_lastBy_118 (fun H locs hP hD hS => ?_)
            refine lv_aload_n hx hb dX12_lastBy_121 rfl (lv_at hl 7 rfl) ?_
            refine lv_iload hx hb dX12_lastBy_122 (lv_at hl 4 rfl) ?_
            refine pr_hour1 hx hb hg hown hK hP hD hS (hg _ q5_22) dX12_lastBy_124 (fun H locs hP hD hS => ?_)
            refine lv_aload_n hx hb dX12_lastBy_127 rfl (lv_at hl 7 rfl) ?_
            refine lv_iload hx hb dX12_lastBy_128 (lv_at hl 3 rfl) ?_
            refine pr_lies1 hx hb hg hown hK hP hD hS (hg _ q5_23) dX12_lastBy_130 (fun H locs hP hD hS => ?_)
            refine lv_iload hx hb dX12_lastBy_133 (lv_at hl 0 rfl) ?_
            have hP : va_P D vwCl (RW cs bd (va_up (va_up (va_up (va_up (va_up (va_up u 33 o_u33_19) 34 o_u34_20) 30 (u 30)) 28 (u 28)) 29 (u 29)) 31 (u 31)) (va_up (va_up (va_up b 32 (upd o_b32_25 r_2.toNatClampNeg x_32)) 25 o_b25_26) 26 o_b26_27) bw) _ := hP
            have hD : va_D A (RW cs bd (va_up (va_up (va_up (va_up (va_up (va_up u 33 o_u33_19) 34 o_u34_20) 30 (u 30)) 28 (u 28)) 29 (u 29)) 31 (u 31)) (va_up (va_up (va_up b 32 (upd o_b32_25 r_2.toNatClampNeg x_32)) 25 o_b25_26) 26 o_b26_27) bw) := hD
            exact W.iret (v := r_18) hx hb hr (fun tt ht hW => ⟨⟨r_18, ⟨o_u33_19, o_u34_20, (u 30), (u 28), (u 29), (u 31), (upd o_b32_25 r_2.toNatClampNeg x_32), o_b25_26, o_b26_27⟩, rfl, ⟨(show -1 ≤ (u 29).toInt by first | omega | assumption), (show (u 29).toInt < (u 1).toInt by first | omega | assumption)⟩, by rw [ht]; exact hP, hD⟩, hS.F ht⟩) hS.2.2 dX12_lastBy_135
      ·
        have kc_15 : r_2.toInt < (0 : Int) := i_nle c_15
        refine lv_iload_n hx hb dX12_lastBy_71 rfl (lv_at hl 9 rfl) ?_
        refine lv_goto (tgt := 83) hx hb dX12_lastBy_72 (by decide) ?_
        refine cV_i (As := [.int x_13, .int 1, .int p3]) (rest := []) ⟨hx, hb, hml, hown, hg⟩ ((hO (n - 1) (by omega)) l D cs A bd (va_up (va_up (va_up (va_up (va_up (va_up u 33 o_u33_3) 34 o_u34_4) 30 o_u30_5) 28 o_u28_6) 29 o_u29_7) 31 o_u31_9) (va_up (va_up (va_up b 32 o_b32_8) 25 o_b25_10) 26 o_b26_11) bw  x_13 1 p3 (show 0 ≤ x_13.toInt by first | omega | decide) (show x_13.toInt ≤ ((n - 1 : Nat) : Int) by first | omega | decide) (show 0 ≤ (u 44).toInt by first | omega | decide) (show (u 44).toInt < (u 1).toInt by first | omega | decide) (show 0 ≤ (u 45).toInt by first | omega | decide) (show (u 45).toInt < (u 1).toInt by first | omega | decide) hlaw (show x_13.toInt ≤ 6 by first | omega | decide) (show 0 ≤ (u 1).toInt by first | omega | decide) (show (u 1).toInt ≤ 8 by first | omega | decide) (show -1 ≤ o_u29_7.toInt by first | omega | decide) (show o_u29_7.toInt < (u 1).toInt by first | omega | decide) ib23_0 ib24_0 ib20_0) ca_X12_lastOf q6_207 ⟨rfl, rfl⟩ ⟨(show 2 * (n - 1) + 10 + 1 ≤ 2 * n + 9 by omega), (show 8 + (9 + 11) + (100 * (n - 1) + 350) ≤ 100 * n + 300 by omega)⟩ (rc_model hK hP) hK hP hD hS hZ rfl hl.1 rfl (Nat.le_of_ble_eq_true rfl) ⟨Nat.zero_le _, Nat.zero_le _⟩ dX12_lastBy_83 (fun r_33 z_43 H locs wr_33 hP hD hS => ?_)
        obtain ⟨o_u33_34, o_u34_35, o_u30_36, o_u28_37, o_u29_38, o_u31_39, o_b32_40, o_b25_41, o_b26_42⟩ := z_43
        have hP : va_P D vwCl (RW cs bd (va_up (va_up (va_up (va_up (va_up (va_up u 33 o_u33_34) 34 o_u34_35) 30 o_u30_36) 28 o_u28_37) 29 o_u29_38) 31 o_u31_39) (va_up (va_up (va_up b 32 o_b32_40) 25 o_b25_41) 26 o_b26_42) bw) H := hP
        have hD : va_D A (RW cs bd (va_up (va_up (va_up (va_up (va_up (va_up u 33 o_u33_34) 34 o_u34_35) 30 o_u30_36) 28 o_u28_37) 29 o_u29_38) 31 o_u31_39) (va_up (va_up (va_up b 32 o_b32_40) 25 o_b25_41) 26 o_b26_42) bw) := hD
        obtain ⟨wr_33_0, wr_33_1⟩ : (-1 ≤ o_u29_38.toInt) ∧ (o_u29_38.toInt < (u 1).toInt) := wr_33
        refine lv_istore (lv' := [(11, .int r_33), (10, .int o_u33_3), (9, .int r_2), (8, .int (u 31)), (7, .int (u 30)), (6, .int (u 29)), (5, .int (u 28)), (0, .ref (bd 0)), (1, .int p1), (2, .int p2), (3, .int p3), (4, .int p4)]) hx hb dX12_lastBy_86 hl (by decide) rfl (fun ls hl => ?_)
        refine lv_iload hx hb dX12_lastBy_88 (lv_at hl 2 rfl) ?_
        refine lv_if_lt (tgt := 109) hx hb dX12_lastBy_90 (by decide) (fun c_44 => ?_) (fun c_44 => ?_)
        ·
          have kc_44 : r_2.toInt < (0 : Int) := i_lt c_44
          refine lv_aload_n hx hb dX12_lastBy_109 rfl (lv_at hl 7 rfl) ?_
          refine lv_iload hx hb dX12_lastBy_110 (lv_at hl 6 rfl) ?_
          refine pr_bee1 hx hb hg hown hK hP hD hS (hg _ q5_20) dX12_lastBy_112 (fun H locs hP hD hS => ?_)
          refine lv_aload_n hx hb dX12_lastBy_115 rfl (lv_at hl 7 rfl) ?_
          refine lv_iload hx hb dX12_lastBy_116 (lv_at hl 5 rfl) ?_
          refine pr_liar1 hx hb hg hown hK hP hD hS (hg _ q5_21) dX12_lastBy_118 (fun H locs hP hD hS => ?_)
          refine lv_aload_n hx hb dX12_lastBy_121 rfl (lv_at hl 7 rfl) ?_
          refine lv_iload hx hb dX12_lastBy_122 (lv_at hl 4 rfl) ?_
          refine pr_hour1 hx hb hg hown hK hP hD hS (hg _ q5_22) dX12_lastBy_124 (fun H locs hP hD hS => ?_)
          refine lv_aload_n hx hb dX12_lastBy_127 rfl (lv_at hl 7 rfl) ?_
          refine lv_iload hx hb dX12_lastBy_128 (lv_at hl 3 rfl) ?_
          refine pr_lies1 hx hb hg hown hK hP hD hS (hg _ q5_23) dX12_lastBy_130 (fun H locs hP hD hS => ?_)
          refine lv_iload hx hb dX12_lastBy_133 (lv_at hl 0 rfl) ?_
          have hP : va_P D vwCl (RW cs bd (va_up (va_up (va_up (va_up (va_up (va_up u 33 o_u33_34) 34 o_u34_35) 30 (u 30)) 28 (u 28)) 29 (u 29)) 31 (u 31)) (va_up (va_up (va_up b 32 o_b32_40) 25 o_b25_41) 26 o_b26_42) bw) _ := hP
          have hD : va_D A (RW cs bd (va_up (va_up (va_up (va_up (va_up (va_up u 33 o_u33_34) 34 o_u34_35) 30 (u 30)) 28 (u 28)) 29 (u 29)) 31 (u 31)) (va_up (va_up (va_up b 32 o_b32_40) 25 o_b25_41) 26 o_b26_42) bw) := hD
          exact W.iret (v := r_33) hx hb hr (fun tt ht hW => ⟨⟨r_33, ⟨o_u33_34, o_u34_35, (u 30), (u 28), (u 29), (u 31), o_b32_40, o_b25_41, o_b26_42⟩, rfl, ⟨(show -1 ≤ (u 29).toInt by first | omega | assumption), (show (u 29).toInt < (u 1).toInt by first | omega | assumption)⟩, by rw [ht]; exact hP, hD⟩, hS.F ht⟩) hS.2.2 dX12_lastBy_135
        ·
          have kc_44 : (0 : Int) ≤ r_2.toInt := i_nlt c_44
          exfalso; omega
  ·
    have kc_1 : p2.toInt ≠ (0 : Int) := i_ne c_1
    refine lv_aload_n hx hb dX12_lastBy_29 rfl (lv_at hl 4 rfl) ?_
    refine gr_wordA hx hb hg hown hK hP (x := (u 44)) rfl (hg _ q5_36) dX12_lastBy_30 ?_
    refine lv_goto (tgt := 40) hx hb dX12_lastBy_33 (by decide) ?_
    refine lv_iload hx hb dX12_lastBy_40 (lv_at hl 8 rfl) ?_
    refine cV_i (As := [.int (u 44), .int p4]) (rest := []) ⟨hx, hb, hml, hown, hg⟩ (k_X12_goSaying l D cs A bd u b bw  (u 44) p4 (show 0 ≤ (u 44).toInt by first | omega | decide) (show (u 44).toInt < (u 1).toInt by first | omega | decide) hlaw (show 0 ≤ (u 1).toInt by first | omega | decide) (show (u 1).toInt ≤ 8 by first | omega | decide) (show -1 ≤ (u 29).toInt by first | omega | decide) (show (u 29).toInt < (u 1).toInt by first | omega | decide) ib23_0 ib24_0 ib20_0) ca_X12_goSaying q6_148 ⟨rfl, rfl⟩ ⟨(show 4 + 1 ≤ 2 * n + 9 by omega), (show 8 + (4 + 11) + (93) ≤ 100 * n + 300 by omega)⟩ (rc_model hK hP) hK hP hD hS hZ rfl hl.1 rfl (Nat.le_of_ble_eq_true rfl) ⟨Nat.zero_le _, Nat.zero_le _⟩ dX12_lastBy_42 (fun r_45 z_55 H locs wr_45 hP hD hS => ?_)
    obtain ⟨o_u33_46, o_u34_47, o_u30_48, o_u28_49, o_u29_50, o_b32_51, o_u31_52, o_b25_53, o_b26_54⟩ := z_55
    have hP : va_P D vwCl (RW cs bd (va_up (va_up (va_up (va_up (va_up (va_up u 33 o_u33_46) 34 o_u34_47) 30 o_u30_48) 28 o_u28_49) 29 o_u29_50) 31 o_u31_52) (va_up (va_up (va_up b 32 o_b32_51) 25 o_b25_53) 26 o_b26_54) bw) H := hP
    have hD : va_D A (RW cs bd (va_up (va_up (va_up (va_up (va_up (va_up u 33 o_u33_46) 34 o_u34_47) 30 o_u30_48) 28 o_u28_49) 29 o_u29_50) 31 o_u31_52) (va_up (va_up (va_up b 32 o_b32_51) 25 o_b25_53) 26 o_b26_54) bw) := hD
    obtain ⟨wr_45_0, wr_45_1, wr_45_2⟩ : (r_45.toInt = -1 ∨ (0 ≤ r_45.toInt ∧ r_45.toInt < (u 1).toInt)) ∧ (-1 ≤ o_u29_50.toInt) ∧ (o_u29_50.toInt < (u 1).toInt) := wr_45
    refine lv_istore (lv' := [(9, .int r_45), (8, .int (u 31)), (7, .int (u 30)), (6, .int (u 29)), (5, .int (u 28)), (0, .ref (bd 0)), (1, .int p1), (2, .int p2), (3, .int p3), (4, .int p4)]) hx hb dX12_lastBy_45 hl (by decide) rfl (fun ls hl => ?_)
    refine lv_aload_n hx hb dX12_lastBy_47 rfl (lv_at hl 5 rfl) ?_
    refine gr_hurt1 hx hb hg hown hK hP (x := o_u33_46) rfl (hg _ q5_25) dX12_lastBy_48 ?_
    refine lv_istore (lv' := [(10, .int o_u33_46), (9, .int r_45), (8, .int (u 31)), (7, .int (u 30)), (6, .int (u 29)), (5, .int (u 28)), (0, .ref (bd 0)), (1, .int p1), (2, .int p2), (3, .int p3), (4, .int p4)]) hx hb dX12_lastBy_51 hl (by decide) rfl (fun ls hl => ?_)
    refine lv_aload_n hx hb dX12_lastBy_53 rfl (lv_at hl 6 rfl) ?_
    refine lv_iload_n hx hb dX12_lastBy_54 rfl (lv_at hl 7 rfl) ?_
    refine lv_iconst (v := 1) hx hb dX12_lastBy_55 (by decide) ?_
    refine lv_isub hx hb dX12_lastBy_56 ?_
    refine lv_topi (fun x_56 ex_56 => ?_)
    have fx_56 : x_56.toInt = p1.toInt - (1 : Int) := by rw [ex_56]; exact i_sub (by first | omega | (show (_ : Int) ≤ p1.toInt - (1 : Int); omega)) (by first | omega | (show p1.toInt - (1 : Int) ≤ (_ : Int); omega))
    refine lv_iload_n hx hb dX12_lastBy_57 rfl (lv_at hl 8 rfl) ?_
    refine lv_if_ne (tgt := 65) hx hb dX12_lastBy_58 (by decide) (fun c_57 => ?_) (fun c_57 => ?_)
    ·
      have kc_57 : p2.toInt ≠ (0 : Int) := i_ne c_57
      refine lv_iconst (v := 0) hx hb dX12_lastBy_65 (by decide) ?_
      refine lv_iload hx hb dX12_lastBy_66 (lv_at hl 1 rfl) ?_
      refine lv_if_ge (tgt := 75) hx hb dX12_lastBy_68 (by decide) (fun c_58 => ?_) (fun c_58 => ?_)
      ·
        have kc_58 : (0 : Int) ≤ r_45.toInt := i_le c_58
        refine lv_iload_n hx hb dX12_lastBy_75 rfl (lv_at hl 9 rfl) ?_
        refine lv_aload_n hx hb dX12_lastBy_76 rfl (lv_at hl 6 rfl) ?_
        refine lv_iload hx hb dX12_lastBy_77 (lv_at hl 1 rfl) ?_
        refine cV_ro (As := [.int r_45]) (rest := [.int p3, .int 0, .int x_56, .ref (bd 0)]) ⟨hx, hb, hml, hown, hg⟩ (k_X12_bitOf l D cs A bd (va_up (va_up (va_up (va_up (va_up (va_up u 33 o_u33_46) 34 o_u34_47) 30 o_u30_48) 28 o_u28_49) 29 o_u29_50) 31 o_u31_52) (va_up (va_up (va_up b 32 o_b32_51) 25 o_b25_53) 26 o_b26_54) bw  r_45 ) ca_X12_bitOf q6_203 ⟨rfl, rfl⟩ ⟨(show 0 + 1 ≤ 2 * n + 9 by omega), (show 8 + (2 + 11) + (0) ≤ 100 * n + 300 by omega)⟩ (rc_model hK hP) hK hP hD hS hZ rfl hl.1 rfl (Nat.le_of_ble_eq_true rfl) ⟨Nat.zero_le _, Nat.zero_le _⟩ dX12_lastBy_79 (fun r_59 wr_59 => ?_)
        have wr_59_0 : True := wr_59
        refine lv_ior hx hb dX12_lastBy_82 ?_
        refine lv_topi (fun x_60 ex_60 => ?_)
        refine cV_i (As := [.int x_56, .int 0, .int x_60]) (rest := []) ⟨hx, hb, hml, hown, hg⟩ ((hO (n - 1) (by omega)) l D cs A bd (va_up (va_up (va_up (va_up (va_up (va_up u 33 o_u33_46) 34 o_u34_47) 30 o_u30_48) 28 o_u28_49) 29 o_u29_50) 31 o_u31_52) (va_up (va_up (va_up b 32 o_b32_51) 25 o_b25_53) 26 o_b26_54) bw  x_56 0 x_60 (show 0 ≤ x_56.toInt by first | omega | decide) (show x_56.toInt ≤ ((n - 1 : Nat) : Int) by first | omega | decide) (show 0 ≤ (u 44).toInt by first | omega | decide) (show (u 44).toInt < (u 1).toInt by first | omega | decide) (show 0 ≤ (u 45).toInt by first | omega | decide) (show (u 45).toInt < (u 1).toInt by first | omega | decide) hlaw (show x_56.toInt ≤ 6 by first | omega | decide) (show 0 ≤ (u 1).toInt by first | omega | decide) (show (u 1).toInt ≤ 8 by first | omega | decide) (show -1 ≤ o_u29_50.toInt by first | omega | decide) (show o_u29_50.toInt < (u 1).toInt by first | omega | decide) ib23_0 ib24_0 ib20_0) ca_X12_lastOf q6_207 ⟨rfl, rfl⟩ ⟨(show 2 * (n - 1) + 10 + 1 ≤ 2 * n + 9 by omega), (show 8 + (9 + 11) + (100 * (n - 1) + 350) ≤ 100 * n + 300 by omega)⟩ (rc_model hK hP) hK hP hD hS hZ rfl hl.1 rfl (Nat.le_of_ble_eq_true rfl) ⟨Nat.zero_le _, Nat.zero_le _⟩ dX12_lastBy_83 (fun r_61 z_71 H locs wr_61 hP hD hS => ?_)
        obtain ⟨o_u33_62, o_u34_63, o_u30_64, o_u28_65, o_u29_66, o_u31_67, o_b32_68, o_b25_69, o_b26_70⟩ := z_71
        have hP : va_P D vwCl (RW cs bd (va_up (va_up (va_up (va_up (va_up (va_up u 33 o_u33_62) 34 o_u34_63) 30 o_u30_64) 28 o_u28_65) 29 o_u29_66) 31 o_u31_67) (va_up (va_up (va_up b 32 o_b32_68) 25 o_b25_69) 26 o_b26_70) bw) H := hP
        have hD : va_D A (RW cs bd (va_up (va_up (va_up (va_up (va_up (va_up u 33 o_u33_62) 34 o_u34_63) 30 o_u30_64) 28 o_u28_65) 29 o_u29_66) 31 o_u31_67) (va_up (va_up (va_up b 32 o_b32_68) 25 o_b25_69) 26 o_b26_70) bw) := hD
        obtain ⟨wr_61_0, wr_61_1⟩ : (-1 ≤ o_u29_66.toInt) ∧ (o_u29_66.toInt < (u 1).toInt) := wr_61
        refine lv_istore (lv' := [(11, .int r_61), (10, .int o_u33_46), (9, .int r_45), (8, .int (u 31)), (7, .int (u 30)), (6, .int (u 29)), (5, .int (u 28)), (0, .ref (bd 0)), (1, .int p1), (2, .int p2), (3, .int p3), (4, .int p4)]) hx hb dX12_lastBy_86 hl (by decide) rfl (fun ls hl => ?_)
        refine lv_iload hx hb dX12_lastBy_88 (lv_at hl 2 rfl) ?_
        refine lv_if_lt (tgt := 109) hx hb dX12_lastBy_90 (by decide) (fun c_72 => ?_) (fun c_72 => ?_)
        ·
          have kc_72 : r_45.toInt < (0 : Int) := i_lt c_72
          exfalso; omega
        ·
          have kc_72 : (0 : Int) ≤ r_45.toInt := i_nlt c_72
          refine lv_iload hx hb dX12_lastBy_93 (lv_at hl 1 rfl) ?_
          refine lv_if_ne (tgt := 109) hx hb dX12_lastBy_95 (by decide) (fun c_73 => ?_) (fun c_73 => ?_)
          ·
            have kc_73 : o_u33_46.toInt ≠ (0 : Int) := i_ne c_73
            refine lv_aload_n hx hb dX12_lastBy_109 rfl (lv_at hl 7 rfl) ?_
            refine lv_iload hx hb dX12_lastBy_110 (lv_at hl 6 rfl) ?_
            refine pr_bee1 hx hb hg hown hK hP hD hS (hg _ q5_20) dX12_lastBy_112 (fun H locs hP hD hS => ?_)
            refine lv_aload_n hx hb dX12_lastBy_115 rfl (lv_at hl 7 rfl) ?_
            refine lv_iload hx hb dX12_lastBy_116 (lv_at hl 5 rfl) ?_
            refine pr_liar1 hx hb hg hown hK hP hD hS (hg _ q5_21) dX12_lastBy_118 (fun H locs hP hD hS => ?_)
            refine lv_aload_n hx hb dX12_lastBy_121 rfl (lv_at hl 7 rfl) ?_
            refine lv_iload hx hb dX12_lastBy_122 (lv_at hl 4 rfl) ?_
            refine pr_hour1 hx hb hg hown hK hP hD hS (hg _ q5_22) dX12_lastBy_124 (fun H locs hP hD hS => ?_)
            refine lv_aload_n hx hb dX12_lastBy_127 rfl (lv_at hl 7 rfl) ?_
            refine lv_iload hx hb dX12_lastBy_128 (lv_at hl 3 rfl) ?_
            refine pr_lies1 hx hb hg hown hK hP hD hS (hg _ q5_23) dX12_lastBy_130 (fun H locs hP hD hS => ?_)
            refine lv_iload hx hb dX12_lastBy_133 (lv_at hl 0 rfl) ?_
            have hP : va_P D vwCl (RW cs bd (va_up (va_up (va_up (va_up (va_up (va_up u 33 o_u33_62) 34 o_u34_63) 30 (u 30)) 28 (u 28)) 29 (u 29)) 31 (u 31)) (va_up (va_up (va_up b 32 o_b32_68) 25 o_b25_69) 26 o_b26_70) bw) _ := hP
            have hD : va_D A (RW cs bd (va_up (va_up (va_up (va_up (va_up (va_up u 33 o_u33_62) 34 o_u34_63) 30 (u 30)) 28 (u 28)) 29 (u 29)) 31 (u 31)) (va_up (va_up (va_up b 32 o_b32_68) 25 o_b25_69) 26 o_b26_70) bw) := hD
            exact W.iret (v := r_61) hx hb hr (fun tt ht hW => ⟨⟨r_61, ⟨o_u33_62, o_u34_63, (u 30), (u 28), (u 29), (u 31), o_b32_68, o_b25_69, o_b26_70⟩, rfl, ⟨(show -1 ≤ (u 29).toInt by first | omega | assumption), (show (u 29).toInt < (u 1).toInt by first | omega | assumption)⟩, by rw [ht]; exact hP, hD⟩, hS.F ht⟩) hS.2.2 dX12_lastBy_135
          ·
            have kc_73 : o_u33_46.toInt = (0 : Int) := i_eq c_73
            refine lv_aload_n hx hb dX12_lastBy_98 rfl (lv_at hl 7 rfl) ?_
            refine gr_pads1 hx hb hg hown hK hP (hg _ q5_24) dX12_lastBy_99 ?_
            refine lv_iload hx hb dX12_lastBy_102 (lv_at hl 2 rfl) ?_
            refine lv_dup2_11 hx hb dX12_lastBy_104 rfl rfl ?_
            refine lr_pads1 hx hb hK hP (i_in (by omega) (by omega)) dX12_lastBy_105 ?_
            refine lv_topi (fun x_74 ex_74 => ?_)
            have ex_74 : x_74 = o_b32_68 r_45.toNatClampNeg := ex_74
            have hx_74 : x_74.toInt = (o_b32_68 r_45.toNatClampNeg).toInt := by rw [ex_74]
            refine lv_iconst (v := 1) hx hb dX12_lastBy_106 (by decide) ?_
            refine lv_iadd hx hb dX12_lastBy_107 ?_
            refine lv_topi (fun x_75 ex_75 => ?_)
            refine sr_pads1 hx hb hK hP hD hS (i_in (by omega) (by omega)) dX12_lastBy_108 (fun H locs hP hD hS => ?_)
            refine lv_aload_n hx hb dX12_lastBy_109 rfl (lv_at hl 7 rfl) ?_
            refine lv_iload hx hb dX12_lastBy_110 (lv_at hl 6 rfl) ?_
            refine pr_bee1 hx hb hg hown hK hP hD hS (hg _ q5_20) dX12_lastBy_112 (fun H locs hP hD hS => ?_)
            refine lv_aload_n hx hb dX12_lastBy_115 rfl (lv_at hl 7 rfl) ?_
            refine lv_iload hx hb dX12_lastBy_116 (lv_at hl 5 rfl) ?_
            refine pr_liar1 hx hb hg hown hK hP hD hS (hg _ q5_21) dX12_lastBy_118 (fun H locs hP hD hS => ?_)
            refine lv_aload_n hx hb dX12_lastBy_121 rfl (lv_at hl 7 rfl) ?_
            refine lv_iload hx hb dX12_lastBy_122 (lv_at hl 4 rfl) ?_
            refine pr_hour1 hx hb hg hown hK hP hD hS (hg _ q5_22) dX12_lastBy_124 (fun H locs hP hD hS => ?_)
            refine lv_aload_n hx hb dX12_lastBy_127 rfl (lv_at hl 7 rfl) ?_
            refine lv_iload hx hb dX12_lastBy_128 (lv_at hl 3 rfl) ?_
            refine pr_lies1 hx hb hg hown hK hP hD hS (hg _ q5_23) dX12_lastBy_130 (fun H locs hP hD hS => ?_)
            refine lv_iload hx hb dX12_lastBy_133 (lv_at hl 0 rfl) ?_
            have hP : va_P D vwCl (RW cs bd (va_up (va_up (va_up (va_up (va_up (va_up u 33 o_u33_62) 34 o_u34_63) 30 (u 30)) 28 (u 28)) 29 (u 29)) 31 (u 31)) (va_up (va_up (va_up b 32 (upd o_b32_68 r_45.toNatClampNeg x_75)) 25 o_b25_69) 26 o_b26_70) bw) _ := hP
            have hD : va_D A (RW cs bd (va_up (va_up (va_up (va_up (va_up (va_up u 33 o_u33_62) 34 o_u34_63) 30 (u 30)) 28 (u 28)) 29 (u 29)) 31 (u 31)) (va_up (va_up (va_up b 32 (upd o_b32_68 r_45.toNatClampNeg x_75)) 25 o_b25_69) 26 o_b26_70) bw) := hD
            exact W.iret (v := r_61) hx hb hr (fun tt ht hW => ⟨⟨r_61, ⟨o_u33_62, o_u34_63, (u 30), (u 28), (u 29), (u 31), (upd o_b32_68 r_45.toNatClampNeg x_75), o_b25_69, o_b26_70⟩, rfl, ⟨(show -1 ≤ (u 29).toInt by first | omega | assumption), (show (u 29).toInt < (u 1).toInt by first | omega | assumption)⟩, by rw [ht]; exact hP, hD⟩, hS.F ht⟩) hS.2.2 dX12_lastBy_135
      ·
        have kc_58 : r_45.toInt < (0 : Int) := i_nle c_58
        refine lv_iload_n hx hb dX12_lastBy_71 rfl (lv_at hl 9 rfl) ?_
        refine lv_goto (tgt := 83) hx hb dX12_lastBy_72 (by decide) ?_
        refine cV_i (As := [.int x_56, .int 0, .int p3]) (rest := []) ⟨hx, hb, hml, hown, hg⟩ ((hO (n - 1) (by omega)) l D cs A bd (va_up (va_up (va_up (va_up (va_up (va_up u 33 o_u33_46) 34 o_u34_47) 30 o_u30_48) 28 o_u28_49) 29 o_u29_50) 31 o_u31_52) (va_up (va_up (va_up b 32 o_b32_51) 25 o_b25_53) 26 o_b26_54) bw  x_56 0 p3 (show 0 ≤ x_56.toInt by first | omega | decide) (show x_56.toInt ≤ ((n - 1 : Nat) : Int) by first | omega | decide) (show 0 ≤ (u 44).toInt by first | omega | decide) (show (u 44).toInt < (u 1).toInt by first | omega | decide) (show 0 ≤ (u 45).toInt by first | omega | decide) (show (u 45).toInt < (u 1).toInt by first | omega | decide) hlaw (show x_56.toInt ≤ 6 by first | omega | decide) (show 0 ≤ (u 1).toInt by first | omega | decide) (show (u 1).toInt ≤ 8 by first | omega | decide) (show -1 ≤ o_u29_50.toInt by first | omega | decide) (show o_u29_50.toInt < (u 1).toInt by first | omega | decide) ib23_0 ib24_0 ib20_0) ca_X12_lastOf q6_207 ⟨rfl, rfl⟩ ⟨(show 2 * (n - 1) + 10 + 1 ≤ 2 * n + 9 by omega), (show 8 + (9 + 11) + (100 * (n - 1) + 350) ≤ 100 * n + 300 by omega)⟩ (rc_model hK hP) hK hP hD hS hZ rfl hl.1 rfl (Nat.le_of_ble_eq_true rfl) ⟨Nat.zero_le _, Nat.zero_le _⟩ dX12_lastBy_83 (fun r_76 z_86 H locs wr_76 hP hD hS => ?_)
        obtain ⟨o_u33_77, o_u34_78, o_u30_79, o_u28_80, o_u29_81, o_u31_82, o_b32_83, o_b25_84, o_b26_85⟩ := z_86
        have hP : va_P D vwCl (RW cs bd (va_up (va_up (va_up (va_up (va_up (va_up u 33 o_u33_77) 34 o_u34_78) 30 o_u30_79) 28 o_u28_80) 29 o_u29_81) 31 o_u31_82) (va_up (va_up (va_up b 32 o_b32_83) 25 o_b25_84) 26 o_b26_85) bw) H := hP
        have hD : va_D A (RW cs bd (va_up (va_up (va_up (va_up (va_up (va_up u 33 o_u33_77) 34 o_u34_78) 30 o_u30_79) 28 o_u28_80) 29 o_u29_81) 31 o_u31_82) (va_up (va_up (va_up b 32 o_b32_83) 25 o_b25_84) 26 o_b26_85) bw) := hD
        obtain ⟨wr_76_0, wr_76_1⟩ : (-1 ≤ o_u29_81.toInt) ∧ (o_u29_81.toInt < (u 1).toInt) := wr_76
        refine lv_istore (lv' := [(11, .int r_76), (10, .int o_u33_46), (9, .int r_45), (8, .int (u 31)), (7, .int (u 30)), (6, .int (u 29)), (5, .int (u 28)), (0, .ref (bd 0)), (1, .int p1), (2, .int p2), (3, .int p3), (4, .int p4)]) hx hb dX12_lastBy_86 hl (by decide) rfl (fun ls hl => ?_)
        refine lv_iload hx hb dX12_lastBy_88 (lv_at hl 2 rfl) ?_
        refine lv_if_lt (tgt := 109) hx hb dX12_lastBy_90 (by decide) (fun c_87 => ?_) (fun c_87 => ?_)
        ·
          have kc_87 : r_45.toInt < (0 : Int) := i_lt c_87
          refine lv_aload_n hx hb dX12_lastBy_109 rfl (lv_at hl 7 rfl) ?_
          refine lv_iload hx hb dX12_lastBy_110 (lv_at hl 6 rfl) ?_
          refine pr_bee1 hx hb hg hown hK hP hD hS (hg _ q5_20) dX12_lastBy_112 (fun H locs hP hD hS => ?_)
          refine lv_aload_n hx hb dX12_lastBy_115 rfl (lv_at hl 7 rfl) ?_
          refine lv_iload hx hb dX12_lastBy_116 (lv_at hl 5 rfl) ?_
          refine pr_liar1 hx hb hg hown hK hP hD hS (hg _ q5_21) dX12_lastBy_118 (fun H locs hP hD hS => ?_)
          refine lv_aload_n hx hb dX12_lastBy_121 rfl (lv_at hl 7 rfl) ?_
          refine lv_iload hx hb dX12_lastBy_122 (lv_at hl 4 rfl) ?_
          refine pr_hour1 hx hb hg hown hK hP hD hS (hg _ q5_22) dX12_lastBy_124 (fun H locs hP hD hS => ?_)
          refine lv_aload_n hx hb dX12_lastBy_127 rfl (lv_at hl 7 rfl) ?_
          refine lv_iload hx hb dX12_lastBy_128 (lv_at hl 3 rfl) ?_
          refine pr_lies1 hx hb hg hown hK hP hD hS (hg _ q5_23) dX12_lastBy_130 (fun H locs hP hD hS => ?_)
          refine lv_iload hx hb dX12_lastBy_133 (lv_at hl 0 rfl) ?_
          have hP : va_P D vwCl (RW cs bd (va_up (va_up (va_up (va_up (va_up (va_up u 33 o_u33_77) 34 o_u34_78) 30 (u 30)) 28 (u 28)) 29 (u 29)) 31 (u 31)) (va_up (va_up (va_up b 32 o_b32_83) 25 o_b25_84) 26 o_b26_85) bw) _ := hP
          have hD : va_D A (RW cs bd (va_up (va_up (va_up (va_up (va_up (va_up u 33 o_u33_77) 34 o_u34_78) 30 (u 30)) 28 (u 28)) 29 (u 29)) 31 (u 31)) (va_up (va_up (va_up b 32 o_b32_83) 25 o_b25_84) 26 o_b26_85) bw) := hD
          exact W.iret (v := r_76) hx hb hr (fun tt ht hW => ⟨⟨r_76, ⟨o_u33_77, o_u34_78, (u 30), (u 28), (u 29), (u 31), o_b32_83, o_b25_84, o_b26_85⟩, rfl, ⟨(show -1 ≤ (u 29).toInt by first | omega | assumption), (show (u 29).toInt < (u 1).toInt by first | omega | assumption)⟩, by rw [ht]; exact hP, hD⟩, hS.F ht⟩) hS.2.2 dX12_lastBy_135
        ·
          have kc_87 : (0 : Int) ≤ r_45.toInt := i_nlt c_87
          exfalso; omega
    ·
      have kc_57 : p2.toInt = (0 : Int) := i_eq c_57
      exfalso; omega
set_option maxHeartbeats 4000000 in
set_option maxRecDepth 100000 in
theorem s_X12_lastOf (n : Nat) (hB : C_X12_lastBy n) : C_X12_lastOf n := by
  intro l D cs A bd u b bw p1 p2 p3 hl0 hln h9a h9b h10a h10b hlaw hl9 iu1_0 iu1_1 iu29_0 iu29_1 ib23_0 ib24_0 ib20_0
  refine Met.ofW (cc := cX12_lastOf) (maxL := 9) (ret := (some .int)) (by decide) rfl ?_
  intro p e s m args below meth c s₁ B hml hv
  obtain ⟨rfl, hP, hK, hD, hZ⟩ := hv
  have hx := B.exec
  have hb := B.bytes
  have hr := B.returns
  have hts := atoms_spec (ws := (Cond.code yX12_lastOf cX12_lastOf 9 (some .int) :: gw)) B.pre
  have hg : ∀ w ∈ gw, w.before ([.ref (bd 0), .int p1, .int p2, .int p3] : List Value).toArray s = true := fun w h => hts w (List.mem_cons_of_mem _ h)
  have hown : s.vm.findClass RX12 = some m.cls := findClass_of_methodNamed B.named
  have hlocks := B.notSynchronized
  have hS : va_S A s.heap s.heap [] := va_S.rf
  have hP : va_P D vwCl (RW cs bd u b bw) s.heap := hP
  have hl := lv_entry ([.ref (bd 0), .int p1, .int p2, .int p3]) (n := 9) (Nat.le_of_ble_eq_true rfl)
  rw [lg_entry_eq]
  generalize (lg_sl ([.ref (bd 0), .int p1, .int p2, .int p3]) ++ List.replicate (9 - (lg_sl ([.ref (bd 0), .int p1, .int p2, .int p3])).length) Slot.unset).toArray = ls at hl ⊢
  have hl : lv_has ls 9 [(0, .ref (bd 0)), (1, .int p1), (2, .int p2), (3, .int p3)] := hl
  refine lv_iload_n hx hb dX12_lastOf_0 rfl (lv_at hl 1 rfl) ?_
  refine lv_if_ne (tgt := 82) hx hb dX12_lastOf_1 (by decide) (fun c_1 => ?_) (fun c_1 => ?_)
  ·
    have kc_1 : p1.toInt ≠ (0 : Int) := i_ne c_1
    refine lv_aload_n hx hb dX12_lastOf_82 rfl (lv_at hl 0 rfl) ?_
    refine lv_iload_n hx hb dX12_lastOf_83 rfl (lv_at hl 1 rfl) ?_
    refine lv_iload_n hx hb dX12_lastOf_84 rfl (lv_at hl 2 rfl) ?_
    refine lv_iload_n hx hb dX12_lastOf_85 rfl (lv_at hl 3 rfl) ?_
    refine lv_iconst (v := 0) hx hb dX12_lastOf_86 (by decide) ?_
    refine cV_i (As := [.int p1, .int p2, .int p3, .int 0]) (rest := []) ⟨hx, hb, hml, hown, hg⟩ (hB l D cs A bd u b bw  p1 p2 p3 0 (show 0 ≤ p1.toInt by first | omega | decide) (show p1.toInt ≤ (n : Int) by first | omega | decide) (show 0 ≤ (u 44).toInt by first | omega | decide) (show (u 44).toInt < (u 1).toInt by first | omega | decide) (show 0 ≤ (u 45).toInt by first | omega | decide) (show (u 45).toInt < (u 1).toInt by first | omega | decide) hlaw (show 1 ≤ p1.toInt by first | omega | decide) (show p1.toInt ≤ 6 by first | omega | decide) (show 0 ≤ (u 1).toInt by first | omega | decide) (show (u 1).toInt ≤ 8 by first | omega | decide) (show -1 ≤ (u 29).toInt by first | omega | decide) (show (u 29).toInt < (u 1).toInt by first | omega | decide) ib23_0 ib24_0 ib20_0) ca_X12_lastBy q6_199 ⟨rfl, rfl⟩ ⟨(show 2 * n + 9 + 1 ≤ 2 * n + 10 by omega), (show 8 + (12 + 11) + (100 * n + 300) ≤ 100 * n + 350 by omega)⟩ (rc_model hK hP) hK hP hD hS hZ rfl hl.1 rfl (Nat.le_of_ble_eq_true rfl) ⟨Nat.zero_le _, Nat.zero_le _⟩ dX12_lastOf_87 (fun r_2 z_12 H locs wr_2 hP hD hS => ?_)
    obtain ⟨o_u33_3, o_u34_4, o_u30_5, o_u28_6, o_u29_7, o_u31_8, o_b32_9, o_b25_10, o_b26_11⟩ := z_12
    have hP : va_P D vwCl (RW cs bd (va_up (va_up (va_up (va_up (va_up (va_up u 33 o_u33_3) 34 o_u34_4) 30 o_u30_5) 28 o_u28_6) 29 o_u29_7) 31 o_u31_8) (va_up (va_up (va_up b 32 o_b32_9) 25 o_b25_10) 26 o_b26_11) bw) H := hP
    have hD : va_D A (RW cs bd (va_up (va_up (va_up (va_up (va_up (va_up u 33 o_u33_3) 34 o_u34_4) 30 o_u30_5) 28 o_u28_6) 29 o_u29_7) 31 o_u31_8) (va_up (va_up (va_up b 32 o_b32_9) 25 o_b25_10) 26 o_b26_11) bw) := hD
    obtain ⟨wr_2_0, wr_2_1⟩ : (-1 ≤ o_u29_7.toInt) ∧ (o_u29_7.toInt < (u 1).toInt) := wr_2
    refine lv_istore (lv' := [(4, .int r_2), (0, .ref (bd 0)), (1, .int p1), (2, .int p2), (3, .int p3)]) hx hb dX12_lastOf_90 hl (by decide) rfl (fun ls hl => ?_)
    refine lv_aload_n hx hb dX12_lastOf_92 rfl (lv_at hl 1 rfl) ?_
    refine lv_iload_n hx hb dX12_lastOf_93 rfl (lv_at hl 2 rfl) ?_
    refine lv_iload_n hx hb dX12_lastOf_94 rfl (lv_at hl 3 rfl) ?_
    refine lv_iload_n hx hb dX12_lastOf_95 rfl (lv_at hl 4 rfl) ?_
    refine lv_iconst (v := 1) hx hb dX12_lastOf_96 (by decide) ?_
    refine cV_i (As := [.int p1, .int p2, .int p3, .int 1]) (rest := []) ⟨hx, hb, hml, hown, hg⟩ (hB l D cs A bd (va_up (va_up (va_up (va_up (va_up (va_up u 33 o_u33_3) 34 o_u34_4) 30 o_u30_5) 28 o_u28_6) 29 o_u29_7) 31 o_u31_8) (va_up (va_up (va_up b 32 o_b32_9) 25 o_b25_10) 26 o_b26_11) bw  p1 p2 p3 1 (show 0 ≤ p1.toInt by first | omega | decide) (show p1.toInt ≤ (n : Int) by first | omega | decide) (show 0 ≤ (u 44).toInt by first | omega | decide) (show (u 44).toInt < (u 1).toInt by first | omega | decide) (show 0 ≤ (u 45).toInt by first | omega | decide) (show (u 45).toInt < (u 1).toInt by first | omega | decide) hlaw (show 1 ≤ p1.toInt by first | omega | decide) (show p1.toInt ≤ 6 by first | omega | decide) (show 0 ≤ (u 1).toInt by first | omega | decide) (show (u 1).toInt ≤ 8 by first | omega | decide) (show -1 ≤ o_u29_7.toInt by first | omega | decide) (show o_u29_7.toInt < (u 1).toInt by first | omega | decide) ib23_0 ib24_0 ib20_0) ca_X12_lastBy q6_199 ⟨rfl, rfl⟩ ⟨(show 2 * n + 9 + 1 ≤ 2 * n + 10 by omega), (show 8 + (12 + 11) + (100 * n + 300) ≤ 100 * n + 350 by omega)⟩ (rc_model hK hP) hK hP hD hS hZ rfl hl.1 rfl (Nat.le_of_ble_eq_true rfl) ⟨Nat.zero_le _, Nat.zero_le _⟩ dX12_lastOf_97 (fun r_13 z_23 H locs wr_13 hP hD hS => ?_)
    obtain ⟨o_u33_14, o_u34_15, o_u30_16, o_u28_17, o_u29_18, o_u31_19, o_b32_20, o_b25_21, o_b26_22⟩ := z_23
    have hP : va_P D vwCl (RW cs bd (va_up (va_up (va_up (va_up (va_up (va_up u 33 o_u33_14) 34 o_u34_15) 30 o_u30_16) 28 o_u28_17) 29 o_u29_18) 31 o_u31_19) (va_up (va_up (va_up b 32 o_b32_20) 25 o_b25_21) 26 o_b26_22) bw) H := hP
    have hD : va_D A (RW cs bd (va_up (va_up (va_up (va_up (va_up (va_up u 33 o_u33_14) 34 o_u34_15) 30 o_u30_16) 28 o_u28_17) 29 o_u29_18) 31 o_u31_19) (va_up (va_up (va_up b 32 o_b32_20) 25 o_b25_21) 26 o_b26_22) bw) := hD
    obtain ⟨wr_13_0, wr_13_1⟩ : (-1 ≤ o_u29_18.toInt) ∧ (o_u29_18.toInt < (u 1).toInt) := wr_13
    refine lv_istore (lv' := [(5, .int r_13), (4, .int r_2), (0, .ref (bd 0)), (1, .int p1), (2, .int p2), (3, .int p3)]) hx hb dX12_lastOf_100 hl (by decide) rfl (fun ls hl => ?_)
    refine lv_iload_n hx hb dX12_lastOf_102 rfl (lv_at hl 4 rfl) ?_
    refine lv_if_eq (tgt := 110) hx hb dX12_lastOf_103 (by decide) (fun c_24 => ?_) (fun c_24 => ?_)
    ·
      have kc_24 : p2.toInt = (0 : Int) := i_eq c_24
      refine lv_iconst (v := 2) hx hb dX12_lastOf_110 (by decide) ?_
      refine lv_istore (lv' := [(6, .int 2), (5, .int r_13), (4, .int r_2), (0, .ref (bd 0)), (1, .int p1), (2, .int p2), (3, .int p3)]) hx hb dX12_lastOf_111 hl (by decide) rfl (fun ls hl => ?_)
      refine lv_iload hx hb dX12_lastOf_113 (lv_at hl 1 rfl) ?_
      refine lv_iload hx hb dX12_lastOf_115 (lv_at hl 0 rfl) ?_
      refine cS_p (As := [.int r_13, .int 2]) (rest := []) ⟨hx, hb, hml, hown, hg⟩ (k_X12_likes l   r_13 2 ) ca_X12_likes q6_215 ⟨rfl, rfl⟩ ⟨(show 0 + 1 ≤ 2 * n + 10 by omega), (show 8 + (2 + 11) + (0) ≤ 100 * n + 350 by omega)⟩ rfl hl.1 rfl (Nat.le_of_ble_eq_true rfl) ⟨Nat.zero_le _, Nat.zero_le _⟩ dX12_lastOf_117 (fun r_25 wr_25 => ?_)
      refine lv_iload hx hb dX12_lastOf_120 (lv_at hl 2 rfl) ?_
      refine lv_iload hx hb dX12_lastOf_122 (lv_at hl 0 rfl) ?_
      refine cS_p (As := [.int r_2, .int 2]) (rest := [.int r_25]) ⟨hx, hb, hml, hown, hg⟩ (k_X12_likes l   r_2 2 ) ca_X12_likes q6_215 ⟨rfl, rfl⟩ ⟨(show 0 + 1 ≤ 2 * n + 10 by omega), (show 8 + (2 + 11) + (0) ≤ 100 * n + 350 by omega)⟩ rfl hl.1 rfl (Nat.le_of_ble_eq_true rfl) ⟨Nat.zero_le _, Nat.zero_le _⟩ dX12_lastOf_124 (fun r_26 wr_26 => ?_)
      refine lv_icmp_le (tgt := 135) hx hb dX12_lastOf_127 (by decide) (fun c_27 => ?_) (fun c_27 => ?_)
      ·
        have kc_27 : r_25.toInt ≤ r_26.toInt := i_le c_27
        refine lv_iload hx hb dX12_lastOf_135 (lv_at hl 2 rfl) ?_
        exact W.iret (v := r_2) hx hb hr (fun tt ht hW => ⟨⟨r_2, ⟨o_u33_14, o_u34_15, o_u30_16, o_u28_17, o_u29_18, o_u31_19, o_b32_20, o_b25_21, o_b26_22⟩, rfl, ⟨(show -1 ≤ o_u29_18.toInt by first | omega | assumption), (show o_u29_18.toInt < (u 1).toInt by first | omega | assumption)⟩, by rw [ht]; exact hP, hD⟩, hS.F ht⟩) hS.2.2 dX12_lastOf_137
      ·
        have kc_27 : r_26.toInt < r_25.toInt := i_nle c_27
        refine lv_iload hx hb dX12_lastOf_130 (lv_at hl 1 rfl) ?_
        refine lv_goto (tgt := 137) hx hb dX12_lastOf_132 (by decide) ?_
        exact W.iret (v := r_13) hx hb hr (fun tt ht hW => ⟨⟨r_13, ⟨o_u33_14, o_u34_15, o_u30_16, o_u28_17, o_u29_18, o_u31_19, o_b32_20, o_b25_21, o_b26_22⟩, rfl, ⟨(show -1 ≤ o_u29_18.toInt by first | omega | assumption), (show o_u29_18.toInt < (u 1).toInt by first | omega | assumption)⟩, by rw [ht]; exact hP, hD⟩, hS.F ht⟩) hS.2.2 dX12_lastOf_137
    ·
      have kc_24 : p2.toInt ≠ (0 : Int) := i_ne c_24
      refine lv_iconst (v := 1) hx hb dX12_lastOf_106 (by decide) ?_
      refine lv_goto (tgt := 111) hx hb dX12_lastOf_107 (by decide) ?_
      refine lv_istore (lv' := [(6, .int 1), (5, .int r_13), (4, .int r_2), (0, .ref (bd 0)), (1, .int p1), (2, .int p2), (3, .int p3)]) hx hb dX12_lastOf_111 hl (by decide) rfl (fun ls hl => ?_)
      refine lv_iload hx hb dX12_lastOf_113 (lv_at hl 1 rfl) ?_
      refine lv_iload hx hb dX12_lastOf_115 (lv_at hl 0 rfl) ?_
      refine cS_p (As := [.int r_13, .int 1]) (rest := []) ⟨hx, hb, hml, hown, hg⟩ (k_X12_likes l   r_13 1 ) ca_X12_likes q6_215 ⟨rfl, rfl⟩ ⟨(show 0 + 1 ≤ 2 * n + 10 by omega), (show 8 + (2 + 11) + (0) ≤ 100 * n + 350 by omega)⟩ rfl hl.1 rfl (Nat.le_of_ble_eq_true rfl) ⟨Nat.zero_le _, Nat.zero_le _⟩ dX12_lastOf_117 (fun r_28 wr_28 => ?_)
      refine lv_iload hx hb dX12_lastOf_120 (lv_at hl 2 rfl) ?_
      refine lv_iload hx hb dX12_lastOf_122 (lv_at hl 0 rfl) ?_
      refine cS_p (As := [.int r_2, .int 1]) (rest := [.int r_28]) ⟨hx, hb, hml, hown, hg⟩ (k_X12_likes l   r_2 1 ) ca_X12_likes q6_215 ⟨rfl, rfl⟩ ⟨(show 0 + 1 ≤ 2 * n + 10 by omega), (show 8 + (2 + 11) + (0) ≤ 100 * n + 350 by omega)⟩ rfl hl.1 rfl (Nat.le_of_ble_eq_true rfl) ⟨Nat.zero_le _, Nat.zero_le _⟩ dX12_lastOf_124 (fun r_29 wr_29 => ?_)
      refine lv_icmp_le (tgt := 135) hx hb dX12_lastOf_127 (by decide) (fun c_30 => ?_) (fun c_30 => ?_)
      ·
        have kc_30 : r_28.toInt ≤ r_29.toInt := i_le c_30
        refine lv_iload hx hb dX12_lastOf_135 (lv_at hl 2 rfl) ?_
        exact W.iret (v := r_2) hx hb hr (fun tt ht hW => ⟨⟨r_2, ⟨o_u33_14, o_u34_15, o_u30_16, o_u28_17, o_u29_18, o_u31_19, o_b32_20, o_b25_21, o_b26_22⟩, rfl, ⟨(show -1 ≤ o_u29_18.toInt by first | omega | assumption), (show o_u29_18.toInt < (u 1).toInt by first | omega | assumption)⟩, by rw [ht]; exact hP, hD⟩, hS.F ht⟩) hS.2.2 dX12_lastOf_137
      ·
        have kc_30 : r_29.toInt < r_28.toInt := i_nle c_30
        refine lv_iload hx hb dX12_lastOf_130 (lv_at hl 1 rfl) ?_
        refine lv_goto (tgt := 137) hx hb dX12_lastOf_132 (by decide) ?_
        exact W.iret (v := r_13) hx hb hr (fun tt ht hW => ⟨⟨r_13, ⟨o_u33_14, o_u34_15, o_u30_16, o_u28_17, o_u29_18, o_u31_19, o_b32_20, o_b25_21, o_b26_22⟩, rfl, ⟨(show -1 ≤ o_u29_18.toInt by first | omega | assumption), (show o_u29_18.toInt < (u 1).toInt by first | omega | assumption)⟩, by rw [ht]; exact hP, hD⟩, hS.F ht⟩) hS.2.2 dX12_lastOf_137
  ·
    have kc_1 : p1.toInt = (0 : Int) := i_eq c_1
    refine lv_aload_n hx hb dX12_lastOf_4 rfl (lv_at hl 0 rfl) ?_
    refine gr_bee1 hx hb hg hown hK hP (x := (u 28)) rfl (hg _ q5_20) dX12_lastOf_5 ?_
    refine lv_istore (lv' := [(4, .int (u 28)), (0, .ref (bd 0)), (1, .int p1), (2, .int p2), (3, .int p3)]) hx hb dX12_lastOf_8 hl (by decide) rfl (fun ls hl => ?_)
    refine lv_aload_n hx hb dX12_lastOf_10 rfl (lv_at hl 1 rfl) ?_
    refine gr_liar1 hx hb hg hown hK hP (x := (u 29)) rfl (hg _ q5_21) dX12_lastOf_11 ?_
    refine lv_istore (lv' := [(5, .int (u 29)), (4, .int (u 28)), (0, .ref (bd 0)), (1, .int p1), (2, .int p2), (3, .int p3)]) hx hb dX12_lastOf_14 hl (by decide) rfl (fun ls hl => ?_)
    refine lv_aload_n hx hb dX12_lastOf_16 rfl (lv_at hl 2 rfl) ?_
    refine gr_hour1 hx hb hg hown hK hP (x := (u 30)) rfl (hg _ q5_22) dX12_lastOf_17 ?_
    refine lv_istore (lv' := [(6, .int (u 30)), (5, .int (u 29)), (4, .int (u 28)), (0, .ref (bd 0)), (1, .int p1), (2, .int p2), (3, .int p3)]) hx hb dX12_lastOf_20 hl (by decide) rfl (fun ls hl => ?_)
    refine lv_iload hx hb dX12_lastOf_22 (lv_at hl 1 rfl) ?_
    refine lv_if_ge (tgt := 31) hx hb dX12_lastOf_24 (by decide) (fun c_31 => ?_) (fun c_31 => ?_)
    ·
      have kc_31 : (0 : Int) ≤ (u 29).toInt := i_le c_31
      refine lv_aload_n hx hb dX12_lastOf_31 rfl (lv_at hl 3 rfl) ?_
      refine gr_pads1 hx hb hg hown hK hP (hg _ q5_24) dX12_lastOf_32 ?_
      refine lv_iload hx hb dX12_lastOf_35 (lv_at hl 1 rfl) ?_
      refine lr_pads1 hx hb hK hP (i_in (by omega) (by omega)) dX12_lastOf_37 ?_
      refine lv_topi (fun x_32 ex_32 => ?_)
      have ex_32 : x_32 = (b 32) (u 29).toNatClampNeg := ex_32
      have hx_32 : x_32.toInt = ((b 32) (u 29).toNatClampNeg).toInt := by rw [ex_32]
      refine lv_istore (lv' := [(7, .int x_32), (6, .int (u 30)), (5, .int (u 29)), (4, .int (u 28)), (0, .ref (bd 0)), (1, .int p1), (2, .int p2), (3, .int p3)]) hx hb dX12_lastOf_38 hl (by decide) rfl (fun ls hl => ?_)
      refine lv_aload_n hx hb dX12_lastOf_40 rfl (lv_at hl 4 rfl) ?_
      refine lv_iload_n hx hb dX12_lastOf_41 rfl (lv_at hl 7 rfl) ?_
      refine cV_i (As := [.int p3]) (rest := []) ⟨hx, hb, hml, hown, hg⟩ (k_X12_lastStill l D cs A bd u b bw  p3 (show 0 ≤ (u 44).toInt by first | omega | decide) (show (u 44).toInt < (u 1).toInt by first | omega | decide) (show 0 ≤ (u 45).toInt by first | omega | decide) (show (u 45).toInt < (u 1).toInt by first | omega | decide) hlaw (show 0 ≤ (u 1).toInt by first | omega | decide) (show (u 1).toInt ≤ 8 by first | omega | decide) (show -1 ≤ (u 29).toInt by first | omega | decide) (show (u 29).toInt < (u 1).toInt by first | omega | decide) ib23_0 ib24_0 ib20_0) ca_X12_lastStill q6_211 ⟨rfl, rfl⟩ ⟨(show 5 + 1 ≤ 2 * n + 10 by omega), (show 8 + (5 + 11) + (116) ≤ 100 * n + 350 by omega)⟩ (rc_model hK hP) hK hP hD hS hZ rfl hl.1 rfl (Nat.le_of_ble_eq_true rfl) ⟨Nat.zero_le _, Nat.zero_le _⟩ dX12_lastOf_42 (fun r_33 z_43 H locs wr_33 hP hD hS => ?_)
      obtain ⟨o_u33_34, o_u34_35, o_u30_36, o_u28_37, o_u29_38, o_u31_39, o_b32_40, o_b25_41, o_b26_42⟩ := z_43
      have hP : va_P D vwCl (RW cs bd (va_up (va_up (va_up (va_up (va_up (va_up u 33 o_u33_34) 34 o_u34_35) 30 o_u30_36) 28 o_u28_37) 29 o_u29_38) 31 o_u31_39) (va_up (va_up (va_up b 32 o_b32_40) 25 o_b25_41) 26 o_b26_42) bw) H := hP
      have hD : va_D A (RW cs bd (va_up (va_up (va_up (va_up (va_up (va_up u 33 o_u33_34) 34 o_u34_35) 30 o_u30_36) 28 o_u28_37) 29 o_u29_38) 31 o_u31_39) (va_up (va_up (va_up b 32 o_b32_40) 25 o_b25_41) 26 o_b26_42) bw) := hD
      obtain ⟨wr_33_0, wr_33_1⟩ : (-1 ≤ o_u29_38.toInt) ∧ (o_u29_38.toInt < (u 1).toInt) := wr_33
      refine lv_istore (lv' := [(8, .int r_33), (7, .int x_32), (6, .int (u 30)), (5, .int (u 29)), (4, .int (u 28)), (0, .ref (bd 0)), (1, .int p1), (2, .int p2), (3, .int p3)]) hx hb dX12_lastOf_45 hl (by decide) rfl (fun ls hl => ?_)
      refine lv_aload_n hx hb dX12_lastOf_47 rfl (lv_at hl 5 rfl) ?_
      refine lv_iload hx hb dX12_lastOf_48 (lv_at hl 4 rfl) ?_
      refine pr_bee1 hx hb hg hown hK hP hD hS (hg _ q5_20) dX12_lastOf_50 (fun H locs hP hD hS => ?_)
      refine lv_aload_n hx hb dX12_lastOf_53 rfl (lv_at hl 5 rfl) ?_
      refine lv_iload hx hb dX12_lastOf_54 (lv_at hl 3 rfl) ?_
      refine pr_liar1 hx hb hg hown hK hP hD hS (hg _ q5_21) dX12_lastOf_56 (fun H locs hP hD hS => ?_)
      refine lv_aload_n hx hb dX12_lastOf_59 rfl (lv_at hl 5 rfl) ?_
      refine lv_iload hx hb dX12_lastOf_60 (lv_at hl 2 rfl) ?_
      refine pr_hour1 hx hb hg hown hK hP hD hS (hg _ q5_22) dX12_lastOf_62 (fun H locs hP hD hS => ?_)
      refine lv_iload hx hb dX12_lastOf_65 (lv_at hl 3 rfl) ?_
      refine lv_if_lt (tgt := 79) hx hb dX12_lastOf_67 (by decide) (fun c_44 => ?_) (fun c_44 => ?_)
      ·
        have kc_44 : (u 29).toInt < (0 : Int) := i_lt c_44
        exfalso; omega
      ·
        have kc_44 : (0 : Int) ≤ (u 29).toInt := i_nlt c_44
        refine lv_aload_n hx hb dX12_lastOf_70 rfl (lv_at hl 5 rfl) ?_
        refine gr_pads1 hx hb hg hown hK hP (hg _ q5_24) dX12_lastOf_71 ?_
        refine lv_iload hx hb dX12_lastOf_74 (lv_at hl 3 rfl) ?_
        refine lv_iload hx hb dX12_lastOf_76 (lv_at hl 1 rfl) ?_
        refine sr_pads1 hx hb hK hP hD hS (i_in (by omega) (by omega)) dX12_lastOf_78 (fun H locs hP hD hS => ?_)
        refine lv_iload hx hb dX12_lastOf_79 (lv_at hl 0 rfl) ?_
        have hP : va_P D vwCl (RW cs bd (va_up (va_up (va_up (va_up (va_up (va_up u 33 o_u33_34) 34 o_u34_35) 30 (u 30)) 28 (u 28)) 29 (u 29)) 31 o_u31_39) (va_up (va_up (va_up b 32 (upd o_b32_40 (u 29).toNatClampNeg x_32)) 25 o_b25_41) 26 o_b26_42) bw) _ := hP
        have hD : va_D A (RW cs bd (va_up (va_up (va_up (va_up (va_up (va_up u 33 o_u33_34) 34 o_u34_35) 30 (u 30)) 28 (u 28)) 29 (u 29)) 31 o_u31_39) (va_up (va_up (va_up b 32 (upd o_b32_40 (u 29).toNatClampNeg x_32)) 25 o_b25_41) 26 o_b26_42) bw) := hD
        exact W.iret (v := r_33) hx hb hr (fun tt ht hW => ⟨⟨r_33, ⟨o_u33_34, o_u34_35, (u 30), (u 28), (u 29), o_u31_39, (upd o_b32_40 (u 29).toNatClampNeg x_32), o_b25_41, o_b26_42⟩, rfl, ⟨(show -1 ≤ (u 29).toInt by first | omega | assumption), (show (u 29).toInt < (u 1).toInt by first | omega | assumption)⟩, by rw [ht]; exact hP, hD⟩, hS.F ht⟩) hS.2.2 dX12_lastOf_81
    ·
      have kc_31 : (u 29).toInt < (0 : Int) := i_nle c_31
      refine lv_iconst (v := 0) hx hb dX12_lastOf_27 (by decide) ?_
      refine lv_goto (tgt := 38) hx hb dX12_lastOf_28 (by decide) ?_
      refine lv_istore (lv' := [(7, .int 0), (6, .int (u 30)), (5, .int (u 29)), (4, .int (u 28)), (0, .ref (bd 0)), (1, .int p1), (2, .int p2), (3, .int p3)]) hx hb dX12_lastOf_38 hl (by decide) rfl (fun ls hl => ?_)
      refine lv_aload_n hx hb dX12_lastOf_40 rfl (lv_at hl 4 rfl) ?_
      refine lv_iload_n hx hb dX12_lastOf_41 rfl (lv_at hl 7 rfl) ?_
      refine cV_i (As := [.int p3]) (rest := []) ⟨hx, hb, hml, hown, hg⟩ (k_X12_lastStill l D cs A bd u b bw  p3 (show 0 ≤ (u 44).toInt by first | omega | decide) (show (u 44).toInt < (u 1).toInt by first | omega | decide) (show 0 ≤ (u 45).toInt by first | omega | decide) (show (u 45).toInt < (u 1).toInt by first | omega | decide) hlaw (show 0 ≤ (u 1).toInt by first | omega | decide) (show (u 1).toInt ≤ 8 by first | omega | decide) (show -1 ≤ (u 29).toInt by first | omega | decide) (show (u 29).toInt < (u 1).toInt by first | omega | decide) ib23_0 ib24_0 ib20_0) ca_X12_lastStill q6_211 ⟨rfl, rfl⟩ ⟨(show 5 + 1 ≤ 2 * n + 10 by omega), (show 8 + (5 + 11) + (116) ≤ 100 * n + 350 by omega)⟩ (rc_model hK hP) hK hP hD hS hZ rfl hl.1 rfl (Nat.le_of_ble_eq_true rfl) ⟨Nat.zero_le _, Nat.zero_le _⟩ dX12_lastOf_42 (fun r_45 z_55 H locs wr_45 hP hD hS => ?_)
      obtain ⟨o_u33_46, o_u34_47, o_u30_48, o_u28_49, o_u29_50, o_u31_51, o_b32_52, o_b25_53, o_b26_54⟩ := z_55
      have hP : va_P D vwCl (RW cs bd (va_up (va_up (va_up (va_up (va_up (va_up u 33 o_u33_46) 34 o_u34_47) 30 o_u30_48) 28 o_u28_49) 29 o_u29_50) 31 o_u31_51) (va_up (va_up (va_up b 32 o_b32_52) 25 o_b25_53) 26 o_b26_54) bw) H := hP
      have hD : va_D A (RW cs bd (va_up (va_up (va_up (va_up (va_up (va_up u 33 o_u33_46) 34 o_u34_47) 30 o_u30_48) 28 o_u28_49) 29 o_u29_50) 31 o_u31_51) (va_up (va_up (va_up b 32 o_b32_52) 25 o_b25_53) 26 o_b26_54) bw) := hD
      obtain ⟨wr_45_0, wr_45_1⟩ : (-1 ≤ o_u29_50.toInt) ∧ (o_u29_50.toInt < (u 1).toInt) := wr_45
      refine lv_istore (lv' := [(8, .int r_45), (7, .int 0), (6, .int (u 30)), (5, .int (u 29)), (4, .int (u 28)), (0, .ref (bd 0)), (1, .int p1), (2, .int p2), (3, .int p3)]) hx hb dX12_lastOf_45 hl (by decide) rfl (fun ls hl => ?_)
      refine lv_aload_n hx hb dX12_lastOf_47 rfl (lv_at hl 5 rfl) ?_
      refine lv_iload hx hb dX12_lastOf_48 (lv_at hl 4 rfl) ?_
      refine pr_bee1 hx hb hg hown hK hP hD hS (hg _ q5_20) dX12_lastOf_50 (fun H locs hP hD hS => ?_)
      refine lv_aload_n hx hb dX12_lastOf_53 rfl (lv_at hl 5 rfl) ?_
      refine lv_iload hx hb dX12_lastOf_54 (lv_at hl 3 rfl) ?_
      refine pr_liar1 hx hb hg hown hK hP hD hS (hg _ q5_21) dX12_lastOf_56 (fun H locs hP hD hS => ?_)
      refine lv_aload_n hx hb dX12_lastOf_59 rfl (lv_at hl 5 rfl) ?_
      refine lv_iload hx hb dX12_lastOf_60 (lv_at hl 2 rfl) ?_
      refine pr_hour1 hx hb hg hown hK hP hD hS (hg _ q5_22) dX12_lastOf_62 (fun H locs hP hD hS => ?_)
      refine lv_iload hx hb dX12_lastOf_65 (lv_at hl 3 rfl) ?_
      refine lv_if_lt (tgt := 79) hx hb dX12_lastOf_67 (by decide) (fun c_56 => ?_) (fun c_56 => ?_)
      ·
        have kc_56 : (u 29).toInt < (0 : Int) := i_lt c_56
        refine lv_iload hx hb dX12_lastOf_79 (lv_at hl 0 rfl) ?_
        have hP : va_P D vwCl (RW cs bd (va_up (va_up (va_up (va_up (va_up (va_up u 33 o_u33_46) 34 o_u34_47) 30 (u 30)) 28 (u 28)) 29 (u 29)) 31 o_u31_51) (va_up (va_up (va_up b 32 o_b32_52) 25 o_b25_53) 26 o_b26_54) bw) _ := hP
        have hD : va_D A (RW cs bd (va_up (va_up (va_up (va_up (va_up (va_up u 33 o_u33_46) 34 o_u34_47) 30 (u 30)) 28 (u 28)) 29 (u 29)) 31 o_u31_51) (va_up (va_up (va_up b 32 o_b32_52) 25 o_b25_53) 26 o_b26_54) bw) := hD
        exact W.iret (v := r_45) hx hb hr (fun tt ht hW => ⟨⟨r_45, ⟨o_u33_46, o_u34_47, (u 30), (u 28), (u 29), o_u31_51, o_b32_52, o_b25_53, o_b26_54⟩, rfl, ⟨(show -1 ≤ (u 29).toInt by first | omega | assumption), (show (u 29).toInt < (u 1).toInt by first | omega | assumption)⟩, by rw [ht]; exact hP, hD⟩, hS.F ht⟩) hS.2.2 dX12_lastOf_81
      ·
        have kc_56 : (0 : Int) ≤ (u 29).toInt := i_nlt c_56
        exfalso; omega
theorem last_all : ∀ n, C_X12_lastBy n ∧ C_X12_lastOf n := by
  intro n
  induction n with
  | zero =>
    have h0 := s_X12_lastBy 0 (fun k h => absurd h (by omega))
    exact ⟨h0, s_X12_lastOf 0 h0⟩
  | succ n ih =>
    have h0 := s_X12_lastBy (n + 1) (fun k h => by (have e : k = n := by omega); subst e; exact ih.2)
    exact ⟨h0, s_X12_lastOf (n + 1) h0⟩
set_option maxHeartbeats 4000000 in
set_option maxRecDepth 100000 in
theorem k_X12_lastWord (l : Launch) (D : va_G) (cs : Nat → ClassId) (A : Nat → Prop) (bd : Nat → Nat) (u : Nat → Int32) (b : Nat → Nat → Int32) (bw : Nat → Nat → Int64)  (p1 : Int32) (p2 : Int32) (p3 : Int32) (hlaw : LAWOK (b 20) (b 21) (b 22) (b 23) (b 24)) (iu1_0 : 0 ≤ (u 1).toInt) (iu1_1 : (u 1).toInt ≤ 8) (iu7_0 : -1 ≤ (u 7).toInt) (iu7_1 : (u 7).toInt < (u 1).toInt) (ib23_0 : AB (-32768) 32767 (b 23)) (ib24_0 : AB (-32768) 32767 (b 24)) (ib20_0 : AB (-128) 127 (b 20)) : Met l yX12_lastWord (Cond.code yX12_lastWord cX12_lastWord 7 (some .int) :: gw) ({ frames := 22, cells := 0, slots := 0, locals := 931 }) (va_Pc [.ref (bd 0), .int p1, .int p2, .int p3] (XPre D (TY cs) (RW cs bd u b bw) A)) (va_Qi (fun (r : Int32) (z : Int32 × Int32 × Int32 × Int32 × Int32 × Int32 × Int32 × Int32 × (Nat → Int32) × (Nat → Int32) × (Nat → Int32)) => True) (XPo D (fun (z : Int32 × Int32 × Int32 × Int32 × Int32 × Int32 × Int32 × Int32 × (Nat → Int32) × (Nat → Int32) × (Nat → Int32)) => RW cs bd (va_up (va_up (va_up (va_up (va_up (va_up (va_up (va_up u 44 z.1) 45 z.2.1) 33 z.2.2.1) 34 z.2.2.2.1) 30 z.2.2.2.2.1) 28 z.2.2.2.2.2.1) 29 z.2.2.2.2.2.2.1) 31 z.2.2.2.2.2.2.2.1) (va_up (va_up (va_up b 32 z.2.2.2.2.2.2.2.2.1) 25 z.2.2.2.2.2.2.2.2.2.1) 26 z.2.2.2.2.2.2.2.2.2.2) bw) A) A) 0 0 A := by
  refine Met.ofW (cc := cX12_lastWord) (maxL := 7) (ret := (some .int)) (by decide) rfl ?_
  intro p e s m args below meth c s₁ B hml hv
  obtain ⟨rfl, hP, hK, hD, hZ⟩ := hv
  have hx := B.exec
  have hb := B.bytes
  have hr := B.returns
  have hts := atoms_spec (ws := (Cond.code yX12_lastWord cX12_lastWord 7 (some .int) :: gw)) B.pre
  have hg : ∀ w ∈ gw, w.before ([.ref (bd 0), .int p1, .int p2, .int p3] : List Value).toArray s = true := fun w h => hts w (List.mem_cons_of_mem _ h)
  have hown : s.vm.findClass RX12 = some m.cls := findClass_of_methodNamed B.named
  have hlocks := B.notSynchronized
  have hS : va_S A s.heap s.heap [] := va_S.rf
  have hP : va_P D vwCl (RW cs bd u b bw) s.heap := hP
  have hl := lv_entry ([.ref (bd 0), .int p1, .int p2, .int p3]) (n := 7) (Nat.le_of_ble_eq_true rfl)
  rw [lg_entry_eq]
  generalize (lg_sl ([.ref (bd 0), .int p1, .int p2, .int p3]) ++ List.replicate (7 - (lg_sl ([.ref (bd 0), .int p1, .int p2, .int p3])).length) Slot.unset).toArray = ls at hl ⊢
  have hl : lv_has ls 7 [(0, .ref (bd 0)), (1, .int p1), (2, .int p2), (3, .int p3)] := hl
  refine lv_aload_n hx hb dX12_lastWord_0 rfl (lv_at hl 0 rfl) ?_
  refine lv_iload_n hx hb dX12_lastWord_1 rfl (lv_at hl 1 rfl) ?_
  refine cV_ro (As := [.int p1]) (rest := []) ⟨hx, hb, hml, hown, hg⟩ (k_X12_areTwo l D cs A bd u b bw  p1 (show 0 ≤ (u 1).toInt by first | omega | decide) (show (u 1).toInt ≤ 8 by first | omega | decide)) ca_X12_areTwo q6_195 ⟨rfl, rfl⟩ ⟨Nat.le_of_ble_eq_true rfl, Nat.le_of_ble_eq_true rfl⟩ (rc_model hK hP) hK hP hD hS hZ rfl hl.1 rfl (Nat.le_of_ble_eq_true rfl) ⟨Nat.zero_le _, Nat.zero_le _⟩ dX12_lastWord_2 (fun r_1 wr_1 => ?_)
  have wr_1_0 : (r_1.toInt = 1 ∧ (0 ≤ p1.toInt ∧ p1.toInt / 10 < (u 1).toInt ∧ p1.toInt % 10 < (u 1).toInt ∧ p1.toInt / 10 ≠ p1.toInt % 10)) ∨ (r_1.toInt = 0 ∧ ¬ ((0 ≤ p1.toInt ∧ p1.toInt / 10 < (u 1).toInt ∧ p1.toInt % 10 < (u 1).toInt ∧ p1.toInt / 10 ≠ p1.toInt % 10))) := wr_1
  refine lv_if_eq (tgt := 27) hx hb dX12_lastWord_5 (by decide) (fun c_2 => ?_) (fun c_2 => ?_)
  ·
    have kc_2 : r_1.toInt = (0 : Int) := i_eq c_2
    refine lv_iconst (v := (-1)) hx hb dX12_lastWord_27 (by decide) ?_
    have q0_m1 : ((-1) : Int32).toInt = (-1) := rfl
    have hP : va_P D vwCl (RW cs bd (va_up (va_up (va_up (va_up (va_up (va_up (va_up (va_up u 44 (u 44)) 45 (u 45)) 33 (u 33)) 34 (u 34)) 30 (u 30)) 28 (u 28)) 29 (u 29)) 31 (u 31)) (va_up (va_up (va_up b 32 (b 32)) 25 (b 25)) 26 (b 26)) bw) _ := hP
    have hD : va_D A (RW cs bd (va_up (va_up (va_up (va_up (va_up (va_up (va_up (va_up u 44 (u 44)) 45 (u 45)) 33 (u 33)) 34 (u 34)) 30 (u 30)) 28 (u 28)) 29 (u 29)) 31 (u 31)) (va_up (va_up (va_up b 32 (b 32)) 25 (b 25)) 26 (b 26)) bw) := hD
    exact W.iret (v := (-1)) hx hb hr (fun tt ht hW => ⟨⟨(-1), ⟨(u 44), (u 45), (u 33), (u 34), (u 30), (u 28), (u 29), (u 31), (b 32), (b 25), (b 26)⟩, rfl, trivial, by rw [ht]; exact hP, hD⟩, hS.F ht⟩) hS.2.2 dX12_lastWord_28
  ·
    have kc_2 : r_1.toInt ≠ (0 : Int) := i_ne c_2
    refine lv_iload_n hx hb dX12_lastWord_8 rfl (lv_at hl 2 rfl) ?_
    refine lv_iconst (v := 1) hx hb dX12_lastWord_9 (by decide) ?_
    refine lv_bipush (v := 6) hx hb dX12_lastWord_10 (by decide) ?_
    refine cS_p (As := [.int p2, .int 1, .int 6]) (rest := []) ⟨hx, hb, hml, hown, hg⟩ (k_X12_in l   p2 1 6 ) ca_X12_in q5_212 ⟨rfl, rfl⟩ ⟨Nat.le_of_ble_eq_true rfl, Nat.le_of_ble_eq_true rfl⟩ rfl hl.1 rfl (Nat.le_of_ble_eq_true rfl) ⟨Nat.zero_le _, Nat.zero_le _⟩ dX12_lastWord_12 (fun r_3 wr_3 => ?_)
    have wr_3 : (r_3.toInt = 1 ∧ (1 : Int) ≤ p2.toInt ∧ p2.toInt ≤ (6 : Int)) ∨ (r_3.toInt = 0 ∧ ¬ ((1 : Int) ≤ p2.toInt ∧ p2.toInt ≤ (6 : Int))) := wr_3
    refine lv_if_eq (tgt := 27) hx hb dX12_lastWord_15 (by decide) (fun c_4 => ?_) (fun c_4 => ?_)
    ·
      have kc_4 : r_3.toInt = (0 : Int) := i_eq c_4
      refine lv_iconst (v := (-1)) hx hb dX12_lastWord_27 (by decide) ?_
      have q0_m1 : ((-1) : Int32).toInt = (-1) := rfl
      have hP : va_P D vwCl (RW cs bd (va_up (va_up (va_up (va_up (va_up (va_up (va_up (va_up u 44 (u 44)) 45 (u 45)) 33 (u 33)) 34 (u 34)) 30 (u 30)) 28 (u 28)) 29 (u 29)) 31 (u 31)) (va_up (va_up (va_up b 32 (b 32)) 25 (b 25)) 26 (b 26)) bw) _ := hP
      have hD : va_D A (RW cs bd (va_up (va_up (va_up (va_up (va_up (va_up (va_up (va_up u 44 (u 44)) 45 (u 45)) 33 (u 33)) 34 (u 34)) 30 (u 30)) 28 (u 28)) 29 (u 29)) 31 (u 31)) (va_up (va_up (va_up b 32 (b 32)) 25 (b 25)) 26 (b 26)) bw) := hD
      exact W.iret (v := (-1)) hx hb hr (fun tt ht hW => ⟨⟨(-1), ⟨(u 44), (u 45), (u 33), (u 34), (u 30), (u 28), (u 29), (u 31), (b 32), (b 25), (b 26)⟩, rfl, trivial, by rw [ht]; exact hP, hD⟩, hS.F ht⟩) hS.2.2 dX12_lastWord_28
    ·
      have kc_4 : r_3.toInt ≠ (0 : Int) := i_ne c_4
      refine lv_iload_n hx hb dX12_lastWord_18 rfl (lv_at hl 3 rfl) ?_
      refine lv_iconst (v := 0) hx hb dX12_lastWord_19 (by decide) ?_
      refine lv_iconst (v := 1) hx hb dX12_lastWord_20 (by decide) ?_
      refine cS_p (As := [.int p3, .int 0, .int 1]) (rest := []) ⟨hx, hb, hml, hown, hg⟩ (k_X12_in l   p3 0 1 ) ca_X12_in q5_212 ⟨rfl, rfl⟩ ⟨Nat.le_of_ble_eq_true rfl, Nat.le_of_ble_eq_true rfl⟩ rfl hl.1 rfl (Nat.le_of_ble_eq_true rfl) ⟨Nat.zero_le _, Nat.zero_le _⟩ dX12_lastWord_21 (fun r_5 wr_5 => ?_)
      have wr_5 : (r_5.toInt = 1 ∧ (0 : Int) ≤ p3.toInt ∧ p3.toInt ≤ (1 : Int)) ∨ (r_5.toInt = 0 ∧ ¬ ((0 : Int) ≤ p3.toInt ∧ p3.toInt ≤ (1 : Int))) := wr_5
      refine lv_if_ne (tgt := 29) hx hb dX12_lastWord_24 (by decide) (fun c_6 => ?_) (fun c_6 => ?_)
      ·
        have kc_6 : r_5.toInt ≠ (0 : Int) := i_ne c_6
        refine lv_aload_n hx hb dX12_lastWord_29 rfl (lv_at hl 0 rfl) ?_
        refine lv_iload_n hx hb dX12_lastWord_30 rfl (lv_at hl 1 rfl) ?_
        refine lv_bipush (v := 10) hx hb dX12_lastWord_31 (by decide) ?_
        refine lv_idiv hx hb dX12_lastWord_33 (by decide) ?_
        refine lv_topi (fun x_7 ex_7 => ?_)
        have fx_7 : x_7.toInt = p1.toInt / (10 : Int) := by rw [ex_7]; exact i_div (by omega) (by first | omega | decide)
        refine pr_wordA hx hb hg hown hK hP hD hS (hg _ q5_36) dX12_lastWord_34 (fun H locs hP hD hS => ?_)
        refine lv_aload_n hx hb dX12_lastWord_37 rfl (lv_at hl 0 rfl) ?_
        refine lv_iload_n hx hb dX12_lastWord_38 rfl (lv_at hl 1 rfl) ?_
        refine lv_bipush (v := 10) hx hb dX12_lastWord_39 (by decide) ?_
        refine lv_irem hx hb dX12_lastWord_41 (by decide) ?_
        refine lv_topi (fun x_8 ex_8 => ?_)
        have fx_8 : x_8.toInt = p1.toInt % (10 : Int) := by rw [ex_8]; exact i_rem (by omega) (by first | omega | decide)
        refine pr_wordB hx hb hg hown hK hP hD hS (hg _ q5_37) dX12_lastWord_42 (fun H locs hP hD hS => ?_)
        refine lv_aload_n hx hb dX12_lastWord_45 rfl (lv_at hl 0 rfl) ?_
        refine lv_iconst (v := 0) hx hb dX12_lastWord_46 (by decide) ?_
        refine cV_v (As := [.int 0]) (rest := []) ⟨hx, hb, hml, hown, hg⟩ (k_X12_layNow l D cs A bd (va_up (va_up u 44 x_7) 45 x_8) b bw  0 (show 0 ≤ (u 1).toInt by first | omega | decide) (show (u 1).toInt ≤ 8 by first | omega | decide) (show -1 ≤ (u 7).toInt by first | omega | decide) (show (u 7).toInt < (u 1).toInt by first | omega | decide)) ca_X12_layNow q6_93 ⟨rfl, rfl⟩ ⟨Nat.le_of_ble_eq_true rfl, Nat.le_of_ble_eq_true rfl⟩ (rc_model hK hP) hK hP hD hS hZ rfl hl.1 rfl (Nat.le_of_ble_eq_true rfl) ⟨Nat.zero_le _, Nat.zero_le _⟩ dX12_lastWord_47 (fun z_15 H locs wr_9 hP hD hS => ?_)
        obtain ⟨o_u28_10, o_u29_11, o_u30_12, o_u31_13, o_b32_14⟩ := z_15
        have hP : va_P D vwCl (RW cs bd (va_up (va_up (va_up (va_up (va_up (va_up u 44 x_7) 45 x_8) 28 o_u28_10) 29 o_u29_11) 30 o_u30_12) 31 o_u31_13) (va_up b 32 o_b32_14) bw) H := hP
        have hD : va_D A (RW cs bd (va_up (va_up (va_up (va_up (va_up (va_up u 44 x_7) 45 x_8) 28 o_u28_10) 29 o_u29_11) 30 o_u30_12) 31 o_u31_13) (va_up b 32 o_b32_14) bw) := hD
        obtain ⟨wr_9_0, wr_9_1, wr_9_2⟩ : (o_u31_13 = (0 : Int32)) ∧ (-1 ≤ o_u29_11.toInt) ∧ (o_u29_11.toInt < (u 1).toInt) := wr_9
        refine lv_aload_n hx hb dX12_lastWord_50 rfl (lv_at hl 0 rfl) ?_
        refine lv_iload_n hx hb dX12_lastWord_51 rfl (lv_at hl 2 rfl) ?_
        refine lv_iconst (v := 1) hx hb dX12_lastWord_52 (by decide) ?_
        refine lv_iconst (v := 0) hx hb dX12_lastWord_53 (by decide) ?_
        refine lv_iconst (v := 0) hx hb dX12_lastWord_54 (by decide) ?_
        refine cV_i (As := [.int p2, .int 1, .int 0, .int 0]) (rest := []) ⟨hx, hb, hml, hown, hg⟩ (((last_all 6).1) l D cs A bd (va_up (va_up (va_up (va_up (va_up (va_up u 44 x_7) 45 x_8) 28 o_u28_10) 29 o_u29_11) 30 o_u30_12) 31 o_u31_13) (va_up b 32 o_b32_14) bw  p2 1 0 0 (show 0 ≤ p2.toInt by first | omega | decide) (show p2.toInt ≤ ((6 : Nat) : Int) by first | omega | decide) (show 0 ≤ x_7.toInt by first | omega | decide) (show x_7.toInt < (u 1).toInt by first | omega | decide) (show 0 ≤ x_8.toInt by first | omega | decide) (show x_8.toInt < (u 1).toInt by first | omega | decide) hlaw (show 1 ≤ p2.toInt by first | omega | decide) (show p2.toInt ≤ 6 by first | omega | decide) (show 0 ≤ (u 1).toInt by first | omega | decide) (show (u 1).toInt ≤ 8 by first | omega | decide) (show -1 ≤ o_u29_11.toInt by first | omega | decide) (show o_u29_11.toInt < (u 1).toInt by first | omega | decide) ib23_0 ib24_0 ib20_0) ca_X12_lastBy q6_199 ⟨rfl, rfl⟩ ⟨Nat.le_of_ble_eq_true rfl, Nat.le_of_ble_eq_true rfl⟩ (rc_model hK hP) hK hP hD hS hZ rfl hl.1 rfl (Nat.le_of_ble_eq_true rfl) ⟨Nat.zero_le _, Nat.zero_le _⟩ dX12_lastWord_55 (fun r_16 z_26 H locs wr_16 hP hD hS => ?_)
        obtain ⟨o_u33_17, o_u34_18, o_u30_19, o_u28_20, o_u29_21, o_u31_22, o_b32_23, o_b25_24, o_b26_25⟩ := z_26
        have hP : va_P D vwCl (RW cs bd (va_up (va_up (va_up (va_up (va_up (va_up (va_up (va_up u 44 x_7) 45 x_8) 33 o_u33_17) 34 o_u34_18) 30 o_u30_19) 28 o_u28_20) 29 o_u29_21) 31 o_u31_22) (va_up (va_up (va_up b 32 o_b32_23) 25 o_b25_24) 26 o_b26_25) bw) H := hP
        have hD : va_D A (RW cs bd (va_up (va_up (va_up (va_up (va_up (va_up (va_up (va_up u 44 x_7) 45 x_8) 33 o_u33_17) 34 o_u34_18) 30 o_u30_19) 28 o_u28_20) 29 o_u29_21) 31 o_u31_22) (va_up (va_up (va_up b 32 o_b32_23) 25 o_b25_24) 26 o_b26_25) bw) := hD
        obtain ⟨wr_16_0, wr_16_1⟩ : (-1 ≤ o_u29_21.toInt) ∧ (o_u29_21.toInt < (u 1).toInt) := wr_16
        refine lv_istore (lv' := [(4, .int r_16), (0, .ref (bd 0)), (1, .int p1), (2, .int p2), (3, .int p3)]) hx hb dX12_lastWord_58 hl (by decide) rfl (fun ls hl => ?_)
        refine lv_aload_n hx hb dX12_lastWord_60 rfl (lv_at hl 1 rfl) ?_
        refine lv_iload_n hx hb dX12_lastWord_61 rfl (lv_at hl 3 rfl) ?_
        refine lv_iconst (v := 1) hx hb dX12_lastWord_62 (by decide) ?_
        refine lv_iconst (v := 0) hx hb dX12_lastWord_63 (by decide) ?_
        refine lv_iconst (v := 1) hx hb dX12_lastWord_64 (by decide) ?_
        refine cV_i (As := [.int p2, .int 1, .int 0, .int 1]) (rest := []) ⟨hx, hb, hml, hown, hg⟩ (((last_all 6).1) l D cs A bd (va_up (va_up (va_up (va_up (va_up (va_up (va_up (va_up u 44 x_7) 45 x_8) 33 o_u33_17) 34 o_u34_18) 30 o_u30_19) 28 o_u28_20) 29 o_u29_21) 31 o_u31_22) (va_up (va_up (va_up b 32 o_b32_23) 25 o_b25_24) 26 o_b26_25) bw  p2 1 0 1 (show 0 ≤ p2.toInt by first | omega | decide) (show p2.toInt ≤ ((6 : Nat) : Int) by first | omega | decide) (show 0 ≤ x_7.toInt by first | omega | decide) (show x_7.toInt < (u 1).toInt by first | omega | decide) (show 0 ≤ x_8.toInt by first | omega | decide) (show x_8.toInt < (u 1).toInt by first | omega | decide) hlaw (show 1 ≤ p2.toInt by first | omega | decide) (show p2.toInt ≤ 6 by first | omega | decide) (show 0 ≤ (u 1).toInt by first | omega | decide) (show (u 1).toInt ≤ 8 by first | omega | decide) (show -1 ≤ o_u29_21.toInt by first | omega | decide) (show o_u29_21.toInt < (u 1).toInt by first | omega | decide) ib23_0 ib24_0 ib20_0) ca_X12_lastBy q6_199 ⟨rfl, rfl⟩ ⟨Nat.le_of_ble_eq_true rfl, Nat.le_of_ble_eq_true rfl⟩ (rc_model hK hP) hK hP hD hS hZ rfl hl.1 rfl (Nat.le_of_ble_eq_true rfl) ⟨Nat.zero_le _, Nat.zero_le _⟩ dX12_lastWord_65 (fun r_27 z_37 H locs wr_27 hP hD hS => ?_)
        obtain ⟨o_u33_28, o_u34_29, o_u30_30, o_u28_31, o_u29_32, o_u31_33, o_b32_34, o_b25_35, o_b26_36⟩ := z_37
        have hP : va_P D vwCl (RW cs bd (va_up (va_up (va_up (va_up (va_up (va_up (va_up (va_up u 44 x_7) 45 x_8) 33 o_u33_28) 34 o_u34_29) 30 o_u30_30) 28 o_u28_31) 29 o_u29_32) 31 o_u31_33) (va_up (va_up (va_up b 32 o_b32_34) 25 o_b25_35) 26 o_b26_36) bw) H := hP
        have hD : va_D A (RW cs bd (va_up (va_up (va_up (va_up (va_up (va_up (va_up (va_up u 44 x_7) 45 x_8) 33 o_u33_28) 34 o_u34_29) 30 o_u30_30) 28 o_u28_31) 29 o_u29_32) 31 o_u31_33) (va_up (va_up (va_up b 32 o_b32_34) 25 o_b25_35) 26 o_b26_36) bw) := hD
        obtain ⟨wr_27_0, wr_27_1⟩ : (-1 ≤ o_u29_32.toInt) ∧ (o_u29_32.toInt < (u 1).toInt) := wr_27
        refine lv_istore (lv' := [(5, .int r_27), (4, .int r_16), (0, .ref (bd 0)), (1, .int p1), (2, .int p2), (3, .int p3)]) hx hb dX12_lastWord_68 hl (by decide) rfl (fun ls hl => ?_)
        refine lv_iload hx hb dX12_lastWord_70 (lv_at hl 0 rfl) ?_
        refine lv_iconst (v := 1) hx hb dX12_lastWord_72 (by decide) ?_
        refine cS_p (As := [.int r_27, .int 1]) (rest := []) ⟨hx, hb, hml, hown, hg⟩ (k_X12_likes l   r_27 1 ) ca_X12_likes q6_215 ⟨rfl, rfl⟩ ⟨Nat.le_of_ble_eq_true rfl, Nat.le_of_ble_eq_true rfl⟩ rfl hl.1 rfl (Nat.le_of_ble_eq_true rfl) ⟨Nat.zero_le _, Nat.zero_le _⟩ dX12_lastWord_73 (fun r_38 wr_38 => ?_)
        refine lv_iload hx hb dX12_lastWord_76 (lv_at hl 1 rfl) ?_
        refine lv_iconst (v := 1) hx hb dX12_lastWord_78 (by decide) ?_
        refine cS_p (As := [.int r_16, .int 1]) (rest := [.int r_38]) ⟨hx, hb, hml, hown, hg⟩ (k_X12_likes l   r_16 1 ) ca_X12_likes q6_215 ⟨rfl, rfl⟩ ⟨Nat.le_of_ble_eq_true rfl, Nat.le_of_ble_eq_true rfl⟩ rfl hl.1 rfl (Nat.le_of_ble_eq_true rfl) ⟨Nat.zero_le _, Nat.zero_le _⟩ dX12_lastWord_79 (fun r_39 wr_39 => ?_)
        refine lv_icmp_le (tgt := 89) hx hb dX12_lastWord_82 (by decide) (fun c_40 => ?_) (fun c_40 => ?_)
        ·
          have kc_40 : r_38.toInt ≤ r_39.toInt := i_le c_40
          refine lv_iconst (v := 0) hx hb dX12_lastWord_89 (by decide) ?_
          refine lv_istore (lv' := [(6, .int 0), (5, .int r_27), (4, .int r_16), (0, .ref (bd 0)), (1, .int p1), (2, .int p2), (3, .int p3)]) hx hb dX12_lastWord_90 hl (by decide) rfl (fun ls hl => ?_)
          refine lv_iload_n hx hb dX12_lastWord_92 rfl (lv_at hl 6 rfl) ?_
          refine lv_iconst (v := 1) hx hb dX12_lastWord_93 (by decide) ?_
          refine lv_icmp_ne (tgt := 110) hx hb dX12_lastWord_94 (by decide) (fun c_41 => ?_) (fun c_41 => ?_)
          ·
            have kc_41 : p3.toInt ≠ (1 : Int) := i_ne c_41
            refine lv_iload hx hb dX12_lastWord_110 (lv_at hl 0 rfl) ?_
            refine lv_if_eq (tgt := 120) hx hb dX12_lastWord_112 (by decide) (fun c_42 => ?_) (fun c_42 => absurd c_42 (by decide))
            refine lv_iload hx hb dX12_lastWord_120 (lv_at hl 2 rfl) ?_
            exact W.iret (v := r_16) hx hb hr (fun tt ht hW => ⟨⟨r_16, ⟨x_7, x_8, o_u33_28, o_u34_29, o_u30_30, o_u28_31, o_u29_32, o_u31_33, o_b32_34, o_b25_35, o_b26_36⟩, rfl, trivial, by rw [ht]; exact hP, hD⟩, hS.F ht⟩) hS.2.2 dX12_lastWord_122
          ·
            have kc_41 : p3.toInt = (1 : Int) := i_eq c_41
            refine lv_iload hx hb dX12_lastWord_97 (lv_at hl 0 rfl) ?_
            refine lv_if_eq (tgt := 106) hx hb dX12_lastWord_99 (by decide) (fun c_43 => ?_) (fun c_43 => absurd c_43 (by decide))
            refine lv_iconst (v := 0) hx hb dX12_lastWord_106 (by decide) ?_
            refine lv_goto (tgt := 122) hx hb dX12_lastWord_107 (by decide) ?_
            have q0_0 : (0 : Int32).toInt = 0 := rfl
            exact W.iret (v := 0) hx hb hr (fun tt ht hW => ⟨⟨0, ⟨x_7, x_8, o_u33_28, o_u34_29, o_u30_30, o_u28_31, o_u29_32, o_u31_33, o_b32_34, o_b25_35, o_b26_36⟩, rfl, trivial, by rw [ht]; exact hP, hD⟩, hS.F ht⟩) hS.2.2 dX12_lastWord_122
        ·
          have kc_40 : r_39.toInt < r_38.toInt := i_nle c_40
          refine lv_iconst (v := 1) hx hb dX12_lastWord_85 (by decide) ?_
          refine lv_goto (tgt := 90) hx hb dX12_lastWord_86 (by decide) ?_
          refine lv_istore (lv' := [(6, .int 1), (5, .int r_27), (4, .int r_16), (0, .ref (bd 0)), (1, .int p1), (2, .int p2), (3, .int p3)]) hx hb dX12_lastWord_90 hl (by decide) rfl (fun ls hl => ?_)
          refine lv_iload_n hx hb dX12_lastWord_92 rfl (lv_at hl 6 rfl) ?_
          refine lv_iconst (v := 1) hx hb dX12_lastWord_93 (by decide) ?_
          refine lv_icmp_ne (tgt := 110) hx hb dX12_lastWord_94 (by decide) (fun c_44 => ?_) (fun c_44 => ?_)
          ·
            have kc_44 : p3.toInt ≠ (1 : Int) := i_ne c_44
            refine lv_iload hx hb dX12_lastWord_110 (lv_at hl 0 rfl) ?_
            refine lv_if_eq (tgt := 120) hx hb dX12_lastWord_112 (by decide) (fun c_45 => absurd c_45 (by decide)) (fun c_45 => ?_)
            refine lv_iload hx hb dX12_lastWord_115 (lv_at hl 1 rfl) ?_
            refine lv_goto (tgt := 122) hx hb dX12_lastWord_117 (by decide) ?_
            exact W.iret (v := r_27) hx hb hr (fun tt ht hW => ⟨⟨r_27, ⟨x_7, x_8, o_u33_28, o_u34_29, o_u30_30, o_u28_31, o_u29_32, o_u31_33, o_b32_34, o_b25_35, o_b26_36⟩, rfl, trivial, by rw [ht]; exact hP, hD⟩, hS.F ht⟩) hS.2.2 dX12_lastWord_122
          ·
            have kc_44 : p3.toInt = (1 : Int) := i_eq c_44
            refine lv_iload hx hb dX12_lastWord_97 (lv_at hl 0 rfl) ?_
            refine lv_if_eq (tgt := 106) hx hb dX12_lastWord_99 (by decide) (fun c_46 => absurd c_46 (by decide)) (fun c_46 => ?_)
            refine lv_iconst (v := 1) hx hb dX12_lastWord_102 (by decide) ?_
            refine lv_goto (tgt := 122) hx hb dX12_lastWord_103 (by decide) ?_
            have q0_1 : (1 : Int32).toInt = 1 := rfl
            exact W.iret (v := 1) hx hb hr (fun tt ht hW => ⟨⟨1, ⟨x_7, x_8, o_u33_28, o_u34_29, o_u30_30, o_u28_31, o_u29_32, o_u31_33, o_b32_34, o_b25_35, o_b26_36⟩, rfl, trivial, by rw [ht]; exact hP, hD⟩, hS.F ht⟩) hS.2.2 dX12_lastWord_122
      ·
        have kc_6 : r_5.toInt = (0 : Int) := i_eq c_6
        refine lv_iconst (v := (-1)) hx hb dX12_lastWord_27 (by decide) ?_
        have q0_m1 : ((-1) : Int32).toInt = (-1) := rfl
        have hP : va_P D vwCl (RW cs bd (va_up (va_up (va_up (va_up (va_up (va_up (va_up (va_up u 44 (u 44)) 45 (u 45)) 33 (u 33)) 34 (u 34)) 30 (u 30)) 28 (u 28)) 29 (u 29)) 31 (u 31)) (va_up (va_up (va_up b 32 (b 32)) 25 (b 25)) 26 (b 26)) bw) _ := hP
        have hD : va_D A (RW cs bd (va_up (va_up (va_up (va_up (va_up (va_up (va_up (va_up u 44 (u 44)) 45 (u 45)) 33 (u 33)) 34 (u 34)) 30 (u 30)) 28 (u 28)) 29 (u 29)) 31 (u 31)) (va_up (va_up (va_up b 32 (b 32)) 25 (b 25)) 26 (b 26)) bw) := hD
        exact W.iret (v := (-1)) hx hb hr (fun tt ht hW => ⟨⟨(-1), ⟨(u 44), (u 45), (u 33), (u 34), (u 30), (u 28), (u 29), (u 31), (b 32), (b 25), (b 26)⟩, rfl, trivial, by rw [ht]; exact hP, hD⟩, hS.F ht⟩) hS.2.2 dX12_lastWord_28
def C_X12_goHeard (n : Nat) : Prop := ∀ (l : Launch) (D : va_G) (cs : Nat → ClassId) (A : Nat → Prop) (bd : Nat → Nat) (u : Nat → Int32) (b : Nat → Nat → Int32) (bw : Nat → Nat → Int64)  (p1 : Int32) (p2 : Int32) (hk0 : 0 ≤ p1.toInt) (hk1 : p1.toInt ≤ (u 48).toInt) (ho7 : (u 48).toInt ≤ 12) (hdn : 12 ≤ p1.toInt + (n : Int)) (hlk : LOKD (u 48) (bw 68) (u 46) (u 1)) (hlaw : LAWOK (b 20) (b 21) (b 22) (b 23) (b 24)) (iu46_0 : 0 ≤ (u 46).toInt) (iu46_1 : (u 46).toInt ≤ 5) (iu1_0 : 0 ≤ (u 1).toInt) (iu1_1 : (u 1).toInt ≤ 8) (iu29_0 : -1 ≤ (u 29).toInt) (iu29_1 : (u 29).toInt < (u 1).toInt) (ib23_0 : AB (-32768) 32767 (b 23)) (ib24_0 : AB (-32768) 32767 (b 24)) (ib20_0 : AB (-128) 127 (b 20)) (iu47_0 : 0 ≤ (u 47).toInt) (iu47_1 : (u 47).toInt ≤ 5) (ib67_0 : AB 0 60 (b 67)) (iu48_0 : 0 ≤ (u 48).toInt) (iu48_1 : (u 48).toInt ≤ 24), Met l yX12_goHeard (Cond.code yX12_goHeard cX12_goHeard 10 none :: gw) ({ frames := 2 * n + 8, cells := 0, slots := 0, locals := 100 * n + 300 }) (va_Pc [.ref (bd 0), .int p1, .int p2] (XPre D (TY cs) (RW cs bd u b bw) A)) (va_Qv (fun (z : Int32 × Int32 × Int32 × Int32 × Int32 × Int32 × Int32 × Int32 × Int32 × Int32 × (Nat → Int32) × (Nat → Int32) × (Nat → Int32)) => (-1 ≤ z.2.2.2.2.2.2.2.1.toInt) ∧ (z.2.2.2.2.2.2.2.1.toInt < (u 1).toInt)) (XPo D (fun (z : Int32 × Int32 × Int32 × Int32 × Int32 × Int32 × Int32 × Int32 × Int32 × Int32 × (Nat → Int32) × (Nat → Int32) × (Nat → Int32)) => RW cs bd (va_up (va_up (va_up (va_up (va_up (va_up (va_up (va_up (va_up (va_up u 49 z.1) 52 z.2.1) 50 z.2.2.1) 51 z.2.2.2.1) 33 z.2.2.2.2.1) 34 z.2.2.2.2.2.1) 28 z.2.2.2.2.2.2.1) 29 z.2.2.2.2.2.2.2.1) 30 z.2.2.2.2.2.2.2.2.1) 31 z.2.2.2.2.2.2.2.2.2.1) (va_up (va_up (va_up b 32 z.2.2.2.2.2.2.2.2.2.2.1) 25 z.2.2.2.2.2.2.2.2.2.2.2.1) 26 z.2.2.2.2.2.2.2.2.2.2.2.2) bw) A) A) 0 0 A
set_option maxHeartbeats 4000000 in
set_option maxRecDepth 100000 in
theorem s_X12_goHeard (n : Nat) (hrec : ∀ k, k + 1 = n → C_X12_goHeard k) : C_X12_goHeard n := by
  intro l D cs A bd u b bw p1 p2 hk0 hk1 ho7 hdn hlk hlaw iu46_0 iu46_1 iu1_0 iu1_1 iu29_0 iu29_1 ib23_0 ib24_0 ib20_0 iu47_0 iu47_1 ib67_0 iu48_0 iu48_1
  refine Met.ofW (cc := cX12_goHeard) (maxL := 10) (ret := none) (by decide) rfl ?_
  intro p e s m args below meth c s₁ B hml hv
  obtain ⟨rfl, hP, hK, hD, hZ⟩ := hv
  have hx := B.exec
  have hb := B.bytes
  have hr := B.returns
  have hts := atoms_spec (ws := (Cond.code yX12_goHeard cX12_goHeard 10 none :: gw)) B.pre
  have hg : ∀ w ∈ gw, w.before ([.ref (bd 0), .int p1, .int p2] : List Value).toArray s = true := fun w h => hts w (List.mem_cons_of_mem _ h)
  have hown : s.vm.findClass RX12 = some m.cls := findClass_of_methodNamed B.named
  have hlocks := B.notSynchronized
  have hS : va_S A s.heap s.heap [] := va_S.rf
  have hP : va_P D vwCl (RW cs bd u b bw) s.heap := hP
  have hl := lv_entry ([.ref (bd 0), .int p1, .int p2]) (n := 10) (Nat.le_of_ble_eq_true rfl)
  rw [lg_entry_eq]
  generalize (lg_sl ([.ref (bd 0), .int p1, .int p2]) ++ List.replicate (10 - (lg_sl ([.ref (bd 0), .int p1, .int p2])).length) Slot.unset).toArray = ls at hl ⊢
  have hl : lv_has ls 10 [(0, .ref (bd 0)), (1, .int p1), (2, .int p2)] := hl
  have hcut : ∀ nk : Nat, (∀ (x3 : Int32) (x4 : Int32) (x5 : Int32) (x6 : Int32) (x7 : Int32) (c106_u33 : Int32) (c106_u34 : Int32) (c106_u28 : Int32) (c106_u29 : Int32) (c106_u30 : Int32) (c106_u31 : Int32) (c106_b32 : Nat → Int32) (c106_b25 : Nat → Int32) (c106_b26 : Nat → Int32) (c106_u49 : Int32) (c106_u52 : Int32) (c106_u50 : Int32) (c106_u51 : Int32) (H : Heap) (locs : List Loc) (hk6 : p1.toInt < (u 48).toInt) (i4 : -1 ≤ x4.toInt) (i4b : x4.toInt < (u 1).toInt) (i7 : 0 ≤ x7.toInt) (ju29_0 : -1 ≤ c106_u29.toInt) (ju29_1 : c106_u29.toInt < (u 1).toInt) (hmu : (2 - x7.toInt).toNat < nk) (hP : va_P D vwCl (RW cs bd (va_up (va_up (va_up (va_up (va_up (va_up (va_up (va_up (va_up (va_up u 33 c106_u33) 34 c106_u34) 28 c106_u28) 29 c106_u29) 30 c106_u30) 31 c106_u31) 49 c106_u49) 52 c106_u52) 50 c106_u50) 51 c106_u51) (va_up (va_up (va_up b 32 c106_b32) 25 c106_b25) 26 c106_b26) bw) H) (hD : va_D A (RW cs bd (va_up (va_up (va_up (va_up (va_up (va_up (va_up (va_up (va_up (va_up u 33 c106_u33) 34 c106_u34) 28 c106_u28) 29 c106_u29) 30 c106_u30) 31 c106_u31) 49 c106_u49) 52 c106_u52) 50 c106_u50) 51 c106_u51) (va_up (va_up (va_up b 32 c106_b32) 25 c106_b25) 26 c106_b26) bw)) (hS : va_S A s.heap H locs) (ls : Array Slot) (hl : lv_has ls 10 [(0, .ref (bd 0)), (1, .int p1), (2, .int p2), (3, .int x3), (4, .int x4), (5, .int x5), (6, .int x6), (7, .int x7)]), W p l e (headSpec (Cond.code yX12_goHeard cX12_goHeard 10 none :: gw) ({ frames := 2 * n + 8, cells := 0, slots := 0, locals := 100 * n + 300 })).room s m ([.ref (bd 0), .int p1, .int p2] : List Value).toArray below meth c H locs 0 0 (MQ below (va_Qv (fun (z : Int32 × Int32 × Int32 × Int32 × Int32 × Int32 × Int32 × Int32 × Int32 × Int32 × (Nat → Int32) × (Nat → Int32) × (Nat → Int32)) => (-1 ≤ z.2.2.2.2.2.2.2.1.toInt) ∧ (z.2.2.2.2.2.2.2.1.toInt < (u 1).toInt)) (XPo D (fun (z : Int32 × Int32 × Int32 × Int32 × Int32 × Int32 × Int32 × Int32 × Int32 × Int32 × (Nat → Int32) × (Nat → Int32) × (Nat → Int32)) => RW cs bd (va_up (va_up (va_up (va_up (va_up (va_up (va_up (va_up (va_up (va_up u 49 z.1) 52 z.2.1) 50 z.2.2.1) 51 z.2.2.2.1) 33 z.2.2.2.2.1) 34 z.2.2.2.2.2.1) 28 z.2.2.2.2.2.2.1) 29 z.2.2.2.2.2.2.2.1) 30 z.2.2.2.2.2.2.2.2.1) 31 z.2.2.2.2.2.2.2.2.2.1) (va_up (va_up (va_up b 32 z.2.2.2.2.2.2.2.2.2.2.1) 25 z.2.2.2.2.2.2.2.2.2.2.2.1) 26 z.2.2.2.2.2.2.2.2.2.2.2.2) bw) A) A) ([.ref (bd 0), .int p1, .int p2] : List Value).toArray s 0 0 A) (F0 m 106 ls [])) := by
    intro nk
    induction nk with
    | zero => exact (fun x3 x4 x5 x6 x7 c106_u33 c106_u34 c106_u28 c106_u29 c106_u30 c106_u31 c106_b32 c106_b25 c106_b26 c106_u49 c106_u52 c106_u50 c106_u51 H locs hk6 i4 i4b i7 ju29_0 ju29_1 hmu hP hD hS ls hl => absurd hmu (Nat.not_lt_zero _))
    | succ nk ih =>
      intro x3 x4 x5 x6 x7 c106_u33 c106_u34 c106_u28 c106_u29 c106_u30 c106_u31 c106_b32 c106_b25 c106_b26 c106_u49 c106_u52 c106_u50 c106_u51 H locs hk6 i4 i4b i7 ju29_0 ju29_1 hmu hP hD hS ls hl
      refine lv_iload hx hb dX12_goHeard_106 (lv_at hl 7 rfl) ?_
      refine lv_iconst (v := 2) hx hb dX12_goHeard_108 (by decide) ?_
      refine lv_icmp_ge (tgt := 238) hx hb dX12_goHeard_109 (by decide) (fun c_1 => ?_) (fun c_1 => ?_)
      ·
        have kc_1 : (2 : Int) ≤ x7.toInt := i_le c_1
        have hP : va_P D vwCl (RW cs bd (va_up (va_up (va_up (va_up (va_up (va_up (va_up (va_up (va_up (va_up u 49 c106_u49) 52 c106_u52) 50 c106_u50) 51 c106_u51) 33 c106_u33) 34 c106_u34) 28 c106_u28) 29 c106_u29) 30 c106_u30) 31 c106_u31) (va_up (va_up (va_up b 32 c106_b32) 25 c106_b25) 26 c106_b26) bw) _ := hP
        have hD : va_D A (RW cs bd (va_up (va_up (va_up (va_up (va_up (va_up (va_up (va_up (va_up (va_up u 49 c106_u49) 52 c106_u52) 50 c106_u50) 51 c106_u51) 33 c106_u33) 34 c106_u34) 28 c106_u28) 29 c106_u29) 30 c106_u30) 31 c106_u31) (va_up (va_up (va_up b 32 c106_b32) 25 c106_b25) 26 c106_b26) bw) := hD
        exact W.vret hx hb hr (fun tt ht hW => ⟨⟨⟨c106_u49, c106_u52, c106_u50, c106_u51, c106_u33, c106_u34, c106_u28, c106_u29, c106_u30, c106_u31, c106_b32, c106_b25, c106_b26⟩, rfl, ⟨(show -1 ≤ c106_u29.toInt by first | omega | assumption), (show c106_u29.toInt < (u 1).toInt by first | omega | assumption)⟩, by rw [ht]; exact hP, hD⟩, hS.F ht⟩) hS.2.2 dX12_goHeard_238
      ·
        have kc_1 : x7.toInt < (2 : Int) := i_nle c_1
        refine lv_aload_n hx hb dX12_goHeard_112 rfl (lv_at hl 0 rfl) ?_
        refine lv_aload_n hx hb dX12_goHeard_113 rfl (lv_at hl 0 rfl) ?_
        refine lv_aload_n hx hb dX12_goHeard_114 rfl (lv_at hl 0 rfl) ?_
        refine gr_dayShelf hx hb hg hown hK hP (x := (u 46)) rfl (hg _ q5_38) dX12_goHeard_115 ?_
        refine lv_iload_n hx hb dX12_goHeard_118 rfl (lv_at hl 1 rfl) ?_
        refine cV_ro (As := [.int (u 46), .int p1]) (rest := [.ref (bd 0)]) ⟨hx, hb, hml, hown, hg⟩ (k_X12_at l D cs A bd (va_up (va_up (va_up (va_up (va_up (va_up (va_up (va_up (va_up (va_up u 33 c106_u33) 34 c106_u34) 28 c106_u28) 29 c106_u29) 30 c106_u30) 31 c106_u31) 49 c106_u49) 52 c106_u52) 50 c106_u50) 51 c106_u51) (va_up (va_up (va_up b 32 c106_b32) 25 c106_b25) 26 c106_b26) bw  (u 46) p1 (show 0 ≤ (u 46).toInt by first | omega | decide) (show (u 46).toInt < 6 by first | omega | decide) (show 0 ≤ p1.toInt by first | omega | decide) (show p1.toInt < 60 by first | omega | decide)) ca_X12_at q6_144 ⟨rfl, rfl⟩ ⟨(show 0 + 1 ≤ 2 * n + 8 by omega), (show 8 + (3 + 11) + (0) ≤ 100 * n + 300 by omega)⟩ (rc_model hK hP) hK hP hD hS hZ rfl hl.1 rfl (Nat.le_of_ble_eq_true rfl) ⟨Nat.zero_le _, Nat.zero_le _⟩ dX12_goHeard_119 (fun r_2 wr_2 => ?_)
        have wr_2_0 : r_2.toInt = ((bw 68) (60 * (u 46).toInt.toNat + p1.toInt.toNat)).toInt32.toInt := wr_2
        have hl_3 := hlk (p1).toInt.toNat (by omega)
        refine lv_iconst (v := 2) hx hb dX12_goHeard_122 (by decide) ?_
        refine lv_idiv hx hb dX12_goHeard_123 (by decide) ?_
        refine lv_topi (fun x_4 ex_4 => ?_)
        have fx_4 : x_4.toInt = r_2.toInt / (2 : Int) := by rw [ex_4]; exact i_div (by omega) (by first | omega | decide)
        refine lv_iload hx hb dX12_goHeard_124 (lv_at hl 7 rfl) ?_
        refine lv_iconst (v := 1) hx hb dX12_goHeard_126 (by decide) ?_
        refine lv_icmp_ne (tgt := 134) hx hb dX12_goHeard_127 (by decide) (fun c_5 => ?_) (fun c_5 => ?_)
        ·
          have kc_5 : x7.toInt ≠ (1 : Int) := i_ne c_5
          refine lv_iconst (v := 0) hx hb dX12_goHeard_134 (by decide) ?_
          refine cV_i (As := [.int x_4, .int 0]) (rest := []) ⟨hx, hb, hml, hown, hg⟩ (k_X12_goSaying l D cs A bd (va_up (va_up (va_up (va_up (va_up (va_up (va_up (va_up (va_up (va_up u 33 c106_u33) 34 c106_u34) 28 c106_u28) 29 c106_u29) 30 c106_u30) 31 c106_u31) 49 c106_u49) 52 c106_u52) 50 c106_u50) 51 c106_u51) (va_up (va_up (va_up b 32 c106_b32) 25 c106_b25) 26 c106_b26) bw  x_4 0 (show 0 ≤ x_4.toInt by first | omega | decide) (show x_4.toInt < (u 1).toInt by first | omega | decide) hlaw (show 0 ≤ (u 1).toInt by first | omega | decide) (show (u 1).toInt ≤ 8 by first | omega | decide) (show -1 ≤ c106_u29.toInt by first | omega | decide) (show c106_u29.toInt < (u 1).toInt by first | omega | decide) ib23_0 ib24_0 ib20_0) ca_X12_goSaying q6_148 ⟨rfl, rfl⟩ ⟨(show 4 + 1 ≤ 2 * n + 8 by omega), (show 8 + (4 + 11) + (93) ≤ 100 * n + 300 by omega)⟩ (rc_model hK hP) hK hP hD hS hZ rfl hl.1 rfl (Nat.le_of_ble_eq_true rfl) ⟨Nat.zero_le _, Nat.zero_le _⟩ dX12_goHeard_135 (fun r_6 z_16 H locs wr_6 hP hD hS => ?_)
          obtain ⟨o_u33_7, o_u34_8, o_u30_9, o_u28_10, o_u29_11, o_b32_12, o_u31_13, o_b25_14, o_b26_15⟩ := z_16
          have hP : va_P D vwCl (RW cs bd (va_up (va_up (va_up (va_up (va_up (va_up (va_up (va_up (va_up (va_up u 49 c106_u49) 52 c106_u52) 50 c106_u50) 51 c106_u51) 33 o_u33_7) 34 o_u34_8) 30 o_u30_9) 28 o_u28_10) 29 o_u29_11) 31 o_u31_13) (va_up (va_up (va_up b 32 o_b32_12) 25 o_b25_14) 26 o_b26_15) bw) H := hP
          have hD : va_D A (RW cs bd (va_up (va_up (va_up (va_up (va_up (va_up (va_up (va_up (va_up (va_up u 49 c106_u49) 52 c106_u52) 50 c106_u50) 51 c106_u51) 33 o_u33_7) 34 o_u34_8) 30 o_u30_9) 28 o_u28_10) 29 o_u29_11) 31 o_u31_13) (va_up (va_up (va_up b 32 o_b32_12) 25 o_b25_14) 26 o_b26_15) bw) := hD
          obtain ⟨wr_6_0, wr_6_1, wr_6_2⟩ : (r_6.toInt = -1 ∨ (0 ≤ r_6.toInt ∧ r_6.toInt < (u 1).toInt)) ∧ (-1 ≤ o_u29_11.toInt) ∧ (o_u29_11.toInt < (u 1).toInt) := wr_6
          refine lv_istore (lv' := [(8, .int r_6), (0, .ref (bd 0)), (1, .int p1), (2, .int p2), (3, .int x3), (4, .int x4), (5, .int x5), (6, .int x6), (7, .int x7)]) hx hb dX12_goHeard_138 hl (by decide) rfl (fun ls hl => ?_)
          refine lv_aload_n hx hb dX12_goHeard_140 rfl (lv_at hl 1 rfl) ?_
          refine gr_hurt1 hx hb hg hown hK hP (x := o_u33_7) rfl (hg _ q5_25) dX12_goHeard_141 ?_
          refine lv_istore (lv' := [(9, .int o_u33_7), (8, .int r_6), (0, .ref (bd 0)), (1, .int p1), (2, .int p2), (3, .int x3), (4, .int x4), (5, .int x5), (6, .int x6), (7, .int x7)]) hx hb dX12_goHeard_144 hl (by decide) rfl (fun ls hl => ?_)
          refine lv_iload_n hx hb dX12_goHeard_146 rfl (lv_at hl 3 rfl) ?_
          refine lv_aload_n hx hb dX12_goHeard_147 rfl (lv_at hl 2 rfl) ?_
          refine gr_size hx hb hg hown hK hP (hg _ q5_59) dX12_goHeard_148 ?_
          refine lv_aload_n hx hb dX12_goHeard_151 rfl (lv_at hl 2 rfl) ?_
          refine gr_toldShelf hx hb hg hown hK hP (x := (u 47)) rfl (hg _ q5_39) dX12_goHeard_152 ?_
          refine lr_size hx hb hK hP (i_in (by omega) (by omega)) dX12_goHeard_155 ?_
          refine lv_topi (fun x_17 ex_17 => ?_)
          have ex_17 : x_17 = (b 67) (u 47).toNatClampNeg := ex_17
          have hx_17 : x_17.toInt = ((b 67) (u 47).toNatClampNeg).toInt := by rw [ex_17]
          have bx_17 := ib67_0 (u 47).toNatClampNeg
          rw [← ex_17] at bx_17
          refine lv_icmp_ge (tgt := 175) hx hb dX12_goHeard_156 (by decide) (fun c_18 => ?_) (fun c_18 => ?_)
          ·
            have kc_18 : x_17.toInt ≤ p1.toInt := i_le c_18
            refine lv_aload_n hx hb dX12_goHeard_175 rfl (lv_at hl 2 rfl) ?_
            refine lv_iload_n hx hb dX12_goHeard_176 rfl (lv_at hl 3 rfl) ?_
            refine lv_iconst (v := 1) hx hb dX12_goHeard_177 (by decide) ?_
            refine lv_iadd hx hb dX12_goHeard_178 ?_
            refine lv_topi (fun x_19 ex_19 => ?_)
            have fx_19 : x_19.toInt = p1.toInt + (1 : Int) := by rw [ex_19]; exact i_add (by first | omega | (show (_ : Int) ≤ p1.toInt + (1 : Int); omega)) (by first | omega | (show p1.toInt + (1 : Int) ≤ (_ : Int); omega))
            refine lv_iload_n hx hb dX12_goHeard_179 rfl (lv_at hl 4 rfl) ?_
            refine lv_iload hx hb dX12_goHeard_180 (lv_at hl 9 rfl) ?_
            refine lv_iload_n hx hb dX12_goHeard_182 rfl (lv_at hl 3 rfl) ?_
            refine lv_ishl hx hb dX12_goHeard_183 ?_
            refine lv_topi (fun x_20 ex_20 => ?_)
            refine lv_ior hx hb dX12_goHeard_184 ?_
            refine lv_topi (fun x_21 ex_21 => ?_)
            refine cV_v (As := [.int x_19, .int x_21]) (rest := []) ⟨hx, hb, hml, hown, hg⟩ ((hrec (n - 1) (by omega)) l D cs A bd (va_up (va_up (va_up (va_up (va_up (va_up (va_up (va_up (va_up (va_up u 49 c106_u49) 52 c106_u52) 50 c106_u50) 51 c106_u51) 33 o_u33_7) 34 o_u34_8) 30 o_u30_9) 28 o_u28_10) 29 o_u29_11) 31 o_u31_13) (va_up (va_up (va_up b 32 o_b32_12) 25 o_b25_14) 26 o_b26_15) bw  x_19 x_21 (show 0 ≤ x_19.toInt by first | omega | decide) (show x_19.toInt ≤ (u 48).toInt by first | omega | decide) (show (u 48).toInt ≤ 12 by first | omega | decide) (show 12 ≤ x_19.toInt + ((n - 1 : Nat) : Int) by first | omega | decide) (by assumption) hlaw (show 0 ≤ (u 46).toInt by first | omega | decide) (show (u 46).toInt ≤ 5 by first | omega | decide) (show 0 ≤ (u 1).toInt by first | omega | decide) (show (u 1).toInt ≤ 8 by first | omega | decide) (show -1 ≤ o_u29_11.toInt by first | omega | decide) (show o_u29_11.toInt < (u 1).toInt by first | omega | decide) ib23_0 ib24_0 ib20_0 (show 0 ≤ (u 47).toInt by first | omega | decide) (show (u 47).toInt ≤ 5 by first | omega | decide) ib67_0 (show 0 ≤ (u 48).toInt by first | omega | decide) (show (u 48).toInt ≤ 24 by first | omega | decide)) ca_X12_goHeard q6_235 ⟨rfl, rfl⟩ ⟨(show 2 * (n - 1) + 8 + 1 ≤ 2 * n + 8 by omega), (show 8 + (10 + 11) + (100 * (n - 1) + 300) ≤ 100 * n + 300 by omega)⟩ (rc_model hK hP) hK hP hD hS hZ rfl hl.1 rfl (Nat.le_of_ble_eq_true rfl) ⟨Nat.zero_le _, Nat.zero_le _⟩ dX12_goHeard_185 (fun z_36 H locs wr_22 hP hD hS => ?_)
            obtain ⟨o_u49_23, o_u52_24, o_u50_25, o_u51_26, o_u33_27, o_u34_28, o_u28_29, o_u29_30, o_u30_31, o_u31_32, o_b32_33, o_b25_34, o_b26_35⟩ := z_36
            have hP : va_P D vwCl (RW cs bd (va_up (va_up (va_up (va_up (va_up (va_up (va_up (va_up (va_up (va_up u 49 o_u49_23) 52 o_u52_24) 50 o_u50_25) 51 o_u51_26) 33 o_u33_27) 34 o_u34_28) 28 o_u28_29) 29 o_u29_30) 30 o_u30_31) 31 o_u31_32) (va_up (va_up (va_up b 32 o_b32_33) 25 o_b25_34) 26 o_b26_35) bw) H := hP
            have hD : va_D A (RW cs bd (va_up (va_up (va_up (va_up (va_up (va_up (va_up (va_up (va_up (va_up u 49 o_u49_23) 52 o_u52_24) 50 o_u50_25) 51 o_u51_26) 33 o_u33_27) 34 o_u34_28) 28 o_u28_29) 29 o_u29_30) 30 o_u30_31) 31 o_u31_32) (va_up (va_up (va_up b 32 o_b32_33) 25 o_b25_34) 26 o_b26_35) bw) := hD
            obtain ⟨wr_22_0, wr_22_1⟩ : (-1 ≤ o_u29_30.toInt) ∧ (o_u29_30.toInt < (u 1).toInt) := wr_22
            refine lv_iload hx hb dX12_goHeard_188 (lv_at hl 1 rfl) ?_
            refine lv_if_lt (tgt := 209) hx hb dX12_goHeard_190 (by decide) (fun c_37 => ?_) (fun c_37 => ?_)
            ·
              have kc_37 : r_6.toInt < (0 : Int) := i_lt c_37
              refine lv_aload_n hx hb dX12_goHeard_209 rfl (lv_at hl 2 rfl) ?_
              refine lv_iload_n hx hb dX12_goHeard_210 rfl (lv_at hl 5 rfl) ?_
              refine pr_bee1 hx hb hg hown hK hP hD hS (hg _ q5_20) dX12_goHeard_211 (fun H locs hP hD hS => ?_)
              refine lv_aload_n hx hb dX12_goHeard_214 rfl (lv_at hl 2 rfl) ?_
              refine lv_iload hx hb dX12_goHeard_215 (lv_at hl 6 rfl) ?_
              refine pr_liar1 hx hb hg hown hK hP hD hS (hg _ q5_21) dX12_goHeard_217 (fun H locs hP hD hS => ?_)
              refine lv_aload_n hx hb dX12_goHeard_220 rfl (lv_at hl 2 rfl) ?_
              refine lv_iload hx hb dX12_goHeard_221 (lv_at hl 7 rfl) ?_
              refine pr_hour1 hx hb hg hown hK hP hD hS (hg _ q5_22) dX12_goHeard_223 (fun H locs hP hD hS => ?_)
              refine lv_aload_n hx hb dX12_goHeard_226 rfl (lv_at hl 2 rfl) ?_
              refine lv_iload hx hb dX12_goHeard_227 (lv_at hl 8 rfl) ?_
              refine pr_lies1 hx hb hg hown hK hP hD hS (hg _ q5_23) dX12_goHeard_229 (fun H locs hP hD hS => ?_)
              obtain ⟨x_38, ex_38⟩ : ∃ y : Int32, y = x7 + 1 := ⟨_, rfl⟩
              have fx_38 : x_38.toInt = x7.toInt + 1 := by rw [ex_38]; exact i_add (by first | omega | (show (_ : Int) ≤ x7.toInt + 1; omega)) (by first | omega | (show x7.toInt + 1 ≤ (_ : Int); omega))
              refine lv_iinc (v := x_38) (lv' := [(7, .int x_38), (9, .int o_u33_7), (8, .int r_6), (0, .ref (bd 0)), (1, .int p1), (2, .int p2), (3, .int x3), (4, .int x4), (5, .int x5), (6, .int x6)]) hx hb dX12_goHeard_232 hl (k := 9) rfl (by rw [ex_38]; rfl) (by decide) rfl (fun ls hl => ?_)
              refine lv_goto (tgt := 106) hx hb dX12_goHeard_235 (by decide) ?_
              exact ih x3 x4 x5 x6 x_38 o_u33_27 o_u34_28 x3 x4 x5 x6 o_b32_33 o_b25_34 o_b26_35 o_u49_23 o_u52_24 o_u50_25 o_u51_26 _ _ (by omega) (by omega) (by omega) (by omega) (show -1 ≤ x4.toInt by first | omega | assumption) (show x4.toInt < (u 1).toInt by first | omega | assumption) (by omega) hP hD hS ls (lv_sub hl [3, 4, 5, 6, 7, 8, 9, 0] rfl)
            ·
              have kc_37 : (0 : Int) ≤ r_6.toInt := i_nlt c_37
              refine lv_iload hx hb dX12_goHeard_193 (lv_at hl 0 rfl) ?_
              refine lv_if_ne (tgt := 209) hx hb dX12_goHeard_195 (by decide) (fun c_39 => ?_) (fun c_39 => ?_)
              ·
                have kc_39 : o_u33_7.toInt ≠ (0 : Int) := i_ne c_39
                refine lv_aload_n hx hb dX12_goHeard_209 rfl (lv_at hl 2 rfl) ?_
                refine lv_iload_n hx hb dX12_goHeard_210 rfl (lv_at hl 5 rfl) ?_
                refine pr_bee1 hx hb hg hown hK hP hD hS (hg _ q5_20) dX12_goHeard_211 (fun H locs hP hD hS => ?_)
                refine lv_aload_n hx hb dX12_goHeard_214 rfl (lv_at hl 2 rfl) ?_
                refine lv_iload hx hb dX12_goHeard_215 (lv_at hl 6 rfl) ?_
                refine pr_liar1 hx hb hg hown hK hP hD hS (hg _ q5_21) dX12_goHeard_217 (fun H locs hP hD hS => ?_)
                refine lv_aload_n hx hb dX12_goHeard_220 rfl (lv_at hl 2 rfl) ?_
                refine lv_iload hx hb dX12_goHeard_221 (lv_at hl 7 rfl) ?_
                refine pr_hour1 hx hb hg hown hK hP hD hS (hg _ q5_22) dX12_goHeard_223 (fun H locs hP hD hS => ?_)
                refine lv_aload_n hx hb dX12_goHeard_226 rfl (lv_at hl 2 rfl) ?_
                refine lv_iload hx hb dX12_goHeard_227 (lv_at hl 8 rfl) ?_
                refine pr_lies1 hx hb hg hown hK hP hD hS (hg _ q5_23) dX12_goHeard_229 (fun H locs hP hD hS => ?_)
                obtain ⟨x_40, ex_40⟩ : ∃ y : Int32, y = x7 + 1 := ⟨_, rfl⟩
                have fx_40 : x_40.toInt = x7.toInt + 1 := by rw [ex_40]; exact i_add (by first | omega | (show (_ : Int) ≤ x7.toInt + 1; omega)) (by first | omega | (show x7.toInt + 1 ≤ (_ : Int); omega))
                refine lv_iinc (v := x_40) (lv' := [(7, .int x_40), (9, .int o_u33_7), (8, .int r_6), (0, .ref (bd 0)), (1, .int p1), (2, .int p2), (3, .int x3), (4, .int x4), (5, .int x5), (6, .int x6)]) hx hb dX12_goHeard_232 hl (k := 9) rfl (by rw [ex_40]; rfl) (by decide) rfl (fun ls hl => ?_)
                refine lv_goto (tgt := 106) hx hb dX12_goHeard_235 (by decide) ?_
                exact ih x3 x4 x5 x6 x_40 o_u33_27 o_u34_28 x3 x4 x5 x6 o_b32_33 o_b25_34 o_b26_35 o_u49_23 o_u52_24 o_u50_25 o_u51_26 _ _ (by omega) (by omega) (by omega) (by omega) (show -1 ≤ x4.toInt by first | omega | assumption) (show x4.toInt < (u 1).toInt by first | omega | assumption) (by omega) hP hD hS ls (lv_sub hl [3, 4, 5, 6, 7, 8, 9, 0] rfl)
              ·
                have kc_39 : o_u33_7.toInt = (0 : Int) := i_eq c_39
                refine lv_aload_n hx hb dX12_goHeard_198 rfl (lv_at hl 2 rfl) ?_
                refine gr_pads1 hx hb hg hown hK hP (hg _ q5_24) dX12_goHeard_199 ?_
                refine lv_iload hx hb dX12_goHeard_202 (lv_at hl 1 rfl) ?_
                refine lv_dup2_11 hx hb dX12_goHeard_204 rfl rfl ?_
                refine lr_pads1 hx hb hK hP (i_in (by omega) (by omega)) dX12_goHeard_205 ?_
                refine lv_topi (fun x_41 ex_41 => ?_)
                have ex_41 : x_41 = o_b32_33 r_6.toNatClampNeg := ex_41
                have hx_41 : x_41.toInt = (o_b32_33 r_6.toNatClampNeg).toInt := by rw [ex_41]
                refine lv_iconst (v := 1) hx hb dX12_goHeard_206 (by decide) ?_
                refine lv_iadd hx hb dX12_goHeard_207 ?_
                refine lv_topi (fun x_42 ex_42 => ?_)
                refine sr_pads1 hx hb hK hP hD hS (i_in (by omega) (by omega)) dX12_goHeard_208 (fun H locs hP hD hS => ?_)
                refine lv_aload_n hx hb dX12_goHeard_209 rfl (lv_at hl 2 rfl) ?_
                refine lv_iload_n hx hb dX12_goHeard_210 rfl (lv_at hl 5 rfl) ?_
                refine pr_bee1 hx hb hg hown hK hP hD hS (hg _ q5_20) dX12_goHeard_211 (fun H locs hP hD hS => ?_)
                refine lv_aload_n hx hb dX12_goHeard_214 rfl (lv_at hl 2 rfl) ?_
                refine lv_iload hx hb dX12_goHeard_215 (lv_at hl 6 rfl) ?_
                refine pr_liar1 hx hb hg hown hK hP hD hS (hg _ q5_21) dX12_goHeard_217 (fun H locs hP hD hS => ?_)
                refine lv_aload_n hx hb dX12_goHeard_220 rfl (lv_at hl 2 rfl) ?_
                refine lv_iload hx hb dX12_goHeard_221 (lv_at hl 7 rfl) ?_
                refine pr_hour1 hx hb hg hown hK hP hD hS (hg _ q5_22) dX12_goHeard_223 (fun H locs hP hD hS => ?_)
                refine lv_aload_n hx hb dX12_goHeard_226 rfl (lv_at hl 2 rfl) ?_
                refine lv_iload hx hb dX12_goHeard_227 (lv_at hl 8 rfl) ?_
                refine pr_lies1 hx hb hg hown hK hP hD hS (hg _ q5_23) dX12_goHeard_229 (fun H locs hP hD hS => ?_)
                obtain ⟨x_43, ex_43⟩ : ∃ y : Int32, y = x7 + 1 := ⟨_, rfl⟩
                have fx_43 : x_43.toInt = x7.toInt + 1 := by rw [ex_43]; exact i_add (by first | omega | (show (_ : Int) ≤ x7.toInt + 1; omega)) (by first | omega | (show x7.toInt + 1 ≤ (_ : Int); omega))
                refine lv_iinc (v := x_43) (lv' := [(7, .int x_43), (9, .int o_u33_7), (8, .int r_6), (0, .ref (bd 0)), (1, .int p1), (2, .int p2), (3, .int x3), (4, .int x4), (5, .int x5), (6, .int x6)]) hx hb dX12_goHeard_232 hl (k := 9) rfl (by rw [ex_43]; rfl) (by decide) rfl (fun ls hl => ?_)
                refine lv_goto (tgt := 106) hx hb dX12_goHeard_235 (by decide) ?_
                exact ih x3 x4 x5 x6 x_43 o_u33_27 o_u34_28 x3 x4 x5 x6 (upd o_b32_33 r_6.toNatClampNeg x_42) o_b25_34 o_b26_35 o_u49_23 o_u52_24 o_u50_25 o_u51_26 _ _ (by omega) (by omega) (by omega) (by omega) (show -1 ≤ x4.toInt by first | omega | assumption) (show x4.toInt < (u 1).toInt by first | omega | assumption) (by omega) hP hD hS ls (lv_sub hl [3, 4, 5, 6, 7, 8, 9, 0] rfl)
          ·
            have kc_18 : p1.toInt < x_17.toInt := i_nle c_18
            refine lv_aload_n hx hb dX12_goHeard_159 rfl (lv_at hl 2 rfl) ?_
            refine lv_aload_n hx hb dX12_goHeard_160 rfl (lv_at hl 2 rfl) ?_
            refine gr_toldShelf hx hb hg hown hK hP (x := (u 47)) rfl (hg _ q5_39) dX12_goHeard_161 ?_
            refine lv_iload_n hx hb dX12_goHeard_164 rfl (lv_at hl 3 rfl) ?_
            refine cV_ro (As := [.int (u 47), .int p1]) (rest := []) ⟨hx, hb, hml, hown, hg⟩ (k_X12_at l D cs A bd (va_up (va_up (va_up (va_up (va_up (va_up (va_up (va_up (va_up (va_up u 49 c106_u49) 52 c106_u52) 50 c106_u50) 51 c106_u51) 33 o_u33_7) 34 o_u34_8) 30 o_u30_9) 28 o_u28_10) 29 o_u29_11) 31 o_u31_13) (va_up (va_up (va_up b 32 o_b32_12) 25 o_b25_14) 26 o_b26_15) bw  (u 47) p1 (show 0 ≤ (u 47).toInt by first | omega | decide) (show (u 47).toInt < 6 by first | omega | decide) (show 0 ≤ p1.toInt by first | omega | decide) (show p1.toInt < 60 by first | omega | decide)) ca_X12_at q6_144 ⟨rfl, rfl⟩ ⟨(show 0 + 1 ≤ 2 * n + 8 by omega), (show 8 + (3 + 11) + (0) ≤ 100 * n + 300 by omega)⟩ (rc_model hK hP) hK hP hD hS hZ rfl hl.1 rfl (Nat.le_of_ble_eq_true rfl) ⟨Nat.zero_le _, Nat.zero_le _⟩ dX12_goHeard_165 (fun r_44 wr_44 => ?_)
            have wr_44_0 : r_44.toInt = ((bw 68) (60 * (u 47).toInt.toNat + p1.toInt.toNat)).toInt32.toInt := wr_44
            refine lv_aload_n hx hb dX12_goHeard_168 rfl (lv_at hl 2 rfl) ?_
            refine cV_ro (As := []) (rest := [.int r_44]) ⟨hx, hb, hml, hown, hg⟩ (k_X12_whoseCell l D cs A bd (va_up (va_up (va_up (va_up (va_up (va_up (va_up (va_up (va_up (va_up u 49 c106_u49) 52 c106_u52) 50 c106_u50) 51 c106_u51) 33 o_u33_7) 34 o_u34_8) 30 o_u30_9) 28 o_u28_10) 29 o_u29_11) 31 o_u31_13) (va_up (va_up (va_up b 32 o_b32_12) 25 o_b25_14) 26 o_b26_15) bw   (show 0 ≤ (u 1).toInt by first | omega | decide) (show (u 1).toInt ≤ 8 by first | omega | decide)) ca_X12_whoseCell q6_239 ⟨rfl, rfl⟩ ⟨(show 0 + 1 ≤ 2 * n + 8 by omega), (show 8 + (2 + 11) + (0) ≤ 100 * n + 300 by omega)⟩ (rc_model hK hP) hK hP hD hS hZ rfl hl.1 rfl (Nat.le_of_ble_eq_true rfl) ⟨Nat.zero_le _, Nat.zero_le _⟩ dX12_goHeard_169 (fun r_45 wr_45 => ?_)
            have wr_45_0 : True := wr_45
            refine lv_icmp_ne (tgt := 188) hx hb dX12_goHeard_172 (by decide) (fun c_46 => ?_) (fun c_46 => ?_)
            ·
              have kc_46 : r_44.toInt ≠ r_45.toInt := i_ne c_46
              refine lv_iload hx hb dX12_goHeard_188 (lv_at hl 1 rfl) ?_
              refine lv_if_lt (tgt := 209) hx hb dX12_goHeard_190 (by decide) (fun c_47 => ?_) (fun c_47 => ?_)
              ·
                have kc_47 : r_6.toInt < (0 : Int) := i_lt c_47
                refine lv_aload_n hx hb dX12_goHeard_209 rfl (lv_at hl 2 rfl) ?_
                refine lv_iload_n hx hb dX12_goHeard_210 rfl (lv_at hl 5 rfl) ?_
                refine pr_bee1 hx hb hg hown hK hP hD hS (hg _ q5_20) dX12_goHeard_211 (fun H locs hP hD hS => ?_)
                refine lv_aload_n hx hb dX12_goHeard_214 rfl (lv_at hl 2 rfl) ?_
                refine lv_iload hx hb dX12_goHeard_215 (lv_at hl 6 rfl) ?_
                refine pr_liar1 hx hb hg hown hK hP hD hS (hg _ q5_21) dX12_goHeard_217 (fun H locs hP hD hS => ?_)
                refine lv_aload_n hx hb dX12_goHeard_220 rfl (lv_at hl 2 rfl) ?_
                refine lv_iload hx hb dX12_goHeard_221 (lv_at hl 7 rfl) ?_
                refine pr_hour1 hx hb hg hown hK hP hD hS (hg _ q5_22) dX12_goHeard_223 (fun H locs hP hD hS => ?_)
                refine lv_aload_n hx hb dX12_goHeard_226 rfl (lv_at hl 2 rfl) ?_
                refine lv_iload hx hb dX12_goHeard_227 (lv_at hl 8 rfl) ?_
                refine pr_lies1 hx hb hg hown hK hP hD hS (hg _ q5_23) dX12_goHeard_229 (fun H locs hP hD hS => ?_)
                obtain ⟨x_48, ex_48⟩ : ∃ y : Int32, y = x7 + 1 := ⟨_, rfl⟩
                have fx_48 : x_48.toInt = x7.toInt + 1 := by rw [ex_48]; exact i_add (by first | omega | (show (_ : Int) ≤ x7.toInt + 1; omega)) (by first | omega | (show x7.toInt + 1 ≤ (_ : Int); omega))
                refine lv_iinc (v := x_48) (lv' := [(7, .int x_48), (9, .int o_u33_7), (8, .int r_6), (0, .ref (bd 0)), (1, .int p1), (2, .int p2), (3, .int x3), (4, .int x4), (5, .int x5), (6, .int x6)]) hx hb dX12_goHeard_232 hl (k := 9) rfl (by rw [ex_48]; rfl) (by decide) rfl (fun ls hl => ?_)
                refine lv_goto (tgt := 106) hx hb dX12_goHeard_235 (by decide) ?_
                exact ih x3 x4 x5 x6 x_48 o_u33_7 o_u34_8 x3 x4 x5 x6 o_b32_12 o_b25_14 o_b26_15 c106_u49 c106_u52 c106_u50 c106_u51 _ _ (by omega) (by omega) (by omega) (by omega) (show -1 ≤ x4.toInt by first | omega | assumption) (show x4.toInt < (u 1).toInt by first | omega | assumption) (by omega) hP hD hS ls (lv_sub hl [3, 4, 5, 6, 7, 8, 9, 0] rfl)
              ·
                have kc_47 : (0 : Int) ≤ r_6.toInt := i_nlt c_47
                refine lv_iload hx hb dX12_goHeard_193 (lv_at hl 0 rfl) ?_
                refine lv_if_ne (tgt := 209) hx hb dX12_goHeard_195 (by decide) (fun c_49 => ?_) (fun c_49 => ?_)
                ·
                  have kc_49 : o_u33_7.toInt ≠ (0 : Int) := i_ne c_49
                  refine lv_aload_n hx hb dX12_goHeard_209 rfl (lv_at hl 2 rfl) ?_
                  refine lv_iload_n hx hb dX12_goHeard_210 rfl (lv_at hl 5 rfl) ?_
                  refine pr_bee1 hx hb hg hown hK hP hD hS (hg _ q5_20) dX12_goHeard_211 (fun H locs hP hD hS => ?_)
                  refine lv_aload_n hx hb dX12_goHeard_214 rfl (lv_at hl 2 rfl) ?_
                  refine lv_iload hx hb dX12_goHeard_215 (lv_at hl 6 rfl) ?_
                  refine pr_liar1 hx hb hg hown hK hP hD hS (hg _ q5_21) dX12_goHeard_217 (fun H locs hP hD hS => ?_)
                  refine lv_aload_n hx hb dX12_goHeard_220 rfl (lv_at hl 2 rfl) ?_
                  refine lv_iload hx hb dX12_goHeard_221 (lv_at hl 7 rfl) ?_
                  refine pr_hour1 hx hb hg hown hK hP hD hS (hg _ q5_22) dX12_goHeard_223 (fun H locs hP hD hS => ?_)
                  refine lv_aload_n hx hb dX12_goHeard_226 rfl (lv_at hl 2 rfl) ?_
                  refine lv_iload hx hb dX12_goHeard_227 (lv_at hl 8 rfl) ?_
                  refine pr_lies1 hx hb hg hown hK hP hD hS (hg _ q5_23) dX12_goHeard_229 (fun H locs hP hD hS => ?_)
                  obtain ⟨x_50, ex_50⟩ : ∃ y : Int32, y = x7 + 1 := ⟨_, rfl⟩
                  have fx_50 : x_50.toInt = x7.toInt + 1 := by rw [ex_50]; exact i_add (by first | omega | (show (_ : Int) ≤ x7.toInt + 1; omega)) (by first | omega | (show x7.toInt + 1 ≤ (_ : Int); omega))
                  refine lv_iinc (v := x_50) (lv' := [(7, .int x_50), (9, .int o_u33_7), (8, .int r_6), (0, .ref (bd 0)), (1, .int p1), (2, .int p2), (3, .int x3), (4, .int x4), (5, .int x5), (6, .int x6)]) hx hb dX12_goHeard_232 hl (k := 9) rfl (by rw [ex_50]; rfl) (by decide) rfl (fun ls hl => ?_)
                  refine lv_goto (tgt := 106) hx hb dX12_goHeard_235 (by decide) ?_
                  exact ih x3 x4 x5 x6 x_50 o_u33_7 o_u34_8 x3 x4 x5 x6 o_b32_12 o_b25_14 o_b26_15 c106_u49 c106_u52 c106_u50 c106_u51 _ _ (by omega) (by omega) (by omega) (by omega) (show -1 ≤ x4.toInt by first | omega | assumption) (show x4.toInt < (u 1).toInt by first | omega | assumption) (by omega) hP hD hS ls (lv_sub hl [3, 4, 5, 6, 7, 8, 9, 0] rfl)
                ·
                  have kc_49 : o_u33_7.toInt = (0 : Int) := i_eq c_49
                  refine lv_aload_n hx hb dX12_goHeard_198 rfl (lv_at hl 2 rfl) ?_
                  refine gr_pads1 hx hb hg hown hK hP (hg _ q5_24) dX12_goHeard_199 ?_
                  refine lv_iload hx hb dX12_goHeard_202 (lv_at hl 1 rfl) ?_
                  refine lv_dup2_11 hx hb dX12_goHeard_204 rfl rfl ?_
                  refine lr_pads1 hx hb hK hP (i_in (by omega) (by omega)) dX12_goHeard_205 ?_
                  refine lv_topi (fun x_51 ex_51 => ?_)
                  have ex_51 : x_51 = o_b32_12 r_6.toNatClampNeg := ex_51
                  have hx_51 : x_51.toInt = (o_b32_12 r_6.toNatClampNeg).toInt := by rw [ex_51]
                  refine lv_iconst (v := 1) hx hb dX12_goHeard_206 (by decide) ?_
                  refine lv_iadd hx hb dX12_goHeard_207 ?_
                  refine lv_topi (fun x_52 ex_52 => ?_)
                  refine sr_pads1 hx hb hK hP hD hS (i_in (by omega) (by omega)) dX12_goHeard_208 (fun H locs hP hD hS => ?_)
                  refine lv_aload_n hx hb dX12_goHeard_209 rfl (lv_at hl 2 rfl) ?_
                  refine lv_iload_n hx hb dX12_goHeard_210 rfl (lv_at hl 5 rfl) ?_
                  refine pr_bee1 hx hb hg hown hK hP hD hS (hg _ q5_20) dX12_goHeard_211 (fun H locs hP hD hS => ?_)
                  refine lv_aload_n hx hb dX12_goHeard_214 rfl (lv_at hl 2 rfl) ?_
                  refine lv_iload hx hb dX12_goHeard_215 (lv_at hl 6 rfl) ?_
                  refine pr_liar1 hx hb hg hown hK hP hD hS (hg _ q5_21) dX12_goHeard_217 (fun H locs hP hD hS => ?_)
                  refine lv_aload_n hx hb dX12_goHeard_220 rfl (lv_at hl 2 rfl) ?_
                  refine lv_iload hx hb dX12_goHeard_221 (lv_at hl 7 rfl) ?_
                  refine pr_hour1 hx hb hg hown hK hP hD hS (hg _ q5_22) dX12_goHeard_223 (fun H locs hP hD hS => ?_)
                  refine lv_aload_n hx hb dX12_goHeard_226 rfl (lv_at hl 2 rfl) ?_
                  refine lv_iload hx hb dX12_goHeard_227 (lv_at hl 8 rfl) ?_
                  refine pr_lies1 hx hb hg hown hK hP hD hS (hg _ q5_23) dX12_goHeard_229 (fun H locs hP hD hS => ?_)
                  obtain ⟨x_53, ex_53⟩ : ∃ y : Int32, y = x7 + 1 := ⟨_, rfl⟩
                  have fx_53 : x_53.toInt = x7.toInt + 1 := by rw [ex_53]; exact i_add (by first | omega | (show (_ : Int) ≤ x7.toInt + 1; omega)) (by first | omega | (show x7.toInt + 1 ≤ (_ : Int); omega))
                  refine lv_iinc (v := x_53) (lv' := [(7, .int x_53), (9, .int o_u33_7), (8, .int r_6), (0, .ref (bd 0)), (1, .int p1), (2, .int p2), (3, .int x3), (4, .int x4), (5, .int x5), (6, .int x6)]) hx hb dX12_goHeard_232 hl (k := 9) rfl (by rw [ex_53]; rfl) (by decide) rfl (fun ls hl => ?_)
                  refine lv_goto (tgt := 106) hx hb dX12_goHeard_235 (by decide) ?_
                  exact ih x3 x4 x5 x6 x_53 o_u33_7 o_u34_8 x3 x4 x5 x6 (upd o_b32_12 r_6.toNatClampNeg x_52) o_b25_14 o_b26_15 c106_u49 c106_u52 c106_u50 c106_u51 _ _ (by omega) (by omega) (by omega) (by omega) (show -1 ≤ x4.toInt by first | omega | assumption) (show x4.toInt < (u 1).toInt by first | omega | assumption) (by omega) hP hD hS ls (lv_sub hl [3, 4, 5, 6, 7, 8, 9, 0] rfl)
            ·
              have kc_46 : r_44.toInt = r_45.toInt := i_eq c_46
              refine lv_aload_n hx hb dX12_goHeard_175 rfl (lv_at hl 2 rfl) ?_
              refine lv_iload_n hx hb dX12_goHeard_176 rfl (lv_at hl 3 rfl) ?_
              refine lv_iconst (v := 1) hx hb dX12_goHeard_177 (by decide) ?_
              refine lv_iadd hx hb dX12_goHeard_178 ?_
              refine lv_topi (fun x_54 ex_54 => ?_)
              have fx_54 : x_54.toInt = p1.toInt + (1 : Int) := by rw [ex_54]; exact i_add (by first | omega | (show (_ : Int) ≤ p1.toInt + (1 : Int); omega)) (by first | omega | (show p1.toInt + (1 : Int) ≤ (_ : Int); omega))
              refine lv_iload_n hx hb dX12_goHeard_179 rfl (lv_at hl 4 rfl) ?_
              refine lv_iload hx hb dX12_goHeard_180 (lv_at hl 9 rfl) ?_
              refine lv_iload_n hx hb dX12_goHeard_182 rfl (lv_at hl 3 rfl) ?_
              refine lv_ishl hx hb dX12_goHeard_183 ?_
              refine lv_topi (fun x_55 ex_55 => ?_)
              refine lv_ior hx hb dX12_goHeard_184 ?_
              refine lv_topi (fun x_56 ex_56 => ?_)
              refine cV_v (As := [.int x_54, .int x_56]) (rest := []) ⟨hx, hb, hml, hown, hg⟩ ((hrec (n - 1) (by omega)) l D cs A bd (va_up (va_up (va_up (va_up (va_up (va_up (va_up (va_up (va_up (va_up u 49 c106_u49) 52 c106_u52) 50 c106_u50) 51 c106_u51) 33 o_u33_7) 34 o_u34_8) 30 o_u30_9) 28 o_u28_10) 29 o_u29_11) 31 o_u31_13) (va_up (va_up (va_up b 32 o_b32_12) 25 o_b25_14) 26 o_b26_15) bw  x_54 x_56 (show 0 ≤ x_54.toInt by first | omega | decide) (show x_54.toInt ≤ (u 48).toInt by first | omega | decide) (show (u 48).toInt ≤ 12 by first | omega | decide) (show 12 ≤ x_54.toInt + ((n - 1 : Nat) : Int) by first | omega | decide) (by assumption) hlaw (show 0 ≤ (u 46).toInt by first | omega | decide) (show (u 46).toInt ≤ 5 by first | omega | decide) (show 0 ≤ (u 1).toInt by first | omega | decide) (show (u 1).toInt ≤ 8 by first | omega | decide) (show -1 ≤ o_u29_11.toInt by first | omega | decide) (show o_u29_11.toInt < (u 1).toInt by first | omega | decide) ib23_0 ib24_0 ib20_0 (show 0 ≤ (u 47).toInt by first | omega | decide) (show (u 47).toInt ≤ 5 by first | omega | decide) ib67_0 (show 0 ≤ (u 48).toInt by first | omega | decide) (show (u 48).toInt ≤ 24 by first | omega | decide)) ca_X12_goHeard q6_235 ⟨rfl, rfl⟩ ⟨(show 2 * (n - 1) + 8 + 1 ≤ 2 * n + 8 by omega), (show 8 + (10 + 11) + (100 * (n - 1) + 300) ≤ 100 * n + 300 by omega)⟩ (rc_model hK hP) hK hP hD hS hZ rfl hl.1 rfl (Nat.le_of_ble_eq_true rfl) ⟨Nat.zero_le _, Nat.zero_le _⟩ dX12_goHeard_185 (fun z_71 H locs wr_57 hP hD hS => ?_)
              obtain ⟨o_u49_58, o_u52_59, o_u50_60, o_u51_61, o_u33_62, o_u34_63, o_u28_64, o_u29_65, o_u30_66, o_u31_67, o_b32_68, o_b25_69, o_b26_70⟩ := z_71
              have hP : va_P D vwCl (RW cs bd (va_up (va_up (va_up (va_up (va_up (va_up (va_up (va_up (va_up (va_up u 49 o_u49_58) 52 o_u52_59) 50 o_u50_60) 51 o_u51_61) 33 o_u33_62) 34 o_u34_63) 28 o_u28_64) 29 o_u29_65) 30 o_u30_66) 31 o_u31_67) (va_up (va_up (va_up b 32 o_b32_68) 25 o_b25_69) 26 o_b26_70) bw) H := hP
              have hD : va_D A (RW cs bd (va_up (va_up (va_up (va_up (va_up (va_up (va_up (va_up (va_up (va_up u 49 o_u49_58) 52 o_u52_59) 50 o_u50_60) 51 o_u51_61) 33 o_u33_62) 34 o_u34_63) 28 o_u28_64) 29 o_u29_65) 30 o_u30_66) 31 o_u31_67) (va_up (va_up (va_up b 32 o_b32_68) 25 o_b25_69) 26 o_b26_70) bw) := hD
              obtain ⟨wr_57_0, wr_57_1⟩ : (-1 ≤ o_u29_65.toInt) ∧ (o_u29_65.toInt < (u 1).toInt) := wr_57
              refine lv_iload hx hb dX12_goHeard_188 (lv_at hl 1 rfl) ?_
              refine lv_if_lt (tgt := 209) hx hb dX12_goHeard_190 (by decide) (fun c_72 => ?_) (fun c_72 => ?_)
              ·
                have kc_72 : r_6.toInt < (0 : Int) := i_lt c_72
                refine lv_aload_n hx hb dX12_goHeard_209 rfl (lv_at hl 2 rfl) ?_
                refine lv_iload_n hx hb dX12_goHeard_210 rfl (lv_at hl 5 rfl) ?_
                refine pr_bee1 hx hb hg hown hK hP hD hS (hg _ q5_20) dX12_goHeard_211 (fun H locs hP hD hS => ?_)
                refine lv_aload_n hx hb dX12_goHeard_214 rfl (lv_at hl 2 rfl) ?_
                refine lv_iload hx hb dX12_goHeard_215 (lv_at hl 6 rfl) ?_
                refine pr_liar1 hx hb hg hown hK hP hD hS (hg _ q5_21) dX12_goHeard_217 (fun H locs hP hD hS => ?_)
                refine lv_aload_n hx hb dX12_goHeard_220 rfl (lv_at hl 2 rfl) ?_
                refine lv_iload hx hb dX12_goHeard_221 (lv_at hl 7 rfl) ?_
                refine pr_hour1 hx hb hg hown hK hP hD hS (hg _ q5_22) dX12_goHeard_223 (fun H locs hP hD hS => ?_)
                refine lv_aload_n hx hb dX12_goHeard_226 rfl (lv_at hl 2 rfl) ?_
                refine lv_iload hx hb dX12_goHeard_227 (lv_at hl 8 rfl) ?_
                refine pr_lies1 hx hb hg hown hK hP hD hS (hg _ q5_23) dX12_goHeard_229 (fun H locs hP hD hS => ?_)
                obtain ⟨x_73, ex_73⟩ : ∃ y : Int32, y = x7 + 1 := ⟨_, rfl⟩
                have fx_73 : x_73.toInt = x7.toInt + 1 := by rw [ex_73]; exact i_add (by first | omega | (show (_ : Int) ≤ x7.toInt + 1; omega)) (by first | omega | (show x7.toInt + 1 ≤ (_ : Int); omega))
                refine lv_iinc (v := x_73) (lv' := [(7, .int x_73), (9, .int o_u33_7), (8, .int r_6), (0, .ref (bd 0)), (1, .int p1), (2, .int p2), (3, .int x3), (4, .int x4), (5, .int x5), (6, .int x6)]) hx hb dX12_goHeard_232 hl (k := 9) rfl (by rw [ex_73]; rfl) (by decide) rfl (fun ls hl => ?_)
                refine lv_goto (tgt := 106) hx hb dX12_goHeard_235 (by decide) ?_
                exact ih x3 x4 x5 x6 x_73 o_u33_62 o_u34_63 x3 x4 x5 x6 o_b32_68 o_b25_69 o_b26_70 o_u49_58 o_u52_59 o_u50_60 o_u51_61 _ _ (by omega) (by omega) (by omega) (by omega) (show -1 ≤ x4.toInt by first | omega | assumption) (show x4.toInt < (u 1).toInt by first | omega | assumption) (by omega) hP hD hS ls (lv_sub hl [3, 4, 5, 6, 7, 8, 9, 0] rfl)
              ·
                have kc_72 : (0 : Int) ≤ r_6.toInt := i_nlt c_72
                refine lv_iload hx hb dX12_goHeard_193 (lv_at hl 0 rfl) ?_
                refine lv_if_ne (tgt := 209) hx hb dX12_goHeard_195 (by decide) (fun c_74 => ?_) (fun c_74 => ?_)
                ·
                  have kc_74 : o_u33_7.toInt ≠ (0 : Int) := i_ne c_74
                  refine lv_aload_n hx hb dX12_goHeard_209 rfl (lv_at hl 2 rfl) ?_
                  refine lv_iload_n hx hb dX12_goHeard_210 rfl (lv_at hl 5 rfl) ?_
                  refine pr_bee1 hx hb hg hown hK hP hD hS (hg _ q5_20) dX12_goHeard_211 (fun H locs hP hD hS => ?_)
                  refine lv_aload_n hx hb dX12_goHeard_214 rfl (lv_at hl 2 rfl) ?_
                  refine lv_iload hx hb dX12_goHeard_215 (lv_at hl 6 rfl) ?_
                  refine pr_liar1 hx hb hg hown hK hP hD hS (hg _ q5_21) dX12_goHeard_217 (fun H locs hP hD hS => ?_)
                  refine lv_aload_n hx hb dX12_goHeard_220 rfl (lv_at hl 2 rfl) ?_
                  refine lv_iload hx hb dX12_goHeard_221 (lv_at hl 7 rfl) ?_
                  refine pr_hour1 hx hb hg hown hK hP hD hS (hg _ q5_22) dX12_goHeard_223 (fun H locs hP hD hS => ?_)
                  refine lv_aload_n hx hb dX12_goHeard_226 rfl (lv_at hl 2 rfl) ?_
                  refine lv_iload hx hb dX12_goHeard_227 (lv_at hl 8 rfl) ?_
                  refine pr_lies1 hx hb hg hown hK hP hD hS (hg _ q5_23) dX12_goHeard_229 (fun H locs hP hD hS => ?_)
                  obtain ⟨x_75, ex_75⟩ : ∃ y : Int32, y = x7 + 1 := ⟨_, rfl⟩
                  have fx_75 : x_75.toInt = x7.toInt + 1 := by rw [ex_75]; exact i_add (by first | omega | (show (_ : Int) ≤ x7.toInt + 1; omega)) (by first | omega | (show x7.toInt + 1 ≤ (_ : Int); omega))
                  refine lv_iinc (v := x_75) (lv' := [(7, .int x_75), (9, .int o_u33_7), (8, .int r_6), (0, .ref (bd 0)), (1, .int p1), (2, .int p2), (3, .int x3), (4, .int x4), (5, .int x5), (6, .int x6)]) hx hb dX12_goHeard_232 hl (k := 9) rfl (by rw [ex_75]; rfl) (by decide) rfl (fun ls hl => ?_)
                  refine lv_goto (tgt := 106) hx hb dX12_goHeard_235 (by decide) ?_
                  exact ih x3 x4 x5 x6 x_75 o_u33_62 o_u34_63 x3 x4 x5 x6 o_b32_68 o_b25_69 o_b26_70 o_u49_58 o_u52_59 o_u50_60 o_u51_61 _ _ (by omega) (by omega) (by omega) (by omega) (show -1 ≤ x4.toInt by first | omega | assumption) (show x4.toInt < (u 1).toInt by first | omega | assumption) (by omega) hP hD hS ls (lv_sub hl [3, 4, 5, 6, 7, 8, 9, 0] rfl)
                ·
                  have kc_74 : o_u33_7.toInt = (0 : Int) := i_eq c_74
                  refine lv_aload_n hx hb dX12_goHeard_198 rfl (lv_at hl 2 rfl) ?_
                  refine gr_pads1 hx hb hg hown hK hP (hg _ q5_24) dX12_goHeard_199 ?_
                  refine lv_iload hx hb dX12_goHeard_202 (lv_at hl 1 rfl) ?_
                  refine lv_dup2_11 hx hb dX12_goHeard_204 rfl rfl ?_
                  refine lr_pads1 hx hb hK hP (i_in (by omega) (by omega)) dX12_goHeard_205 ?_
                  refine lv_topi (fun x_76 ex_76 => ?_)
                  have ex_76 : x_76 = o_b32_68 r_6.toNatClampNeg := ex_76
                  have hx_76 : x_76.toInt = (o_b32_68 r_6.toNatClampNeg).toInt := by rw [ex_76]
                  refine lv_iconst (v := 1) hx hb dX12_goHeard_206 (by decide) ?_
                  refine lv_iadd hx hb dX12_goHeard_207 ?_
                  refine lv_topi (fun x_77 ex_77 => ?_)
                  refine sr_pads1 hx hb hK hP hD hS (i_in (by omega) (by omega)) dX12_goHeard_208 (fun H locs hP hD hS => ?_)
                  refine lv_aload_n hx hb dX12_goHeard_209 rfl (lv_at hl 2 rfl) ?_
                  refine lv_iload_n hx hb dX12_goHeard_210 rfl (lv_at hl 5 rfl) ?_
                  refine pr_bee1 hx hb hg hown hK hP hD hS (hg _ q5_20) dX12_goHeard_211 (fun H locs hP hD hS => ?_)
                  refine lv_aload_n hx hb dX12_goHeard_214 rfl (lv_at hl 2 rfl) ?_
                  refine lv_iload hx hb dX12_goHeard_215 (lv_at hl 6 rfl) ?_
                  refine pr_liar1 hx hb hg hown hK hP hD hS (hg _ q5_21) dX12_goHeard_217 (fun H locs hP hD hS => ?_)
                  refine lv_aload_n hx hb dX12_goHeard_220 rfl (lv_at hl 2 rfl) ?_
                  refine lv_iload hx hb dX12_goHeard_221 (lv_at hl 7 rfl) ?_
                  refine pr_hour1 hx hb hg hown hK hP hD hS (hg _ q5_22) dX12_goHeard_223 (fun H locs hP hD hS => ?_)
                  refine lv_aload_n hx hb dX12_goHeard_226 rfl (lv_at hl 2 rfl) ?_
                  refine lv_iload hx hb dX12_goHeard_227 (lv_at hl 8 rfl) ?_
                  refine pr_lies1 hx hb hg hown hK hP hD hS (hg _ q5_23) dX12_goHeard_229 (fun H locs hP hD hS => ?_)
                  obtain ⟨x_78, ex_78⟩ : ∃ y : Int32, y = x7 + 1 := ⟨_, rfl⟩
                  have fx_78 : x_78.toInt = x7.toInt + 1 := by rw [ex_78]; exact i_add (by first | omega | (show (_ : Int) ≤ x7.toInt + 1; omega)) (by first | omega | (show x7.toInt + 1 ≤ (_ : Int); omega))
                  refine lv_iinc (v := x_78) (lv' := [(7, .int x_78), (9, .int o_u33_7), (8, .int r_6), (0, .ref (bd 0)), (1, .int p1), (2, .int p2), (3, .int x3), (4, .int x4), (5, .int x5), (6, .int x6)]) hx hb dX12_goHeard_232 hl (k := 9) rfl (by rw [ex_78]; rfl) (by decide) rfl (fun ls hl => ?_)
                  refine lv_goto (tgt := 106) hx hb dX12_goHeard_235 (by decide) ?_
                  exact ih x3 x4 x5 x6 x_78 o_u33_62 o_u34_63 x3 x4 x5 x6 (upd o_b32_68 r_6.toNatClampNeg x_77) o_b25_69 o_b26_70 o_u49_58 o_u52_59 o_u50_60 o_u51_61 _ _ (by omega) (by omega) (by omega) (by omega) (show -1 ≤ x4.toInt by first | omega | assumption) (show x4.toInt < (u 1).toInt by first | omega | assumption) (by omega) hP hD hS ls (lv_sub hl [3, 4, 5, 6, 7, 8, 9, 0] rfl)
        ·
          have kc_5 : x7.toInt = (1 : Int) := i_eq c_5
          refine lv_iconst (v := 1) hx hb dX12_goHeard_130 (by decide) ?_
          refine lv_goto (tgt := 135) hx hb dX12_goHeard_131 (by decide) ?_
          refine cV_i (As := [.int x_4, .int 1]) (rest := []) ⟨hx, hb, hml, hown, hg⟩ (k_X12_goSaying l D cs A bd (va_up (va_up (va_up (va_up (va_up (va_up (va_up (va_up (va_up (va_up u 33 c106_u33) 34 c106_u34) 28 c106_u28) 29 c106_u29) 30 c106_u30) 31 c106_u31) 49 c106_u49) 52 c106_u52) 50 c106_u50) 51 c106_u51) (va_up (va_up (va_up b 32 c106_b32) 25 c106_b25) 26 c106_b26) bw  x_4 1 (show 0 ≤ x_4.toInt by first | omega | decide) (show x_4.toInt < (u 1).toInt by first | omega | decide) hlaw (show 0 ≤ (u 1).toInt by first | omega | decide) (show (u 1).toInt ≤ 8 by first | omega | decide) (show -1 ≤ c106_u29.toInt by first | omega | decide) (show c106_u29.toInt < (u 1).toInt by first | omega | decide) ib23_0 ib24_0 ib20_0) ca_X12_goSaying q6_148 ⟨rfl, rfl⟩ ⟨(show 4 + 1 ≤ 2 * n + 8 by omega), (show 8 + (4 + 11) + (93) ≤ 100 * n + 300 by omega)⟩ (rc_model hK hP) hK hP hD hS hZ rfl hl.1 rfl (Nat.le_of_ble_eq_true rfl) ⟨Nat.zero_le _, Nat.zero_le _⟩ dX12_goHeard_135 (fun r_79 z_89 H locs wr_79 hP hD hS => ?_)
          obtain ⟨o_u33_80, o_u34_81, o_u30_82, o_u28_83, o_u29_84, o_b32_85, o_u31_86, o_b25_87, o_b26_88⟩ := z_89
          have hP : va_P D vwCl (RW cs bd (va_up (va_up (va_up (va_up (va_up (va_up (va_up (va_up (va_up (va_up u 49 c106_u49) 52 c106_u52) 50 c106_u50) 51 c106_u51) 33 o_u33_80) 34 o_u34_81) 30 o_u30_82) 28 o_u28_83) 29 o_u29_84) 31 o_u31_86) (va_up (va_up (va_up b 32 o_b32_85) 25 o_b25_87) 26 o_b26_88) bw) H := hP
          have hD : va_D A (RW cs bd (va_up (va_up (va_up (va_up (va_up (va_up (va_up (va_up (va_up (va_up u 49 c106_u49) 52 c106_u52) 50 c106_u50) 51 c106_u51) 33 o_u33_80) 34 o_u34_81) 30 o_u30_82) 28 o_u28_83) 29 o_u29_84) 31 o_u31_86) (va_up (va_up (va_up b 32 o_b32_85) 25 o_b25_87) 26 o_b26_88) bw) := hD
          obtain ⟨wr_79_0, wr_79_1, wr_79_2⟩ : (r_79.toInt = -1 ∨ (0 ≤ r_79.toInt ∧ r_79.toInt < (u 1).toInt)) ∧ (-1 ≤ o_u29_84.toInt) ∧ (o_u29_84.toInt < (u 1).toInt) := wr_79
          refine lv_istore (lv' := [(8, .int r_79), (0, .ref (bd 0)), (1, .int p1), (2, .int p2), (3, .int x3), (4, .int x4), (5, .int x5), (6, .int x6), (7, .int x7)]) hx hb dX12_goHeard_138 hl (by decide) rfl (fun ls hl => ?_)
          refine lv_aload_n hx hb dX12_goHeard_140 rfl (lv_at hl 1 rfl) ?_
          refine gr_hurt1 hx hb hg hown hK hP (x := o_u33_80) rfl (hg _ q5_25) dX12_goHeard_141 ?_
          refine lv_istore (lv' := [(9, .int o_u33_80), (8, .int r_79), (0, .ref (bd 0)), (1, .int p1), (2, .int p2), (3, .int x3), (4, .int x4), (5, .int x5), (6, .int x6), (7, .int x7)]) hx hb dX12_goHeard_144 hl (by decide) rfl (fun ls hl => ?_)
          refine lv_iload_n hx hb dX12_goHeard_146 rfl (lv_at hl 3 rfl) ?_
          refine lv_aload_n hx hb dX12_goHeard_147 rfl (lv_at hl 2 rfl) ?_
          refine gr_size hx hb hg hown hK hP (hg _ q5_59) dX12_goHeard_148 ?_
          refine lv_aload_n hx hb dX12_goHeard_151 rfl (lv_at hl 2 rfl) ?_
          refine gr_toldShelf hx hb hg hown hK hP (x := (u 47)) rfl (hg _ q5_39) dX12_goHeard_152 ?_
          refine lr_size hx hb hK hP (i_in (by omega) (by omega)) dX12_goHeard_155 ?_
          refine lv_topi (fun x_90 ex_90 => ?_)
          have ex_90 : x_90 = (b 67) (u 47).toNatClampNeg := ex_90
          have hx_90 : x_90.toInt = ((b 67) (u 47).toNatClampNeg).toInt := by rw [ex_90]
          have bx_90 := ib67_0 (u 47).toNatClampNeg
          rw [← ex_90] at bx_90
          refine lv_icmp_ge (tgt := 175) hx hb dX12_goHeard_156 (by decide) (fun c_91 => ?_) (fun c_91 => ?_)
          ·
            have kc_91 : x_90.toInt ≤ p1.toInt := i_le c_91
            refine lv_aload_n hx hb dX12_goHeard_175 rfl (lv_at hl 2 rfl) ?_
            refine lv_iload_n hx hb dX12_goHeard_176 rfl (lv_at hl 3 rfl) ?_
            refine lv_iconst (v := 1) hx hb dX12_goHeard_177 (by decide) ?_
            refine lv_iadd hx hb dX12_goHeard_178 ?_
            refine lv_topi (fun x_92 ex_92 => ?_)
            have fx_92 : x_92.toInt = p1.toInt + (1 : Int) := by rw [ex_92]; exact i_add (by first | omega | (show (_ : Int) ≤ p1.toInt + (1 : Int); omega)) (by first | omega | (show p1.toInt + (1 : Int) ≤ (_ : Int); omega))
            refine lv_iload_n hx hb dX12_goHeard_179 rfl (lv_at hl 4 rfl) ?_
            refine lv_iload hx hb dX12_goHeard_180 (lv_at hl 9 rfl) ?_
            refine lv_iload_n hx hb dX12_goHeard_182 rfl (lv_at hl 3 rfl) ?_
            refine lv_ishl hx hb dX12_goHeard_183 ?_
            refine lv_topi (fun x_93 ex_93 => ?_)
            refine lv_ior hx hb dX12_goHeard_184 ?_
            refine lv_topi (fun x_94 ex_94 => ?_)
            refine cV_v (As := [.int x_92, .int x_94]) (rest := []) ⟨hx, hb, hml, hown, hg⟩ ((hrec (n - 1) (by omega)) l D cs A bd (va_up (va_up (va_up (va_up (va_up (va_up (va_up (va_up (va_up (va_up u 49 c106_u49) 52 c106_u52) 50 c106_u50) 51 c106_u51) 33 o_u33_80) 34 o_u34_81) 30 o_u30_82) 28 o_u28_83) 29 o_u29_84) 31 o_u31_86) (va_up (va_up (va_up b 32 o_b32_85) 25 o_b25_87) 26 o_b26_88) bw  x_92 x_94 (show 0 ≤ x_92.toInt by first | omega | decide) (show x_92.toInt ≤ (u 48).toInt by first | omega | decide) (show (u 48).toInt ≤ 12 by first | omega | decide) (show 12 ≤ x_92.toInt + ((n - 1 : Nat) : Int) by first | omega | decide) (by assumption) hlaw (show 0 ≤ (u 46).toInt by first | omega | decide) (show (u 46).toInt ≤ 5 by first | omega | decide) (show 0 ≤ (u 1).toInt by first | omega | decide) (show (u 1).toInt ≤ 8 by first | omega | decide) (show -1 ≤ o_u29_84.toInt by first | omega | decide) (show o_u29_84.toInt < (u 1).toInt by first | omega | decide) ib23_0 ib24_0 ib20_0 (show 0 ≤ (u 47).toInt by first | omega | decide) (show (u 47).toInt ≤ 5 by first | omega | decide) ib67_0 (show 0 ≤ (u 48).toInt by first | omega | decide) (show (u 48).toInt ≤ 24 by first | omega | decide)) ca_X12_goHeard q6_235 ⟨rfl, rfl⟩ ⟨(show 2 * (n - 1) + 8 + 1 ≤ 2 * n + 8 by omega), (show 8 + (10 + 11) + (100 * (n - 1) + 300) ≤ 100 * n + 300 by omega)⟩ (rc_model hK hP) hK hP hD hS hZ rfl hl.1 rfl (Nat.le_of_ble_eq_true rfl) ⟨Nat.zero_le _, Nat.zero_le _⟩ dX12_goHeard_185 (fun z_109 H locs wr_95 hP hD hS => ?_)
            obtain ⟨o_u49_96, o_u52_97, o_u50_98, o_u51_99, o_u33_100, o_u34_101, o_u28_102, o_u29_103, o_u30_104, o_u31_105, o_b32_106, o_b25_107, o_b26_108⟩ := z_109
            have hP : va_P D vwCl (RW cs bd (va_up (va_up (va_up (va_up (va_up (va_up (va_up (va_up (va_up (va_up u 49 o_u49_96) 52 o_u52_97) 50 o_u50_98) 51 o_u51_99) 33 o_u33_100) 34 o_u34_101) 28 o_u28_102) 29 o_u29_103) 30 o_u30_104) 31 o_u31_105) (va_up (va_up (va_up b 32 o_b32_106) 25 o_b25_107) 26 o_b26_108) bw) H := hP
            have hD : va_D A (RW cs bd (va_up (va_up (va_up (va_up (va_up (va_up (va_up (va_up (va_up (va_up u 49 o_u49_96) 52 o_u52_97) 50 o_u50_98) 51 o_u51_99) 33 o_u33_100) 34 o_u34_101) 28 o_u28_102) 29 o_u29_103) 30 o_u30_104) 31 o_u31_105) (va_up (va_up (va_up b 32 o_b32_106) 25 o_b25_107) 26 o_b26_108) bw) := hD
            obtain ⟨wr_95_0, wr_95_1⟩ : (-1 ≤ o_u29_103.toInt) ∧ (o_u29_103.toInt < (u 1).toInt) := wr_95
            refine lv_iload hx hb dX12_goHeard_188 (lv_at hl 1 rfl) ?_
            refine lv_if_lt (tgt := 209) hx hb dX12_goHeard_190 (by decide) (fun c_110 => ?_) (fun c_110 => ?_)
            ·
              have kc_110 : r_79.toInt < (0 : Int) := i_lt c_110
              refine lv_aload_n hx hb dX12_goHeard_209 rfl (lv_at hl 2 rfl) ?_
              refine lv_iload_n hx hb dX12_goHeard_210 rfl (lv_at hl 5 rfl) ?_
              refine pr_bee1 hx hb hg hown hK hP hD hS (hg _ q5_20) dX12_goHeard_211 (fun H locs hP hD hS => ?_)
              refine lv_aload_n hx hb dX12_goHeard_214 rfl (lv_at hl 2 rfl) ?_
              refine lv_iload hx hb dX12_goHeard_215 (lv_at hl 6 rfl) ?_
              refine pr_liar1 hx hb hg hown hK hP hD hS (hg _ q5_21) dX12_goHeard_217 (fun H locs hP hD hS => ?_)
              refine lv_aload_n hx hb dX12_goHeard_220 rfl (lv_at hl 2 rfl) ?_
              refine lv_iload hx hb dX12_goHeard_221 (lv_at hl 7 rfl) ?_
              refine pr_hour1 hx hb hg hown hK hP hD hS (hg _ q5_22) dX12_goHeard_223 (fun H locs hP hD hS => ?_)
              refine lv_aload_n hx hb dX12_goHeard_226 rfl (lv_at hl 2 rfl) ?_
              refine lv_iload hx hb dX12_goHeard_227 (lv_at hl 8 rfl) ?_
              refine pr_lies1 hx hb hg hown hK hP hD hS (hg _ q5_23) dX12_goHeard_229 (fun H locs hP hD hS => ?_)
              obtain ⟨x_111, ex_111⟩ : ∃ y : Int32, y = x7 + 1 := ⟨_, rfl⟩
              have fx_111 : x_111.toInt = x7.toInt + 1 := by rw [ex_111]; exact i_add (by first | omega | (show (_ : Int) ≤ x7.toInt + 1; omega)) (by first | omega | (show x7.toInt + 1 ≤ (_ : Int); omega))
              refine lv_iinc (v := x_111) (lv' := [(7, .int x_111), (9, .int o_u33_80), (8, .int r_79), (0, .ref (bd 0)), (1, .int p1), (2, .int p2), (3, .int x3), (4, .int x4), (5, .int x5), (6, .int x6)]) hx hb dX12_goHeard_232 hl (k := 9) rfl (by rw [ex_111]; rfl) (by decide) rfl (fun ls hl => ?_)
              refine lv_goto (tgt := 106) hx hb dX12_goHeard_235 (by decide) ?_
              exact ih x3 x4 x5 x6 x_111 o_u33_100 o_u34_101 x3 x4 x5 x6 o_b32_106 o_b25_107 o_b26_108 o_u49_96 o_u52_97 o_u50_98 o_u51_99 _ _ (by omega) (by omega) (by omega) (by omega) (show -1 ≤ x4.toInt by first | omega | assumption) (show x4.toInt < (u 1).toInt by first | omega | assumption) (by omega) hP hD hS ls (lv_sub hl [3, 4, 5, 6, 7, 8, 9, 0] rfl)
            ·
              have kc_110 : (0 : Int) ≤ r_79.toInt := i_nlt c_110
              refine lv_iload hx hb dX12_goHeard_193 (lv_at hl 0 rfl) ?_
              refine lv_if_ne (tgt := 209) hx hb dX12_goHeard_195 (by decide) (fun c_112 => ?_) (fun c_112 => ?_)
              ·
                have kc_112 : o_u33_80.toInt ≠ (0 : Int) := i_ne c_112
                refine lv_aload_n hx hb dX12_goHeard_209 rfl (lv_at hl 2 rfl) ?_
                refine lv_iload_n hx hb dX12_goHeard_210 rfl (lv_at hl 5 rfl) ?_
                refine pr_bee1 hx hb hg hown hK hP hD hS (hg _ q5_20) dX12_goHeard_211 (fun H locs hP hD hS => ?_)
                refine lv_aload_n hx hb dX12_goHeard_214 rfl (lv_at hl 2 rfl) ?_
                refine lv_iload hx hb dX12_goHeard_215 (lv_at hl 6 rfl) ?_
                refine pr_liar1 hx hb hg hown hK hP hD hS (hg _ q5_21) dX12_goHeard_217 (fun H locs hP hD hS => ?_)
                refine lv_aload_n hx hb dX12_goHeard_220 rfl (lv_at hl 2 rfl) ?_
                refine lv_iload hx hb dX12_goHeard_221 (lv_at hl 7 rfl) ?_
                refine pr_hour1 hx hb hg hown hK hP hD hS (hg _ q5_22) dX12_goHeard_223 (fun H locs hP hD hS => ?_)
                refine lv_aload_n hx hb dX12_goHeard_226 rfl (lv_at hl 2 rfl) ?_
                refine lv_iload hx hb dX12_goHeard_227 (lv_at hl 8 rfl) ?_
                refine pr_lies1 hx hb hg hown hK hP hD hS (hg _ q5_23) dX12_goHeard_229 (fun H locs hP hD hS => ?_)
                obtain ⟨x_113, ex_113⟩ : ∃ y : Int32, y = x7 + 1 := ⟨_, rfl⟩
                have fx_113 : x_113.toInt = x7.toInt + 1 := by rw [ex_113]; exact i_add (by first | omega | (show (_ : Int) ≤ x7.toInt + 1; omega)) (by first | omega | (show x7.toInt + 1 ≤ (_ : Int); omega))
                refine lv_iinc (v := x_113) (lv' := [(7, .int x_113), (9, .int o_u33_80), (8, .int r_79), (0, .ref (bd 0)), (1, .int p1), (2, .int p2), (3, .int x3), (4, .int x4), (5, .int x5), (6, .int x6)]) hx hb dX12_goHeard_232 hl (k := 9) rfl (by rw [ex_113]; rfl) (by decide) rfl (fun ls hl => ?_)
                refine lv_goto (tgt := 106) hx hb dX12_goHeard_235 (by decide) ?_
                exact ih x3 x4 x5 x6 x_113 o_u33_100 o_u34_101 x3 x4 x5 x6 o_b32_106 o_b25_107 o_b26_108 o_u49_96 o_u52_97 o_u50_98 o_u51_99 _ _ (by omega) (by omega) (by omega) (by omega) (show -1 ≤ x4.toInt by first | omega | assumption) (show x4.toInt < (u 1).toInt by first | omega | assumption) (by omega) hP hD hS ls (lv_sub hl [3, 4, 5, 6, 7, 8, 9, 0] rfl)
              ·
                have kc_112 : o_u33_80.toInt = (0 : Int) := i_eq c_112
                refine lv_aload_n hx hb dX12_goHeard_198 rfl (lv_at hl 2 rfl) ?_
                refine gr_pads1 hx hb hg hown hK hP (hg _ q5_24) dX12_goHeard_199 ?_
                refine lv_iload hx hb dX12_goHeard_202 (lv_at hl 1 rfl) ?_
                refine lv_dup2_11 hx hb dX12_goHeard_204 rfl rfl ?_
                refine lr_pads1 hx hb hK hP (i_in (by omega) (by omega)) dX12_goHeard_205 ?_
                refine lv_topi (fun x_114 ex_114 => ?_)
                have ex_114 : x_114 = o_b32_106 r_79.toNatClampNeg := ex_114
                have hx_114 : x_114.toInt = (o_b32_106 r_79.toNatClampNeg).toInt := by rw [ex_114]
                refine lv_iconst (v := 1) hx hb dX12_goHeard_206 (by decide) ?_
                refine lv_iadd hx hb dX12_goHeard_207 ?_
                refine lv_topi (fun x_115 ex_115 => ?_)
                refine sr_pads1 hx hb hK hP hD hS (i_in (by omega) (by omega)) dX12_goHeard_208 (fun H locs hP hD hS => ?_)
                refine lv_aload_n hx hb dX12_goHeard_209 rfl (lv_at hl 2 rfl) ?_
                refine lv_iload_n hx hb dX12_goHeard_210 rfl (lv_at hl 5 rfl) ?_
                refine pr_bee1 hx hb hg hown hK hP hD hS (hg _ q5_20) dX12_goHeard_211 (fun H locs hP hD hS => ?_)
                refine lv_aload_n hx hb dX12_goHeard_214 rfl (lv_at hl 2 rfl) ?_
                refine lv_iload hx hb dX12_goHeard_215 (lv_at hl 6 rfl) ?_
                refine pr_liar1 hx hb hg hown hK hP hD hS (hg _ q5_21) dX12_goHeard_217 (fun H locs hP hD hS => ?_)
                refine lv_aload_n hx hb dX12_goHeard_220 rfl (lv_at hl 2 rfl) ?_
                refine lv_iload hx hb dX12_goHeard_221 (lv_at hl 7 rfl) ?_
                refine pr_hour1 hx hb hg hown hK hP hD hS (hg _ q5_22) dX12_goHeard_223 (fun H locs hP hD hS => ?_)
                refine lv_aload_n hx hb dX12_goHeard_226 rfl (lv_at hl 2 rfl) ?_
                refine lv_iload hx hb dX12_goHeard_227 (lv_at hl 8 rfl) ?_
                refine pr_lies1 hx hb hg hown hK hP hD hS (hg _ q5_23) dX12_goHeard_229 (fun H locs hP hD hS => ?_)
                obtain ⟨x_116, ex_116⟩ : ∃ y : Int32, y = x7 + 1 := ⟨_, rfl⟩
                have fx_116 : x_116.toInt = x7.toInt + 1 := by rw [ex_116]; exact i_add (by first | omega | (show (_ : Int) ≤ x7.toInt + 1; omega)) (by first | omega | (show x7.toInt + 1 ≤ (_ : Int); omega))
                refine lv_iinc (v := x_116) (lv' := [(7, .int x_116), (9, .int o_u33_80), (8, .int r_79), (0, .ref (bd 0)), (1, .int p1), (2, .int p2), (3, .int x3), (4, .int x4), (5, .int x5), (6, .int x6)]) hx hb dX12_goHeard_232 hl (k := 9) rfl (by rw [ex_116]; rfl) (by decide) rfl (fun ls hl => ?_)
                refine lv_goto (tgt := 106) hx hb dX12_goHeard_235 (by decide) ?_
                exact ih x3 x4 x5 x6 x_116 o_u33_100 o_u34_101 x3 x4 x5 x6 (upd o_b32_106 r_79.toNatClampNeg x_115) o_b25_107 o_b26_108 o_u49_96 o_u52_97 o_u50_98 o_u51_99 _ _ (by omega) (by omega) (by omega) (by omega) (show -1 ≤ x4.toInt by first | omega | assumption) (show x4.toInt < (u 1).toInt by first | omega | assumption) (by omega) hP hD hS ls (lv_sub hl [3, 4, 5, 6, 7, 8, 9, 0] rfl)
          ·
            have kc_91 : p1.toInt < x_90.toInt := i_nle c_91
            refine lv_aload_n hx hb dX12_goHeard_159 rfl (lv_at hl 2 rfl) ?_
            refine lv_aload_n hx hb dX12_goHeard_160 rfl (lv_at hl 2 rfl) ?_
            refine gr_toldShelf hx hb hg hown hK hP (x := (u 47)) rfl (hg _ q5_39) dX12_goHeard_161 ?_
            refine lv_iload_n hx hb dX12_goHeard_164 rfl (lv_at hl 3 rfl) ?_
            refine cV_ro (As := [.int (u 47), .int p1]) (rest := []) ⟨hx, hb, hml, hown, hg⟩ (k_X12_at l D cs A bd (va_up (va_up (va_up (va_up (va_up (va_up (va_up (va_up (va_up (va_up u 49 c106_u49) 52 c106_u52) 50 c106_u50) 51 c106_u51) 33 o_u33_80) 34 o_u34_81) 30 o_u30_82) 28 o_u28_83) 29 o_u29_84) 31 o_u31_86) (va_up (va_up (va_up b 32 o_b32_85) 25 o_b25_87) 26 o_b26_88) bw  (u 47) p1 (show 0 ≤ (u 47).toInt by first | omega | decide) (show (u 47).toInt < 6 by first | omega | decide) (show 0 ≤ p1.toInt by first | omega | decide) (show p1.toInt < 60 by first | omega | decide)) ca_X12_at q6_144 ⟨rfl, rfl⟩ ⟨(show 0 + 1 ≤ 2 * n + 8 by omega), (show 8 + (3 + 11) + (0) ≤ 100 * n + 300 by omega)⟩ (rc_model hK hP) hK hP hD hS hZ rfl hl.1 rfl (Nat.le_of_ble_eq_true rfl) ⟨Nat.zero_le _, Nat.zero_le _⟩ dX12_goHeard_165 (fun r_117 wr_117 => ?_)
            have wr_117_0 : r_117.toInt = ((bw 68) (60 * (u 47).toInt.toNat + p1.toInt.toNat)).toInt32.toInt := wr_117
            refine lv_aload_n hx hb dX12_goHeard_168 rfl (lv_at hl 2 rfl) ?_
            refine cV_ro (As := []) (rest := [.int r_117]) ⟨hx, hb, hml, hown, hg⟩ (k_X12_whoseCell l D cs A bd (va_up (va_up (va_up (va_up (va_up (va_up (va_up (va_up (va_up (va_up u 49 c106_u49) 52 c106_u52) 50 c106_u50) 51 c106_u51) 33 o_u33_80) 34 o_u34_81) 30 o_u30_82) 28 o_u28_83) 29 o_u29_84) 31 o_u31_86) (va_up (va_up (va_up b 32 o_b32_85) 25 o_b25_87) 26 o_b26_88) bw   (show 0 ≤ (u 1).toInt by first | omega | decide) (show (u 1).toInt ≤ 8 by first | omega | decide)) ca_X12_whoseCell q6_239 ⟨rfl, rfl⟩ ⟨(show 0 + 1 ≤ 2 * n + 8 by omega), (show 8 + (2 + 11) + (0) ≤ 100 * n + 300 by omega)⟩ (rc_model hK hP) hK hP hD hS hZ rfl hl.1 rfl (Nat.le_of_ble_eq_true rfl) ⟨Nat.zero_le _, Nat.zero_le _⟩ dX12_goHeard_169 (fun r_118 wr_118 => ?_)
            have wr_118_0 : True := wr_118
            refine lv_icmp_ne (tgt := 188) hx hb dX12_goHeard_172 (by decide) (fun c_119 => ?_) (fun c_119 => ?_)
            ·
              have kc_119 : r_117.toInt ≠ r_118.toInt := i_ne c_119
              refine lv_iload hx hb dX12_goHeard_188 (lv_at hl 1 rfl) ?_
              refine lv_if_lt (tgt := 209) hx hb dX12_goHeard_190 (by decide) (fun c_120 => ?_) (fun c_120 => ?_)
              ·
                have kc_120 : r_79.toInt < (0 : Int) := i_lt c_120
                refine lv_aload_n hx hb dX12_goHeard_209 rfl (lv_at hl 2 rfl) ?_
                refine lv_iload_n hx hb dX12_goHeard_210 rfl (lv_at hl 5 rfl) ?_
                refine pr_bee1 hx hb hg hown hK hP hD hS (hg _ q5_20) dX12_goHeard_211 (fun H locs hP hD hS => ?_)
                refine lv_aload_n hx hb dX12_goHeard_214 rfl (lv_at hl 2 rfl) ?_
                refine lv_iload hx hb dX12_goHeard_215 (lv_at hl 6 rfl) ?_
                refine pr_liar1 hx hb hg hown hK hP hD hS (hg _ q5_21) dX12_goHeard_217 (fun H locs hP hD hS => ?_)
                refine lv_aload_n hx hb dX12_goHeard_220 rfl (lv_at hl 2 rfl) ?_
                refine lv_iload hx hb dX12_goHeard_221 (lv_at hl 7 rfl) ?_
                refine pr_hour1 hx hb hg hown hK hP hD hS (hg _ q5_22) dX12_goHeard_223 (fun H locs hP hD hS => ?_)
                refine lv_aload_n hx hb dX12_goHeard_226 rfl (lv_at hl 2 rfl) ?_
                refine lv_iload hx hb dX12_goHeard_227 (lv_at hl 8 rfl) ?_
                refine pr_lies1 hx hb hg hown hK hP hD hS (hg _ q5_23) dX12_goHeard_229 (fun H locs hP hD hS => ?_)
                obtain ⟨x_121, ex_121⟩ : ∃ y : Int32, y = x7 + 1 := ⟨_, rfl⟩
                have fx_121 : x_121.toInt = x7.toInt + 1 := by rw [ex_121]; exact i_add (by first | omega | (show (_ : Int) ≤ x7.toInt + 1; omega)) (by first | omega | (show x7.toInt + 1 ≤ (_ : Int); omega))
                refine lv_iinc (v := x_121) (lv' := [(7, .int x_121), (9, .int o_u33_80), (8, .int r_79), (0, .ref (bd 0)), (1, .int p1), (2, .int p2), (3, .int x3), (4, .int x4), (5, .int x5), (6, .int x6)]) hx hb dX12_goHeard_232 hl (k := 9) rfl (by rw [ex_121]; rfl) (by decide) rfl (fun ls hl => ?_)
                refine lv_goto (tgt := 106) hx hb dX12_goHeard_235 (by decide) ?_
                exact ih x3 x4 x5 x6 x_121 o_u33_80 o_u34_81 x3 x4 x5 x6 o_b32_85 o_b25_87 o_b26_88 c106_u49 c106_u52 c106_u50 c106_u51 _ _ (by omega) (by omega) (by omega) (by omega) (show -1 ≤ x4.toInt by first | omega | assumption) (show x4.toInt < (u 1).toInt by first | omega | assumption) (by omega) hP hD hS ls (lv_sub hl [3, 4, 5, 6, 7, 8, 9, 0] rfl)
              ·
                have kc_120 : (0 : Int) ≤ r_79.toInt := i_nlt c_120
                refine lv_iload hx hb dX12_goHeard_193 (lv_at hl 0 rfl) ?_
                refine lv_if_ne (tgt := 209) hx hb dX12_goHeard_195 (by decide) (fun c_122 => ?_) (fun c_122 => ?_)
                ·
                  have kc_122 : o_u33_80.toInt ≠ (0 : Int) := i_ne c_122
                  refine lv_aload_n hx hb dX12_goHeard_209 rfl (lv_at hl 2 rfl) ?_
                  refine lv_iload_n hx hb dX12_goHeard_210 rfl (lv_at hl 5 rfl) ?_
                  refine pr_bee1 hx hb hg hown hK hP hD hS (hg _ q5_20) dX12_goHeard_211 (fun H locs hP hD hS => ?_)
                  refine lv_aload_n hx hb dX12_goHeard_214 rfl (lv_at hl 2 rfl) ?_
                  refine lv_iload hx hb dX12_goHeard_215 (lv_at hl 6 rfl) ?_
                  refine pr_liar1 hx hb hg hown hK hP hD hS (hg _ q5_21) dX12_goHeard_217 (fun H locs hP hD hS => ?_)
                  refine lv_aload_n hx hb dX12_goHeard_220 rfl (lv_at hl 2 rfl) ?_
                  refine lv_iload hx hb dX12_goHeard_221 (lv_at hl 7 rfl) ?_
                  refine pr_hour1 hx hb hg hown hK hP hD hS (hg _ q5_22) dX12_goHeard_223 (fun H locs hP hD hS => ?_)
                  refine lv_aload_n hx hb dX12_goHeard_226 rfl (lv_at hl 2 rfl) ?_
                  refine lv_iload hx hb dX12_goHeard_227 (lv_at hl 8 rfl) ?_
                  refine pr_lies1 hx hb hg hown hK hP hD hS (hg _ q5_23) dX12_goHeard_229 (fun H locs hP hD hS => ?_)
                  obtain ⟨x_123, ex_123⟩ : ∃ y : Int32, y = x7 + 1 := ⟨_, rfl⟩
                  have fx_123 : x_123.toInt = x7.toInt + 1 := by rw [ex_123]; exact i_add (by first | omega | (show (_ : Int) ≤ x7.toInt + 1; omega)) (by first | omega | (show x7.toInt + 1 ≤ (_ : Int); omega))
                  refine lv_iinc (v := x_123) (lv' := [(7, .int x_123), (9, .int o_u33_80), (8, .int r_79), (0, .ref (bd 0)), (1, .int p1), (2, .int p2), (3, .int x3), (4, .int x4), (5, .int x5), (6, .int x6)]) hx hb dX12_goHeard_232 hl (k := 9) rfl (by rw [ex_123]; rfl) (by decide) rfl (fun ls hl => ?_)
                  refine lv_goto (tgt := 106) hx hb dX12_goHeard_235 (by decide) ?_
                  exact ih x3 x4 x5 x6 x_123 o_u33_80 o_u34_81 x3 x4 x5 x6 o_b32_85 o_b25_87 o_b26_88 c106_u49 c106_u52 c106_u50 c106_u51 _ _ (by omega) (by omega) (by omega) (by omega) (show -1 ≤ x4.toInt by first | omega | assumption) (show x4.toInt < (u 1).toInt by first | omega | assumption) (by omega) hP hD hS ls (lv_sub hl [3, 4, 5, 6, 7, 8, 9, 0] rfl)
                ·
                  have kc_122 : o_u33_80.toInt = (0 : Int) := i_eq c_122
                  refine lv_aload_n hx hb dX12_goHeard_198 rfl (lv_at hl 2 rfl) ?_
                  refine gr_pads1 hx hb hg hown hK hP (hg _ q5_24) dX12_goHeard_199 ?_
                  refine lv_iload hx hb dX12_goHeard_202 (lv_at hl 1 rfl) ?_
                  refine lv_dup2_11 hx hb dX12_goHeard_204 rfl rfl ?_
                  refine lr_pads1 hx hb hK hP (i_in (by omega) (by omega)) dX12_goHeard_205 ?_
                  refine lv_topi (fun x_124 ex_124 => ?_)
                  have ex_124 : x_124 = o_b32_85 r_79.toNatClampNeg := ex_124
                  have hx_124 : x_124.toInt = (o_b32_85 r_79.toNatClampNeg).toInt := by rw [ex_124]
                  refine lv_iconst (v := 1) hx hb dX12_goHeard_206 (by decide) ?_
                  refine lv_iadd hx hb dX12_goHeard_207 ?_
                  refine lv_topi (fun x_125 ex_125 => ?_)
                  refine sr_pads1 hx hb hK hP hD hS (i_in (by omega) (by omega)) dX12_goHeard_208 (fun H locs hP hD hS => ?_)
                  refine lv_aload_n hx hb dX12_goHeard_209 rfl (lv_at hl 2 rfl) ?_
                  refine lv_iload_n hx hb dX12_goHeard_210 rfl (lv_at hl 5 rfl) ?_
                  refine pr_bee1 hx hb hg hown hK hP hD hS (hg _ q5_20) dX12_goHeard_211 (fun H locs hP hD hS => ?_)
                  refine lv_aload_n hx hb dX12_goHeard_214 rfl (lv_at hl 2 rfl) ?_
                  refine lv_iload hx hb dX12_goHeard_215 (lv_at hl 6 rfl) ?_
                  refine pr_liar1 hx hb hg hown hK hP hD hS (hg _ q5_21) dX12_goHeard_217 (fun H locs hP hD hS => ?_)
                  refine lv_aload_n hx hb dX12_goHeard_220 rfl (lv_at hl 2 rfl) ?_
                  refine lv_iload hx hb dX12_goHeard_221 (lv_at hl 7 rfl) ?_
                  refine pr_hour1 hx hb hg hown hK hP hD hS (hg _ q5_22) dX12_goHeard_223 (fun H locs hP hD hS => ?_)
                  refine lv_aload_n hx hb dX12_goHeard_226 rfl (lv_at hl 2 rfl) ?_
                  refine lv_iload hx hb dX12_goHeard_227 (lv_at hl 8 rfl) ?_
                  refine pr_lies1 hx hb hg hown hK hP hD hS (hg _ q5_23) dX12_goHeard_229 (fun H locs hP hD hS => ?_)
                  obtain ⟨x_126, ex_126⟩ : ∃ y : Int32, y = x7 + 1 := ⟨_, rfl⟩
                  have fx_126 : x_126.toInt = x7.toInt + 1 := by rw [ex_126]; exact i_add (by first | omega | (show (_ : Int) ≤ x7.toInt + 1; omega)) (by first | omega | (show x7.toInt + 1 ≤ (_ : Int); omega))
                  refine lv_iinc (v := x_126) (lv' := [(7, .int x_126), (9, .int o_u33_80), (8, .int r_79), (0, .ref (bd 0)), (1, .int p1), (2, .int p2), (3, .int x3), (4, .int x4), (5, .int x5), (6, .int x6)]) hx hb dX12_goHeard_232 hl (k := 9) rfl (by rw [ex_126]; rfl) (by decide) rfl (fun ls hl => ?_)
                  refine lv_goto (tgt := 106) hx hb dX12_goHeard_235 (by decide) ?_
                  exact ih x3 x4 x5 x6 x_126 o_u33_80 o_u34_81 x3 x4 x5 x6 (upd o_b32_85 r_79.toNatClampNeg x_125) o_b25_87 o_b26_88 c106_u49 c106_u52 c106_u50 c106_u51 _ _ (by omega) (by omega) (by omega) (by omega) (show -1 ≤ x4.toInt by first | omega | assumption) (show x4.toInt < (u 1).toInt by first | omega | assumption) (by omega) hP hD hS ls (lv_sub hl [3, 4, 5, 6, 7, 8, 9, 0] rfl)
            ·
              have kc_119 : r_117.toInt = r_118.toInt := i_eq c_119
              refine lv_aload_n hx hb dX12_goHeard_175 rfl (lv_at hl 2 rfl) ?_
              refine lv_iload_n hx hb dX12_goHeard_176 rfl (lv_at hl 3 rfl) ?_
              refine lv_iconst (v := 1) hx hb dX12_goHeard_177 (by decide) ?_
              refine lv_iadd hx hb dX12_goHeard_178 ?_
              refine lv_topi (fun x_127 ex_127 => ?_)
              have fx_127 : x_127.toInt = p1.toInt + (1 : Int) := by rw [ex_127]; exact i_add (by first | omega | (show (_ : Int) ≤ p1.toInt + (1 : Int); omega)) (by first | omega | (show p1.toInt + (1 : Int) ≤ (_ : Int); omega))
              refine lv_iload_n hx hb dX12_goHeard_179 rfl (lv_at hl 4 rfl) ?_
              refine lv_iload hx hb dX12_goHeard_180 (lv_at hl 9 rfl) ?_
              refine lv_iload_n hx hb dX12_goHeard_182 rfl (lv_at hl 3 rfl) ?_
              refine lv_ishl hx hb dX12_goHeard_183 ?_
              refine lv_topi (fun x_128 ex_128 => ?_)
              refine lv_ior hx hb dX12_goHeard_184 ?_
              refine lv_topi (fun x_129 ex_129 => ?_)
              refine cV_v (As := [.int x_127, .int x_129]) (rest := []) ⟨hx, hb, hml, hown, hg⟩ ((hrec (n - 1) (by omega)) l D cs A bd (va_up (va_up (va_up (va_up (va_up (va_up (va_up (va_up (va_up (va_up u 49 c106_u49) 52 c106_u52) 50 c106_u50) 51 c106_u51) 33 o_u33_80) 34 o_u34_81) 30 o_u30_82) 28 o_u28_83) 29 o_u29_84) 31 o_u31_86) (va_up (va_up (va_up b 32 o_b32_85) 25 o_b25_87) 26 o_b26_88) bw  x_127 x_129 (show 0 ≤ x_127.toInt by first | omega | decide) (show x_127.toInt ≤ (u 48).toInt by first | omega | decide) (show (u 48).toInt ≤ 12 by first | omega | decide) (show 12 ≤ x_127.toInt + ((n - 1 : Nat) : Int) by first | omega | decide) (by assumption) hlaw (show 0 ≤ (u 46).toInt by first | omega | decide) (show (u 46).toInt ≤ 5 by first | omega | decide) (show 0 ≤ (u 1).toInt by first | omega | decide) (show (u 1).toInt ≤ 8 by first | omega | decide) (show -1 ≤ o_u29_84.toInt by first | omega | decide) (show o_u29_84.toInt < (u 1).toInt by first | omega | decide) ib23_0 ib24_0 ib20_0 (show 0 ≤ (u 47).toInt by first | omega | decide) (show (u 47).toInt ≤ 5 by first | omega | decide) ib67_0 (show 0 ≤ (u 48).toInt by first | omega | decide) (show (u 48).toInt ≤ 24 by first | omega | decide)) ca_X12_goHeard q6_235 ⟨rfl, rfl⟩ ⟨(show 2 * (n - 1) + 8 + 1 ≤ 2 * n + 8 by omega), (show 8 + (10 + 11) + (100 * (n - 1) + 300) ≤ 100 * n + 300 by omega)⟩ (rc_model hK hP) hK hP hD hS hZ rfl hl.1 rfl (Nat.le_of_ble_eq_true rfl) ⟨Nat.zero_le _, Nat.zero_le _⟩ dX12_goHeard_185 (fun z_144 H locs wr_130 hP hD hS => ?_)
              obtain ⟨o_u49_131, o_u52_132, o_u50_133, o_u51_134, o_u33_135, o_u34_136, o_u28_137, o_u29_138, o_u30_139, o_u31_140, o_b32_141, o_b25_142, o_b26_143⟩ := z_144
              have hP : va_P D vwCl (RW cs bd (va_up (va_up (va_up (va_up (va_up (va_up (va_up (va_up (va_up (va_up u 49 o_u49_131) 52 o_u52_132) 50 o_u50_133) 51 o_u51_134) 33 o_u33_135) 34 o_u34_136) 28 o_u28_137) 29 o_u29_138) 30 o_u30_139) 31 o_u31_140) (va_up (va_up (va_up b 32 o_b32_141) 25 o_b25_142) 26 o_b26_143) bw) H := hP
              have hD : va_D A (RW cs bd (va_up (va_up (va_up (va_up (va_up (va_up (va_up (va_up (va_up (va_up u 49 o_u49_131) 52 o_u52_132) 50 o_u50_133) 51 o_u51_134) 33 o_u33_135) 34 o_u34_136) 28 o_u28_137) 29 o_u29_138) 30 o_u30_139) 31 o_u31_140) (va_up (va_up (va_up b 32 o_b32_141) 25 o_b25_142) 26 o_b26_143) bw) := hD
              obtain ⟨wr_130_0, wr_130_1⟩ : (-1 ≤ o_u29_138.toInt) ∧ (o_u29_138.toInt < (u 1).toInt) := wr_130
              refine lv_iload hx hb dX12_goHeard_188 (lv_at hl 1 rfl) ?_
              refine lv_if_lt (tgt := 209) hx hb dX12_goHeard_190 (by decide) (fun c_145 => ?_) (fun c_145 => ?_)
              ·
                have kc_145 : r_79.toInt < (0 : Int) := i_lt c_145
                refine lv_aload_n hx hb dX12_goHeard_209 rfl (lv_at hl 2 rfl) ?_
                refine lv_iload_n hx hb dX12_goHeard_210 rfl (lv_at hl 5 rfl) ?_
                refine pr_bee1 hx hb hg hown hK hP hD hS (hg _ q5_20) dX12_goHeard_211 (fun H locs hP hD hS => ?_)
                refine lv_aload_n hx hb dX12_goHeard_214 rfl (lv_at hl 2 rfl) ?_
                refine lv_iload hx hb dX12_goHeard_215 (lv_at hl 6 rfl) ?_
                refine pr_liar1 hx hb hg hown hK hP hD hS (hg _ q5_21) dX12_goHeard_217 (fun H locs hP hD hS => ?_)
                refine lv_aload_n hx hb dX12_goHeard_220 rfl (lv_at hl 2 rfl) ?_
                refine lv_iload hx hb dX12_goHeard_221 (lv_at hl 7 rfl) ?_
                refine pr_hour1 hx hb hg hown hK hP hD hS (hg _ q5_22) dX12_goHeard_223 (fun H locs hP hD hS => ?_)
                refine lv_aload_n hx hb dX12_goHeard_226 rfl (lv_at hl 2 rfl) ?_
                refine lv_iload hx hb dX12_goHeard_227 (lv_at hl 8 rfl) ?_
                refine pr_lies1 hx hb hg hown hK hP hD hS (hg _ q5_23) dX12_goHeard_229 (fun H locs hP hD hS => ?_)
                obtain ⟨x_146, ex_146⟩ : ∃ y : Int32, y = x7 + 1 := ⟨_, rfl⟩
                have fx_146 : x_146.toInt = x7.toInt + 1 := by rw [ex_146]; exact i_add (by first | omega | (show (_ : Int) ≤ x7.toInt + 1; omega)) (by first | omega | (show x7.toInt + 1 ≤ (_ : Int); omega))
                refine lv_iinc (v := x_146) (lv' := [(7, .int x_146), (9, .int o_u33_80), (8, .int r_79), (0, .ref (bd 0)), (1, .int p1), (2, .int p2), (3, .int x3), (4, .int x4), (5, .int x5), (6, .int x6)]) hx hb dX12_goHeard_232 hl (k := 9) rfl (by rw [ex_146]; rfl) (by decide) rfl (fun ls hl => ?_)
                refine lv_goto (tgt := 106) hx hb dX12_goHeard_235 (by decide) ?_
                exact ih x3 x4 x5 x6 x_146 o_u33_135 o_u34_136 x3 x4 x5 x6 o_b32_141 o_b25_142 o_b26_143 o_u49_131 o_u52_132 o_u50_133 o_u51_134 _ _ (by omega) (by omega) (by omega) (by omega) (show -1 ≤ x4.toInt by first | omega | assumption) (show x4.toInt < (u 1).toInt by first | omega | assumption) (by omega) hP hD hS ls (lv_sub hl [3, 4, 5, 6, 7, 8, 9, 0] rfl)
              ·
                have kc_145 : (0 : Int) ≤ r_79.toInt := i_nlt c_145
                refine lv_iload hx hb dX12_goHeard_193 (lv_at hl 0 rfl) ?_
                refine lv_if_ne (tgt := 209) hx hb dX12_goHeard_195 (by decide) (fun c_147 => ?_) (fun c_147 => ?_)
                ·
                  have kc_147 : o_u33_80.toInt ≠ (0 : Int) := i_ne c_147
                  refine lv_aload_n hx hb dX12_goHeard_209 rfl (lv_at hl 2 rfl) ?_
                  refine lv_iload_n hx hb dX12_goHeard_210 rfl (lv_at hl 5 rfl) ?_
                  refine pr_bee1 hx hb hg hown hK hP hD hS (hg _ q5_20) dX12_goHeard_211 (fun H locs hP hD hS => ?_)
                  refine lv_aload_n hx hb dX12_goHeard_214 rfl (lv_at hl 2 rfl) ?_
                  refine lv_iload hx hb dX12_goHeard_215 (lv_at hl 6 rfl) ?_
                  refine pr_liar1 hx hb hg hown hK hP hD hS (hg _ q5_21) dX12_goHeard_217 (fun H locs hP hD hS => ?_)
                  refine lv_aload_n hx hb dX12_goHeard_220 rfl (lv_at hl 2 rfl) ?_
                  refine lv_iload hx hb dX12_goHeard_221 (lv_at hl 7 rfl) ?_
                  refine pr_hour1 hx hb hg hown hK hP hD hS (hg _ q5_22) dX12_goHeard_223 (fun H locs hP hD hS => ?_)
                  refine lv_aload_n hx hb dX12_goHeard_226 rfl (lv_at hl 2 rfl) ?_
                  refine lv_iload hx hb dX12_goHeard_227 (lv_at hl 8 rfl) ?_
                  refine pr_lies1 hx hb hg hown hK hP hD hS (hg _ q5_23) dX12_goHeard_229 (fun H locs hP hD hS => ?_)
                  obtain ⟨x_148, ex_148⟩ : ∃ y : Int32, y = x7 + 1 := ⟨_, rfl⟩
                  have fx_148 : x_148.toInt = x7.toInt + 1 := by rw [ex_148]; exact i_add (by first | omega | (show (_ : Int) ≤ x7.toInt + 1; omega)) (by first | omega | (show x7.toInt + 1 ≤ (_ : Int); omega))
                  refine lv_iinc (v := x_148) (lv' := [(7, .int x_148), (9, .int o_u33_80), (8, .int r_79), (0, .ref (bd 0)), (1, .int p1), (2, .int p2), (3, .int x3), (4, .int x4), (5, .int x5), (6, .int x6)]) hx hb dX12_goHeard_232 hl (k := 9) rfl (by rw [ex_148]; rfl) (by decide) rfl (fun ls hl => ?_)
                  refine lv_goto (tgt := 106) hx hb dX12_goHeard_235 (by decide) ?_
                  exact ih x3 x4 x5 x6 x_148 o_u33_135 o_u34_136 x3 x4 x5 x6 o_b32_141 o_b25_142 o_b26_143 o_u49_131 o_u52_132 o_u50_133 o_u51_134 _ _ (by omega) (by omega) (by omega) (by omega) (show -1 ≤ x4.toInt by first | omega | assumption) (show x4.toInt < (u 1).toInt by first | omega | assumption) (by omega) hP hD hS ls (lv_sub hl [3, 4, 5, 6, 7, 8, 9, 0] rfl)
                ·
                  have kc_147 : o_u33_80.toInt = (0 : Int) := i_eq c_147
                  refine lv_aload_n hx hb dX12_goHeard_198 rfl (lv_at hl 2 rfl) ?_
                  refine gr_pads1 hx hb hg hown hK hP (hg _ q5_24) dX12_goHeard_199 ?_
                  refine lv_iload hx hb dX12_goHeard_202 (lv_at hl 1 rfl) ?_
                  refine lv_dup2_11 hx hb dX12_goHeard_204 rfl rfl ?_
                  refine lr_pads1 hx hb hK hP (i_in (by omega) (by omega)) dX12_goHeard_205 ?_
                  refine lv_topi (fun x_149 ex_149 => ?_)
                  have ex_149 : x_149 = o_b32_141 r_79.toNatClampNeg := ex_149
                  have hx_149 : x_149.toInt = (o_b32_141 r_79.toNatClampNeg).toInt := by rw [ex_149]
                  refine lv_iconst (v := 1) hx hb dX12_goHeard_206 (by decide) ?_
                  refine lv_iadd hx hb dX12_goHeard_207 ?_
                  refine lv_topi (fun x_150 ex_150 => ?_)
                  refine sr_pads1 hx hb hK hP hD hS (i_in (by omega) (by omega)) dX12_goHeard_208 (fun H locs hP hD hS => ?_)
                  refine lv_aload_n hx hb dX12_goHeard_209 rfl (lv_at hl 2 rfl) ?_
                  refine lv_iload_n hx hb dX12_goHeard_210 rfl (lv_at hl 5 rfl) ?_
                  refine pr_bee1 hx hb hg hown hK hP hD hS (hg _ q5_20) dX12_goHeard_211 (fun H locs hP hD hS => ?_)
                  refine lv_aload_n hx hb dX12_goHeard_214 rfl (lv_at hl 2 rfl) ?_
                  refine lv_iload hx hb dX12_goHeard_215 (lv_at hl 6 rfl) ?_
                  refine pr_liar1 hx hb hg hown hK hP hD hS (hg _ q5_21) dX12_goHeard_217 (fun H locs hP hD hS => ?_)
                  refine lv_aload_n hx hb dX12_goHeard_220 rfl (lv_at hl 2 rfl) ?_
                  refine lv_iload hx hb dX12_goHeard_221 (lv_at hl 7 rfl) ?_
                  refine pr_hour1 hx hb hg hown hK hP hD hS (hg _ q5_22) dX12_goHeard_223 (fun H locs hP hD hS => ?_)
                  refine lv_aload_n hx hb dX12_goHeard_226 rfl (lv_at hl 2 rfl) ?_
                  refine lv_iload hx hb dX12_goHeard_227 (lv_at hl 8 rfl) ?_
                  refine pr_lies1 hx hb hg hown hK hP hD hS (hg _ q5_23) dX12_goHeard_229 (fun H locs hP hD hS => ?_)
                  obtain ⟨x_151, ex_151⟩ : ∃ y : Int32, y = x7 + 1 := ⟨_, rfl⟩
                  have fx_151 : x_151.toInt = x7.toInt + 1 := by rw [ex_151]; exact i_add (by first | omega | (show (_ : Int) ≤ x7.toInt + 1; omega)) (by first | omega | (show x7.toInt + 1 ≤ (_ : Int); omega))
                  refine lv_iinc (v := x_151) (lv' := [(7, .int x_151), (9, .int o_u33_80), (8, .int r_79), (0, .ref (bd 0)), (1, .int p1), (2, .int p2), (3, .int x3), (4, .int x4), (5, .int x5), (6, .int x6)]) hx hb dX12_goHeard_232 hl (k := 9) rfl (by rw [ex_151]; rfl) (by decide) rfl (fun ls hl => ?_)
                  refine lv_goto (tgt := 106) hx hb dX12_goHeard_235 (by decide) ?_
                  exact ih x3 x4 x5 x6 x_151 o_u33_135 o_u34_136 x3 x4 x5 x6 (upd o_b32_141 r_79.toNatClampNeg x_150) o_b25_142 o_b26_143 o_u49_131 o_u52_132 o_u50_133 o_u51_134 _ _ (by omega) (by omega) (by omega) (by omega) (show -1 ≤ x4.toInt by first | omega | assumption) (show x4.toInt < (u 1).toInt by first | omega | assumption) (by omega) hP hD hS ls (lv_sub hl [3, 4, 5, 6, 7, 8, 9, 0] rfl)
  refine lv_iload_n hx hb dX12_goHeard_0 rfl (lv_at hl 1 rfl) ?_
  refine lv_aload_n hx hb dX12_goHeard_1 rfl (lv_at hl 0 rfl) ?_
  refine gr_sayings hx hb hg hown hK hP (x := (u 48)) rfl (hg _ q5_40) dX12_goHeard_2 ?_
  refine lv_icmp_ne (tgt := 80) hx hb dX12_goHeard_5 (by decide) (fun c_152 => ?_) (fun c_152 => ?_)
  ·
    have kc_152 : p1.toInt ≠ (u 48).toInt := i_ne c_152
    refine lv_aload_n hx hb dX12_goHeard_80 rfl (lv_at hl 0 rfl) ?_
    refine gr_bee1 hx hb hg hown hK hP (x := (u 28)) rfl (hg _ q5_20) dX12_goHeard_81 ?_
    refine lv_istore_n (lv' := [(3, .int (u 28)), (0, .ref (bd 0)), (1, .int p1), (2, .int p2)]) hx hb dX12_goHeard_84 rfl hl (by decide) rfl (fun ls hl => ?_)
    refine lv_aload_n hx hb dX12_goHeard_85 rfl (lv_at hl 1 rfl) ?_
    refine gr_liar1 hx hb hg hown hK hP (x := (u 29)) rfl (hg _ q5_21) dX12_goHeard_86 ?_
    refine lv_istore (lv' := [(4, .int (u 29)), (3, .int (u 28)), (0, .ref (bd 0)), (1, .int p1), (2, .int p2)]) hx hb dX12_goHeard_89 hl (by decide) rfl (fun ls hl => ?_)
    refine lv_aload_n hx hb dX12_goHeard_91 rfl (lv_at hl 2 rfl) ?_
    refine gr_hour1 hx hb hg hown hK hP (x := (u 30)) rfl (hg _ q5_22) dX12_goHeard_92 ?_
    refine lv_istore (lv' := [(5, .int (u 30)), (4, .int (u 29)), (3, .int (u 28)), (0, .ref (bd 0)), (1, .int p1), (2, .int p2)]) hx hb dX12_goHeard_95 hl (by decide) rfl (fun ls hl => ?_)
    refine lv_aload_n hx hb dX12_goHeard_97 rfl (lv_at hl 3 rfl) ?_
    refine gr_lies1 hx hb hg hown hK hP (x := (u 31)) rfl (hg _ q5_23) dX12_goHeard_98 ?_
    refine lv_istore (lv' := [(6, .int (u 31)), (5, .int (u 30)), (4, .int (u 29)), (3, .int (u 28)), (0, .ref (bd 0)), (1, .int p1), (2, .int p2)]) hx hb dX12_goHeard_101 hl (by decide) rfl (fun ls hl => ?_)
    refine lv_iconst (v := 0) hx hb dX12_goHeard_103 (by decide) ?_
    refine lv_istore (lv' := [(7, .int 0), (6, .int (u 31)), (5, .int (u 30)), (4, .int (u 29)), (3, .int (u 28)), (0, .ref (bd 0)), (1, .int p1), (2, .int p2)]) hx hb dX12_goHeard_104 hl (by decide) rfl (fun ls hl => ?_)
    have q0_0 : (0 : Int32).toInt = 0 := rfl
    exact (hcut (((2 - (0 : Int32).toInt).toNat) + 1)) (u 28) (u 29) (u 30) (u 31) 0 (u 33) (u 34) (u 28) (u 29) (u 30) (u 31) (b 32) (b 25) (b 26) (u 49) (u 52) (u 50) (u 51) _ _ (by omega) (by omega) (by omega) (by omega) (show -1 ≤ (u 29).toInt by first | omega | assumption) (show (u 29).toInt < (u 1).toInt by first | omega | assumption) (Nat.lt_succ_self _) hP hD hS ls (lv_sub hl [5, 6, 7, 4, 3, 2, 1, 0] rfl)
  ·
    have kc_152 : p1.toInt = (u 48).toInt := i_eq c_152
    refine lv_aload_n hx hb dX12_goHeard_8 rfl (lv_at hl 0 rfl) ?_
    refine lv_dup hx hb dX12_goHeard_9 rfl ?_
    refine gr_waysMany hx hb hg hown hK hP (x := (u 49)) rfl (hg _ q5_41) dX12_goHeard_10 ?_
    refine lv_iconst (v := 1) hx hb dX12_goHeard_13 (by decide) ?_
    refine lv_iadd hx hb dX12_goHeard_14 ?_
    refine lv_topi (fun x_153 ex_153 => ?_)
    refine pr_waysMany hx hb hg hown hK hP hD hS (hg _ q5_41) dX12_goHeard_15 (fun H locs hP hD hS => ?_)
    refine lv_aload_n hx hb dX12_goHeard_18 rfl (lv_at hl 0 rfl) ?_
    refine lv_dup hx hb dX12_goHeard_19 rfl ?_
    refine gr_certain1 hx hb hg hown hK hP (x := (u 52)) rfl (hg _ q5_44) dX12_goHeard_20 ?_
    refine lv_iload_n hx hb dX12_goHeard_23 rfl (lv_at hl 2 rfl) ?_
    refine lv_iand hx hb dX12_goHeard_24 ?_
    refine lv_topi (fun x_154 ex_154 => ?_)
    refine pr_certain1 hx hb hg hown hK hP hD hS (hg _ q5_44) dX12_goHeard_25 (fun H locs hP hD hS => ?_)
    refine lv_aload_n hx hb dX12_goHeard_28 rfl (lv_at hl 0 rfl) ?_
    refine gr_fewest1 hx hb hg hown hK hP (x := (u 50)) rfl (hg _ q5_42) dX12_goHeard_29 ?_
    refine lv_if_lt (tgt := 66) hx hb dX12_goHeard_32 (by decide) (fun c_155 => ?_) (fun c_155 => ?_)
    ·
      have kc_155 : (u 50).toInt < (0 : Int) := i_lt c_155
      refine lv_aload_n hx hb dX12_goHeard_66 rfl (lv_at hl 0 rfl) ?_
      refine lv_iload_n hx hb dX12_goHeard_67 rfl (lv_at hl 2 rfl) ?_
      refine cS_p (As := [.int p2]) (rest := [.ref (bd 0)]) ⟨hx, hb, hml, hown, hg⟩ (k_X12_bitsOf l   p2 ) ca_X12_bitsOf q6_111 ⟨rfl, rfl⟩ ⟨(show 0 + 1 ≤ 2 * n + 8 by omega), (show 8 + (3 + 11) + (0) ≤ 100 * n + 300 by omega)⟩ rfl hl.1 rfl (Nat.le_of_ble_eq_true rfl) ⟨Nat.zero_le _, Nat.zero_le _⟩ dX12_goHeard_68 (fun r_156 wr_156 => ?_)
      refine pr_fewest1 hx hb hg hown hK hP hD hS (hg _ q5_42) dX12_goHeard_71 (fun H locs hP hD hS => ?_)
      refine lv_aload_n hx hb dX12_goHeard_74 rfl (lv_at hl 0 rfl) ?_
      refine lv_iload_n hx hb dX12_goHeard_75 rfl (lv_at hl 2 rfl) ?_
      refine pr_fewestBits hx hb hg hown hK hP hD hS (hg _ q5_43) dX12_goHeard_76 (fun H locs hP hD hS => ?_)
      have hP : va_P D vwCl (RW cs bd (va_up (va_up (va_up (va_up (va_up (va_up (va_up (va_up (va_up (va_up u 49 x_153) 52 x_154) 50 r_156) 51 p2) 33 (u 33)) 34 (u 34)) 28 (u 28)) 29 (u 29)) 30 (u 30)) 31 (u 31)) (va_up (va_up (va_up b 32 (b 32)) 25 (b 25)) 26 (b 26)) bw) _ := hP
      have hD : va_D A (RW cs bd (va_up (va_up (va_up (va_up (va_up (va_up (va_up (va_up (va_up (va_up u 49 x_153) 52 x_154) 50 r_156) 51 p2) 33 (u 33)) 34 (u 34)) 28 (u 28)) 29 (u 29)) 30 (u 30)) 31 (u 31)) (va_up (va_up (va_up b 32 (b 32)) 25 (b 25)) 26 (b 26)) bw) := hD
      exact W.vret hx hb hr (fun tt ht hW => ⟨⟨⟨x_153, x_154, r_156, p2, (u 33), (u 34), (u 28), (u 29), (u 30), (u 31), (b 32), (b 25), (b 26)⟩, rfl, ⟨(show -1 ≤ (u 29).toInt by first | omega | assumption), (show (u 29).toInt < (u 1).toInt by first | omega | assumption)⟩, by rw [ht]; exact hP, hD⟩, hS.F ht⟩) hS.2.2 dX12_goHeard_79
    ·
      have kc_155 : (0 : Int) ≤ (u 50).toInt := i_nlt c_155
      refine lv_iload_n hx hb dX12_goHeard_35 rfl (lv_at hl 2 rfl) ?_
      refine cS_p (As := [.int p2]) (rest := []) ⟨hx, hb, hml, hown, hg⟩ (k_X12_bitsOf l   p2 ) ca_X12_bitsOf q6_111 ⟨rfl, rfl⟩ ⟨(show 0 + 1 ≤ 2 * n + 8 by omega), (show 8 + (3 + 11) + (0) ≤ 100 * n + 300 by omega)⟩ rfl hl.1 rfl (Nat.le_of_ble_eq_true rfl) ⟨Nat.zero_le _, Nat.zero_le _⟩ dX12_goHeard_36 (fun r_157 wr_157 => ?_)
      refine lv_aload_n hx hb dX12_goHeard_39 rfl (lv_at hl 0 rfl) ?_
      refine gr_fewest1 hx hb hg hown hK hP (x := (u 50)) rfl (hg _ q5_42) dX12_goHeard_40 ?_
      refine lv_icmp_gt (tgt := 65) hx hb dX12_goHeard_43 (by decide) (fun c_158 => ?_) (fun c_158 => ?_)
      ·
        have kc_158 : (u 50).toInt < r_157.toInt := i_lt c_158
        have hP : va_P D vwCl (RW cs bd (va_up (va_up (va_up (va_up (va_up (va_up (va_up (va_up (va_up (va_up u 49 x_153) 52 x_154) 50 (u 50)) 51 (u 51)) 33 (u 33)) 34 (u 34)) 28 (u 28)) 29 (u 29)) 30 (u 30)) 31 (u 31)) (va_up (va_up (va_up b 32 (b 32)) 25 (b 25)) 26 (b 26)) bw) _ := hP
        have hD : va_D A (RW cs bd (va_up (va_up (va_up (va_up (va_up (va_up (va_up (va_up (va_up (va_up u 49 x_153) 52 x_154) 50 (u 50)) 51 (u 51)) 33 (u 33)) 34 (u 34)) 28 (u 28)) 29 (u 29)) 30 (u 30)) 31 (u 31)) (va_up (va_up (va_up b 32 (b 32)) 25 (b 25)) 26 (b 26)) bw) := hD
        exact W.vret hx hb hr (fun tt ht hW => ⟨⟨⟨x_153, x_154, (u 50), (u 51), (u 33), (u 34), (u 28), (u 29), (u 30), (u 31), (b 32), (b 25), (b 26)⟩, rfl, ⟨(show -1 ≤ (u 29).toInt by first | omega | assumption), (show (u 29).toInt < (u 1).toInt by first | omega | assumption)⟩, by rw [ht]; exact hP, hD⟩, hS.F ht⟩) hS.2.2 dX12_goHeard_65
      ·
        have kc_158 : r_157.toInt ≤ (u 50).toInt := i_nlt c_158
        refine lv_iload_n hx hb dX12_goHeard_46 rfl (lv_at hl 2 rfl) ?_
        refine cS_p (As := [.int p2]) (rest := []) ⟨hx, hb, hml, hown, hg⟩ (k_X12_bitsOf l   p2 ) ca_X12_bitsOf q6_111 ⟨rfl, rfl⟩ ⟨(show 0 + 1 ≤ 2 * n + 8 by omega), (show 8 + (3 + 11) + (0) ≤ 100 * n + 300 by omega)⟩ rfl hl.1 rfl (Nat.le_of_ble_eq_true rfl) ⟨Nat.zero_le _, Nat.zero_le _⟩ dX12_goHeard_47 (fun r_159 wr_159 => ?_)
        refine lv_aload_n hx hb dX12_goHeard_50 rfl (lv_at hl 0 rfl) ?_
        refine gr_fewest1 hx hb hg hown hK hP (x := (u 50)) rfl (hg _ q5_42) dX12_goHeard_51 ?_
        refine lv_icmp_ne (tgt := 66) hx hb dX12_goHeard_54 (by decide) (fun c_160 => ?_) (fun c_160 => ?_)
        ·
          have kc_160 : r_159.toInt ≠ (u 50).toInt := i_ne c_160
          refine lv_aload_n hx hb dX12_goHeard_66 rfl (lv_at hl 0 rfl) ?_
          refine lv_iload_n hx hb dX12_goHeard_67 rfl (lv_at hl 2 rfl) ?_
          refine cS_p (As := [.int p2]) (rest := [.ref (bd 0)]) ⟨hx, hb, hml, hown, hg⟩ (k_X12_bitsOf l   p2 ) ca_X12_bitsOf q6_111 ⟨rfl, rfl⟩ ⟨(show 0 + 1 ≤ 2 * n + 8 by omega), (show 8 + (3 + 11) + (0) ≤ 100 * n + 300 by omega)⟩ rfl hl.1 rfl (Nat.le_of_ble_eq_true rfl) ⟨Nat.zero_le _, Nat.zero_le _⟩ dX12_goHeard_68 (fun r_161 wr_161 => ?_)
          refine pr_fewest1 hx hb hg hown hK hP hD hS (hg _ q5_42) dX12_goHeard_71 (fun H locs hP hD hS => ?_)
          refine lv_aload_n hx hb dX12_goHeard_74 rfl (lv_at hl 0 rfl) ?_
          refine lv_iload_n hx hb dX12_goHeard_75 rfl (lv_at hl 2 rfl) ?_
          refine pr_fewestBits hx hb hg hown hK hP hD hS (hg _ q5_43) dX12_goHeard_76 (fun H locs hP hD hS => ?_)
          have hP : va_P D vwCl (RW cs bd (va_up (va_up (va_up (va_up (va_up (va_up (va_up (va_up (va_up (va_up u 49 x_153) 52 x_154) 50 r_161) 51 p2) 33 (u 33)) 34 (u 34)) 28 (u 28)) 29 (u 29)) 30 (u 30)) 31 (u 31)) (va_up (va_up (va_up b 32 (b 32)) 25 (b 25)) 26 (b 26)) bw) _ := hP
          have hD : va_D A (RW cs bd (va_up (va_up (va_up (va_up (va_up (va_up (va_up (va_up (va_up (va_up u 49 x_153) 52 x_154) 50 r_161) 51 p2) 33 (u 33)) 34 (u 34)) 28 (u 28)) 29 (u 29)) 30 (u 30)) 31 (u 31)) (va_up (va_up (va_up b 32 (b 32)) 25 (b 25)) 26 (b 26)) bw) := hD
          exact W.vret hx hb hr (fun tt ht hW => ⟨⟨⟨x_153, x_154, r_161, p2, (u 33), (u 34), (u 28), (u 29), (u 30), (u 31), (b 32), (b 25), (b 26)⟩, rfl, ⟨(show -1 ≤ (u 29).toInt by first | omega | assumption), (show (u 29).toInt < (u 1).toInt by first | omega | assumption)⟩, by rw [ht]; exact hP, hD⟩, hS.F ht⟩) hS.2.2 dX12_goHeard_79
        ·
          have kc_160 : r_159.toInt = (u 50).toInt := i_eq c_160
          refine lv_iload_n hx hb dX12_goHeard_57 rfl (lv_at hl 2 rfl) ?_
          refine lv_aload_n hx hb dX12_goHeard_58 rfl (lv_at hl 0 rfl) ?_
          refine gr_fewestBits hx hb hg hown hK hP (x := (u 51)) rfl (hg _ q5_43) dX12_goHeard_59 ?_
          refine lv_icmp_le (tgt := 66) hx hb dX12_goHeard_62 (by decide) (fun c_162 => ?_) (fun c_162 => ?_)
          ·
            have kc_162 : p2.toInt ≤ (u 51).toInt := i_le c_162
            refine lv_aload_n hx hb dX12_goHeard_66 rfl (lv_at hl 0 rfl) ?_
            refine lv_iload_n hx hb dX12_goHeard_67 rfl (lv_at hl 2 rfl) ?_
            refine cS_p (As := [.int p2]) (rest := [.ref (bd 0)]) ⟨hx, hb, hml, hown, hg⟩ (k_X12_bitsOf l   p2 ) ca_X12_bitsOf q6_111 ⟨rfl, rfl⟩ ⟨(show 0 + 1 ≤ 2 * n + 8 by omega), (show 8 + (3 + 11) + (0) ≤ 100 * n + 300 by omega)⟩ rfl hl.1 rfl (Nat.le_of_ble_eq_true rfl) ⟨Nat.zero_le _, Nat.zero_le _⟩ dX12_goHeard_68 (fun r_163 wr_163 => ?_)
            refine pr_fewest1 hx hb hg hown hK hP hD hS (hg _ q5_42) dX12_goHeard_71 (fun H locs hP hD hS => ?_)
            refine lv_aload_n hx hb dX12_goHeard_74 rfl (lv_at hl 0 rfl) ?_
            refine lv_iload_n hx hb dX12_goHeard_75 rfl (lv_at hl 2 rfl) ?_
            refine pr_fewestBits hx hb hg hown hK hP hD hS (hg _ q5_43) dX12_goHeard_76 (fun H locs hP hD hS => ?_)
            have hP : va_P D vwCl (RW cs bd (va_up (va_up (va_up (va_up (va_up (va_up (va_up (va_up (va_up (va_up u 49 x_153) 52 x_154) 50 r_163) 51 p2) 33 (u 33)) 34 (u 34)) 28 (u 28)) 29 (u 29)) 30 (u 30)) 31 (u 31)) (va_up (va_up (va_up b 32 (b 32)) 25 (b 25)) 26 (b 26)) bw) _ := hP
            have hD : va_D A (RW cs bd (va_up (va_up (va_up (va_up (va_up (va_up (va_up (va_up (va_up (va_up u 49 x_153) 52 x_154) 50 r_163) 51 p2) 33 (u 33)) 34 (u 34)) 28 (u 28)) 29 (u 29)) 30 (u 30)) 31 (u 31)) (va_up (va_up (va_up b 32 (b 32)) 25 (b 25)) 26 (b 26)) bw) := hD
            exact W.vret hx hb hr (fun tt ht hW => ⟨⟨⟨x_153, x_154, r_163, p2, (u 33), (u 34), (u 28), (u 29), (u 30), (u 31), (b 32), (b 25), (b 26)⟩, rfl, ⟨(show -1 ≤ (u 29).toInt by first | omega | assumption), (show (u 29).toInt < (u 1).toInt by first | omega | assumption)⟩, by rw [ht]; exact hP, hD⟩, hS.F ht⟩) hS.2.2 dX12_goHeard_79
          ·
            have kc_162 : (u 51).toInt < p2.toInt := i_nle c_162
            have hP : va_P D vwCl (RW cs bd (va_up (va_up (va_up (va_up (va_up (va_up (va_up (va_up (va_up (va_up u 49 x_153) 52 x_154) 50 (u 50)) 51 (u 51)) 33 (u 33)) 34 (u 34)) 28 (u 28)) 29 (u 29)) 30 (u 30)) 31 (u 31)) (va_up (va_up (va_up b 32 (b 32)) 25 (b 25)) 26 (b 26)) bw) _ := hP
            have hD : va_D A (RW cs bd (va_up (va_up (va_up (va_up (va_up (va_up (va_up (va_up (va_up (va_up u 49 x_153) 52 x_154) 50 (u 50)) 51 (u 51)) 33 (u 33)) 34 (u 34)) 28 (u 28)) 29 (u 29)) 30 (u 30)) 31 (u 31)) (va_up (va_up (va_up b 32 (b 32)) 25 (b 25)) 26 (b 26)) bw) := hD
            exact W.vret hx hb hr (fun tt ht hW => ⟨⟨⟨x_153, x_154, (u 50), (u 51), (u 33), (u 34), (u 28), (u 29), (u 30), (u 31), (b 32), (b 25), (b 26)⟩, rfl, ⟨(show -1 ≤ (u 29).toInt by first | omega | assumption), (show (u 29).toInt < (u 1).toInt by first | omega | assumption)⟩, by rw [ht]; exact hP, hD⟩, hS.F ht⟩) hS.2.2 dX12_goHeard_65
theorem k_X12_goHeard : ∀ n, C_X12_goHeard n := by
  intro n
  induction n with
  | zero => exact s_X12_goHeard 0 (fun k h => absurd h (by omega))
  | succ n ih => exact s_X12_goHeard (n + 1) (fun k h => by (have e : k = n := by omega); subst e; exact ih)
set_option maxHeartbeats 4000000 in
set_option maxRecDepth 100000 in
theorem k_X12_heard (l : Launch) (D : va_G) (cs : Nat → ClassId) (A : Nat → Prop) (bd : Nat → Nat) (u : Nat → Int32) (b : Nat → Nat → Int32) (bw : Nat → Nat → Int64)  (p1 : Int32) (p2 : Int32) (p3 : Int32) (hlaw : LAWOK (b 20) (b 21) (b 22) (b 23) (b 24)) (ib66_0 : AB (-6) 49 (b 66)) (ib67_0 : AB 0 60 (b 67)) (iu1_0 : 0 ≤ (u 1).toInt) (iu1_1 : (u 1).toInt ≤ 8) (iu48_0 : 0 ≤ (u 48).toInt) (iu48_1 : (u 48).toInt ≤ 24) (iu7_0 : -1 ≤ (u 7).toInt) (iu7_1 : (u 7).toInt < (u 1).toInt) (iu46_0 : 0 ≤ (u 46).toInt) (iu46_1 : (u 46).toInt ≤ 5) (ib23_0 : AB (-32768) 32767 (b 23)) (ib24_0 : AB (-32768) 32767 (b 24)) (ib20_0 : AB (-128) 127 (b 20)) (iu47_0 : 0 ≤ (u 47).toInt) (iu47_1 : (u 47).toInt ≤ 5) : Met l yX12_heard (Cond.code yX12_heard cX12_heard 4 (some .int) :: gw) ({ frames := 33, cells := 0, slots := 0, locals := 1529 }) (va_Pc [.ref (bd 0), .int p1, .int p2, .int p3] (XPre D (TY cs) (RW cs bd u b bw) A)) (va_Qi (fun (r : Int32) (z : Int32 × Int32 × Int32 × Int32 × Int32 × Int32 × Int32 × Int32 × Int32 × Int32 × Int32 × Int32 × Int32 × (Nat → Int32) × (Nat → Int32) × (Nat → Int32)) => (0 ≤ z.1.toInt) ∧ (z.1.toInt ≤ 24) ∧ (0 ≤ z.2.1.toInt) ∧ (z.2.1.toInt ≤ 5) ∧ (0 ≤ z.2.2.1.toInt) ∧ (z.2.2.1.toInt ≤ 5)) (XPo D (fun (z : Int32 × Int32 × Int32 × Int32 × Int32 × Int32 × Int32 × Int32 × Int32 × Int32 × Int32 × Int32 × Int32 × (Nat → Int32) × (Nat → Int32) × (Nat → Int32)) => RW cs bd (va_up (va_up (va_up (va_up (va_up (va_up (va_up (va_up (va_up (va_up (va_up (va_up (va_up u 48 z.1) 46 z.2.1) 47 z.2.2.1) 49 z.2.2.2.1) 52 z.2.2.2.2.1) 50 z.2.2.2.2.2.1) 51 z.2.2.2.2.2.2.1) 33 z.2.2.2.2.2.2.2.1) 34 z.2.2.2.2.2.2.2.2.1) 28 z.2.2.2.2.2.2.2.2.2.1) 29 z.2.2.2.2.2.2.2.2.2.2.1) 30 z.2.2.2.2.2.2.2.2.2.2.2.1) 31 z.2.2.2.2.2.2.2.2.2.2.2.2.1) (va_up (va_up (va_up b 32 z.2.2.2.2.2.2.2.2.2.2.2.2.2.1) 25 z.2.2.2.2.2.2.2.2.2.2.2.2.2.2.1) 26 z.2.2.2.2.2.2.2.2.2.2.2.2.2.2.2) bw) A) A) 0 0 A := by
  refine Met.ofW (cc := cX12_heard) (maxL := 4) (ret := (some .int)) (by decide) rfl ?_
  intro p e s m args below meth c s₁ B hml hv
  obtain ⟨rfl, hP, hK, hD, hZ⟩ := hv
  have hx := B.exec
  have hb := B.bytes
  have hr := B.returns
  have hts := atoms_spec (ws := (Cond.code yX12_heard cX12_heard 4 (some .int) :: gw)) B.pre
  have hg : ∀ w ∈ gw, w.before ([.ref (bd 0), .int p1, .int p2, .int p3] : List Value).toArray s = true := fun w h => hts w (List.mem_cons_of_mem _ h)
  have hown : s.vm.findClass RX12 = some m.cls := findClass_of_methodNamed B.named
  have hlocks := B.notSynchronized
  have hS : va_S A s.heap s.heap [] := va_S.rf
  have hP : va_P D vwCl (RW cs bd u b bw) s.heap := hP
  have hl := lv_entry ([.ref (bd 0), .int p1, .int p2, .int p3]) (n := 4) (Nat.le_of_ble_eq_true rfl)
  rw [lg_entry_eq]
  generalize (lg_sl ([.ref (bd 0), .int p1, .int p2, .int p3]) ++ List.replicate (4 - (lg_sl ([.ref (bd 0), .int p1, .int p2, .int p3])).length) Slot.unset).toArray = ls at hl ⊢
  have hl : lv_has ls 4 [(0, .ref (bd 0)), (1, .int p1), (2, .int p2), (3, .int p3)] := hl
  refine lv_iload_n hx hb dX12_heard_0 rfl (lv_at hl 1 rfl) ?_
  refine cS_p (As := [.int p1]) (rest := []) ⟨hx, hb, hml, hown, hg⟩ (k_X12_isShelf l   p1 ) ca_X12_isShelf q5_223 ⟨rfl, rfl⟩ ⟨Nat.le_of_ble_eq_true rfl, Nat.le_of_ble_eq_true rfl⟩ rfl hl.1 rfl (Nat.le_of_ble_eq_true rfl) ⟨Nat.zero_le _, Nat.zero_le _⟩ dX12_heard_1 (fun r_1 wr_1 => ?_)
  have wr_1 : (r_1.toInt = 1 ∧ 0 ≤ p1.toInt ∧ p1.toInt < 6) ∨ (r_1.toInt = 0 ∧ ¬ (0 ≤ p1.toInt ∧ p1.toInt < 6)) := wr_1
  refine lv_if_eq (tgt := 23) hx hb dX12_heard_4 (by decide) (fun c_2 => ?_) (fun c_2 => ?_)
  ·
    have kc_2 : r_1.toInt = (0 : Int) := i_eq c_2
    refine lv_iconst (v := (-1)) hx hb dX12_heard_23 (by decide) ?_
    have q0_m1 : ((-1) : Int32).toInt = (-1) := rfl
    have hP : va_P D vwCl (RW cs bd (va_up (va_up (va_up (va_up (va_up (va_up (va_up (va_up (va_up (va_up (va_up (va_up (va_up u 48 (u 48)) 46 (u 46)) 47 (u 47)) 49 (u 49)) 52 (u 52)) 50 (u 50)) 51 (u 51)) 33 (u 33)) 34 (u 34)) 28 (u 28)) 29 (u 29)) 30 (u 30)) 31 (u 31)) (va_up (va_up (va_up b 32 (b 32)) 25 (b 25)) 26 (b 26)) bw) _ := hP
    have hD : va_D A (RW cs bd (va_up (va_up (va_up (va_up (va_up (va_up (va_up (va_up (va_up (va_up (va_up (va_up (va_up u 48 (u 48)) 46 (u 46)) 47 (u 47)) 49 (u 49)) 52 (u 52)) 50 (u 50)) 51 (u 51)) 33 (u 33)) 34 (u 34)) 28 (u 28)) 29 (u 29)) 30 (u 30)) 31 (u 31)) (va_up (va_up (va_up b 32 (b 32)) 25 (b 25)) 26 (b 26)) bw) := hD
    exact W.iret (v := (-1)) hx hb hr (fun tt ht hW => ⟨⟨(-1), ⟨(u 48), (u 46), (u 47), (u 49), (u 52), (u 50), (u 51), (u 33), (u 34), (u 28), (u 29), (u 30), (u 31), (b 32), (b 25), (b 26)⟩, rfl, ⟨(show 0 ≤ (u 48).toInt by first | omega | assumption), (show (u 48).toInt ≤ 24 by first | omega | assumption), (show 0 ≤ (u 46).toInt by first | omega | assumption), (show (u 46).toInt ≤ 5 by first | omega | assumption), (show 0 ≤ (u 47).toInt by first | omega | assumption), (show (u 47).toInt ≤ 5 by first | omega | assumption)⟩, by rw [ht]; exact hP, hD⟩, hS.F ht⟩) hS.2.2 dX12_heard_24
  ·
    have kc_2 : r_1.toInt ≠ (0 : Int) := i_ne c_2
    refine lv_iload_n hx hb dX12_heard_7 rfl (lv_at hl 2 rfl) ?_
    refine cS_p (As := [.int p2]) (rest := []) ⟨hx, hb, hml, hown, hg⟩ (k_X12_isShelf l   p2 ) ca_X12_isShelf q5_223 ⟨rfl, rfl⟩ ⟨Nat.le_of_ble_eq_true rfl, Nat.le_of_ble_eq_true rfl⟩ rfl hl.1 rfl (Nat.le_of_ble_eq_true rfl) ⟨Nat.zero_le _, Nat.zero_le _⟩ dX12_heard_8 (fun r_3 wr_3 => ?_)
    have wr_3 : (r_3.toInt = 1 ∧ 0 ≤ p2.toInt ∧ p2.toInt < 6) ∨ (r_3.toInt = 0 ∧ ¬ (0 ≤ p2.toInt ∧ p2.toInt < 6)) := wr_3
    refine lv_if_eq (tgt := 23) hx hb dX12_heard_11 (by decide) (fun c_4 => ?_) (fun c_4 => ?_)
    ·
      have kc_4 : r_3.toInt = (0 : Int) := i_eq c_4
      refine lv_iconst (v := (-1)) hx hb dX12_heard_23 (by decide) ?_
      have q0_m1 : ((-1) : Int32).toInt = (-1) := rfl
      have hP : va_P D vwCl (RW cs bd (va_up (va_up (va_up (va_up (va_up (va_up (va_up (va_up (va_up (va_up (va_up (va_up (va_up u 48 (u 48)) 46 (u 46)) 47 (u 47)) 49 (u 49)) 52 (u 52)) 50 (u 50)) 51 (u 51)) 33 (u 33)) 34 (u 34)) 28 (u 28)) 29 (u 29)) 30 (u 30)) 31 (u 31)) (va_up (va_up (va_up b 32 (b 32)) 25 (b 25)) 26 (b 26)) bw) _ := hP
      have hD : va_D A (RW cs bd (va_up (va_up (va_up (va_up (va_up (va_up (va_up (va_up (va_up (va_up (va_up (va_up (va_up u 48 (u 48)) 46 (u 46)) 47 (u 47)) 49 (u 49)) 52 (u 52)) 50 (u 50)) 51 (u 51)) 33 (u 33)) 34 (u 34)) 28 (u 28)) 29 (u 29)) 30 (u 30)) 31 (u 31)) (va_up (va_up (va_up b 32 (b 32)) 25 (b 25)) 26 (b 26)) bw) := hD
      exact W.iret (v := (-1)) hx hb hr (fun tt ht hW => ⟨⟨(-1), ⟨(u 48), (u 46), (u 47), (u 49), (u 52), (u 50), (u 51), (u 33), (u 34), (u 28), (u 29), (u 30), (u 31), (b 32), (b 25), (b 26)⟩, rfl, ⟨(show 0 ≤ (u 48).toInt by first | omega | assumption), (show (u 48).toInt ≤ 24 by first | omega | assumption), (show 0 ≤ (u 46).toInt by first | omega | assumption), (show (u 46).toInt ≤ 5 by first | omega | assumption), (show 0 ≤ (u 47).toInt by first | omega | assumption), (show (u 47).toInt ≤ 5 by first | omega | assumption)⟩, by rw [ht]; exact hP, hD⟩, hS.F ht⟩) hS.2.2 dX12_heard_24
    ·
      have kc_4 : r_3.toInt ≠ (0 : Int) := i_ne c_4
      refine lv_iload_n hx hb dX12_heard_14 rfl (lv_at hl 3 rfl) ?_
      refine lv_iconst (v := 0) hx hb dX12_heard_15 (by decide) ?_
      refine lv_iconst (v := 3) hx hb dX12_heard_16 (by decide) ?_
      refine cS_p (As := [.int p3, .int 0, .int 3]) (rest := []) ⟨hx, hb, hml, hown, hg⟩ (k_X12_in l   p3 0 3 ) ca_X12_in q5_212 ⟨rfl, rfl⟩ ⟨Nat.le_of_ble_eq_true rfl, Nat.le_of_ble_eq_true rfl⟩ rfl hl.1 rfl (Nat.le_of_ble_eq_true rfl) ⟨Nat.zero_le _, Nat.zero_le _⟩ dX12_heard_17 (fun r_5 wr_5 => ?_)
      have wr_5 : (r_5.toInt = 1 ∧ (0 : Int) ≤ p3.toInt ∧ p3.toInt ≤ (3 : Int)) ∨ (r_5.toInt = 0 ∧ ¬ ((0 : Int) ≤ p3.toInt ∧ p3.toInt ≤ (3 : Int))) := wr_5
      refine lv_if_ne (tgt := 25) hx hb dX12_heard_20 (by decide) (fun c_6 => ?_) (fun c_6 => ?_)
      ·
        have kc_6 : r_5.toInt ≠ (0 : Int) := i_ne c_6
        refine lv_aload_n hx hb dX12_heard_25 rfl (lv_at hl 0 rfl) ?_
        refine lv_iload_n hx hb dX12_heard_26 rfl (lv_at hl 1 rfl) ?_
        refine lv_iconst (v := 0) hx hb dX12_heard_27 (by decide) ?_
        refine cV_ro (As := [.int p1, .int 0]) (rest := []) ⟨hx, hb, hml, hown, hg⟩ (k_X12_rowFault l D cs A bd u b bw  p1 0 (show 0 ≤ p1.toInt by first | omega | decide) (show p1.toInt < 6 by first | omega | decide) ib66_0) ca_X12_rowFault q6_132 ⟨rfl, rfl⟩ ⟨Nat.le_of_ble_eq_true rfl, Nat.le_of_ble_eq_true rfl⟩ (rc_model hK hP) hK hP hD hS hZ rfl hl.1 rfl (Nat.le_of_ble_eq_true rfl) ⟨Nat.zero_le _, Nat.zero_le _⟩ dX12_heard_28 (fun r_7 wr_7 => ?_)
        have wr_7_0 : r_7.toInt = 0 ∨ r_7.toInt = -11 ∨ r_7.toInt = -12 := wr_7
        refine lv_if_ge (tgt := 41) hx hb dX12_heard_31 (by decide) (fun c_8 => ?_) (fun c_8 => ?_)
        ·
          have kc_8 : (0 : Int) ≤ r_7.toInt := i_le c_8
          refine lv_aload_n hx hb dX12_heard_41 rfl (lv_at hl 0 rfl) ?_
          refine lv_iload_n hx hb dX12_heard_42 rfl (lv_at hl 2 rfl) ?_
          refine lv_iconst (v := 0) hx hb dX12_heard_43 (by decide) ?_
          refine cV_ro (As := [.int p2, .int 0]) (rest := []) ⟨hx, hb, hml, hown, hg⟩ (k_X12_rowFault l D cs A bd u b bw  p2 0 (show 0 ≤ p2.toInt by first | omega | decide) (show p2.toInt < 6 by first | omega | decide) ib66_0) ca_X12_rowFault q6_132 ⟨rfl, rfl⟩ ⟨Nat.le_of_ble_eq_true rfl, Nat.le_of_ble_eq_true rfl⟩ (rc_model hK hP) hK hP hD hS hZ rfl hl.1 rfl (Nat.le_of_ble_eq_true rfl) ⟨Nat.zero_le _, Nat.zero_le _⟩ dX12_heard_44 (fun r_9 wr_9 => ?_)
          have wr_9_0 : r_9.toInt = 0 ∨ r_9.toInt = -11 ∨ r_9.toInt = -12 := wr_9
          refine lv_if_ge (tgt := 57) hx hb dX12_heard_47 (by decide) (fun c_10 => ?_) (fun c_10 => ?_)
          ·
            have kc_10 : (0 : Int) ≤ r_9.toInt := i_le c_10
            refine lv_aload_n hx hb dX12_heard_57 rfl (lv_at hl 0 rfl) ?_
            refine lv_aload_n hx hb dX12_heard_58 rfl (lv_at hl 0 rfl) ?_
            refine lv_iload_n hx hb dX12_heard_59 rfl (lv_at hl 1 rfl) ?_
            refine lv_bipush (v := 24) hx hb dX12_heard_60 (by decide) ?_
            refine cV_ro (As := [.int p1, .int 24]) (rest := [.ref (bd 0)]) ⟨hx, hb, hml, hown, hg⟩ (k_X12_longOf l D cs A bd u b bw  p1 24 (show 0 ≤ p1.toInt by first | omega | decide) (show p1.toInt < 6 by first | omega | decide) (show (24 : Int) ≤ 24 by first | omega | decide) ib67_0 (show 0 ≤ (u 1).toInt by first | omega | decide) (show (u 1).toInt ≤ 8 by first | omega | decide)) ca_X12_longOf q6_140 ⟨rfl, rfl⟩ ⟨Nat.le_of_ble_eq_true rfl, Nat.le_of_ble_eq_true rfl⟩ (rc_model hK hP) hK hP hD hS hZ rfl hl.1 rfl (Nat.le_of_ble_eq_true rfl) ⟨Nat.zero_le _, Nat.zero_le _⟩ dX12_heard_62 (fun r_11 wr_11 => ?_)
            obtain ⟨wr_11_0, wr_11_1, wr_11_2⟩ : (0 ≤ r_11.toInt) ∧ (r_11.toInt ≤ 24) ∧ (LOKD r_11 (bw 68) p1 (u 1)) := wr_11
            refine pr_sayings hx hb hg hown hK hP hD hS (hg _ q5_40) dX12_heard_65 (fun H locs hP hD hS => ?_)
            refine lv_aload_n hx hb dX12_heard_68 rfl (lv_at hl 0 rfl) ?_
            refine gr_sayings hx hb hg hown hK hP (x := r_11) rfl (hg _ q5_40) dX12_heard_69 ?_
            refine lv_bipush (v := 12) hx hb dX12_heard_72 (by decide) ?_
            refine lv_icmp_le (tgt := 80) hx hb dX12_heard_74 (by decide) (fun c_12 => ?_) (fun c_12 => ?_)
            ·
              have kc_12 : r_11.toInt ≤ (12 : Int) := i_le c_12
              refine lv_aload_n hx hb dX12_heard_80 rfl (lv_at hl 0 rfl) ?_
              refine lv_iload_n hx hb dX12_heard_81 rfl (lv_at hl 1 rfl) ?_
              refine pr_dayShelf hx hb hg hown hK hP hD hS (hg _ q5_38) dX12_heard_82 (fun H locs hP hD hS => ?_)
              refine lv_aload_n hx hb dX12_heard_85 rfl (lv_at hl 0 rfl) ?_
              refine lv_iload_n hx hb dX12_heard_86 rfl (lv_at hl 2 rfl) ?_
              refine pr_toldShelf hx hb hg hown hK hP hD hS (hg _ q5_39) dX12_heard_87 (fun H locs hP hD hS => ?_)
              refine lv_aload_n hx hb dX12_heard_90 rfl (lv_at hl 0 rfl) ?_
              refine lv_iconst (v := 0) hx hb dX12_heard_91 (by decide) ?_
              refine pr_waysMany hx hb hg hown hK hP hD hS (hg _ q5_41) dX12_heard_92 (fun H locs hP hD hS => ?_)
              refine lv_aload_n hx hb dX12_heard_95 rfl (lv_at hl 0 rfl) ?_
              refine lv_bipush (v := (-2)) hx hb dX12_heard_96 (by decide) ?_
              refine pr_fewest1 hx hb hg hown hK hP hD hS (hg _ q5_42) dX12_heard_98 (fun H locs hP hD hS => ?_)
              refine lv_aload_n hx hb dX12_heard_101 rfl (lv_at hl 0 rfl) ?_
              refine lv_bipush (v := (-2)) hx hb dX12_heard_102 (by decide) ?_
              refine pr_fewestBits hx hb hg hown hK hP hD hS (hg _ q5_43) dX12_heard_104 (fun H locs hP hD hS => ?_)
              refine lv_aload_n hx hb dX12_heard_107 rfl (lv_at hl 0 rfl) ?_
              refine lv_iconst (v := (-1)) hx hb dX12_heard_108 (by decide) ?_
              refine pr_certain1 hx hb hg hown hK hP hD hS (hg _ q5_44) dX12_heard_109 (fun H locs hP hD hS => ?_)
              refine lv_aload_n hx hb dX12_heard_112 rfl (lv_at hl 0 rfl) ?_
              refine lv_iconst (v := 0) hx hb dX12_heard_113 (by decide) ?_
              refine cV_v (As := [.int 0]) (rest := []) ⟨hx, hb, hml, hown, hg⟩ (k_X12_layNow l D cs A bd (va_up (va_up (va_up (va_up (va_up (va_up (va_up u 48 r_11) 46 p1) 47 p2) 49 0) 50 (-2)) 51 (-2)) 52 (-1)) b bw  0 (show 0 ≤ (u 1).toInt by first | omega | decide) (show (u 1).toInt ≤ 8 by first | omega | decide) (show -1 ≤ (u 7).toInt by first | omega | decide) (show (u 7).toInt < (u 1).toInt by first | omega | decide)) ca_X12_layNow q6_93 ⟨rfl, rfl⟩ ⟨Nat.le_of_ble_eq_true rfl, Nat.le_of_ble_eq_true rfl⟩ (rc_model hK hP) hK hP hD hS hZ rfl hl.1 rfl (Nat.le_of_ble_eq_true rfl) ⟨Nat.zero_le _, Nat.zero_le _⟩ dX12_heard_114 (fun z_19 H locs wr_13 hP hD hS => ?_)
              obtain ⟨o_u28_14, o_u29_15, o_u30_16, o_u31_17, o_b32_18⟩ := z_19
              have hP : va_P D vwCl (RW cs bd (va_up (va_up (va_up (va_up (va_up (va_up (va_up (va_up (va_up (va_up (va_up u 48 r_11) 46 p1) 47 p2) 49 0) 50 (-2)) 51 (-2)) 52 (-1)) 28 o_u28_14) 29 o_u29_15) 30 o_u30_16) 31 o_u31_17) (va_up b 32 o_b32_18) bw) H := hP
              have hD : va_D A (RW cs bd (va_up (va_up (va_up (va_up (va_up (va_up (va_up (va_up (va_up (va_up (va_up u 48 r_11) 46 p1) 47 p2) 49 0) 50 (-2)) 51 (-2)) 52 (-1)) 28 o_u28_14) 29 o_u29_15) 30 o_u30_16) 31 o_u31_17) (va_up b 32 o_b32_18) bw) := hD
              obtain ⟨wr_13_0, wr_13_1, wr_13_2⟩ : (o_u31_17 = (0 : Int32)) ∧ (-1 ≤ o_u29_15.toInt) ∧ (o_u29_15.toInt < (u 1).toInt) := wr_13
              refine lv_aload_n hx hb dX12_heard_117 rfl (lv_at hl 0 rfl) ?_
              refine lv_iconst (v := 0) hx hb dX12_heard_118 (by decide) ?_
              refine lv_iconst (v := 0) hx hb dX12_heard_119 (by decide) ?_
              refine cV_v (As := [.int 0, .int 0]) (rest := []) ⟨hx, hb, hml, hown, hg⟩ ((k_X12_goHeard 12) l D cs A bd (va_up (va_up (va_up (va_up (va_up (va_up (va_up (va_up (va_up (va_up (va_up u 48 r_11) 46 p1) 47 p2) 49 0) 50 (-2)) 51 (-2)) 52 (-1)) 28 o_u28_14) 29 o_u29_15) 30 o_u30_16) 31 o_u31_17) (va_up b 32 o_b32_18) bw  0 0 (show 0 ≤ (0 : Int) by first | omega | decide) (show (0 : Int) ≤ r_11.toInt by first | omega | decide) (show r_11.toInt ≤ 12 by first | omega | decide) (show 12 ≤ (0 : Int) + ((12 : Nat) : Int) by first | omega | decide) (by assumption) hlaw (show 0 ≤ p1.toInt by first | omega | decide) (show p1.toInt ≤ 5 by first | omega | decide) (show 0 ≤ (u 1).toInt by first | omega | decide) (show (u 1).toInt ≤ 8 by first | omega | decide) (show -1 ≤ o_u29_15.toInt by first | omega | decide) (show o_u29_15.toInt < (u 1).toInt by first | omega | decide) ib23_0 ib24_0 ib20_0 (show 0 ≤ p2.toInt by first | omega | decide) (show p2.toInt ≤ 5 by first | omega | decide) ib67_0 (show 0 ≤ r_11.toInt by first | omega | decide) (show r_11.toInt ≤ 24 by first | omega | decide)) ca_X12_goHeard q6_235 ⟨rfl, rfl⟩ ⟨Nat.le_of_ble_eq_true rfl, Nat.le_of_ble_eq_true rfl⟩ (rc_model hK hP) hK hP hD hS hZ rfl hl.1 rfl (Nat.le_of_ble_eq_true rfl) ⟨Nat.zero_le _, Nat.zero_le _⟩ dX12_heard_120 (fun z_34 H locs wr_20 hP hD hS => ?_)
              obtain ⟨o_u49_21, o_u52_22, o_u50_23, o_u51_24, o_u33_25, o_u34_26, o_u28_27, o_u29_28, o_u30_29, o_u31_30, o_b32_31, o_b25_32, o_b26_33⟩ := z_34
              have hP : va_P D vwCl (RW cs bd (va_up (va_up (va_up (va_up (va_up (va_up (va_up (va_up (va_up (va_up (va_up (va_up (va_up u 48 r_11) 46 p1) 47 p2) 49 o_u49_21) 52 o_u52_22) 50 o_u50_23) 51 o_u51_24) 33 o_u33_25) 34 o_u34_26) 28 o_u28_27) 29 o_u29_28) 30 o_u30_29) 31 o_u31_30) (va_up (va_up (va_up b 32 o_b32_31) 25 o_b25_32) 26 o_b26_33) bw) H := hP
              have hD : va_D A (RW cs bd (va_up (va_up (va_up (va_up (va_up (va_up (va_up (va_up (va_up (va_up (va_up (va_up (va_up u 48 r_11) 46 p1) 47 p2) 49 o_u49_21) 52 o_u52_22) 50 o_u50_23) 51 o_u51_24) 33 o_u33_25) 34 o_u34_26) 28 o_u28_27) 29 o_u29_28) 30 o_u30_29) 31 o_u31_30) (va_up (va_up (va_up b 32 o_b32_31) 25 o_b25_32) 26 o_b26_33) bw) := hD
              obtain ⟨wr_20_0, wr_20_1⟩ : (-1 ≤ o_u29_28.toInt) ∧ (o_u29_28.toInt < (u 1).toInt) := wr_20
              refine lv_iload_n hx hb dX12_heard_123 rfl (lv_at hl 3 rfl) ?_
              rcases (show p3.toInt = 0 ∨ p3.toInt = 1 ∨ p3.toInt = 2 ∨ (p3.toInt < 0 ∨ 2 < p3.toInt) by omega) with kc_35 | kc_35 | kc_35 | kc_35
              ·
                refine lv_tableIn (tgt := 152) hx hb dX12_heard_124 (by omega) (by omega) (off := 28) (by rw [kc_35]; rfl) (by decide) ?_
                refine lv_aload_n hx hb dX12_heard_152 rfl (lv_at hl 0 rfl) ?_
                refine gr_waysMany hx hb hg hown hK hP (x := o_u49_21) rfl (hg _ q5_41) dX12_heard_153 ?_
                exact W.iret (v := o_u49_21) hx hb hr (fun tt ht hW => ⟨⟨o_u49_21, ⟨r_11, p1, p2, o_u49_21, o_u52_22, o_u50_23, o_u51_24, o_u33_25, o_u34_26, o_u28_27, o_u29_28, o_u30_29, o_u31_30, o_b32_31, o_b25_32, o_b26_33⟩, rfl, ⟨(show 0 ≤ r_11.toInt by first | omega | assumption), (show r_11.toInt ≤ 24 by first | omega | assumption), (show 0 ≤ p1.toInt by first | omega | assumption), (show p1.toInt ≤ 5 by first | omega | assumption), (show 0 ≤ p2.toInt by first | omega | assumption), (show p2.toInt ≤ 5 by first | omega | assumption)⟩, by rw [ht]; exact hP, hD⟩, hS.F ht⟩) hS.2.2 dX12_heard_156
              ·
                refine lv_tableIn (tgt := 157) hx hb dX12_heard_124 (by omega) (by omega) (off := 33) (by rw [kc_35]; rfl) (by decide) ?_
                refine lv_aload_n hx hb dX12_heard_157 rfl (lv_at hl 0 rfl) ?_
                refine gr_fewest1 hx hb hg hown hK hP (x := o_u50_23) rfl (hg _ q5_42) dX12_heard_158 ?_
                exact W.iret (v := o_u50_23) hx hb hr (fun tt ht hW => ⟨⟨o_u50_23, ⟨r_11, p1, p2, o_u49_21, o_u52_22, o_u50_23, o_u51_24, o_u33_25, o_u34_26, o_u28_27, o_u29_28, o_u30_29, o_u31_30, o_b32_31, o_b25_32, o_b26_33⟩, rfl, ⟨(show 0 ≤ r_11.toInt by first | omega | assumption), (show r_11.toInt ≤ 24 by first | omega | assumption), (show 0 ≤ p1.toInt by first | omega | assumption), (show p1.toInt ≤ 5 by first | omega | assumption), (show 0 ≤ p2.toInt by first | omega | assumption), (show p2.toInt ≤ 5 by first | omega | assumption)⟩, by rw [ht]; exact hP, hD⟩, hS.F ht⟩) hS.2.2 dX12_heard_161
              ·
                refine lv_tableIn (tgt := 162) hx hb dX12_heard_124 (by omega) (by omega) (off := 38) (by rw [kc_35]; rfl) (by decide) ?_
                refine lv_aload_n hx hb dX12_heard_162 rfl (lv_at hl 0 rfl) ?_
                refine gr_fewestBits hx hb hg hown hK hP (x := o_u51_24) rfl (hg _ q5_43) dX12_heard_163 ?_
                exact W.iret (v := o_u51_24) hx hb hr (fun tt ht hW => ⟨⟨o_u51_24, ⟨r_11, p1, p2, o_u49_21, o_u52_22, o_u50_23, o_u51_24, o_u33_25, o_u34_26, o_u28_27, o_u29_28, o_u30_29, o_u31_30, o_b32_31, o_b25_32, o_b26_33⟩, rfl, ⟨(show 0 ≤ r_11.toInt by first | omega | assumption), (show r_11.toInt ≤ 24 by first | omega | assumption), (show 0 ≤ p1.toInt by first | omega | assumption), (show p1.toInt ≤ 5 by first | omega | assumption), (show 0 ≤ p2.toInt by first | omega | assumption), (show p2.toInt ≤ 5 by first | omega | assumption)⟩, by rw [ht]; exact hP, hD⟩, hS.F ht⟩) hS.2.2 dX12_heard_166
              ·
                refine lv_tableOut (tgt := 167) hx hb dX12_heard_124 kc_35 (by decide) ?_
                refine lv_aload_n hx hb dX12_heard_167 rfl (lv_at hl 0 rfl) ?_
                refine gr_waysMany hx hb hg hown hK hP (x := o_u49_21) rfl (hg _ q5_41) dX12_heard_168 ?_
                refine lv_if_ne (tgt := 178) hx hb dX12_heard_171 (by decide) (fun c_36 => ?_) (fun c_36 => ?_)
                ·
                  have kc_36 : o_u49_21.toInt ≠ (0 : Int) := i_ne c_36
                  refine lv_aload_n hx hb dX12_heard_178 rfl (lv_at hl 0 rfl) ?_
                  refine gr_certain1 hx hb hg hown hK hP (x := o_u52_22) rfl (hg _ q5_44) dX12_heard_179 ?_
                  exact W.iret (v := o_u52_22) hx hb hr (fun tt ht hW => ⟨⟨o_u52_22, ⟨r_11, p1, p2, o_u49_21, o_u52_22, o_u50_23, o_u51_24, o_u33_25, o_u34_26, o_u28_27, o_u29_28, o_u30_29, o_u31_30, o_b32_31, o_b25_32, o_b26_33⟩, rfl, ⟨(show 0 ≤ r_11.toInt by first | omega | assumption), (show r_11.toInt ≤ 24 by first | omega | assumption), (show 0 ≤ p1.toInt by first | omega | assumption), (show p1.toInt ≤ 5 by first | omega | assumption), (show 0 ≤ p2.toInt by first | omega | assumption), (show p2.toInt ≤ 5 by first | omega | assumption)⟩, by rw [ht]; exact hP, hD⟩, hS.F ht⟩) hS.2.2 dX12_heard_182
                ·
                  have kc_36 : o_u49_21.toInt = (0 : Int) := i_eq c_36
                  refine lv_iconst (v := 0) hx hb dX12_heard_174 (by decide) ?_
                  refine lv_goto (tgt := 182) hx hb dX12_heard_175 (by decide) ?_
                  have q0_0 : (0 : Int32).toInt = 0 := rfl
                  exact W.iret (v := 0) hx hb hr (fun tt ht hW => ⟨⟨0, ⟨r_11, p1, p2, o_u49_21, o_u52_22, o_u50_23, o_u51_24, o_u33_25, o_u34_26, o_u28_27, o_u29_28, o_u30_29, o_u31_30, o_b32_31, o_b25_32, o_b26_33⟩, rfl, ⟨(show 0 ≤ r_11.toInt by first | omega | assumption), (show r_11.toInt ≤ 24 by first | omega | assumption), (show 0 ≤ p1.toInt by first | omega | assumption), (show p1.toInt ≤ 5 by first | omega | assumption), (show 0 ≤ p2.toInt by first | omega | assumption), (show p2.toInt ≤ 5 by first | omega | assumption)⟩, by rw [ht]; exact hP, hD⟩, hS.F ht⟩) hS.2.2 dX12_heard_182
            ·
              have kc_12 : (12 : Int) < r_11.toInt := i_nle c_12
              refine lv_bipush (v := (-5)) hx hb dX12_heard_77 (by decide) ?_
              have q0_m5 : ((-5) : Int32).toInt = (-5) := rfl
              have hP : va_P D vwCl (RW cs bd (va_up (va_up (va_up (va_up (va_up (va_up (va_up (va_up (va_up (va_up (va_up (va_up (va_up u 48 r_11) 46 (u 46)) 47 (u 47)) 49 (u 49)) 52 (u 52)) 50 (u 50)) 51 (u 51)) 33 (u 33)) 34 (u 34)) 28 (u 28)) 29 (u 29)) 30 (u 30)) 31 (u 31)) (va_up (va_up (va_up b 32 (b 32)) 25 (b 25)) 26 (b 26)) bw) _ := hP
              have hD : va_D A (RW cs bd (va_up (va_up (va_up (va_up (va_up (va_up (va_up (va_up (va_up (va_up (va_up (va_up (va_up u 48 r_11) 46 (u 46)) 47 (u 47)) 49 (u 49)) 52 (u 52)) 50 (u 50)) 51 (u 51)) 33 (u 33)) 34 (u 34)) 28 (u 28)) 29 (u 29)) 30 (u 30)) 31 (u 31)) (va_up (va_up (va_up b 32 (b 32)) 25 (b 25)) 26 (b 26)) bw) := hD
              exact W.iret (v := (-5)) hx hb hr (fun tt ht hW => ⟨⟨(-5), ⟨r_11, (u 46), (u 47), (u 49), (u 52), (u 50), (u 51), (u 33), (u 34), (u 28), (u 29), (u 30), (u 31), (b 32), (b 25), (b 26)⟩, rfl, ⟨(show 0 ≤ r_11.toInt by first | omega | assumption), (show r_11.toInt ≤ 24 by first | omega | assumption), (show 0 ≤ (u 46).toInt by first | omega | assumption), (show (u 46).toInt ≤ 5 by first | omega | assumption), (show 0 ≤ (u 47).toInt by first | omega | assumption), (show (u 47).toInt ≤ 5 by first | omega | assumption)⟩, by rw [ht]; exact hP, hD⟩, hS.F ht⟩) hS.2.2 dX12_heard_79
          ·
            have kc_10 : r_9.toInt < (0 : Int) := i_nle c_10
            refine lv_aload_n hx hb dX12_heard_50 rfl (lv_at hl 0 rfl) ?_
            refine lv_iload_n hx hb dX12_heard_51 rfl (lv_at hl 2 rfl) ?_
            refine lv_iconst (v := 0) hx hb dX12_heard_52 (by decide) ?_
            refine cV_ro (As := [.int p2, .int 0]) (rest := []) ⟨hx, hb, hml, hown, hg⟩ (k_X12_rowFault l D cs A bd u b bw  p2 0 (show 0 ≤ p2.toInt by first | omega | decide) (show p2.toInt < 6 by first | omega | decide) ib66_0) ca_X12_rowFault q6_132 ⟨rfl, rfl⟩ ⟨Nat.le_of_ble_eq_true rfl, Nat.le_of_ble_eq_true rfl⟩ (rc_model hK hP) hK hP hD hS hZ rfl hl.1 rfl (Nat.le_of_ble_eq_true rfl) ⟨Nat.zero_le _, Nat.zero_le _⟩ dX12_heard_53 (fun r_37 wr_37 => ?_)
            have wr_37_0 : r_37.toInt = 0 ∨ r_37.toInt = -11 ∨ r_37.toInt = -12 := wr_37
            have hP : va_P D vwCl (RW cs bd (va_up (va_up (va_up (va_up (va_up (va_up (va_up (va_up (va_up (va_up (va_up (va_up (va_up u 48 (u 48)) 46 (u 46)) 47 (u 47)) 49 (u 49)) 52 (u 52)) 50 (u 50)) 51 (u 51)) 33 (u 33)) 34 (u 34)) 28 (u 28)) 29 (u 29)) 30 (u 30)) 31 (u 31)) (va_up (va_up (va_up b 32 (b 32)) 25 (b 25)) 26 (b 26)) bw) _ := hP
            have hD : va_D A (RW cs bd (va_up (va_up (va_up (va_up (va_up (va_up (va_up (va_up (va_up (va_up (va_up (va_up (va_up u 48 (u 48)) 46 (u 46)) 47 (u 47)) 49 (u 49)) 52 (u 52)) 50 (u 50)) 51 (u 51)) 33 (u 33)) 34 (u 34)) 28 (u 28)) 29 (u 29)) 30 (u 30)) 31 (u 31)) (va_up (va_up (va_up b 32 (b 32)) 25 (b 25)) 26 (b 26)) bw) := hD
            exact W.iret (v := r_37) hx hb hr (fun tt ht hW => ⟨⟨r_37, ⟨(u 48), (u 46), (u 47), (u 49), (u 52), (u 50), (u 51), (u 33), (u 34), (u 28), (u 29), (u 30), (u 31), (b 32), (b 25), (b 26)⟩, rfl, ⟨(show 0 ≤ (u 48).toInt by first | omega | assumption), (show (u 48).toInt ≤ 24 by first | omega | assumption), (show 0 ≤ (u 46).toInt by first | omega | assumption), (show (u 46).toInt ≤ 5 by first | omega | assumption), (show 0 ≤ (u 47).toInt by first | omega | assumption), (show (u 47).toInt ≤ 5 by first | omega | assumption)⟩, by rw [ht]; exact hP, hD⟩, hS.F ht⟩) hS.2.2 dX12_heard_56
        ·
          have kc_8 : r_7.toInt < (0 : Int) := i_nle c_8
          refine lv_aload_n hx hb dX12_heard_34 rfl (lv_at hl 0 rfl) ?_
          refine lv_iload_n hx hb dX12_heard_35 rfl (lv_at hl 1 rfl) ?_
          refine lv_iconst (v := 0) hx hb dX12_heard_36 (by decide) ?_
          refine cV_ro (As := [.int p1, .int 0]) (rest := []) ⟨hx, hb, hml, hown, hg⟩ (k_X12_rowFault l D cs A bd u b bw  p1 0 (show 0 ≤ p1.toInt by first | omega | decide) (show p1.toInt < 6 by first | omega | decide) ib66_0) ca_X12_rowFault q6_132 ⟨rfl, rfl⟩ ⟨Nat.le_of_ble_eq_true rfl, Nat.le_of_ble_eq_true rfl⟩ (rc_model hK hP) hK hP hD hS hZ rfl hl.1 rfl (Nat.le_of_ble_eq_true rfl) ⟨Nat.zero_le _, Nat.zero_le _⟩ dX12_heard_37 (fun r_38 wr_38 => ?_)
          have wr_38_0 : r_38.toInt = 0 ∨ r_38.toInt = -11 ∨ r_38.toInt = -12 := wr_38
          have hP : va_P D vwCl (RW cs bd (va_up (va_up (va_up (va_up (va_up (va_up (va_up (va_up (va_up (va_up (va_up (va_up (va_up u 48 (u 48)) 46 (u 46)) 47 (u 47)) 49 (u 49)) 52 (u 52)) 50 (u 50)) 51 (u 51)) 33 (u 33)) 34 (u 34)) 28 (u 28)) 29 (u 29)) 30 (u 30)) 31 (u 31)) (va_up (va_up (va_up b 32 (b 32)) 25 (b 25)) 26 (b 26)) bw) _ := hP
          have hD : va_D A (RW cs bd (va_up (va_up (va_up (va_up (va_up (va_up (va_up (va_up (va_up (va_up (va_up (va_up (va_up u 48 (u 48)) 46 (u 46)) 47 (u 47)) 49 (u 49)) 52 (u 52)) 50 (u 50)) 51 (u 51)) 33 (u 33)) 34 (u 34)) 28 (u 28)) 29 (u 29)) 30 (u 30)) 31 (u 31)) (va_up (va_up (va_up b 32 (b 32)) 25 (b 25)) 26 (b 26)) bw) := hD
          exact W.iret (v := r_38) hx hb hr (fun tt ht hW => ⟨⟨r_38, ⟨(u 48), (u 46), (u 47), (u 49), (u 52), (u 50), (u 51), (u 33), (u 34), (u 28), (u 29), (u 30), (u 31), (b 32), (b 25), (b 26)⟩, rfl, ⟨(show 0 ≤ (u 48).toInt by first | omega | assumption), (show (u 48).toInt ≤ 24 by first | omega | assumption), (show 0 ≤ (u 46).toInt by first | omega | assumption), (show (u 46).toInt ≤ 5 by first | omega | assumption), (show 0 ≤ (u 47).toInt by first | omega | assumption), (show (u 47).toInt ≤ 5 by first | omega | assumption)⟩, by rw [ht]; exact hP, hD⟩, hS.F ht⟩) hS.2.2 dX12_heard_40
      ·
        have kc_6 : r_5.toInt = (0 : Int) := i_eq c_6
        refine lv_iconst (v := (-1)) hx hb dX12_heard_23 (by decide) ?_
        have q0_m1 : ((-1) : Int32).toInt = (-1) := rfl
        have hP : va_P D vwCl (RW cs bd (va_up (va_up (va_up (va_up (va_up (va_up (va_up (va_up (va_up (va_up (va_up (va_up (va_up u 48 (u 48)) 46 (u 46)) 47 (u 47)) 49 (u 49)) 52 (u 52)) 50 (u 50)) 51 (u 51)) 33 (u 33)) 34 (u 34)) 28 (u 28)) 29 (u 29)) 30 (u 30)) 31 (u 31)) (va_up (va_up (va_up b 32 (b 32)) 25 (b 25)) 26 (b 26)) bw) _ := hP
        have hD : va_D A (RW cs bd (va_up (va_up (va_up (va_up (va_up (va_up (va_up (va_up (va_up (va_up (va_up (va_up (va_up u 48 (u 48)) 46 (u 46)) 47 (u 47)) 49 (u 49)) 52 (u 52)) 50 (u 50)) 51 (u 51)) 33 (u 33)) 34 (u 34)) 28 (u 28)) 29 (u 29)) 30 (u 30)) 31 (u 31)) (va_up (va_up (va_up b 32 (b 32)) 25 (b 25)) 26 (b 26)) bw) := hD
        exact W.iret (v := (-1)) hx hb hr (fun tt ht hW => ⟨⟨(-1), ⟨(u 48), (u 46), (u 47), (u 49), (u 52), (u 50), (u 51), (u 33), (u 34), (u 28), (u 29), (u 30), (u 31), (b 32), (b 25), (b 26)⟩, rfl, ⟨(show 0 ≤ (u 48).toInt by first | omega | assumption), (show (u 48).toInt ≤ 24 by first | omega | assumption), (show 0 ≤ (u 46).toInt by first | omega | assumption), (show (u 46).toInt ≤ 5 by first | omega | assumption), (show 0 ≤ (u 47).toInt by first | omega | assumption), (show (u 47).toInt ≤ 5 by first | omega | assumption)⟩, by rw [ht]; exact hP, hD⟩, hS.F ht⟩) hS.2.2 dX12_heard_24
