/-! THE CLAIM OUT OF ONE WALK OF THE LAW'S BODY. Your part is whole_start (and what it stands on); all else here is the same for every law, but numbers. -/
def R_law : String := "BeesStingLaw"
def lw_P (b : Addr) (xs : List Int32) (args : Array Value) (s : State) : Prop := args = #[.ref b] ∧ s.IntsAt b xs ∧ xs.length ≤ 3072 ∧ (Jvm.Cond.and given_1 narrow_1).before args s = true
def lw_Q (_ : Array Value) (s : State) (o : Outcome) (t : State) : Prop := o = .returned (some (.int 1)) ∧ Framed s o t [] 600000 7302250
def lw_Z (below : List Frame) (a : Array Value) (s : State) : State → Prop := fun t => ∃ o, t.status = .running ∧ Ended t below o ∧ lw_Q a s o t
/-- the law's own end, with 1 on the stack, nothing written that was there before, its room as the claim has it -/
theorem lw_ret {p : Program} {l : Launch} {e : Env} {s : State} {m : MethodId} {below : List Frame} {meth : Method} {c : Code} {b : Nat} (hx : p.tables.exec = Jvm.exec) (hb : c.code = code) (hr : meth.sig.returnType = ret) (hlocks : meth.locks = false) {pc : Nat} {H : Heap} {ls : Array Slot} (hdg : decode code pc = .ok (.ireturn, 1)) : W p l e room_1 s m #[Value.ref b] below meth c H [] 600000 7302250 (lw_Z below #[Value.ref b] s) (F0 m pc ls [.int 1]) := by
  intro T hT X
  obtain ⟨fs, hret, hrun, hended, hW, hframe⟩ := X.leave (v := some (.int 1)) (hlocks := hlocks) (fun h => by rw [hr] at h; cases h)
  have hmeth' : T.vm.method? m = some meth := X.method'
  refine ⟨T.setFrames fs, ?_, .returned (some (.int 1)), hrun, hended, rfl, ⟨_, rfl⟩, hW, hframe⟩
  jvm_step X.here [X.here.top, hx, hb, hdg, hmeth', hr, ret, narrow_b1]
  (try refine ⟨rfl, ?_⟩); (try refine ⟨rfl, ?_⟩)
  first | (intro acts; rw [hret _ acts rfl rfl rfl]) | rw [hret _ _ rfl rfl rfl]
  exact Steps.refl _
/-- what holds at the law's entry: the machine, the code, the tables' words (any of lw_tbl by 'hts w (by decide +kernel)'), the script of L ints xs at the cell b, what the Statement gives of the start (any of its parts by flat_of_before) -/
def lw_At (p : Program) (s : State) (m : MethodId) (meth : Method) (c : Code) (b L : Nat) (xs : Nat → Int32) : Prop :=
  p.tables.exec = Jvm.exec ∧ c.code = code ∧ meth.sig.returnType = ret ∧ c.maxLocals = 4 ∧ s.vm.findClass R_law = some m.cls ∧ (∀ w ∈ lw_tbl, w.before #[Value.ref b] s = true) ∧ va_X b L xs s s.heap ∧ b < s.heap.size ∧ meth.locks = false ∧ (Jvm.Cond.and given_1 narrow_1).before #[Value.ref b] s = true
theorem gw_in0 {w : Cond} (h : w ∈ lw_tbl) : w ∈ lw_tbl := h
set_option maxHeartbeats 16000000 in
set_option maxRecDepth 100000 in
theorem law_new {p : Program} {e : Env} {s : State} {m : MethodId} {below : List Frame} {meth : Method} {c : Code} (l : Launch) {b L : Nat} {xs : Nat → Int32} (C0 : lw_At p s m meth c b L xs) {Q : State → Prop}
    (kk : ∀ (D : va_G) (cs : Nat → ClassId) (ad fa fq rv : Nat → Nat) (v : Nat → Int32) (a : Nat → Nat → Int32) (w : Nat → Nat → Int64) (fv fp : Nat → Nat → Int32) (bd : Nat → Nat) (u : Nat → Int32) (b_ : Nat → Nat → Int32) (bw : Nat → Nat → Int64) (H : Heap) (locs : List Loc) (ls : Array Slot), va_K D vwCl (TY cs) s → ZS (fun q : Nat => s.heap.size ≤ q) s → CI v a fv → RI u b_ bw → REL v a w fv u b_ bw → va_P D vwCl (CW cs ad fa fq rv v a w fv fp ++ RW cs bd u b_ bw) H → va_D (fun q : Nat => s.heap.size ≤ q) (CW cs ad fa fq rv v a w fv fp ++ RW cs bd u b_ bw) → va_S (fun q : Nat => s.heap.size ≤ q) s.heap H locs → lv_has ls 4 [(0, .ref b), (1, .ref (ad 0)), (2, .ref (bd 0)), (3, .int 0)] → W p l e room_1 s m #[Value.ref b] below meth c H locs 200 9000 Q (F0 m 18 ls [])) :
    W p l e room_1 s m #[Value.ref b] below meth c s.heap [] 0 0 Q (entryFrame m ([Value.ref b] : List Value).toArray 4) := by
  obtain ⟨hx, hb, hr, hml, hown, hts, hX, hbl, hlocks, hgv⟩ := id C0
  have hg : ∀ w ∈ gw, w.before #[Value.ref b] s = true := fun w h => hts w (gw_in w h)
  have hA : ∀ q : Nat, s.heap.size ≤ q → (fun q : Nat => s.heap.size ≤ q) q := fun _ h => h
  obtain ⟨c0, iS0, hKn0⟩ := u_known (C := RX0) (T := TX0) (N := 5) (n := 5) hg us0 (hg _ q1_78)
  obtain ⟨c1, iS1, hKn1⟩ := u_known (C := RX1) (T := TX1) (N := 6) (n := 6) hg us1 (hg _ q1_27)
  obtain ⟨c2, iS2, hKn2⟩ := u_known (C := RX2) (T := TX2) (N := 2) (n := 2) hg us2 (hg _ q1_199)
  obtain ⟨c3, iS3, hKn3⟩ := u_known (C := RX3) (T := TX3) (N := 11) (n := 11) hg us3 (hg _ q1_216)
  obtain ⟨c4, iS4, hKn4⟩ := u_known (C := RX4) (T := TX4) (N := 9) (n := 9) hg us4 (hg _ q2_86)
  obtain ⟨c5, iS5, hKn5⟩ := u_known (C := RX5) (T := TX5) (N := 6) (n := 6) hg us5 (hg _ q2_59)
  obtain ⟨c6, iS6, hKn6⟩ := u_known (C := RX6) (T := TX6) (N := 8) (n := 8) hg us6 (hg _ q1_143)
  obtain ⟨c7, iS7, hKn7⟩ := u_known (C := RX7) (T := TX7) (N := 5) (n := 5) hg us7 (hg _ q1_149)
  obtain ⟨c8, iS8, hKn8⟩ := u_known (C := RX8) (T := TX8) (N := 6) (n := 6) hg us8 (hg _ q2_32)
  obtain ⟨c9, iS9, hKn9⟩ := u_known (C := RX9) (T := TX9) (N := 7) (n := 7) hg us9 (hg _ q1_103)
  obtain ⟨c10, iS10, hKn10⟩ := u_known (C := RX10) (T := TX10) (N := 3) (n := 3) hg us10 (hg _ q1_59)
  obtain ⟨c11, iS11, hKn11⟩ := u_known (C := RX11) (T := TX11) (N := 15) (n := 15) hg us11 (hg _ q1_19)
  obtain ⟨c12, iS12, hKn12⟩ := u_known (C := RX12) (T := TX12) (N := 70) (n := 70) hg us12 (hg _ q4_228)
  obtain ⟨dC, dI, hKc⟩ : ∃ (dC : Nat → ClassId) (dI : Nat → Nat → Nat), ∀ (k : Nat) (q : vw_C), vwCl[k]? = some q → u_Kn s q.1 q.2.1 q.2.2 (dC k) (dI k) := by
    refine ⟨fun k => if k = 0 then c0 else if k = 1 then c1 else if k = 2 then c2 else if k = 3 then c3 else if k = 4 then c4 else if k = 5 then c5 else if k = 6 then c6 else if k = 7 then c7 else if k = 8 then c8 else if k = 9 then c9 else if k = 10 then c10 else if k = 11 then c11 else c12, fun k => if k = 0 then iS0 else if k = 1 then iS1 else if k = 2 then iS2 else if k = 3 then iS3 else if k = 4 then iS4 else if k = 5 then iS5 else if k = 6 then iS6 else if k = 7 then iS7 else if k = 8 then iS8 else if k = 9 then iS9 else if k = 10 then iS10 else if k = 11 then iS11 else iS12, ?_⟩
    intro k q hq
    match k, hq with
    | 0, hq => cases hq; exact hKn0
    | 1, hq => cases hq; exact hKn1
    | 2, hq => cases hq; exact hKn2
    | 3, hq => cases hq; exact hKn3
    | 4, hq => cases hq; exact hKn4
    | 5, hq => cases hq; exact hKn5
    | 6, hq => cases hq; exact hKn6
    | 7, hq => cases hq; exact hKn7
    | 8, hq => cases hq; exact hKn8
    | 9, hq => cases hq; exact hKn9
    | 10, hq => cases hq; exact hKn10
    | 11, hq => cases hq; exact hKn11
    | 12, hq => cases hq; exact hKn12
    | k + 13, hq => simp [vwCl] at hq
  obtain ⟨ai, ki, mi, gi1, gi2, gi3⟩ := Cond.arrayClass_spec (hg _ q1_57)
  obtain ⟨aj, kj, mj, gj1, gj2, gj3⟩ := Cond.arrayClass_spec (hg _ q1_76)
  obtain ⟨ah, kh, mh, gh1, gh2, gh3⟩ := Cond.arrayClass_spec (hg _ q5_204)
  obtain ⟨ay, ky, my, gy1, gy2, gy3⟩ := Cond.arrayClass_spec (hg _ q5_203)
  obtain ⟨mo, ao, ko, go1, go2, go3, go4, go5⟩ := Cond.arrayOver_spec (hts _ (gw_in0 q1_215))
  have hAOA : va_AOA .long s := hts _ (gw_in0 q1_65)
  obtain ⟨mr, ar, kr, gr1, gr2, gr3, gr4, gr5⟩ := va_AOA.spec hAOA
  obtain ⟨cs, hcs⟩ : ∃ cs : Nat → ClassId, cs = fun k => if k = 0 then ai else if k = 1 then aj else if k = 2 then ao else if k = 3 then ar else if k = 4 then ah else ay := ⟨_, rfl⟩
  have hK : va_K (dC, dI) vwCl (TY cs) s := by
    subst hcs
    refine ⟨hKc, fun k q hk => ?_⟩
    match k, hk with
    | 0, hk => cases hk; exact ⟨fun N z => ⟨(fun q hq => by cases hq), ki, gi2, mi, gi3⟩, gi1⟩
    | 1, hk => cases hk; exact ⟨fun N z => ⟨(fun q hq => by cases hq), kj, gj2, mj, gj3⟩, gj1⟩
    | 2, hk => cases hk; exact ⟨fun N z => ⟨(fun q hq => by cases hq), ko, go3, mo, go4⟩, ko, mo, go3, go4, go1, go5⟩
    | 3, hk => cases hk; exact ⟨fun N z => ⟨(fun q hq => by cases hq), kr, gr3, mr, gr4⟩, gr5⟩
    | 4, hk => cases hk; exact ⟨fun N z => ⟨(fun q hq => by cases hq), kh, gh2, mh, gh3⟩, gh1⟩
    | 5, hk => cases hk; exact ⟨fun N z => ⟨(fun q hq => by cases hq), ky, gy2, my, gy3⟩, gy1⟩
    | k + 6, hk => simp [TY] at hk
  have hN : NX s := ⟨va_AO.of (hts _ (gw_in0 q1_215)), hAOA, va_Nw.of rfl (hts _ (gw_in0 q1_28)), va_Nw.of rfl (hts _ (gw_in0 q1_60)), va_Nw.of rfl (hts _ (gw_in0 q1_79)), va_Nw.of rfl (hts _ (gw_in0 q1_104)), va_Nw.of rfl (hts _ (gw_in0 q1_144)), va_Nw.of rfl (hts _ (gw_in0 q1_150)), va_Nw.of rfl (hts _ (gw_in0 q1_200))⟩
  have hs := flat_of_before _ hgv
  have hAs : ∀ a : Nat, a < s.heap.size → ¬ (fun q : Nat => s.heap.size ≤ q) a := fun a h => Nat.not_le.mpr h
  obtain ⟨t0, ht0, hT0⟩ : ∃ t : Nat, (Term.static "BeesSting" "MOST" "[I").eval #[Value.ref b] s none [] s = some (.ref t) ∧ va_T .int t 8 (zf zMost) (fun q : Nat => s.heap.size ≤ q) s s.heap := va_Tof (by decide) (hs (Cond.arrayOf (.static "BeesSting" "MOST" "[I") .int) (by decide +kernel)) (va_eqt (z := 8) (hs (Cond.eq (.length (.static "BeesSting" "MOST" "[I")) (.int 8)) (by decide +kernel))) (fun j hj => match j, hj with | 0, _ => va_eqt (z := 255) (hs (Cond.eq (.elem (.static "BeesSting" "MOST" "[I") (.int 0)) (.int 255)) (by decide +kernel)) | 1, _ => va_eqt (z := 12) (hs (Cond.eq (.elem (.static "BeesSting" "MOST" "[I") (.int 1)) (.int 12)) (by decide +kernel)) | 2, _ => va_eqt (z := 9) (hs (Cond.eq (.elem (.static "BeesSting" "MOST" "[I") (.int 2)) (.int 9)) (by decide +kernel)) | 3, _ => va_eqt (z := 99) (hs (Cond.eq (.elem (.static "BeesSting" "MOST" "[I") (.int 3)) (.int 99)) (by decide +kernel)) | 4, _ => va_eqt (z := 255) (hs (Cond.eq (.elem (.static "BeesSting" "MOST" "[I") (.int 4)) (.int 255)) (by decide +kernel)) | 5, _ => va_eqt (z := 20) (hs (Cond.eq (.elem (.static "BeesSting" "MOST" "[I") (.int 5)) (.int 20)) (by decide +kernel)) | 6, _ => va_eqt (z := 23) (hs (Cond.eq (.elem (.static "BeesSting" "MOST" "[I") (.int 6)) (.int 23)) (by decide +kernel)) | 7, _ => va_eqt (z := 9) (hs (Cond.eq (.elem (.static "BeesSting" "MOST" "[I") (.int 7)) (.int 9)) (by decide +kernel)) | j + 8, h => absurd h (by omega)) hAs
  obtain ⟨t1, ht1, hT1⟩ : ∃ t : Nat, (Term.static "BeesSting" "LEAST" "[I").eval #[Value.ref b] s none [] s = some (.ref t) ∧ va_T .int t 8 (zf zLeast) (fun q : Nat => s.heap.size ≤ q) s s.heap := va_Tof (by decide) (hs (Cond.arrayOf (.static "BeesSting" "LEAST" "[I") .int) (by decide +kernel)) (va_eqt (z := 8) (hs (Cond.eq (.length (.static "BeesSting" "LEAST" "[I")) (.int 8)) (by decide +kernel))) (fun j hj => match j, hj with | 0, _ => va_eqt (z := 0) (hs (Cond.eq (.elem (.static "BeesSting" "LEAST" "[I") (.int 0)) (.int 0)) (by decide +kernel)) | 1, _ => va_eqt (z := 0) (hs (Cond.eq (.elem (.static "BeesSting" "LEAST" "[I") (.int 1)) (.int 0)) (by decide +kernel)) | 2, _ => va_eqt (z := 0) (hs (Cond.eq (.elem (.static "BeesSting" "LEAST" "[I") (.int 2)) (.int 0)) (by decide +kernel)) | 3, _ => va_eqt (z := 0) (hs (Cond.eq (.elem (.static "BeesSting" "LEAST" "[I") (.int 3)) (.int 0)) (by decide +kernel)) | 4, _ => va_eqt (z := 0) (hs (Cond.eq (.elem (.static "BeesSting" "LEAST" "[I") (.int 4)) (.int 0)) (by decide +kernel)) | 5, _ => va_eqt (z := 1) (hs (Cond.eq (.elem (.static "BeesSting" "LEAST" "[I") (.int 5)) (.int 1)) (by decide +kernel)) | 6, _ => va_eqt (z := 0) (hs (Cond.eq (.elem (.static "BeesSting" "LEAST" "[I") (.int 6)) (.int 0)) (by decide +kernel)) | 7, _ => va_eqt (z := 1) (hs (Cond.eq (.elem (.static "BeesSting" "LEAST" "[I") (.int 7)) (.int 1)) (by decide +kernel)) | j + 8, h => absurd h (by omega)) hAs
  obtain ⟨t2, ht2, hT2⟩ : ∃ t : Nat, (Term.static "BeesSting$Acts" "ABOVE" "[I").eval #[Value.ref b] s none [] s = some (.ref t) ∧ va_T .int t 8 (zf zAbove) (fun q : Nat => s.heap.size ≤ q) s s.heap := va_Tof (by decide) (hs (Cond.arrayOf (.static "BeesSting$Acts" "ABOVE" "[I") .int) (by decide +kernel)) (va_eqt (z := 8) (hs (Cond.eq (.length (.static "BeesSting$Acts" "ABOVE" "[I")) (.int 8)) (by decide +kernel))) (fun j hj => match j, hj with | 0, _ => va_eqt (z := (-1)) (hs (Cond.eq (.elem (.static "BeesSting$Acts" "ABOVE" "[I") (.int 0)) (.int (-1))) (by decide +kernel)) | 1, _ => va_eqt (z := 0) (hs (Cond.eq (.elem (.static "BeesSting$Acts" "ABOVE" "[I") (.int 1)) (.int 0)) (by decide +kernel)) | 2, _ => va_eqt (z := 0) (hs (Cond.eq (.elem (.static "BeesSting$Acts" "ABOVE" "[I") (.int 2)) (.int 0)) (by decide +kernel)) | 3, _ => va_eqt (z := 2) (hs (Cond.eq (.elem (.static "BeesSting$Acts" "ABOVE" "[I") (.int 3)) (.int 2)) (by decide +kernel)) | 4, _ => va_eqt (z := 1) (hs (Cond.eq (.elem (.static "BeesSting$Acts" "ABOVE" "[I") (.int 4)) (.int 1)) (by decide +kernel)) | 5, _ => va_eqt (z := 3) (hs (Cond.eq (.elem (.static "BeesSting$Acts" "ABOVE" "[I") (.int 5)) (.int 3)) (by decide +kernel)) | 6, _ => va_eqt (z := 0) (hs (Cond.eq (.elem (.static "BeesSting$Acts" "ABOVE" "[I") (.int 6)) (.int 0)) (by decide +kernel)) | 7, _ => va_eqt (z := 6) (hs (Cond.eq (.elem (.static "BeesSting$Acts" "ABOVE" "[I") (.int 7)) (.int 6)) (by decide +kernel)) | j + 8, h => absurd h (by omega)) hAs
  have hZ : ZS (fun q : Nat => s.heap.size ≤ q) s := ⟨t0, t1, t2, ⟨va_Zref (hts _ (gw_in0 q2_235)) (hg _ q1_1) ht0 hAs, hT0⟩, ⟨va_Zref (hts _ (gw_in0 q3_9)) (hg _ q1_1) ht1 hAs, hT1⟩, ⟨va_Zref (hts _ (gw_in0 q4_144)) (hg _ q1_4) ht2 hAs, hT2⟩⟩
  have hS : va_S (fun q : Nat => s.heap.size ≤ q) s.heap s.heap [] := va_S.rf
  have hP : va_P (dC, dI) vwCl [] s.heap := fun k q h => by simp at h
  have hD : va_D (fun q : Nat => s.heap.size ≤ q) [] := ⟨fun i j p q h => by simp at h, fun k q h => by simp at h⟩
  have hl := lv_entry ([.ref b]) (n := 4) (Nat.le_of_ble_eq_true rfl)
  rw [lg_entry_eq]
  generalize (lg_sl ([.ref b]) ++ List.replicate (4 - (lg_sl ([.ref b])).length) Slot.unset).toArray = ls at hl ⊢
  have hl : lv_has ls 4 [(0, .ref b)] := hl
  refine va_new (ci := 11) (fs := [.null, .null, .null, .null, .null, .null, .null, .null, .null, .null, .null, .null, .null, .null, .int 0]) (C := RX11) (T := TX11) (N := 15) hx hb hg us11 tyX11 tyX11_ok hown (hg _ q1_18) (hg _ q1_19) (hg _ q1_1) hK hP hD hS hA rfl (fun j hj => match j, hj with | 0, _ => rfl | 1, _ => rfl | 2, _ => rfl | 3, _ => rfl | 4, _ => rfl | 5, _ => rfl | 6, _ => rfl | 7, _ => rfl | 8, _ => rfl | 9, _ => rfl | 10, _ => rfl | 11, _ => rfl | 12, _ => rfl | 13, _ => rfl | 14, _ => rfl | j + 15, hj => absurd hj (by omega)) (Nat.le_of_ble_eq_true rfl) (Nat.le_of_ble_eq_true rfl) dL_law_0 (fun q0 H hP hD hS => ?_)
  refine lv_dup hx hb dL_law_3 rfl ?_
  have hP : va_P (dC, dI) vwCl [(q0, .inr (11, [.null, .null, .null, .null, .null, .null, .null, .null, .null, .null, .null, .null, .null, .null, .int 0]))] H := hP
  have hD : va_D (fun q : Nat => s.heap.size ≤ q) [(q0, .inr (11, [.null, .null, .null, .null, .null, .null, .null, .null, .null, .null, .null, .null, .null, .null, .int 0]))] := hD
  refine kI (As := []) (rest := [.ref q0]) (wr := []) ⟨hx, hb, hml, hown, hg⟩ (k_X11_init l (dC, dI) cs q0 H.size) cc_X11_init q1_20 ⟨rfl, rfl⟩ ⟨Nat.le_of_ble_eq_true rfl, Nat.le_of_ble_eq_true rfl⟩ hN hK hP hD hS hA [0] [] rfl rfl rfl (by decide) (by decide +kernel) (by decide +kernel) rfl hl.1 rfl (Nat.le_of_ble_eq_true rfl) ⟨Nat.le_of_ble_eq_true rfl, Nat.le_of_ble_eq_true rfl⟩ dL_law_4 (fun z_1 H locs hP hD hS => ?_)
  obtain ⟨y_2, y_3, y_4, y_5, y_6, y_7, y_8, y_9, y_10, y_11, y_12, y_13, y_14, y_15, y_16, y_17, y_18, y_19, y_20, y_21, y_22, y_23, y_24, y_25, y_26, y_27, y_28, y_29, y_30, y_31, y_32, y_33, y_34, y_35, y_36, y_37, y_38, y_39, y_40, y_41, y_42, y_43, y_44, y_45, y_46, y_47, y_48, y_49, y_50, y_51, y_52, y_53, y_54, y_55, y_56, y_57, y_58, y_59, y_60, y_61, y_62, y_63, y_64, y_65, y_66, y_67, y_68, y_69, y_70, y_71, y_72, y_73, y_74, y_75, y_76, y_77, y_78, y_79⟩ := z_1
  obtain ⟨ad, fa, fq, rv, v, a, w, fv, fp, e0, hF0, hF, hPn, hDn⟩ := cw_new q0 y_2 y_3 y_4 y_5 y_6 y_7 y_8 y_9 y_10 y_11 y_12 y_13 y_14 y_15 y_16 y_17 y_18 y_19 y_20 y_21 y_22 y_23 y_24 y_25 y_26 y_27 y_28 y_29 y_30 y_31 y_32 y_33 y_34 y_35 y_36 y_37 y_38 y_39 y_40 y_41 y_42 y_43 y_44 y_45 y_46 y_47 y_48 y_49 y_50 y_51 y_52 y_53 y_54 y_55 y_56 y_57 y_58 y_59 y_60 y_61 y_62 y_63 y_64 y_65 y_66 y_67 y_68 y_69 y_70 y_71 y_72 y_73 y_74 y_75 y_76 y_77 y_78 y_79 hP hD
  subst e0
  have hP := hPn
  have hD := hDn
  refine W.widen (k := 100) (n := 5000) (Nat.le_of_ble_eq_true rfl) (Nat.le_of_ble_eq_true rfl) ?_
  refine lv_astore_n (lv' := [(1, .ref (ad 0)), (0, .ref b)]) hx hb dL_law_7 rfl hl (by decide) rfl (fun ls hl => ?_)
  refine va_new (ci := 12) (fs := [.int 0, .int 0, .null, .null, .null, .null, .null, .int 0, .int 0, .int 0, .null, .null, .null, .null, .null, .int 0, .int 0, .int 0, .int 0, .int 0, .null, .null, .null, .null, .null, .null, .null, .int 0, .int 0, .int 0, .int 0, .int 0, .null, .int 0, .int 0, .int 0, .null, .null, .null, .null, .null, .int 0, .int 0, .int 0, .int 0, .int 0, .int 0, .int 0, .int 0, .int 0, .int 0, .int 0, .int 0, .null, .int 0, .int 0, .int 0, .int 0, .int 0, .null, .null, .null, .int 0, .null, .int 0, .null, .null, .null, .null, .null]) (C := RX12) (T := TX12) (N := 70) hx hb hg us12 tyX12 tyX12_ok hown (hg _ q4_227) (hg _ q4_228) (hg _ q1_13) hK hP hD hS hA rfl (fun j hj => match j, hj with | 0, _ => rfl | 1, _ => rfl | 2, _ => rfl | 3, _ => rfl | 4, _ => rfl | 5, _ => rfl | 6, _ => rfl | 7, _ => rfl | 8, _ => rfl | 9, _ => rfl | 10, _ => rfl | 11, _ => rfl | 12, _ => rfl | 13, _ => rfl | 14, _ => rfl | 15, _ => rfl | 16, _ => rfl | 17, _ => rfl | 18, _ => rfl | 19, _ => rfl | 20, _ => rfl | 21, _ => rfl | 22, _ => rfl | 23, _ => rfl | 24, _ => rfl | 25, _ => rfl | 26, _ => rfl | 27, _ => rfl | 28, _ => rfl | 29, _ => rfl | 30, _ => rfl | 31, _ => rfl | 32, _ => rfl | 33, _ => rfl | 34, _ => rfl | 35, _ => rfl | 36, _ => rfl | 37, _ => rfl | 38, _ => rfl | 39, _ => rfl | 40, _ => rfl | 41, _ => rfl | 42, _ => rfl | 43, _ => rfl | 44, _ => rfl | 45, _ => rfl | 46, _ => rfl | 47, _ => rfl | 48, _ => rfl | 49, _ => rfl | 50, _ => rfl | 51, _ => rfl | 52, _ => rfl | 53, _ => rfl | 54, _ => rfl | 55, _ => rfl | 56, _ => rfl | 57, _ => rfl | 58, _ => rfl | 59, _ => rfl | 60, _ => rfl | 61, _ => rfl | 62, _ => rfl | 63, _ => rfl | 64, _ => rfl | 65, _ => rfl | 66, _ => rfl | 67, _ => rfl | 68, _ => rfl | 69, _ => rfl | j + 70, hj => absurd hj (by omega)) (Nat.le_of_ble_eq_true rfl) (Nat.le_of_ble_eq_true rfl) dL_law_8 (fun q1 H hP hD hS => ?_)
  refine lv_dup hx hb dL_law_11 rfl ?_
  refine kI (As := []) (rest := [.ref q1]) (wr := CW cs ad fa fq rv v a w fv fp) ⟨hx, hb, hml, hown, hg⟩ (k_X12_init l (dC, dI) cs q1 H.size) cc_X12_init q4_229 ⟨rfl, rfl⟩ ⟨Nat.le_of_ble_eq_true rfl, Nat.le_of_ble_eq_true rfl⟩ hN hK hP hD hS hA [77] [0, 1, 2, 3, 4, 5, 6, 7, 8, 9, 10, 11, 12, 13, 14, 15, 16, 17, 18, 19, 20, 21, 22, 23, 24, 25, 26, 27, 28, 29, 30, 31, 32, 33, 34, 35, 36, 37, 38, 39, 40, 41, 42, 43, 44, 45, 46, 47, 48, 49, 50, 51, 52, 53, 54, 55, 56, 57, 58, 59, 60, 61, 62, 63, 64, 65, 66, 67, 68, 69, 70, 71, 72, 73, 74, 75, 76] rfl rfl rfl (by decide) (by decide +kernel) (by decide +kernel) rfl hl.1 rfl (Nat.le_of_ble_eq_true rfl) ⟨Nat.le_of_ble_eq_true rfl, Nat.le_of_ble_eq_true rfl⟩ dL_law_12 (fun z_80 H locs hP hD hS => ?_)
  obtain ⟨y_81, y_82, y_83, y_84, y_85, y_86, y_87, y_88, y_89, y_90, y_91, y_92, y_93, y_94, y_95, y_96, y_97, y_98, y_99, y_100, y_101, y_102, y_103, y_104, y_105, y_106, y_107, y_108, y_109, y_110, y_111, y_112, y_113⟩ := z_80
  have hP0 := pw_r hP
  obtain ⟨bd, u, b_, bw, e1, hR0, hR, hPr, hDr⟩ := rw_new q1 y_81 y_82 y_83 y_84 y_85 y_86 y_87 y_88 y_89 y_90 y_91 y_92 y_93 y_94 y_95 y_96 y_97 y_98 y_99 y_100 y_101 y_102 y_103 y_104 y_105 y_106 y_107 y_108 y_109 y_110 y_111 y_112 y_113 hP0 (dw_r hD)
  obtain ⟨hPn, hDn⟩ := back_r (H1 := H) hP hD (fun _ _ _ => rfl) hPr hDr
  subst e1
  have hP := hPn
  have hD := hDn
  refine W.widen (k := 200) (n := 9000) (Nat.le_of_ble_eq_true rfl) (Nat.le_of_ble_eq_true rfl) ?_
  refine lv_astore_n (lv' := [(2, .ref (bd 0)), (1, .ref (ad 0)), (0, .ref b)]) hx hb dL_law_15 rfl hl (by decide) rfl (fun ls hl => ?_)
  refine lv_iconst (v := 0) hx hb dL_law_16 (by decide) ?_
  refine lv_istore_n (lv' := [(3, .int 0), (2, .ref (bd 0)), (1, .ref (ad 0)), (0, .ref b)]) hx hb dL_law_17 rfl hl (by decide) rfl (fun ls hl => ?_)
  exact kk (dC, dI) cs ad fa fq rv v a w fv fp bd u b_ bw H _ ls hK hZ hF0 hR0 (rel_new hF hR) hP hD hS (lv_sub hl [3, 2, 1, 0] rfl)
