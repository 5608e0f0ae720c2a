/-! own library: numbers, words, calls in one fixed world -/
theorem i_bd (x : Int32) : -2147483648 ≤ x.toInt ∧ x.toInt ≤ 2147483647 := ⟨by have := Int32.le_toInt x; simpa using this, by have := Int32.toInt_lt x; omega⟩
theorem i_bmod {z : Int} (h1 : -2147483648 ≤ z) (h2 : z ≤ 2147483647) : z.bmod (2 ^ 32) = z := by
  unfold Int.bmod; simp only []; split <;> omega
theorem i_add {x y : Int32} (h1 : -2147483648 ≤ x.toInt + y.toInt) (h2 : x.toInt + y.toInt ≤ 2147483647) : (x + y).toInt = x.toInt + y.toInt := by
  rw [Int32.toInt_add]; exact i_bmod h1 h2
theorem i_sub {x y : Int32} (h1 : -2147483648 ≤ x.toInt - y.toInt) (h2 : x.toInt - y.toInt ≤ 2147483647) : (x - y).toInt = x.toInt - y.toInt := by
  rw [Int32.toInt_sub]; exact i_bmod h1 h2
theorem i_mul {x y : Int32} (h1 : -2147483648 ≤ x.toInt * y.toInt) (h2 : x.toInt * y.toInt ≤ 2147483647) : (x * y).toInt = x.toInt * y.toInt := by
  rw [Int32.toInt_mul]; exact i_bmod h1 h2
theorem i_neg {x : Int32} (h : -2147483648 < x.toInt) : (-x).toInt = -x.toInt := by
  rw [Int32.toInt_neg]; exact i_bmod (by have := i_bd x; omega) (by omega)
theorem i_div {x y : Int32} (hx : 0 ≤ x.toInt) (hy : 0 < y.toInt) : (x / y).toInt = x.toInt / y.toInt := by
  rw [Int32.toInt_div, Int.tdiv_eq_ediv_of_nonneg hx]
  have h1 := Int.ediv_le_self y.toInt hx
  have h2 := Int.ediv_nonneg hx (Int.le_of_lt hy)
  have := i_bd x
  exact i_bmod (by omega) (by omega)
theorem i_rem {x y : Int32} (hx : 0 ≤ x.toInt) (hy : 0 < y.toInt) : (x - x / y * y).toInt = x.toInt % y.toInt := by
  have h1 := i_div hx hy
  have h2 := Int.emod_add_mul_ediv x.toInt y.toInt
  have h3 := Int.emod_nonneg x.toInt (Int.ne_of_gt hy)
  have h4 := Int.ediv_nonneg hx (Int.le_of_lt hy)
  have hb := i_bd x
  have h6 : 0 ≤ x.toInt / y.toInt * y.toInt := Int.mul_nonneg h4 (Int.le_of_lt hy)
  have h7 : y.toInt * (x.toInt / y.toInt) = x.toInt / y.toInt * y.toInt := Int.mul_comm _ _
  have h5 : (x / y * y).toInt = x.toInt / y.toInt * y.toInt := by
    rw [i_mul, h1]
    · rw [h1]; omega
    · rw [h1]; omega
  rw [i_sub, h5]
  · omega
  · rw [h5]; omega
  · rw [h5]; omega
theorem i_lt {x y : Int32} (h : x < y) : x.toInt < y.toInt := Int32.lt_iff_toInt_lt.mp h
theorem i_nlt {x y : Int32} (h : ¬ x < y) : y.toInt ≤ x.toInt := Int.not_lt.mp fun q => h (Int32.lt_iff_toInt_lt.mpr q)
theorem i_le {x y : Int32} (h : x ≤ y) : x.toInt ≤ y.toInt := Int32.le_iff_toInt_le.mp h
theorem i_nle {x y : Int32} (h : ¬ x ≤ y) : y.toInt < x.toInt := Int.not_le.mp fun q => h (Int32.le_iff_toInt_le.mpr q)
theorem i_eq {x y : Int32} (h : x = y) : x.toInt = y.toInt := by rw [h]
theorem i_ne {x y : Int32} (h : ¬ x = y) : x.toInt ≠ y.toInt := fun q => h (Int32.toInt_inj.mp q)
theorem i_inj {x y : Int32} (h : x.toInt = y.toInt) : x = y := Int32.toInt_inj.mp h
theorem i_nat {x : Int32} : x.toNatClampNeg = x.toInt.toNat := rfl
theorem i_in {x : Int32} {n : Nat} (h1 : 0 ≤ x.toInt) (h2 : x.toInt < n) : vp_in x n := vp_in_iff.mpr ⟨h1, h2⟩
theorem i_mk (z : Int) (h1 : -2147483648 ≤ z) (h2 : z ≤ 2147483647) : ∃ x : Int32, x.toInt = z := ⟨Int32.ofInt z, by rw [Int32.toInt_ofInt]; exact i_bmod h1 h2⟩
/-- which words a call of y needs, the link apart -/
def CalI (y : MethodName) (C : String) (bytes : ByteArray) (maxL : Nat) (ret : Option FieldType) (n : Nat) : Prop :=
  Cond.instanceMethod y ∈ gw ∧ Cond.selects C y y ∈ gw ∧ Cond.initialized y.cls ∈ gw ∧ Cond.code y bytes maxL ret ∈ gw ∧ (y.cls = C ∧ y.cls ≠ "java/lang/invoke/MethodHandle" ∧ y.cls ≠ "java/lang/invoke/VarHandle" ∧ (parseMethodDescriptor y.desc).map (fun d => d.parameters.length) = some n)
def CalS (y : MethodName) (bytes : ByteArray) (maxL : Nat) (ret : Option FieldType) (n : Nat) : Prop :=
  Cond.static y ∈ gw ∧ Cond.initialized y.cls ∈ gw ∧ Cond.code y bytes maxL ret ∈ gw ∧ (y.cls ≠ "java/lang/invoke/MethodHandle" ∧ y.cls ≠ "java/lang/invoke/VarHandle" ∧ (parseMethodDescriptor y.desc).map (fun d => d.parameters.length) = some n)
theorem gw_good {w : Cond} (h : w ∈ gw) : (w.onTables && w.keeps) = true ∨ ∃ ty, w = .arrayClass ty := good_of_word (List.mem_filter.mp h).2
theorem gw_in (w : Cond) (h : w ∈ gw) : w ∈ lw_tbl := (List.mem_filter.mp h).1
theorem gw_ws {y : MethodName} {bytes : ByteArray} {maxL : Nat} {ret : Option FieldType} (h : Cond.code y bytes maxL ret ∈ gw) : GoodIn gw (Cond.code y bytes maxL ret :: gw) := fun w hw => by
  rcases List.mem_cons.mp hw with rfl | hw
  · exact ⟨h, gw_good h⟩
  · exact ⟨hw, gw_good hw⟩
section OwnCalls
variable {p : Program} {l : Launch} {e : Env} {R : Room} {s : State} {m : MethodId} {args : Array Value} {below : List Frame} {meth : Method} {c : Code} {H : Heap} {locs : List Loc} {cells slots : Nat} {Q : State → Prop}
variable {cc bytes : ByteArray} {pc nL maxL n index : Nat} {ls : Array Slot} {rest st0 As : List Value} {A : Nat → Prop} {own C : String} {y : MethodName} {ret : Option FieldType} {rm : Room} {b : Nat}
theorem cwg_V (hg : ∀ w ∈ gw, w.before args s = true) (hc : CalI y C bytes maxL ret n) (hl : Cond.methodLink own index y ∈ gw) (hr : rm.cells = 0 ∧ rm.slots = 0) (hR : rm.frames + 1 ≤ R.frames ∧ 8 + (maxL + 11) + rm.locals ≤ R.locals) : CallW R s args own C index y bytes maxL ret (Cond.code y bytes maxL ret :: gw) rm 0 0 n := by
  obtain ⟨h1, h2, h3, h4, hC, hd⟩ := hc
  exact ⟨callB_of n hg (gw_ws h4) rfl hr.1 hr.2 (hg _ h3) (hg _ hl) hd hR, hg _ h1, hg _ h2⟩
theorem cwg_S (hg : ∀ w ∈ gw, w.before args s = true) (hc : CalS y bytes maxL ret n) (hl : Cond.methodLink own index y ∈ gw) (hr : rm.cells = 0 ∧ rm.slots = 0) (hR : rm.frames + 1 ≤ R.frames ∧ 8 + (maxL + 11) + rm.locals ≤ R.locals) : CallB R s args own index y bytes maxL ret (Cond.code y bytes maxL ret :: gw) rm 0 0 n ∧ (Cond.static y).before args s = true := by
  obtain ⟨h1, h3, h4, hd⟩ := hc
  exact ⟨callB_of n hg (gw_ws h4) rfl hr.1 hr.2 (hg _ h3) (hg _ hl) hd hR, hg _ h1⟩
/-- the three static tables -/
def zf (l : List Int32) : Nat → Value := fun j => .int (l.getD j 0)
def zMost : List Int32 := [255, 12, 9, 99, 255, 20, 23, 9]
def zLeast : List Int32 := [0, 0, 0, 0, 0, 1, 0, 1]
def zAbove : List Int32 := [-1, 0, 0, 2, 1, 3, 0, 6]
def ZS (A : Nat → Prop) (U : State) : Prop := ∃ t0 t1 t2 : Nat, (va_Z "BeesSting" "MOST" "[I" (.ref t0) A U U.heap ∧ va_T .int t0 8 (zf zMost) A U U.heap) ∧ (va_Z "BeesSting" "LEAST" "[I" (.ref t1) A U U.heap ∧ va_T .int t1 8 (zf zLeast) A U U.heap) ∧ (va_Z "BeesSting$Acts" "ABOVE" "[I" (.ref t2) A U U.heap ∧ va_T .int t2 8 (zf zAbove) A U U.heap)
theorem ZS.to {U : State} (h : ZS A s) (hS : va_S A s.heap H locs) (hU : U.heap = H) (hW : s.vm.Alike U.vm) : ZS A U := by
  obtain ⟨t0, t1, t2, ⟨a0, b0⟩, ⟨a1, b1⟩, ⟨a2, b2⟩⟩ := h
  have hq : ∀ a : Nat, a < s.heap.size → ¬ A a → U.heap[a]? = s.heap[a]? := fun a h1 h2 => by rw [hU]; exact hS.2.1 a h1 h2
  exact ⟨t0, t1, t2, ⟨va_Z.moved hW (a0.kept hq), va_T.moved hW (b0.kept hq)⟩, ⟨va_Z.moved hW (a1.kept hq), va_T.moved hW (b1.kept hq)⟩, ⟨va_Z.moved hW (a2.kept hq), va_T.moved hW (b2.kept hq)⟩⟩
def XPre (D : va_G) (tys : List (ClassId × FieldType)) (ws : va_W) (A : Nat → Prop) : State → Prop := fun U => va_P D vwCl ws U.heap ∧ va_K D vwCl tys U ∧ va_D A ws ∧ ZS A U
def XPo (D : va_G) {σ : Type} (f : σ → va_W) (A : Nat → Prop) : σ → State → Prop := fun u t => va_P D vwCl (f u) t.heap ∧ va_D A (f u)
theorem xpre_blind {D : va_G} {tys : List (ClassId × FieldType)} {ws : va_W} {av : List Value} : FrameBlind (va_Pc av (XPre D tys ws A)) := fun a U g mk q => by
  obtain ⟨q0, qP, qK, qD, qZ⟩ := q
  exact ⟨q0, qP, va_K.moved (u := U) (U := U.calling g mk a) (Vm.Alike.refl U.vm) qK, qD, ZS.to (U := U.calling g mk a) (locs := []) qZ va_S.rf rfl (Vm.Alike.refl U.vm)⟩
theorem xpre_now {D : va_G} {tys : List (ClassId × FieldType)} {ws : va_W} {av : List Value} (hK : va_K D vwCl tys s) (hP : va_P D vwCl ws H) (hD : va_D A ws) (hS : va_S A s.heap H locs) (hZ : ZS A s) : ∀ U : State, U.heap = H → s.WarmedH U.vm → va_Pc av (XPre D tys ws A) av.toArray U := fun U hU hW =>
  ⟨rfl, by rw [hU]; exact hP, va_K.moved hW.alike hK, hD, hZ.to hS hU hW.alike⟩
variable {D : va_G} {tys : List (ClassId × FieldType)} {ws : va_W} {σ : Type} {f : σ → va_W}
theorem cV_i {post : Int32 → σ → Prop} (S : CallFix p m c cc nL s args gw own) (hM : Met l y (Cond.code y bytes maxL ret :: gw) rm (va_Pc (.ref b :: As) (XPre D tys ws A)) (va_Qi post (XPo D f A) A) 0 0 A) (hc : CalI y C bytes maxL ret n) (hl : Cond.methodLink own index y ∈ gw) (hr : rm.cells = 0 ∧ rm.slots = 0) (hR : rm.frames + 1 ≤ R.frames ∧ 8 + (maxL + 11) + rm.locals ≤ R.locals)
    (hb : ∃ cellB : Cell, H[b]? = some cellB ∧ cellB.vm.isStatics = false ∧ s.vm.findClass C = some cellB.cls) (hK : va_K D vwCl tys s) (hP : va_P D vwCl ws H) (hD : va_D A ws) (hS : va_S A s.heap H locs) (hZ : ZS A s) (hn : As.length = n) (hsize : ls.size = nL) (hst : st0 = As.reverse ++ .ref b :: rest) (hW : (rest.map fun v => v.category).sum ≤ 8) (hf : cells ≤ R.cells ∧ slots ≤ R.slots) (hdg : decode cc pc = .ok (.invokevirtual index, 3))
    (kk : ∀ (r : Int32) (u : σ) (H1 : Heap) (locs1 : List Loc), post r u → va_P D vwCl (f u) H1 → va_D A (f u) → va_S A s.heap H1 locs1 → W p l e R s m args below meth c H1 locs1 cells slots Q (F0 m (pc + 3) ls (.int r :: rest))) : W p l e R s m args below meth c H locs cells slots Q (F0 m pc ls st0) :=
  va_calli (va_runV S hM (cwg_V S.2.2.2.2 hc hl hr hR) ⟨xpre_blind, hb, xpre_now hK hP hD hS hZ⟩ rfl hn hsize hst (lv_room hW) hdg hf) hS (fun q _ h => h) (fun q h => h) (fun r u t H1 locs1 ht _ hw hB _ _ hS1 => kk r u H1 locs1 hw (ht ▸ hB.1) hB.2 hS1)
theorem cV_v {post : σ → Prop} (S : CallFix p m c cc nL s args gw own) (hM : Met l y (Cond.code y bytes maxL ret :: gw) rm (va_Pc (.ref b :: As) (XPre D tys ws A)) (va_Qv post (XPo D f A) A) 0 0 A) (hc : CalI y C bytes maxL ret n) (hl : Cond.methodLink own index y ∈ gw) (hr : rm.cells = 0 ∧ rm.slots = 0) (hR : rm.frames + 1 ≤ R.frames ∧ 8 + (maxL + 11) + rm.locals ≤ R.locals)
    (hb : ∃ cellB : Cell, H[b]? = some cellB ∧ cellB.vm.isStatics = false ∧ s.vm.findClass C = some cellB.cls) (hK : va_K D vwCl tys s) (hP : va_P D vwCl ws H) (hD : va_D A ws) (hS : va_S A s.heap H locs) (hZ : ZS A s) (hn : As.length = n) (hsize : ls.size = nL) (hst : st0 = As.reverse ++ .ref b :: rest) (hW : (rest.map fun v => v.category).sum ≤ 8) (hf : cells ≤ R.cells ∧ slots ≤ R.slots) (hdg : decode cc pc = .ok (.invokevirtual index, 3))
    (kk : ∀ (u : σ) (H1 : Heap) (locs1 : List Loc), post u → va_P D vwCl (f u) H1 → va_D A (f u) → va_S A s.heap H1 locs1 → W p l e R s m args below meth c H1 locs1 cells slots Q (F0 m (pc + 3) ls rest)) : W p l e R s m args below meth c H locs cells slots Q (F0 m pc ls st0) :=
  va_callv (va_runV S hM (cwg_V S.2.2.2.2 hc hl hr hR) ⟨xpre_blind, hb, xpre_now hK hP hD hS hZ⟩ rfl hn hsize hst (lv_room hW) hdg hf) hS (fun q _ h => h) (fun q h => h) (fun u t H1 locs1 ht _ hw hB _ _ hS1 => kk u H1 locs1 hw (ht ▸ hB.1) hB.2 hS1)
theorem cV_ro {post : Int32 → Prop} (S : CallFix p m c cc nL s args gw own) (hM : Met l y (Cond.code y bytes maxL ret :: gw) rm (va_Pc (.ref b :: As) (XPre D tys ws A)) (vp_Si post) 0 0 (fun _ => False)) (hc : CalI y C bytes maxL ret n) (hl : Cond.methodLink own index y ∈ gw) (hr : rm.cells = 0 ∧ rm.slots = 0) (hR : rm.frames + 1 ≤ R.frames ∧ 8 + (maxL + 11) + rm.locals ≤ R.locals)
    (hb : ∃ cellB : Cell, H[b]? = some cellB ∧ cellB.vm.isStatics = false ∧ s.vm.findClass C = some cellB.cls) (hK : va_K D vwCl tys s) (hP : va_P D vwCl ws H) (hD : va_D A ws) (hS : va_S A s.heap H locs) (hZ : ZS A s) (hn : As.length = n) (hsize : ls.size = nL) (hst : st0 = As.reverse ++ .ref b :: rest) (hW : (rest.map fun v => v.category).sum ≤ 8) (hf : cells ≤ R.cells ∧ slots ≤ R.slots) (hdg : decode cc pc = .ok (.invokevirtual index, 3))
    (kk : ∀ (r : Int32), post r → W p l e R s m args below meth c H locs cells slots Q (F0 m (pc + 3) ls (.int r :: rest))) : W p l e R s m args below meth c H locs cells slots Q (F0 m pc ls st0) :=
  vp_callSi (W.runV S hM (cwg_V S.2.2.2.2 hc hl hr hR) ⟨xpre_blind, hb, xpre_now hK hP hD hS hZ⟩ rfl hn hsize hst (lv_room hW) hdg hf) kk
theorem cV_rol {post : Int64 → Prop} (S : CallFix p m c cc nL s args gw own) (hM : Met l y (Cond.code y bytes maxL ret :: gw) rm (va_Pc (.ref b :: As) (XPre D tys ws A)) (vp_Sl post) 0 0 (fun _ => False)) (hc : CalI y C bytes maxL ret n) (hl : Cond.methodLink own index y ∈ gw) (hr : rm.cells = 0 ∧ rm.slots = 0) (hR : rm.frames + 1 ≤ R.frames ∧ 8 + (maxL + 11) + rm.locals ≤ R.locals)
    (hb : ∃ cellB : Cell, H[b]? = some cellB ∧ cellB.vm.isStatics = false ∧ s.vm.findClass C = some cellB.cls) (hK : va_K D vwCl tys s) (hP : va_P D vwCl ws H) (hD : va_D A ws) (hS : va_S A s.heap H locs) (hZ : ZS A s) (hn : As.length = n) (hsize : ls.size = nL) (hst : st0 = As.reverse ++ .ref b :: rest) (hW : (rest.map fun v => v.category).sum ≤ 8) (hf : cells ≤ R.cells ∧ slots ≤ R.slots) (hdg : decode cc pc = .ok (.invokevirtual index, 3))
    (kk : ∀ (r : Int64), post r → W p l e R s m args below meth c H locs cells slots Q (F0 m (pc + 3) ls (.long r :: rest))) : W p l e R s m args below meth c H locs cells slots Q (F0 m pc ls st0) :=
  vp_callSl (W.runV S hM (cwg_V S.2.2.2.2 hc hl hr hR) ⟨xpre_blind, hb, xpre_now hK hP hD hS hZ⟩ rfl hn hsize hst (lv_room hW) hdg hf) kk
theorem cS_i {post : Int32 → σ → Prop} (S : CallFix p m c cc nL s args gw own) (hM : Met l y (Cond.code y bytes maxL ret :: gw) rm (va_Pc As (XPre D tys ws A)) (va_Qi post (XPo D f A) A) 0 0 A) (hc : CalS y bytes maxL ret n) (hl : Cond.methodLink own index y ∈ gw) (hr : rm.cells = 0 ∧ rm.slots = 0) (hR : rm.frames + 1 ≤ R.frames ∧ 8 + (maxL + 11) + rm.locals ≤ R.locals)
    (hK : va_K D vwCl tys s) (hP : va_P D vwCl ws H) (hD : va_D A ws) (hS : va_S A s.heap H locs) (hZ : ZS A s) (hn : As.length = n) (hsize : ls.size = nL) (hst : st0 = As.reverse ++ rest) (hW : (rest.map fun v => v.category).sum ≤ 8) (hf : cells ≤ R.cells ∧ slots ≤ R.slots) (hdg : decode cc pc = .ok (.invokestatic index, 3))
    (kk : ∀ (r : Int32) (u : σ) (H1 : Heap) (locs1 : List Loc), post r u → va_P D vwCl (f u) H1 → va_D A (f u) → va_S A s.heap H1 locs1 → W p l e R s m args below meth c H1 locs1 cells slots Q (F0 m (pc + 3) ls (.int r :: rest))) : W p l e R s m args below meth c H locs cells slots Q (F0 m pc ls st0) :=
  va_calli (va_runS S hM (cwg_S S.2.2.2.2 hc hl hr hR) ⟨xpre_blind, xpre_now hK hP hD hS hZ⟩ rfl hn hsize hst (lv_room hW) hdg hf) hS (fun q _ h => h) (fun q h => h) (fun r u t H1 locs1 ht _ hw hB _ _ hS1 => kk r u H1 locs1 hw (ht ▸ hB.1) hB.2 hS1)
theorem cS_v {post : σ → Prop} (S : CallFix p m c cc nL s args gw own) (hM : Met l y (Cond.code y bytes maxL ret :: gw) rm (va_Pc As (XPre D tys ws A)) (va_Qv post (XPo D f A) A) 0 0 A) (hc : CalS y bytes maxL ret n) (hl : Cond.methodLink own index y ∈ gw) (hr : rm.cells = 0 ∧ rm.slots = 0) (hR : rm.frames + 1 ≤ R.frames ∧ 8 + (maxL + 11) + rm.locals ≤ R.locals)
    (hK : va_K D vwCl tys s) (hP : va_P D vwCl ws H) (hD : va_D A ws) (hS : va_S A s.heap H locs) (hZ : ZS A s) (hn : As.length = n) (hsize : ls.size = nL) (hst : st0 = As.reverse ++ rest) (hW : (rest.map fun v => v.category).sum ≤ 8) (hf : cells ≤ R.cells ∧ slots ≤ R.slots) (hdg : decode cc pc = .ok (.invokestatic index, 3))
    (kk : ∀ (u : σ) (H1 : Heap) (locs1 : List Loc), post u → va_P D vwCl (f u) H1 → va_D A (f u) → va_S A s.heap H1 locs1 → W p l e R s m args below meth c H1 locs1 cells slots Q (F0 m (pc + 3) ls rest)) : W p l e R s m args below meth c H locs cells slots Q (F0 m pc ls st0) :=
  va_callv (va_runS S hM (cwg_S S.2.2.2.2 hc hl hr hR) ⟨xpre_blind, xpre_now hK hP hD hS hZ⟩ rfl hn hsize hst (lv_room hW) hdg hf) hS (fun q _ h => h) (fun q h => h) (fun u t H1 locs1 ht _ hw hB _ _ hS1 => kk u H1 locs1 hw (ht ▸ hB.1) hB.2 hS1)
/-- a static method of numbers alone -/
theorem cS_p {post : Int32 → Prop} (S : CallFix p m c cc nL s args gw own) (hM : Met l y (Cond.code y bytes maxL ret :: gw) rm (fun v _ => v = As.toArray) (vp_Si post) 0 0 (fun _ => False)) (hc : CalS y bytes maxL ret n) (hl : Cond.methodLink own index y ∈ gw) (hr : rm.cells = 0 ∧ rm.slots = 0) (hR : rm.frames + 1 ≤ R.frames ∧ 8 + (maxL + 11) + rm.locals ≤ R.locals)
    (hn : As.length = n) (hsize : ls.size = nL) (hst : st0 = As.reverse ++ rest) (hW : (rest.map fun v => v.category).sum ≤ 8) (hf : cells ≤ R.cells ∧ slots ≤ R.slots) (hdg : decode cc pc = .ok (.invokestatic index, 3))
    (kk : ∀ (r : Int32), post r → W p l e R s m args below meth c H locs cells slots Q (F0 m (pc + 3) ls (.int r :: rest))) : W p l e R s m args below meth c H locs cells slots Q (F0 m pc ls st0) :=
  vp_callSi (W.runS S hM (cwg_S S.2.2.2.2 hc hl hr hR) preEq rfl hn hsize hst (lv_room hW) hdg hf) kk
theorem cS_pl {post : Int64 → Prop} (S : CallFix p m c cc nL s args gw own) (hM : Met l y (Cond.code y bytes maxL ret :: gw) rm (fun v _ => v = As.toArray) (vp_Sl post) 0 0 (fun _ => False)) (hc : CalS y bytes maxL ret n) (hl : Cond.methodLink own index y ∈ gw) (hr : rm.cells = 0 ∧ rm.slots = 0) (hR : rm.frames + 1 ≤ R.frames ∧ 8 + (maxL + 11) + rm.locals ≤ R.locals)
    (hn : As.length = n) (hsize : ls.size = nL) (hst : st0 = As.reverse ++ rest) (hW : (rest.map fun v => v.category).sum ≤ 8) (hf : cells ≤ R.cells ∧ slots ≤ R.slots) (hdg : decode cc pc = .ok (.invokestatic index, 3))
    (kk : ∀ (r : Int64), post r → W p l e R s m args below meth c H locs cells slots Q (F0 m (pc + 3) ls (.long r :: rest))) : W p l e R s m args below meth c H locs cells slots Q (F0 m pc ls st0) :=
  vp_callSl (W.runS S hM (cwg_S S.2.2.2.2 hc hl hr hR) preEq rfl hn hsize hst (lv_room hW) hdg hf) kk
end OwnCalls
theorem i_nb {x : Int32} (h1 : 0 ≤ x.toInt) (h2 : x.toInt ≤ 1) : narrow .boolean (.int x) = .int x := by
  have h : x = 0 ∨ x = 1 := by
    by_cases q : x.toInt = 0
    · exact Or.inl (i_inj q)
    · exact Or.inr (i_inj (by show x.toInt = 1; omega))
  rcases h with rfl | rfl <;> rfl
theorem i_fb {x : Int32} (h1 : 0 ≤ x.toInt) (h2 : x.toInt ≤ 1) : fits .boolean (.int x) = true := by
  have h : x = 0 ∨ x = 1 := by
    by_cases q : x.toInt = 0
    · exact Or.inl (i_inj q)
    · exact Or.inr (i_inj (by show x.toInt = 1; omega))
  rcases h with rfl | rfl <;> rfl
theorem i_max {x y z : Int32} (h : z = if x < y then y else x) : (x.toInt ≤ y.toInt ∧ z.toInt = y.toInt) ∨ (y.toInt ≤ x.toInt ∧ z.toInt = x.toInt) := by
  by_cases q : x < y
  · rw [if_pos q] at h; exact Or.inl ⟨Int.le_of_lt (i_lt q), by rw [h]⟩
  · rw [if_neg q] at h; exact Or.inr ⟨i_nlt q, by rw [h]⟩
theorem i_min {x y z : Int32} (h : z = if y < x then y else x) : (y.toInt ≤ x.toInt ∧ z.toInt = y.toInt) ∨ (x.toInt ≤ y.toInt ∧ z.toInt = x.toInt) := by
  by_cases q : y < x
  · rw [if_pos q] at h; exact Or.inl ⟨Int.le_of_lt (i_lt q), by rw [h]⟩
  · rw [if_neg q] at h; exact Or.inr ⟨i_nlt q, by rw [h]⟩
theorem zt0 {i : Int32} (h1 : 0 ≤ i.toInt) (h2 : i.toInt < 8) : (i.toInt = 0 ∧ (zMost.getD i.toNatClampNeg 0).toInt = 255) ∨ (i.toInt = 1 ∧ (zMost.getD i.toNatClampNeg 0).toInt = 12) ∨ (i.toInt = 2 ∧ (zMost.getD i.toNatClampNeg 0).toInt = 9) ∨ (i.toInt = 3 ∧ (zMost.getD i.toNatClampNeg 0).toInt = 99) ∨ (i.toInt = 4 ∧ (zMost.getD i.toNatClampNeg 0).toInt = 255) ∨ (i.toInt = 5 ∧ (zMost.getD i.toNatClampNeg 0).toInt = 20) ∨ (i.toInt = 6 ∧ (zMost.getD i.toNatClampNeg 0).toInt = 23) ∨ (i.toInt = 7 ∧ (zMost.getD i.toNatClampNeg 0).toInt = 9) := by
  obtain ⟨n, hn, rfl⟩ := vp_in_of (i_in h1 h2) (by decide)
  exact (by decide +kernel : ∀ n, n < 8 → ((nI n).toInt = 0 ∧ (zMost.getD (nI n).toNatClampNeg 0).toInt = 255) ∨ ((nI n).toInt = 1 ∧ (zMost.getD (nI n).toNatClampNeg 0).toInt = 12) ∨ ((nI n).toInt = 2 ∧ (zMost.getD (nI n).toNatClampNeg 0).toInt = 9) ∨ ((nI n).toInt = 3 ∧ (zMost.getD (nI n).toNatClampNeg 0).toInt = 99) ∨ ((nI n).toInt = 4 ∧ (zMost.getD (nI n).toNatClampNeg 0).toInt = 255) ∨ ((nI n).toInt = 5 ∧ (zMost.getD (nI n).toNatClampNeg 0).toInt = 20) ∨ ((nI n).toInt = 6 ∧ (zMost.getD (nI n).toNatClampNeg 0).toInt = 23) ∨ ((nI n).toInt = 7 ∧ (zMost.getD (nI n).toNatClampNeg 0).toInt = 9)) n hn
theorem zt1 {i : Int32} (h1 : 0 ≤ i.toInt) (h2 : i.toInt < 8) : ((i.toInt = 5 ∨ i.toInt = 7) ∧ (zLeast.getD i.toNatClampNeg 0).toInt = 1) ∨ ((i.toInt ≠ 5 ∧ i.toInt ≠ 7) ∧ (zLeast.getD i.toNatClampNeg 0).toInt = 0) := by
  obtain ⟨n, hn, rfl⟩ := vp_in_of (i_in h1 h2) (by decide)
  exact (by decide +kernel : ∀ n, n < 8 → (((nI n).toInt = 5 ∨ (nI n).toInt = 7) ∧ (zLeast.getD (nI n).toNatClampNeg 0).toInt = 1) ∨ (((nI n).toInt ≠ 5 ∧ (nI n).toInt ≠ 7) ∧ (zLeast.getD (nI n).toNatClampNeg 0).toInt = 0)) n hn
theorem zt2 {i : Int32} (h1 : 0 ≤ i.toInt) (h2 : i.toInt < 8) : (i.toInt = 0 ∧ (zAbove.getD i.toNatClampNeg 0).toInt = -1) ∨ ((i.toInt = 1 ∨ i.toInt = 2 ∨ i.toInt = 6) ∧ (zAbove.getD i.toNatClampNeg 0).toInt = 0) ∨ (i.toInt = 3 ∧ (zAbove.getD i.toNatClampNeg 0).toInt = 2) ∨ (i.toInt = 4 ∧ (zAbove.getD i.toNatClampNeg 0).toInt = 1) ∨ (i.toInt = 5 ∧ (zAbove.getD i.toNatClampNeg 0).toInt = 3) ∨ (i.toInt = 7 ∧ (zAbove.getD i.toNatClampNeg 0).toInt = 6) := by
  obtain ⟨n, hn, rfl⟩ := vp_in_of (i_in h1 h2) (by decide)
  exact (by decide +kernel : ∀ n, n < 8 → ((nI n).toInt = 0 ∧ (zAbove.getD (nI n).toNatClampNeg 0).toInt = -1) ∨ (((nI n).toInt = 1 ∨ (nI n).toInt = 2 ∨ (nI n).toInt = 6) ∧ (zAbove.getD (nI n).toNatClampNeg 0).toInt = 0) ∨ ((nI n).toInt = 3 ∧ (zAbove.getD (nI n).toNatClampNeg 0).toInt = 2) ∨ ((nI n).toInt = 4 ∧ (zAbove.getD (nI n).toNatClampNeg 0).toInt = 1) ∨ ((nI n).toInt = 5 ∧ (zAbove.getD (nI n).toNatClampNeg 0).toInt = 3) ∨ ((nI n).toInt = 7 ∧ (zAbove.getD (nI n).toNatClampNeg 0).toInt = 6)) n hn
theorem i_tn {x : Int32} {n : Nat} (h : x.toBitVec.toNat = n) (hn : n < 2147483648) : x.toInt = (n : Int) := by
  have h1 : x.toInt = x.toBitVec.toInt := rfl
  rw [h1, BitVec.toInt_eq_toNat_of_lt (by rw [h]; omega), h]
theorem i_ushr8 (x : Int32) : 0 ≤ ((x.toUInt32 >>> ((8 : Int32).toUInt32 &&& Int32.toUInt32 31)).toInt32).toInt ∧ ((x.toUInt32 >>> ((8 : Int32).toUInt32 &&& Int32.toUInt32 31)).toInt32).toInt ≤ 16777215 := by
  have h := pk_ushr x 8 8 (by decide)
  have hb := x.toBitVec.isLt
  have hd : x.toBitVec.toNat / 2 ^ 8 ≤ 16777215 := by omega
  rw [i_tn h (by omega)]
  omega
theorem i_ushr16 (x : Int32) : 0 ≤ ((x.toUInt32 >>> ((16 : Int32).toUInt32 &&& Int32.toUInt32 31)).toInt32).toInt ∧ ((x.toUInt32 >>> ((16 : Int32).toUInt32 &&& Int32.toUInt32 31)).toInt32).toInt ≤ 65535 := by
  have h := pk_ushr x 16 16 (by decide)
  have hb := x.toBitVec.isLt
  have hd : x.toBitVec.toNat / 2 ^ 16 ≤ 65535 := by omega
  rw [i_tn h (by omega)]
  omega
