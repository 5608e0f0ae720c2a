theorem va_up_id {α : Type} (f : Nat → α) (k : Nat) : va_up f k (f k) = f := by
  funext j
  unfold va_up
  split
  · next h => rw [h]
  · rfl
section Rows2
variable {p : Program} {l : Launch} {e : Env} {R : Room} {s : State} {m : MethodId} {args : Array Value} {below : List Frame} {meth : Method} {c : Code} {H : Heap} {locs : List Loc} {cells slots : Nat} {Q : State → Prop}
variable {cc : ByteArray} {pc index : Nat} {ls : Array Slot} {rest : List Value} {A : Nat → Prop} {H0 : Heap} {own : String} {D : va_G} {cs : Nat → ClassId}
variable {ad fa fq rv : Nat → Nat} {v : Nat → Int32} {a : Nat → Nat → Int32} {w : Nat → Nat → Int64} {fv fp : Nat → Nat → Int32}
theorem ld2_row {r : Nat} (hr : r < 6) {g : Nat → Int64} (hx : p.tables.exec = Jvm.exec) (hb : c.code = cc) (hK : va_K D vwCl (TY cs) s) (hP : va_P D vwCl (CW cs ad fa fq rv v a (va_up w r g) fv fp) H) {i : Int32} (hi : vp_in i 60) (hdg : decode cc pc = .ok (.laload, 1)) (kk : W p l e R s m args below meth c H locs cells slots Q (F0 m (pc + 1) ls (.long (g i.toNatClampNeg) :: rest))) : W p l e R s m args below meth c H locs cells slots Q (F0 m pc ls (.int i :: .ref (ad (31 + r)) :: rest)) := by
  refine ld_row hr hx hb hK hP hi hdg ?_
  rw [va_up_self]
  exact kk
theorem st2_row {r : Nat} (hr : r < 6) {g : Nat → Int64} (hx : p.tables.exec = Jvm.exec) (hb : c.code = cc) (hK : va_K D vwCl (TY cs) s) (hP : va_P D vwCl (CW cs ad fa fq rv v a (va_up w r g) fv fp) H) (hD : va_D A (CW cs ad fa fq rv v a (va_up w r g) fv fp)) (hS : va_S A H0 H locs) {i : Int32} {x : Int64} (hi : vp_in i 60) (hdg : decode cc pc = .ok (.lastore, 1)) (kk : ∀ (H1 : Heap) (l1 : List Loc), va_P D vwCl (CW cs ad fa fq rv v a (va_up w r (vp_updL g i.toNatClampNeg x)) fv fp) H1 → va_D A (CW cs ad fa fq rv v a (va_up w r (vp_updL g i.toNatClampNeg x)) fv fp) → va_S A H0 H1 l1 → W p l e R s m args below meth c H1 l1 cells slots Q (F0 m (pc + 1) ls rest)) : W p l e R s m args below meth c H locs cells slots Q (F0 m pc ls (.long x :: .int i :: .ref (ad (31 + r)) :: rest)) := by
  have e : va_up (va_up w r g) r (vp_updL ((va_up w r g) r) i.toNatClampNeg x) = va_up w r (vp_updL g i.toNatClampNeg x) := by
    rw [va_up_self]
    funext j
    unfold va_up
    split <;> rfl
  exact st_row hr hx hb hK hP hD hS hi hdg (fun H1 l1 q1 q2 q3 => kk H1 l1 (e ▸ q1) (e ▸ q2) q3)
end Rows2
def AB (lo hi : Int) (g : Nat → Int32) : Prop := ∀ j, lo ≤ (g j).toInt ∧ (g j).toInt ≤ hi
theorem AB_upd {lo hi : Int} {g : Nat → Int32} {k : Nat} {x : Int32} (h : AB lo hi g) (h1 : lo ≤ x.toInt) (h2 : x.toInt ≤ hi) : AB lo hi (upd g k x) := fun j => by
  unfold upd
  by_cases q : j = k
  · rw [if_pos q]; exact ⟨h1, h2⟩
  · rw [if_neg q]; exact h j
theorem AB_cpy {lo hi : Int} {f g : Nat → Int32} {a b n : Nat} (hf : AB lo hi f) (hg : AB lo hi g) : AB lo hi (va_cpy f g a b n) := fun j => by
  by_cases q : b ≤ j ∧ j < b + n
  · rw [pk_cpy_in q.1 q.2]; exact hf _
  · rw [pk_cpy_out (by omega)]; exact hg j
def DOK (n : Int32) (g : Nat → Int32) (p : Int32) : Prop := ∀ j : Nat, j < n.toInt.toNat → 0 ≤ (g j).toInt ∧ (g j).toInt / 2 < p.toInt
theorem DOK_0 {n p : Int32} {g : Nat → Int32} (h : n.toInt = 0) : DOK n g p := fun j hj => absurd hj (by rw [h]; exact Nat.not_lt_zero _)
theorem DOK_mono {n p p' : Int32} {g : Nat → Int32} (h : DOK n g p) (hp : p.toInt ≤ p'.toInt) : DOK n g p' := fun j hj => ⟨(h j hj).1, Int.lt_of_lt_of_le (h j hj).2 hp⟩
theorem DOK_add {n n' i p x : Int32} {g : Nat → Int32} (h : DOK n g p) (hi : i.toInt = n.toInt) (h0 : 0 ≤ n.toInt) (hn : n'.toInt = n.toInt + 1) (h1 : 0 ≤ x.toInt) (h2 : x.toInt / 2 < p.toInt) : DOK n' (upd g i.toNatClampNeg x) p := fun j hj => by
  have e : i.toNatClampNeg = i.toInt.toNat := rfl
  unfold upd
  by_cases q : j = i.toNatClampNeg
  · rw [if_pos q]; exact ⟨h1, h2⟩
  · rw [if_neg q]; exact h j (by omega)
theorem l_bd (x : Int64) : -9223372036854775808 ≤ x.toInt ∧ x.toInt ≤ 9223372036854775807 := ⟨by have := Int64.le_toInt x; simpa using this, by have := Int64.toInt_lt x; omega⟩
theorem l_bmod {z : Int} (h1 : -9223372036854775808 ≤ z) (h2 : z ≤ 9223372036854775807) : z.bmod (2 ^ 64) = z := by
  unfold Int.bmod; simp only []; split <;> omega
theorem l_add {x y : Int64} (h1 : -9223372036854775808 ≤ x.toInt + y.toInt) (h2 : x.toInt + y.toInt ≤ 9223372036854775807) : (x + y).toInt = x.toInt + y.toInt := by
  rw [Int64.toInt_add]; exact l_bmod h1 h2
theorem l_sub {x y : Int64} (h1 : -9223372036854775808 ≤ x.toInt - y.toInt) (h2 : x.toInt - y.toInt ≤ 9223372036854775807) : (x - y).toInt = x.toInt - y.toInt := by
  rw [Int64.toInt_sub]; exact l_bmod h1 h2
theorem l_mul {x y : Int64} (h1 : -9223372036854775808 ≤ x.toInt * y.toInt) (h2 : x.toInt * y.toInt ≤ 9223372036854775807) : (x * y).toInt = x.toInt * y.toInt := by
  rw [Int64.toInt_mul]; exact l_bmod h1 h2
theorem l_i2l (x : Int32) : x.toInt64.toInt = x.toInt := Int32.toInt_toInt64 x
theorem l_l2i {x : Int64} (h1 : -2147483648 ≤ x.toInt) (h2 : x.toInt ≤ 2147483647) : x.toInt32.toInt = x.toInt := by
  rw [Int64.toInt_toInt32]; exact i_bmod h1 h2
theorem l_lt {x y : Int64} (h : x < y) : x.toInt < y.toInt := Int64.lt_iff_toInt_lt.mp h
theorem l_cmp (x y : Int64) : ((lg_cmp x y).toInt = 1 ∧ y.toInt < x.toInt) ∨ ((lg_cmp x y).toInt = 0 ∧ x.toInt = y.toInt) ∨ ((lg_cmp x y).toInt = -1 ∧ x.toInt < y.toInt) := by
  unfold lg_cmp
  by_cases h : x > y
  · rw [if_pos h]; exact Or.inl ⟨rfl, l_lt h⟩
  · rw [if_neg h]
    by_cases h2 : x = y
    · rw [if_pos h2, h2]; exact Or.inr (Or.inl ⟨rfl, rfl⟩)
    · rw [if_neg h2]
      have h3 : ¬ y.toInt < x.toInt := fun q => h (Int64.lt_iff_toInt_lt.mpr q)
      have h4 : x.toInt ≠ y.toInt := fun q => h2 (Int64.toInt_inj.mp q)
      exact Or.inr (Or.inr ⟨rfl, by omega⟩)
def sw {α : Type} (f : Nat → α) : Nat → α := fun k => if k = 18 then f 19 else if k = 19 then f 18 else f k
theorem sw_rows (ad : Nat → Nat) : (fun j : Nat => if j < 6 then some (ad (31 + j)) else none) = (fun j : Nat => if j < 6 then some (sw ad (31 + j)) else none) := by
  funext j
  have e : sw ad (31 + j) = ad (31 + j) := by unfold sw; rw [if_neg (by omega), if_neg (by omega)]
  rw [e]
theorem UPD0 {g : Nat → Int32} {x v z : Int32} (h0 : 0 ≤ x.toInt) (h : 0 < x.toInt → g 0 = z) (hv : x.toInt = 0 → v = z) : (upd g x.toNatClampNeg v) 0 = z := by
  have e : x.toNatClampNeg = x.toInt.toNat := rfl
  unfold upd
  by_cases q : 0 = x.toNatClampNeg
  · rw [if_pos q]; exact hv (by omega)
  · rw [if_neg q]; exact h (by omega)
theorem i_03 {x : Int32} (h1 : 0 ≤ x.toInt) (h2 : x.toInt ≤ 3) : x = 0 ∨ x = 1 ∨ x = 2 ∨ x = 3 := by
  rcases (show x.toInt = 0 ∨ x.toInt = 1 ∨ x.toInt = 2 ∨ x.toInt = 3 by omega) with q | q | q | q
  · exact Or.inl (i_inj q)
  · exact Or.inr (Or.inl (i_inj q))
  · exact Or.inr (Or.inr (Or.inl (i_inj q)))
  · exact Or.inr (Or.inr (Or.inr (i_inj q)))
theorem i_07 {x : Int32} (h1 : 0 ≤ x.toInt) (h2 : x.toInt ≤ 7) : x = 0 ∨ x = 1 ∨ x = 2 ∨ x = 3 ∨ x = 4 ∨ x = 5 ∨ x = 6 ∨ x = 7 := by
  rcases (show x.toInt = 0 ∨ x.toInt = 1 ∨ x.toInt = 2 ∨ x.toInt = 3 ∨ x.toInt = 4 ∨ x.toInt = 5 ∨ x.toInt = 6 ∨ x.toInt = 7 by omega) with q | q | q | q | q | q | q | q
  · exact Or.inl (i_inj q)
  · exact Or.inr (Or.inl (i_inj q))
  · exact Or.inr (Or.inr (Or.inl (i_inj q)))
  · exact Or.inr (Or.inr (Or.inr (Or.inl (i_inj q))))
  · exact Or.inr (Or.inr (Or.inr (Or.inr (Or.inl (i_inj q)))))
  · exact Or.inr (Or.inr (Or.inr (Or.inr (Or.inr (Or.inl (i_inj q))))))
  · exact Or.inr (Or.inr (Or.inr (Or.inr (Or.inr (Or.inr (Or.inl (i_inj q)))))))
  · exact Or.inr (Or.inr (Or.inr (Or.inr (Or.inr (Or.inr (Or.inr (i_inj q)))))))
theorem i_fall {x : Int32} (h : x.toInt ≠ 0) : (x &&& (x - 1)).toBitVec.toNat < x.toBitVec.toNat := by
  have h0 : x.toBitVec.toNat ≠ 0 := fun q => h (by have e : x.toInt = x.toBitVec.toInt := rfl; rw [e, BitVec.toInt_eq_toNat_of_lt (by omega), q]; rfl)
  have e1 : (x &&& (x - 1)).toBitVec = x.toBitVec &&& (x.toBitVec - 1) := rfl
  rw [e1, BitVec.toNat_and]
  have h1 : x.toBitVec.toNat &&& (x.toBitVec - 1).toNat ≤ (x.toBitVec - 1).toNat := Nat.and_le_right
  have hl := x.toBitVec.isLt
  have e2 : (x.toBitVec - 1).toNat = x.toBitVec.toNat - 1 := by
    rw [BitVec.toNat_sub]
    have : (1 : BitVec 32).toNat = 1 := rfl
    omega
  omega
def RHI (ac wi : Nat → Int32) : Nat → Nat → Nat → Option Nat
  | _, 0, h => some h
  | k, n + 1, h => if (ac k).toInt = 1 then RHI ac wi (k + 1) n (h + 1) else if (ac k).toInt = 2 then (if 0 ≤ (wi k).toInt ∧ (wi k).toInt ≤ 5 then RHI ac wi (k + 1) n (h + 1) else none) else if (ac k).toInt = 3 ∨ (ac k).toInt = 4 then (if h = 0 then none else RHI ac wi (k + 1) n h) else (if h < 2 then none else RHI ac wi (k + 1) n (h - 1))
theorem RHI_step {ac wi : Nat → Int32} {k n h h' : Nat} (hr : RHI ac wi k n h = some h') (hn : 0 < n) : ((ac k).toInt = 1 ∧ RHI ac wi (k + 1) (n - 1) (h + 1) = some h') ∨ ((ac k).toInt = 2 ∧ 0 ≤ (wi k).toInt ∧ (wi k).toInt ≤ 5 ∧ RHI ac wi (k + 1) (n - 1) (h + 1) = some h') ∨ (((ac k).toInt = 3 ∨ (ac k).toInt = 4) ∧ 1 ≤ h ∧ RHI ac wi (k + 1) (n - 1) h = some h') ∨ ((ac k).toInt ≠ 1 ∧ (ac k).toInt ≠ 2 ∧ (ac k).toInt ≠ 3 ∧ (ac k).toInt ≠ 4 ∧ 2 ≤ h ∧ RHI ac wi (k + 1) (n - 1) (h - 1) = some h') := by
  cases n with
  | zero => exact absurd hn (Nat.lt_irrefl 0)
  | succ n =>
    show _ ∧ RHI ac wi (k + 1) n (h + 1) = some h' ∨ _ ∧ _ ∧ _ ∧ RHI ac wi (k + 1) n (h + 1) = some h' ∨ _ ∧ _ ∧ RHI ac wi (k + 1) n h = some h' ∨ _ ∧ _ ∧ _ ∧ _ ∧ _ ∧ RHI ac wi (k + 1) n (h - 1) = some h'
    unfold RHI at hr
    by_cases h1 : (ac k).toInt = 1
    · rw [if_pos h1] at hr; exact Or.inl ⟨h1, hr⟩
    · rw [if_neg h1] at hr
      by_cases h2 : (ac k).toInt = 2
      · rw [if_pos h2] at hr
        by_cases h3 : 0 ≤ (wi k).toInt ∧ (wi k).toInt ≤ 5
        · rw [if_pos h3] at hr; exact Or.inr (Or.inl ⟨h2, h3.1, h3.2, hr⟩)
        · rw [if_neg h3] at hr; cases hr
      · rw [if_neg h2] at hr
        by_cases h3 : (ac k).toInt = 3 ∨ (ac k).toInt = 4
        · rw [if_pos h3] at hr
          by_cases h4 : h = 0
          · rw [if_pos h4] at hr; cases hr
          · rw [if_neg h4] at hr; exact Or.inr (Or.inr (Or.inl ⟨h3, by omega, hr⟩))
        · rw [if_neg h3] at hr
          by_cases h4 : h < 2
          · rw [if_pos h4] at hr; cases hr
          · rw [if_neg h4] at hr; exact Or.inr (Or.inr (Or.inr ⟨h1, h2, fun q => h3 (Or.inl q), fun q => h3 (Or.inr q), by omega, hr⟩))
theorem RHI_cast {ac wi : Nat → Int32} {k n h h' k2 n2 h2 : Nat} (hr : RHI ac wi k n h = some h') (e1 : k = k2) (e2 : n = n2) (e3 : h = h2) : ∃ h', RHI ac wi k2 n2 h2 = some h' := by
  subst e1; subst e2; subst e3; exact ⟨_, hr⟩
def SEGI (ac wi : Nat → Int32) (a b : Nat) : Prop := a ≤ b ∧ ∀ h, RHI ac wi a (b - a) h = some (h + 1)
def LAWOK (ac wi lm te le : Nat → Int32) : Prop := 0 ≤ (lm 0).toInt ∧ (lm 0).toInt ≤ 61 ∧ ∀ l : Nat, l < (lm 0).toInt.toNat → ∃ f t e : Nat, f ≤ t ∧ t ≤ e ∧ e ≤ 125 ∧ (l = 0 → f = 0) ∧ (0 < l → (le (l - 1)).toInt = f) ∧ (te l).toInt = t ∧ (le l).toInt = e ∧ (t ≠ f → SEGI ac wi f t) ∧ SEGI ac wi t e
theorem SEG_run {ac wi : Nat → Int32} {a b k n : Nat} (h : SEGI ac wi a b) (e1 : a = k) (e2 : b - a = n) : ∃ h', RHI ac wi k n 0 = some h' := by
  subst e1; subst e2; exact ⟨_, h.2 0⟩
def LOKD (n : Int32) (g : Nat → Int64) (sh p : Int32) : Prop := ∀ j : Nat, j < n.toInt.toNat → 0 ≤ (g (60 * sh.toInt.toNat + j)).toInt32.toInt ∧ (g (60 * sh.toInt.toNat + j)).toInt32.toInt / 2 < p.toInt
theorem nar_b_rg (x : Int32) : -128 ≤ (vp_nar .byte x).toInt ∧ (vp_nar .byte x).toInt ≤ 127 := by
  rw [vp_nar_byte, Int8.toInt_toInt32]
  exact ⟨by have := Int8.le_toInt x.toInt8; simpa using this, by have := Int8.toInt_lt x.toInt8; omega⟩
theorem nar_s_rg (x : Int32) : -32768 ≤ (vp_nar .short x).toInt ∧ (vp_nar .short x).toInt ≤ 32767 := by
  rw [vp_nar_short, Int16.toInt_toInt32]
  exact ⟨by have := Int16.le_toInt x.toInt16; simpa using this, by have := Int16.toInt_lt x.toInt16; omega⟩
def FRM (m : Nat) (f g : Nat → Int32) : Prop := ∀ j : Nat, j < m → g j = f j
theorem FRM_refl {m : Nat} {f : Nat → Int32} : FRM m f f := fun _ _ => rfl
theorem FRM_trans {m m2 : Nat} {f g k : Nat → Int32} (h : FRM m f g) (h2 : FRM m2 g k) (hm : m ≤ m2) : FRM m f k := fun j hj => (h2 j (Nat.lt_of_lt_of_le hj hm)).trans (h j hj)
theorem FRM_upd {m : Nat} {f g : Nat → Int32} {i : Nat} {x : Int32} (h : FRM m f g) (hi : m ≤ i) : FRM m f (upd g i x) := fun j hj => by
  unfold upd; rw [if_neg (by omega)]; exact h j hj
theorem RHI_congr {ac wi ac2 wi2 : Nat → Int32} : ∀ (n k h : Nat), (∀ j, k ≤ j → j < k + n → ac2 j = ac j ∧ wi2 j = wi j) → RHI ac2 wi2 k n h = RHI ac wi k n h := by
  intro n
  induction n with
  | zero => intro k h _; rfl
  | succ n ih =>
    intro k h hj
    have h0 := hj k (Nat.le_refl k) (by omega)
    have hn : ∀ h, RHI ac2 wi2 (k + 1) n h = RHI ac wi (k + 1) n h := fun h => ih (k + 1) h (fun j h1 h2 => hj j (by omega) (by omega))
    unfold RHI
    rw [h0.1, h0.2, hn, hn, hn]
theorem RHI_app {ac wi : Nat → Int32} : ∀ (n m k h h' : Nat), RHI ac wi k n h = some h' → RHI ac wi k (n + m) h = RHI ac wi (k + n) m h' := by
  intro n
  induction n with
  | zero => intro m k h h' hr; unfold RHI at hr; cases hr; rw [Nat.zero_add, Nat.add_zero]
  | succ n ih =>
    intro m k h h' hr
    have e : n + 1 + m = (n + m) + 1 := by omega
    have e2 : k + (n + 1) = k + 1 + n := by omega
    rw [e, e2]
    rcases RHI_step hr (Nat.succ_pos n) with ⟨q1, q⟩ | ⟨q1, q2, q3, q⟩ | ⟨q1, q2, q⟩ | ⟨q1, q2, q3, q4, q5, q⟩
    · rw [← ih m _ _ _ q]; show RHI ac wi k (n + m + 1) h = _
      rw [RHI]; rw [if_pos q1]
    · rw [← ih m _ _ _ q]; rw [RHI]; rw [if_neg (by omega), if_pos q1, if_pos ⟨q2, q3⟩]
    · rw [← ih m _ _ _ q]; rw [RHI]; rw [if_neg (by omega), if_neg (by omega), if_pos q1, if_neg (by omega)]
    · rw [← ih m _ _ _ q]; rw [RHI]; rw [if_neg q1, if_neg q2, if_neg (by omega), if_neg (by omega)]
theorem SEG_congr {ac wi ac2 wi2 : Nat → Int32} {a b : Nat} (h : SEGI ac wi a b) (h1 : ∀ j, a ≤ j → j < b → ac2 j = ac j ∧ wi2 j = wi j) : SEGI ac2 wi2 a b :=
  ⟨h.1, fun h0 => by rw [RHI_congr (ac := ac) (wi := wi) (b - a) a h0 (fun j q1 q2 => h1 j q1 (by have := h.1; omega))]; exact h.2 h0⟩
theorem SEG_frm {ac wi ac2 wi2 : Nat → Int32} {a b m : Nat} (h : SEGI ac wi a b) (h1 : FRM m ac ac2) (h2 : FRM m wi wi2) (hm : b ≤ m) : SEGI ac2 wi2 a b :=
  SEG_congr h (fun j _ q => ⟨h1 j (by omega), h2 j (by omega)⟩)
theorem SEG_push {ac wi : Nat → Int32} {a b : Nat} (hb : b = a + 1) (h : (ac a).toInt = 1 ∨ ((ac a).toInt = 2 ∧ 0 ≤ (wi a).toInt ∧ (wi a).toInt ≤ 5)) : SEGI ac wi a b := by
  subst hb
  refine ⟨by omega, fun h0 => ?_⟩
  rw [show a + 1 - a = 0 + 1 from by omega, RHI]
  rcases h with q | ⟨q, q2, q3⟩
  · rw [if_pos q]; rfl
  · rw [if_neg (by omega), if_pos q, if_pos ⟨q2, q3⟩]; rfl
theorem SEG_un {ac wi : Nat → Int32} {a b c : Nat} (h : SEGI ac wi a b) (hc : c = b + 1) (h3 : (ac b).toInt = 3 ∨ (ac b).toInt = 4) : SEGI ac wi a c := by
  subst hc
  have hab := h.1
  refine ⟨by omega, fun h0 => ?_⟩
  rw [show b + 1 - a = (b - a) + 1 from by omega, RHI_app _ 1 _ _ _ (h.2 h0), show a + (b - a) = b from by omega, RHI, if_neg (by omega), if_neg (by omega), if_pos h3, if_neg (by omega)]; rfl
theorem SEG_bin {ac wi : Nat → Int32} {a b c d : Nat} (h : SEGI ac wi a b) (h2 : SEGI ac wi b c) (hd : d = c + 1) (h3 : (ac c).toInt ≠ 1 ∧ (ac c).toInt ≠ 2 ∧ (ac c).toInt ≠ 3 ∧ (ac c).toInt ≠ 4) : SEGI ac wi a d := by
  subst hd
  have hab := h.1; have hbc := h2.1
  refine ⟨by omega, fun h0 => ?_⟩
  rw [show c + 1 - a = (b - a) + ((c - b) + 1) from by omega, RHI_app _ _ _ _ _ (h.2 h0), show a + (b - a) = b from by omega, RHI_app _ 1 _ _ _ (h2.2 (h0 + 1)), show b + (c - b) = c from by omega, RHI, if_neg h3.1, if_neg h3.2.1, if_neg (by omega), if_neg (by omega)]; rfl
theorem nar_b {x p : Int32} (e : x = p.toInt8.toInt32) (h1 : -128 ≤ p.toInt) (h2 : p.toInt ≤ 127) : (vp_nar .byte x).toInt = p.toInt := by
  rw [vp_nar_byte, e, Int8.toInt_toInt32]
  have e2 : p.toInt8.toInt32.toInt8 = p.toInt8 := by simp
  rw [e2, Int32.toInt_toInt8]
  unfold Int.bmod; simp only []; split <;> omega
theorem upd_at {f : Nat → Int32} {k j : Nat} {x : Int32} (h : j = k) : upd f k x j = x := by unfold upd; rw [if_pos h]
theorem nar_b_id {x : Int32} (h1 : -128 ≤ x.toInt) (h2 : x.toInt ≤ 127) : vp_nar .byte x = x := by
  apply i_inj
  rw [vp_nar_byte, Int8.toInt_toInt32, Int32.toInt_toInt8]
  unfold Int.bmod; simp only []; split <;> omega
theorem nar_s_id {x : Int32} (h1 : -32768 ≤ x.toInt) (h2 : x.toInt ≤ 32767) : vp_nar .short x = x := by
  apply i_inj
  rw [vp_nar_short, Int16.toInt_toInt32, Int32.toInt_toInt16]
  unfold Int.bmod; simp only []; split <;> omega
theorem nar_s {x p : Int32} (e : x = p.toInt16.toInt32) (h1 : -32768 ≤ p.toInt) (h2 : p.toInt ≤ 32767) : (vp_nar .short x).toInt = p.toInt := by
  rw [vp_nar_short, e, Int16.toInt_toInt32]
  have e2 : p.toInt16.toInt32.toInt16 = p.toInt16 := by simp
  rw [e2, Int32.toInt_toInt16]
  unfold Int.bmod; simp only []; split <;> omega
def LN (ac wi te le : Nat → Int32) (l f e : Nat) : Prop := ∃ t : Nat, f ≤ t ∧ t ≤ e ∧ (te (61 + l)).toInt = t ∧ (le (61 + l)).toInt = e ∧ (t ≠ f → SEGI ac wi (130 + f) (130 + t)) ∧ SEGI ac wi (130 + t) (130 + e)
def LT (ac wi te le : Nat → Int32) (m L : Nat) : Prop := (∀ l : Nat, l < m → ∃ f e : Nat, (l = 0 → f = 0) ∧ (0 < l → (le (61 + l - 1)).toInt = f) ∧ e ≤ L ∧ LN ac wi te le l f e) ∧ (0 < m → (le (61 + m - 1)).toInt = L)
theorem LN_frm {ac wi te le ac2 wi2 te2 le2 : Nat → Int32} {l f e L m : Nat} (h : LN ac wi te le l f e) (h1 : FRM (130 + L) ac ac2) (h2 : FRM (130 + L) wi wi2) (h3 : FRM (61 + m) te te2) (h4 : FRM (61 + m) le le2) (hl : l < m) (he : e ≤ L) : LN ac2 wi2 te2 le2 l f e := by
  obtain ⟨t, q1, q2, q3, q4, q5, q6⟩ := h
  exact ⟨t, q1, q2, by rw [h3 _ (by omega)]; exact q3, by rw [h4 _ (by omega)]; exact q4, fun q => SEG_frm (q5 q) h1 h2 (by omega), SEG_frm q6 h1 h2 (by omega)⟩
theorem LT_0 {ac wi te le : Nat → Int32} : LT ac wi te le 0 0 := ⟨fun l hl => absurd hl (Nat.not_lt_zero l), fun q => absurd q (Nat.lt_irrefl 0)⟩
theorem LT_step {ac wi te le ac2 wi2 te2 le2 : Nat → Int32} {m L E : Nat} (h : LT ac wi te le m L) (h0 : m = 0 → L = 0) (h1 : FRM (130 + L) ac ac2) (h2 : FRM (130 + L) wi wi2) (h3 : FRM (61 + m) te te2) (h4 : FRM (61 + m) le le2) (hn : LN ac2 wi2 te2 le2 m L E) : LT ac2 wi2 te2 le2 (m + 1) E := by
  have hLE : L ≤ E := by obtain ⟨t, q1, q2, _⟩ := hn; omega
  refine ⟨fun l hl => ?_, fun _ => ?_⟩
  · by_cases q : l = m
    · subst q
      refine ⟨L, E, h0, fun q0 => ?_, Nat.le_refl E, hn⟩
      rw [h4 _ (by omega)]; exact h.2 q0
    · obtain ⟨f, e, q1, q2, q3, q4⟩ := h.1 l (by omega)
      refine ⟨f, e, q1, fun q0 => ?_, by omega, LN_frm q4 h1 h2 h3 h4 (by omega) q3⟩
      rw [h4 _ (by omega)]; exact q2 q0
  · obtain ⟨t, q1, q2, q3, q4, _⟩ := hn
    rw [show 61 + (m + 1) - 1 = 61 + m from by omega]; exact q4
theorem RHI_shift {ac wi ac2 wi2 : Nat → Int32} {s : Nat} : ∀ (n k h : Nat), (∀ j, k ≤ j → j < k + n → ac2 j = ac (s + j) ∧ wi2 j = wi (s + j)) → RHI ac2 wi2 k n h = RHI ac wi (s + k) n h := by
  intro n
  induction n with
  | zero => intro k h _; rfl
  | succ n ih =>
    intro k h hj
    have h0 := hj k (Nat.le_refl k) (by omega)
    have hn : ∀ h, RHI ac2 wi2 (k + 1) n h = RHI ac wi (s + k + 1) n h := fun h => by rw [Nat.add_assoc]; exact ih (k + 1) h (fun j h1 h2 => hj j (by omega) (by omega))
    rw [RHI, RHI, h0.1, h0.2, hn, hn, hn]
theorem SEG_shift {ac wi ac2 wi2 : Nat → Int32} {a b : Nat} (h : SEGI ac wi (130 + a) (130 + b)) (h1 : ∀ j, j < b → ac2 j = ac (130 + j) ∧ wi2 j = wi (130 + j)) : SEGI ac2 wi2 a b := by
  have := h.1
  refine ⟨by omega, fun h0 => ?_⟩
  rw [RHI_shift (ac := ac) (wi := wi) (s := 130) (b - a) a h0 (fun j q1 q2 => h1 j (by omega))]
  have := h.2 h0
  rw [show 130 + b - (130 + a) = b - a from by omega] at this
  exact this
theorem LT_law {ac wi te le lm : Nat → Int32} {m L : Nat} (h : LT ac wi te le m L) (hL : L ≤ 121) (h1 : ∀ j, j < L → ac j = ac (130 + j) ∧ wi j = wi (130 + j)) (h2 : ∀ j, j < m → te j = te (61 + j) ∧ le j = le (61 + j)) (h3 : (lm 0).toInt = (m : Int)) (hm : m ≤ 61) : LAWOK ac wi lm te le := by
  refine ⟨by omega, by omega, fun l hl => ?_⟩
  have hlm : l < m := by omega
  obtain ⟨f, e, q1, q2, q3, t, p1, p2, p3, p4, p5, p6⟩ := h.1 l hlm
  refine ⟨f, t, e, p1, p2, by omega, q1, fun q => ?_, ?_, ?_, fun q => SEG_shift (p5 q) (fun j hj => h1 j (by omega)), SEG_shift p6 (fun j hj => h1 j (by omega))⟩
  · rw [(h2 (l - 1) (by omega)).2, show 61 + (l - 1) = 61 + l - 1 from by omega]; exact q2 q
  · rw [(h2 l hlm).1]; exact p3
  · rw [(h2 l hlm).2]; exact p4
theorem LAWOK_frm {ac wi lm te le ac2 wi2 lm2 te2 le2 : Nat → Int32} (h : LAWOK ac wi lm te le) (h1 : FRM 130 ac ac2) (h2 : FRM 130 wi wi2) (h3 : FRM 61 te te2) (h4 : FRM 61 le le2) (h5 : lm2 0 = lm 0) : LAWOK ac2 wi2 lm2 te2 le2 := by
  refine ⟨by rw [h5]; exact h.1, by rw [h5]; exact h.2.1, fun l hl => ?_⟩
  rw [h5] at hl
  have := h.2.1
  obtain ⟨f, t, e, p1, p2, p3, p4, p5, p6, p7, p8, p9⟩ := h.2.2 l hl
  refine ⟨f, t, e, p1, p2, p3, p4, fun q => ?_, ?_, ?_, fun q => SEG_frm (p8 q) h1 h2 (by omega), SEG_frm p9 h1 h2 (by omega)⟩
  · rw [h4 _ (by omega)]; exact p5 q
  · rw [h3 _ (by omega)]; exact p6
  · rw [h4 _ (by omega)]; exact p7
theorem LT_cast {ac wi te le : Nat → Int32} {m L m2 L2 : Nat} (h : LT ac wi te le m L) (e1 : m = m2) (e2 : L = L2) : LT ac wi te le m2 L2 := by subst e1; subst e2; exact h
theorem LN_cast {ac wi te le : Nat → Int32} {l f e l2 f2 : Nat} (h : LN ac wi te le l f e) (e1 : l = l2) (e2 : f = f2) : LN ac wi te le l2 f2 e := by subst e1; subst e2; exact h
theorem FRM_le {m n : Nat} {f g : Nat → Int32} (h : FRM m f g) (hn : n ≤ m) : FRM n f g := fun j hj => h j (by omega)
theorem upd_ne {f : Nat → Int32} {k j : Nat} {x : Int32} (h : j ≠ k) : upd f k x j = f j := by unfold upd; rw [if_neg h]
theorem CP_step {g : Nat → Int32} {s i i2 i3 : Nat} {v : Int32} (h : ∀ j, j < i → g j = g (s + j)) (hv : v = g (s + i)) (hi : i < s) (e2 : i2 = i) (e3 : i3 = i + 1) : ∀ j, j < i3 → (upd g i2 v) j = (upd g i2 v) (s + j) := fun j hj => by
  subst e2; subst e3
  rw [upd_ne (show s + j ≠ i2 from by omega)]
  by_cases q : j = i2
  · rw [upd_at q, hv, q]
  · rw [upd_ne q]; exact h j (by omega)
theorem LT_low {ac wi te le ac2 wi2 te2 le2 : Nat → Int32} {m L : Nat} (h : LT ac wi te le m L) (h1 : ∀ j, 130 ≤ j → ac2 j = ac j) (h2 : ∀ j, 130 ≤ j → wi2 j = wi j) (h3 : ∀ j, 61 ≤ j → te2 j = te j) (h4 : ∀ j, 61 ≤ j → le2 j = le j) : LT ac2 wi2 te2 le2 m L := by
  refine ⟨fun l hl => ?_, fun q => by rw [h4 _ (by omega)]; exact h.2 q⟩
  obtain ⟨f, e, q1, q2, q3, t, p1, p2, p3, p4, p5, p6⟩ := h.1 l hl
  exact ⟨f, e, q1, fun q => by rw [h4 _ (by omega)]; exact q2 q, q3, t, p1, p2, by rw [h3 _ (by omega)]; exact p3, by rw [h4 _ (by omega)]; exact p4, fun q => SEG_congr (p5 q) (fun j a1 a2 => ⟨h1 j (by omega), h2 j (by omega)⟩), SEG_congr p6 (fun j a1 a2 => ⟨h1 j (by omega), h2 j (by omega)⟩)⟩
theorem upd_hi {f : Nat → Int32} {s k : Nat} {x : Int32} (h : k < s) : ∀ j, s ≤ j → upd f k x j = f j := fun j hj => upd_ne (by omega)
def LOWV (t : Int) (v : Int64) : Int64 := if t = 0 then v.toInt32.toInt8.toInt32.toInt64 else if t = 1 then v.toInt32.toInt16.toInt32.toInt64 else if t = 2 then v.toInt32.toInt64 else if t = 3 then v else if v = 0 then 0 else 1
theorem LOWV_0 {t : Int} {v : Int64} (h : t = 0) : LOWV t v = v.toInt32.toInt8.toInt32.toInt64 := by subst h; rfl
theorem LOWV_1 {t : Int} {v : Int64} (h : t = 1) : LOWV t v = v.toInt32.toInt16.toInt32.toInt64 := by subst h; rfl
theorem LOWV_2 {t : Int} {v : Int64} (h : t = 2) : LOWV t v = v.toInt32.toInt64 := by subst h; rfl
theorem LOWV_3 {t : Int} {v : Int64} (h : t = 3) : LOWV t v = v := by subst h; rfl
theorem LOWV_4z {t : Int} {v : Int64} (h : t = 4) (hv : v.toInt = 0) : LOWV t v = 0 := by
  have e : v = 0 := Int64.toInt_inj.mp (hv.trans rfl)
  subst h; subst e; rfl
theorem LOWV_4n {t : Int} {v : Int64} (h : t = 4) (hv : v.toInt ≠ 0) : LOWV t v = 1 := by
  have e : ¬ v = 0 := fun q => hv (by rw [q]; rfl)
  subst h
  unfold LOWV
  rw [if_neg (by decide), if_neg (by decide), if_neg (by decide), if_neg (by decide), if_neg e]
theorem LOWV_c {t t2 : Int} {v : Int64} (h : t = t2) : LOWV t v = LOWV t2 v := by rw [h]
theorem upl_at {f : Nat → Int64} {k j : Nat} {x : Int64} (h : j = k) : vp_updL f k x j = x := by unfold vp_updL; rw [if_pos h]
theorem upl_ne {f : Nat → Int64} {k j : Nat} {x : Int64} (h : j ≠ k) : vp_updL f k x j = f j := by unfold vp_updL; rw [if_neg h]
def ROWOF (bw : Nat → Int64) (s : Nat) : Nat → Int64 := fun j => bw (60 * s + j)
def SHS (so si : Int32) (row : Nat → Int64) (ho sz : Int32) (rb : Nat → Int64) (md : Int) : Prop := (so.toInt = -1 ∧ ho.toInt = -1) ∨ (so.toInt = 5 ∧ ho.toInt = si.toInt ∧ 0 ≤ si.toInt ∧ si.toInt < md) ∨ (0 ≤ so.toInt ∧ so.toInt ≤ 4 ∧ ho.toInt = -2 - so.toInt ∧ sz.toInt = si.toInt ∧ 0 ≤ si.toInt ∧ si.toInt ≤ 60 ∧ ∀ j, j < 60 → row j = rb j)
def SH (so si : Nat → Int32) (w : Nat → Nat → Int64) (ho sz : Nat → Int32) (bw : Nat → Int64) (md : Int32) : Prop := ∀ s, s < 6 → SHS (so s) (si s) (w s) (ho s) (sz s) (ROWOF bw s) md.toInt
theorem SHS_num {so si ho sz : Int32} {row rb : Nat → Int64} {md : Int} (h : SHS so si row ho sz rb md) : (so.toInt = -1 ∧ ho.toInt = -1) ∨ (so.toInt = 5 ∧ ho.toInt = si.toInt ∧ 0 ≤ si.toInt ∧ si.toInt < md) ∨ (0 ≤ so.toInt ∧ so.toInt ≤ 4 ∧ ho.toInt = -2 - so.toInt ∧ sz.toInt = si.toInt ∧ 0 ≤ si.toInt ∧ si.toInt ≤ 60) := by
  rcases h with h | h | ⟨a, b, c, d, e, f, _⟩
  · exact Or.inl h
  · exact Or.inr (Or.inl h)
  · exact Or.inr (Or.inr ⟨a, b, c, d, e, f⟩)
theorem SHS_row {so si ho sz : Int32} {row rb : Nat → Int64} {md : Int} (h : SHS so si row ho sz rb md) (h0 : 0 ≤ so.toInt) (h4 : so.toInt ≤ 4) : ∀ j, j < 60 → row j = rb j := by
  rcases h with h | h | ⟨_, _, _, _, _, _, q⟩
  · exact absurd h.1 (by omega)
  · exact absurd h.1 (by omega)
  · exact q
theorem SHS_mono {so si ho sz : Int32} {row rb : Nat → Int64} {md md2 : Int} (h : SHS so si row ho sz rb md) (hm : md ≤ md2) : SHS so si row ho sz rb md2 := by
  rcases h with h | ⟨a, b, c, d⟩ | h
  · exact Or.inl h
  · exact Or.inr (Or.inl ⟨a, b, c, by omega⟩)
  · exact Or.inr (Or.inr h)
theorem SH_mono {so si ho sz : Nat → Int32} {w : Nat → Nat → Int64} {bw : Nat → Int64} {md md2 : Int32} (h : SH so si w ho sz bw md) (hm : md.toInt ≤ md2.toInt) : SH so si w ho sz bw md2 := fun s hs => SHS_mono (h s hs) hm
theorem SHS_rb {so si ho sz : Int32} {row rb rb2 : Nat → Int64} {md : Int} (h : SHS so si row ho sz rb md) (hb : ∀ j, j < 60 → rb2 j = rb j) : SHS so si row ho sz rb2 md := by
  rcases h with h | h | ⟨a, b, c, d, e, f, q⟩
  · exact Or.inl h
  · exact Or.inr (Or.inl h)
  · exact Or.inr (Or.inr ⟨a, b, c, d, e, f, fun j hj => (q j hj).trans (hb j hj).symm⟩)
theorem SH_row {so si ho sz ho2 : Nat → Int32} {w : Nat → Nat → Int64} {bw bw2 : Nat → Int64} {md : Int32} (h : SH so si w ho sz bw md) {n : Nat} {k z : Int32} {g : Nat → Int64} (hk0 : 0 ≤ k.toInt) (hk4 : k.toInt ≤ 4) (hz0 : 0 ≤ z.toInt) (hz6 : z.toInt ≤ 60) (hg : ∀ j, j < 60 → g j = 0) (hh : ∀ j, j ≠ n → ho2 j = ho j) (hhn : (ho2 n).toInt = -2 - k.toInt) (hb0 : ∀ j, 60 * n ≤ j → j < 60 * n + 60 → bw2 j = 0) (hb1 : ∀ j, (j < 60 * n ∨ 60 * n + 60 ≤ j) → bw2 j = bw j) : SH (upd so n k) (upd si n z) (va_up w n g) ho2 (upd sz n z) bw2 md := fun s hs => by
  by_cases q : s = n
  · subst q
    rw [upd_at rfl, upd_at rfl, upd_at rfl, va_up_self]
    exact Or.inr (Or.inr ⟨hk0, hk4, hhn, rfl, hz0, hz6, fun j hj => (hg j hj).trans (hb0 _ (by omega) (by omega)).symm⟩)
  · rw [upd_ne q, upd_ne q, upd_ne q, va_up_ne _ _ q, hh s q]
    exact SHS_rb (h s hs) (fun j hj => hb1 _ (by omega))
theorem SH_keep {so si ho sz : Nat → Int32} {w : Nat → Nat → Int64} {bw : Nat → Int64} {md : Int32} (h : SH so si w ho sz bw md) {n : Nat} {z : Int32} {g : Nat → Int64} (hz : z.toInt = -1 ∨ (0 ≤ z.toInt ∧ z.toInt < md.toInt)) : SH (upd so n (if z.toInt = -1 then (-1 : Int32) else 5)) (upd si n z) (va_up w n g) (upd ho n z) sz bw md := fun s hs => by
  by_cases q : s = n
  · subst q
    rw [upd_at rfl, upd_at rfl, upd_at rfl, va_up_self]
    by_cases q1 : z.toInt = -1
    · rw [if_pos q1]; exact Or.inl ⟨rfl, q1⟩
    · rw [if_neg q1]; exact Or.inr (Or.inl ⟨rfl, rfl, by omega, by omega⟩)
  · rw [upd_ne q, upd_ne q, upd_ne q, va_up_ne _ _ q]
    exact h s hs
theorem SH_put {so si ho sz : Nat → Int32} {w : Nat → Nat → Int64} {bw : Nat → Int64} {md : Int32} (h : SH so si w ho sz bw md) {n i : Nat} {x : Int64} (hi : i < 60) : SH so si (va_up w n (vp_updL (w n) i x)) ho sz (vp_updL bw (60 * n + i) x) md := fun s hs => by
  by_cases q : s = n
  · subst q
    rw [va_up_self]
    rcases h s hs with p | p | ⟨a, b, c, d, e, f, r⟩
    · exact Or.inl p
    · exact Or.inr (Or.inl p)
    · refine Or.inr (Or.inr ⟨a, b, c, d, e, f, fun j hj => ?_⟩)
      by_cases q2 : j = i
      · rw [upl_at q2]; show x = vp_updL bw (60 * s + i) x (60 * s + j); rw [upl_at (by omega)]
      · rw [upl_ne q2]; show w s j = vp_updL bw (60 * s + i) x (60 * s + j); rw [upl_ne (by omega)]; exact r j hj
  · rw [va_up_ne _ _ q]
    exact SHS_rb (h s hs) (fun j hj => by show vp_updL bw (60 * n + i) x (60 * s + j) = _; rw [upl_ne (by omega)]; rfl)
theorem SH_copy {so si ho sz : Nat → Int32} {w : Nat → Nat → Int64} {bw bw2 : Nat → Int64} {md : Int32} (h : SH so si w ho sz bw md) {a b i j n : Nat} (ha : a < 6) (ha0 : 0 ≤ (so a).toInt) (ha4 : (so a).toInt ≤ 4) (hi : i + n ≤ 60) (hj : j + n ≤ 60) (h1 : ∀ t, t < n → bw2 (60 * b + j + t) = bw (60 * a + i + t)) (h2 : ∀ t, (t < 60 * b + j ∨ 60 * b + j + n ≤ t) → bw2 t = bw t) : SH so si (va_up w b (va_cpy (w a) (w b) i j n)) ho sz bw2 md := fun s hs => by
  have hra := SHS_row (h a ha) ha0 ha4
  by_cases q : s = b
  · subst q
    rw [va_up_self]
    rcases h s hs with p | p | ⟨a1, b1, c1, d1, e1, f1, r⟩
    · exact Or.inl p
    · exact Or.inr (Or.inl p)
    · refine Or.inr (Or.inr ⟨a1, b1, c1, d1, e1, f1, fun t ht => ?_⟩)
      by_cases q2 : j ≤ t ∧ t < j + n
      · rw [pk_cpy_in q2.1 q2.2, hra _ (by omega)]
        show bw (60 * a + (i + (t - j))) = bw2 (60 * s + t)
        have e := h1 (t - j) (by omega)
        rw [show 60 * s + j + (t - j) = 60 * s + t from by omega, show 60 * a + i + (t - j) = 60 * a + (i + (t - j)) from by omega] at e
        exact e.symm
      · rw [pk_cpy_out (by omega)]
        show w s t = bw2 (60 * s + t)
        rw [h2 _ (by omega)]; exact r t ht
  · rw [va_up_ne _ _ q]
    exact SHS_rb (h s hs) (fun t ht => h2 _ (by omega))
def IS3 (g : Nat → Int64) (m : Nat) : Prop := (0 ≤ (g m).toInt32.toInt ∧ (g m).toInt32.toInt < 256) ∧ (0 ≤ (g (m + 1)).toInt32.toInt ∧ (g (m + 1)).toInt32.toInt ≤ 12) ∧ (0 ≤ (g (m + 2)).toInt32.toInt ∧ (g (m + 2)).toInt32.toInt ≤ 9)
def OKP (g : Nat → Int64) (z p i : Int) (t : Nat) : Prop := 0 ≤ i + 3 * (t : Int) ∧ i + 3 * (t : Int) + 2 < z ∧ p + (t : Int) < 8 ∧ IS3 g (i + 3 * (t : Int)).toNat
def CAME (g : Nat → Int64) (z p i n k : Int) : Prop := 0 ≤ k ∧ k ≤ n ∧ (∀ t : Nat, t < k.toNat → OKP g z p i t) ∧ (k = n ∨ ¬ OKP g z p i k.toNat)
theorem OKP_c {g g2 : Nat → Int64} {z z2 p p2 i : Int} {t : Nat} (hg : ∀ j, j < 60 → g j = g2 j) (hz : z ≤ 60) (ez : z2 = z) (ep : p2 = p) (h : OKP g z p i t) : OKP g2 z2 p2 i t := by
  obtain ⟨h1, h2, h3, h4⟩ := h
  refine ⟨h1, by omega, by omega, ?_⟩
  unfold IS3 at h4 ⊢
  rw [← hg _ (by omega), ← hg _ (by omega), ← hg _ (by omega)]
  exact h4
theorem CAME_uniq {g g2 : Nat → Int64} {z z2 p p2 i n k k2 : Int} (hg : ∀ j, j < 60 → g j = g2 j) (hz : z ≤ 60) (ez : z2 = z) (ep : p2 = p) (h : CAME g z p i n k) (h' : CAME g2 z2 p2 i n k2) : k = k2 := by
  obtain ⟨a1, a2, a3, a4⟩ := h
  obtain ⟨b1, b2, b3, b4⟩ := h'
  rcases (show k < k2 ∨ k = k2 ∨ k2 < k by omega) with q | q | q
  · rcases a4 with q2 | q2
    · omega
    · exact absurd (OKP_c (fun j hj => (hg j hj).symm) (by omega) ez.symm ep.symm (b3 k.toNat (by omega))) q2
  · exact q
  · rcases b4 with q2 | q2
    · omega
    · exact absurd (OKP_c hg hz ez ep (a3 k2.toNat (by omega))) q2
def TRW (g : Nat → Int32) (k : Nat) : List Int32 → (Nat → Int32)
  | [] => g
  | x :: l => TRW (upd g k x) (k + 1) l
theorem TRW_c (l : List Int32) : ∀ (f g : Nat → Int32) (k : Nat), (∀ j, f j = g j) → ∀ j, TRW f k l j = TRW g k l j := by
  induction l with
  | nil => intro f g k h j; exact h j
  | cons x l ih => intro f g k h j; exact ih _ _ _ (fun i => by unfold upd; rw [h i]) j
def UNDR (k t : Int) : Prop := t = 0 ∨ k = t ∨ (t = 1 ∧ k = 4) ∨ (t = 2 ∧ (k = 3 ∨ k = 5)) ∨ (t = 3 ∧ k = 5) ∨ (t = 6 ∧ k = 7)
theorem i_m17 {x : Int32} (h1 : -1 ≤ x.toInt) (h2 : x.toInt ≤ 7) : x = -1 ∨ x = 0 ∨ x = 1 ∨ x = 2 ∨ x = 3 ∨ x = 4 ∨ x = 5 ∨ x = 6 ∨ x = 7 := by
  by_cases q : x.toInt = -1
  · exact Or.inl (i_inj q)
  · exact Or.inr (i_07 (by omega) h2)
def AV (K a : Nat) (x n : Int32) : Int32 := match K, a with
  | 0, 0 => (x + n)
  | 0, 1 => ((x + n) * 2)
  | 0, 2 => (x ^^^ n)
  | 0, 3 => (((x + n) * 2) - ((1 : Int32) ^^^ n))
  | 1, 0 => ((x + n) + 3)
  | 1, 1 => (((x + n) + 3) * 2)
  | 1, 2 => (x ^^^ n)
  | 1, 3 => ((((x + n) + 3) * 2) - ((1 : Int32) ^^^ n))
  | 2, 0 => (x + n)
  | 2, 1 => (-((x + n) * 2))
  | 2, 2 => (x ^^^ n)
  | 2, 3 => ((-((x + n) * 2)) - ((1 : Int32) ^^^ n))
  | 3, 0 => (x + n)
  | 3, 1 => (-(((x + 1) + n) * 2))
  | 3, 2 => ((x ^^^ n) * 3)
  | 3, 3 => ((-(((x + 1) + n) * 2)) - (((1 : Int32) ^^^ n) * 3))
  | 4, 0 => ((x + n) + 3)
  | 4, 1 => (((x + n) + 3) * 2)
  | 4, 2 => (x ^^^ n)
  | 4, 3 => (((((x + n) + 3) * 2) - ((1 : Int32) ^^^ n)) ^^^ 5)
  | 5, 0 => (x + n)
  | 5, 1 => (-(((x + 1) + n) * 2))
  | 5, 2 => (((x ^^^ n) * 3) - ((2 : Int32) + n))
  | 5, 3 => (((-(((x + 1) + n) * 2)) - ((((1 : Int32) ^^^ n) * 3) - ((2 : Int32) + n))) + 1)
  | 6, 0 => ((x + n) * 2)
  | 6, 1 => (((x + n) * 2) * 2)
  | 6, 2 => (x ^^^ n)
  | 6, 3 => ((((x + n) * 2) * 2) - ((1 : Int32) ^^^ n))
  | 7, 0 => (((x + n) * 2) - 1)
  | 7, 1 => (((((x + n) * 2) - 1) * 2) + ((2 : Int32) ^^^ n))
  | 7, 2 => (x ^^^ n)
  | 7, 3 => ((((((x + n) * 2) - 1) * 2) + ((2 : Int32) ^^^ n)) - ((1 : Int32) ^^^ n))
  | _, _ => 0
def AL (K a : Nat) : List Int32 := match K, a with
  | 0, 0 => [1]
  | 0, 1 => [10, 1]
  | 0, 2 => [11]
  | 0, 3 => [2, 10, 1, 11]
  | 1, 0 => [20, 1]
  | 1, 1 => [10, 20, 1]
  | 1, 2 => [11]
  | 1, 3 => [2, 10, 20, 1, 11]
  | 2, 0 => [1]
  | 2, 1 => [30, 10, 1]
  | 2, 2 => [11]
  | 2, 3 => [2, 30, 10, 1, 11]
  | 3, 0 => [1]
  | 3, 1 => [41, 30, 10, 1]
  | 3, 2 => [40, 11]
  | 3, 3 => [2, 41, 30, 10, 1, 40, 11]
  | 4, 0 => [20, 1]
  | 4, 1 => [10, 20, 1]
  | 4, 2 => [11]
  | 4, 3 => [50, 2, 10, 20, 1, 11]
  | 5, 0 => [1]
  | 5, 1 => [41, 30, 10, 1]
  | 5, 2 => [60, 40, 11, 1]
  | 5, 3 => [61, 2, 41, 30, 10, 1, 60, 40, 11, 1]
  | 6, 0 => [70, 1]
  | 6, 1 => [10, 70, 1]
  | 6, 2 => [11]
  | 6, 3 => [2, 10, 70, 1, 11]
  | 7, 0 => [81, 70, 1]
  | 7, 1 => [80, 10, 81, 70, 1, 11]
  | 7, 2 => [11]
  | 7, 3 => [2, 80, 10, 81, 70, 1, 11, 11]
  | _, _ => []
