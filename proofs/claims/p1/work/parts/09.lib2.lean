theorem va_up_id {α : Type} (f : Nat → α) (k : Nat) : va_up f k (f k) = f := by
  funext j
  unfold va_up
  split
  · next h => rw [h]
  · rfl
section Rows2
variable {p : Program} {l : Launch} {e : Env} {R : Room} {s : State} {m : MethodId} {args : Array Value} {below : List Frame} {meth : Method} {c : Code} {H : Heap} {locs : List Loc} {cells slots : Nat} {Q : State → Prop}
variable {cc : ByteArray} {pc index : Nat} {ls : Array Slot} {rest : List Value} {A : Nat → Prop} {H0 : Heap} {own : String} {D : va_G} {cs : Nat → ClassId}
variable {ad fa fq rv : Nat → Nat} {v : Nat → Int32} {a : Nat → Nat → Int32} {w : Nat → Nat → Int64} {fv fp : Nat → Nat → Int32}
theorem ld2_row {r : Nat} (hr : r < 6) {g : Nat → Int64} (hx : p.tables.exec = Jvm.exec) (hb : c.code = cc) (hK : va_K D vwCl (TY cs) s) (hP : va_P D vwCl (CW cs ad fa fq rv v a (va_up w r g) fv fp) H) {i : Int32} (hi : vp_in i 60) (hdg : decode cc pc = .ok (.laload, 1)) (kk : W p l e R s m args below meth c H locs cells slots Q (F0 m (pc + 1) ls (.long (g i.toNatClampNeg) :: rest))) : W p l e R s m args below meth c H locs cells slots Q (F0 m pc ls (.int i :: .ref (ad (31 + r)) :: rest)) := by
  refine ld_row hr hx hb hK hP hi hdg ?_
  rw [va_up_self]
  exact kk
theorem st2_row {r : Nat} (hr : r < 6) {g : Nat → Int64} (hx : p.tables.exec = Jvm.exec) (hb : c.code = cc) (hK : va_K D vwCl (TY cs) s) (hP : va_P D vwCl (CW cs ad fa fq rv v a (va_up w r g) fv fp) H) (hD : va_D A (CW cs ad fa fq rv v a (va_up w r g) fv fp)) (hS : va_S A H0 H locs) {i : Int32} {x : Int64} (hi : vp_in i 60) (hdg : decode cc pc = .ok (.lastore, 1)) (kk : ∀ (H1 : Heap) (l1 : List Loc), va_P D vwCl (CW cs ad fa fq rv v a (va_up w r (vp_updL g i.toNatClampNeg x)) fv fp) H1 → va_D A (CW cs ad fa fq rv v a (va_up w r (vp_updL g i.toNatClampNeg x)) fv fp) → va_S A H0 H1 l1 → W p l e R s m args below meth c H1 l1 cells slots Q (F0 m (pc + 1) ls rest)) : W p l e R s m args below meth c H locs cells slots Q (F0 m pc ls (.long x :: .int i :: .ref (ad (31 + r)) :: rest)) := by
  have e : va_up (va_up w r g) r (vp_updL ((va_up w r g) r) i.toNatClampNeg x) = va_up w r (vp_updL g i.toNatClampNeg x) := by
    rw [va_up_self]
    funext j
    unfold va_up
    split <;> rfl
  exact st_row hr hx hb hK hP hD hS hi hdg (fun H1 l1 q1 q2 q3 => kk H1 l1 (e ▸ q1) (e ▸ q2) q3)
end Rows2
