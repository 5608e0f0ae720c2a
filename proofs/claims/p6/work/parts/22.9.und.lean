def UNDR (k t : Int) : Prop := t = 0 ∨ k = t ∨ (t = 1 ∧ k = 4) ∨ (t = 2 ∧ (k = 3 ∨ k = 5)) ∨ (t = 3 ∧ k = 5) ∨ (t = 6 ∧ k = 7)
set_option maxHeartbeats 4000000 in
set_option maxRecDepth 100000 in
theorem k_X12_isUnder2 (l : Launch)   (p1 : Int32) (p2 : Int32)  : Met l yX12_isUnder (Cond.code yX12_isUnder cX12_isUnder 2 (some .boolean) :: gw) ({ frames := 0, cells := 0, slots := 0, locals := 0 }) (fun v _ => v = ([.int p1, .int p2] : List Value).toArray) (vp_Si (fun (r : Int32) => (r.toInt = 1 ∧ (UNDR p1.toInt p2.toInt)) ∨ (r.toInt = 0 ∧ ¬ ((UNDR p1.toInt p2.toInt))))) 0 0 (fun _ => False) := by
  refine Met.ofW (cc := cX12_isUnder) (maxL := 2) (ret := (some .boolean)) (by decide) rfl ?_
  intro p e s m args below meth c s₁ B hml hv
  subst hv
  have hx := B.exec
  have hb := B.bytes
  have hr := B.returns
  have hts := atoms_spec (ws := (Cond.code yX12_isUnder cX12_isUnder 2 (some .boolean) :: gw)) B.pre
  have hg : ∀ w ∈ gw, w.before ([.int p1, .int p2] : List Value).toArray s = true := fun w h => hts w (List.mem_cons_of_mem _ h)
  have hown : s.vm.findClass RX12 = some m.cls := findClass_of_methodNamed B.named
  have hlocks := B.notSynchronized
  have hl := lv_entry ([.int p1, .int p2]) (n := 2) (Nat.le_of_ble_eq_true rfl)
  rw [lg_entry_eq]
  generalize (lg_sl ([.int p1, .int p2]) ++ List.replicate (2 - (lg_sl ([.int p1, .int p2])).length) Slot.unset).toArray = ls at hl ⊢
  have hl : lv_has ls 2 [(0, .int p1), (1, .int p2)] := hl
  refine lv_iload_n hx hb dX12_isUnder_0 rfl (lv_at hl 1 rfl) ?_
  refine lv_if_eq (tgt := 56) hx hb dX12_isUnder_1 (by decide) (fun c_1 => ?_) (fun c_1 => ?_)
  ·
    have kc_1 : p2.toInt = (0 : Int) := i_eq c_1
    refine lv_iconst (v := 1) hx hb dX12_isUnder_56 (by decide) ?_
    refine lv_goto (tgt := 61) hx hb dX12_isUnder_57 (by decide) ?_
    have q0_1 : (1 : Int32).toInt = 1 := rfl
    exact W.zret (v := 1) hx hb hr rfl (fun tt ht hW => ⟨1, rfl, (by unfold UNDR; omega), ht⟩) (fun _ h => by cases h) dX12_isUnder_61
  ·
    have kc_1 : p2.toInt ≠ (0 : Int) := i_ne c_1
    refine lv_iload_n hx hb dX12_isUnder_4 rfl (lv_at hl 0 rfl) ?_
    refine lv_iload_n hx hb dX12_isUnder_5 rfl (lv_at hl 1 rfl) ?_
    refine lv_icmp_eq (tgt := 56) hx hb dX12_isUnder_6 (by decide) (fun c_2 => ?_) (fun c_2 => ?_)
    ·
      have kc_2 : p1.toInt = p2.toInt := i_eq c_2
      refine lv_iconst (v := 1) hx hb dX12_isUnder_56 (by decide) ?_
      refine lv_goto (tgt := 61) hx hb dX12_isUnder_57 (by decide) ?_
      have q0_1 : (1 : Int32).toInt = 1 := rfl
      exact W.zret (v := 1) hx hb hr rfl (fun tt ht hW => ⟨1, rfl, (by unfold UNDR; omega), ht⟩) (fun _ h => by cases h) dX12_isUnder_61
    ·
      have kc_2 : p1.toInt ≠ p2.toInt := i_ne c_2
      refine lv_iload_n hx hb dX12_isUnder_9 rfl (lv_at hl 1 rfl) ?_
      refine lv_iconst (v := 1) hx hb dX12_isUnder_10 (by decide) ?_
      refine lv_icmp_ne (tgt := 19) hx hb dX12_isUnder_11 (by decide) (fun c_3 => ?_) (fun c_3 => ?_)
      ·
        have kc_3 : p2.toInt ≠ (1 : Int) := i_ne c_3
        refine lv_iload_n hx hb dX12_isUnder_19 rfl (lv_at hl 1 rfl) ?_
        refine lv_iconst (v := 2) hx hb dX12_isUnder_20 (by decide) ?_
        refine lv_icmp_ne (tgt := 34) hx hb dX12_isUnder_21 (by decide) (fun c_4 => ?_) (fun c_4 => ?_)
        ·
          have kc_4 : p2.toInt ≠ (2 : Int) := i_ne c_4
          refine lv_iload_n hx hb dX12_isUnder_34 rfl (lv_at hl 1 rfl) ?_
          refine lv_iconst (v := 3) hx hb dX12_isUnder_35 (by decide) ?_
          refine lv_icmp_ne (tgt := 44) hx hb dX12_isUnder_36 (by decide) (fun c_5 => ?_) (fun c_5 => ?_)
          ·
            have kc_5 : p2.toInt ≠ (3 : Int) := i_ne c_5
            refine lv_iload_n hx hb dX12_isUnder_44 rfl (lv_at hl 1 rfl) ?_
            refine lv_bipush (v := 6) hx hb dX12_isUnder_45 (by decide) ?_
            refine lv_icmp_ne (tgt := 60) hx hb dX12_isUnder_47 (by decide) (fun c_6 => ?_) (fun c_6 => ?_)
            ·
              have kc_6 : p2.toInt ≠ (6 : Int) := i_ne c_6
              refine lv_iconst (v := 0) hx hb dX12_isUnder_60 (by decide) ?_
              have q0_0 : (0 : Int32).toInt = 0 := rfl
              exact W.zret (v := 0) hx hb hr rfl (fun tt ht hW => ⟨0, rfl, (by unfold UNDR; omega), ht⟩) (fun _ h => by cases h) dX12_isUnder_61
            ·
              have kc_6 : p2.toInt = (6 : Int) := i_eq c_6
              refine lv_iload_n hx hb dX12_isUnder_50 rfl (lv_at hl 0 rfl) ?_
              refine lv_bipush (v := 7) hx hb dX12_isUnder_51 (by decide) ?_
              refine lv_icmp_ne (tgt := 60) hx hb dX12_isUnder_53 (by decide) (fun c_7 => ?_) (fun c_7 => ?_)
              ·
                have kc_7 : p1.toInt ≠ (7 : Int) := i_ne c_7
                refine lv_iconst (v := 0) hx hb dX12_isUnder_60 (by decide) ?_
                have q0_0 : (0 : Int32).toInt = 0 := rfl
                exact W.zret (v := 0) hx hb hr rfl (fun tt ht hW => ⟨0, rfl, (by unfold UNDR; omega), ht⟩) (fun _ h => by cases h) dX12_isUnder_61
              ·
                have kc_7 : p1.toInt = (7 : Int) := i_eq c_7
                refine lv_iconst (v := 1) hx hb dX12_isUnder_56 (by decide) ?_
                refine lv_goto (tgt := 61) hx hb dX12_isUnder_57 (by decide) ?_
                have q0_1 : (1 : Int32).toInt = 1 := rfl
                exact W.zret (v := 1) hx hb hr rfl (fun tt ht hW => ⟨1, rfl, (by unfold UNDR; omega), ht⟩) (fun _ h => by cases h) dX12_isUnder_61
          ·
            have kc_5 : p2.toInt = (3 : Int) := i_eq c_5
            refine lv_iload_n hx hb dX12_isUnder_39 rfl (lv_at hl 0 rfl) ?_
            refine lv_iconst (v := 5) hx hb dX12_isUnder_40 (by decide) ?_
            refine lv_icmp_eq (tgt := 56) hx hb dX12_isUnder_41 (by decide) (fun c_8 => ?_) (fun c_8 => ?_)
            ·
              have kc_8 : p1.toInt = (5 : Int) := i_eq c_8
              refine lv_iconst (v := 1) hx hb dX12_isUnder_56 (by decide) ?_
              refine lv_goto (tgt := 61) hx hb dX12_isUnder_57 (by decide) ?_
              have q0_1 : (1 : Int32).toInt = 1 := rfl
              exact W.zret (v := 1) hx hb hr rfl (fun tt ht hW => ⟨1, rfl, (by unfold UNDR; omega), ht⟩) (fun _ h => by cases h) dX12_isUnder_61
            ·
              have kc_8 : p1.toInt ≠ (5 : Int) := i_ne c_8
              refine lv_iload_n hx hb dX12_isUnder_44 rfl (lv_at hl 1 rfl) ?_
              refine lv_bipush (v := 6) hx hb dX12_isUnder_45 (by decide) ?_
              refine lv_icmp_ne (tgt := 60) hx hb dX12_isUnder_47 (by decide) (fun c_9 => ?_) (fun c_9 => ?_)
              ·
                have kc_9 : p2.toInt ≠ (6 : Int) := i_ne c_9
                refine lv_iconst (v := 0) hx hb dX12_isUnder_60 (by decide) ?_
                have q0_0 : (0 : Int32).toInt = 0 := rfl
                exact W.zret (v := 0) hx hb hr rfl (fun tt ht hW => ⟨0, rfl, (by unfold UNDR; omega), ht⟩) (fun _ h => by cases h) dX12_isUnder_61
              ·
                have kc_9 : p2.toInt = (6 : Int) := i_eq c_9
                exfalso; omega
        ·
          have kc_4 : p2.toInt = (2 : Int) := i_eq c_4
          refine lv_iload_n hx hb dX12_isUnder_24 rfl (lv_at hl 0 rfl) ?_
          refine lv_iconst (v := 3) hx hb dX12_isUnder_25 (by decide) ?_
          refine lv_icmp_eq (tgt := 56) hx hb dX12_isUnder_26 (by decide) (fun c_10 => ?_) (fun c_10 => ?_)
          ·
            have kc_10 : p1.toInt = (3 : Int) := i_eq c_10
            refine lv_iconst (v := 1) hx hb dX12_isUnder_56 (by decide) ?_
            refine lv_goto (tgt := 61) hx hb dX12_isUnder_57 (by decide) ?_
            have q0_1 : (1 : Int32).toInt = 1 := rfl
            exact W.zret (v := 1) hx hb hr rfl (fun tt ht hW => ⟨1, rfl, (by unfold UNDR; omega), ht⟩) (fun _ h => by cases h) dX12_isUnder_61
          ·
            have kc_10 : p1.toInt ≠ (3 : Int) := i_ne c_10
            refine lv_iload_n hx hb dX12_isUnder_29 rfl (lv_at hl 0 rfl) ?_
            refine lv_iconst (v := 5) hx hb dX12_isUnder_30 (by decide) ?_
            refine lv_icmp_eq (tgt := 56) hx hb dX12_isUnder_31 (by decide) (fun c_11 => ?_) (fun c_11 => ?_)
            ·
              have kc_11 : p1.toInt = (5 : Int) := i_eq c_11
              refine lv_iconst (v := 1) hx hb dX12_isUnder_56 (by decide) ?_
              refine lv_goto (tgt := 61) hx hb dX12_isUnder_57 (by decide) ?_
              have q0_1 : (1 : Int32).toInt = 1 := rfl
              exact W.zret (v := 1) hx hb hr rfl (fun tt ht hW => ⟨1, rfl, (by unfold UNDR; omega), ht⟩) (fun _ h => by cases h) dX12_isUnder_61
            ·
              have kc_11 : p1.toInt ≠ (5 : Int) := i_ne c_11
              refine lv_iload_n hx hb dX12_isUnder_34 rfl (lv_at hl 1 rfl) ?_
              refine lv_iconst (v := 3) hx hb dX12_isUnder_35 (by decide) ?_
              refine lv_icmp_ne (tgt := 44) hx hb dX12_isUnder_36 (by decide) (fun c_12 => ?_) (fun c_12 => ?_)
              ·
                have kc_12 : p2.toInt ≠ (3 : Int) := i_ne c_12
                refine lv_iload_n hx hb dX12_isUnder_44 rfl (lv_at hl 1 rfl) ?_
                refine lv_bipush (v := 6) hx hb dX12_isUnder_45 (by decide) ?_
                refine lv_icmp_ne (tgt := 60) hx hb dX12_isUnder_47 (by decide) (fun c_13 => ?_) (fun c_13 => ?_)
                ·
                  have kc_13 : p2.toInt ≠ (6 : Int) := i_ne c_13
                  refine lv_iconst (v := 0) hx hb dX12_isUnder_60 (by decide) ?_
                  have q0_0 : (0 : Int32).toInt = 0 := rfl
                  exact W.zret (v := 0) hx hb hr rfl (fun tt ht hW => ⟨0, rfl, (by unfold UNDR; omega), ht⟩) (fun _ h => by cases h) dX12_isUnder_61
                ·
                  have kc_13 : p2.toInt = (6 : Int) := i_eq c_13
                  exfalso; omega
              ·
                have kc_12 : p2.toInt = (3 : Int) := i_eq c_12
                exfalso; omega
      ·
        have kc_3 : p2.toInt = (1 : Int) := i_eq c_3
        refine lv_iload_n hx hb dX12_isUnder_14 rfl (lv_at hl 0 rfl) ?_
        refine lv_iconst (v := 4) hx hb dX12_isUnder_15 (by decide) ?_
        refine lv_icmp_eq (tgt := 56) hx hb dX12_isUnder_16 (by decide) (fun c_14 => ?_) (fun c_14 => ?_)
        ·
          have kc_14 : p1.toInt = (4 : Int) := i_eq c_14
          refine lv_iconst (v := 1) hx hb dX12_isUnder_56 (by decide) ?_
          refine lv_goto (tgt := 61) hx hb dX12_isUnder_57 (by decide) ?_
          have q0_1 : (1 : Int32).toInt = 1 := rfl
          exact W.zret (v := 1) hx hb hr rfl (fun tt ht hW => ⟨1, rfl, (by unfold UNDR; omega), ht⟩) (fun _ h => by cases h) dX12_isUnder_61
        ·
          have kc_14 : p1.toInt ≠ (4 : Int) := i_ne c_14
          refine lv_iload_n hx hb dX12_isUnder_19 rfl (lv_at hl 1 rfl) ?_
          refine lv_iconst (v := 2) hx hb dX12_isUnder_20 (by decide) ?_
          refine lv_icmp_ne (tgt := 34) hx hb dX12_isUnder_21 (by decide) (fun c_15 => ?_) (fun c_15 => ?_)
          ·
            have kc_15 : p2.toInt ≠ (2 : Int) := i_ne c_15
            refine lv_iload_n hx hb dX12_isUnder_34 rfl (lv_at hl 1 rfl) ?_
            refine lv_iconst (v := 3) hx hb dX12_isUnder_35 (by decide) ?_
            refine lv_icmp_ne (tgt := 44) hx hb dX12_isUnder_36 (by decide) (fun c_16 => ?_) (fun c_16 => ?_)
            ·
              have kc_16 : p2.toInt ≠ (3 : Int) := i_ne c_16
              refine lv_iload_n hx hb dX12_isUnder_44 rfl (lv_at hl 1 rfl) ?_
              refine lv_bipush (v := 6) hx hb dX12_isUnder_45 (by decide) ?_
              refine lv_icmp_ne (tgt := 60) hx hb dX12_isUnder_47 (by decide) (fun c_17 => ?_) (fun c_17 => ?_)
              ·
                have kc_17 : p2.toInt ≠ (6 : Int) := i_ne c_17
                refine lv_iconst (v := 0) hx hb dX12_isUnder_60 (by decide) ?_
                have q0_0 : (0 : Int32).toInt = 0 := rfl
                exact W.zret (v := 0) hx hb hr rfl (fun tt ht hW => ⟨0, rfl, (by unfold UNDR; omega), ht⟩) (fun _ h => by cases h) dX12_isUnder_61
              ·
                have kc_17 : p2.toInt = (6 : Int) := i_eq c_17
                exfalso; omega
            ·
              have kc_16 : p2.toInt = (3 : Int) := i_eq c_16
              exfalso; omega
          ·
            have kc_15 : p2.toInt = (2 : Int) := i_eq c_15
            exfalso; omega

