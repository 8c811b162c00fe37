theorem in_X4_areEnds_X4 : ∀ w ∈ u_ws RX4 TX4 9, w ∈ wsX4_areEnds := by decide +kernel
set_option maxHeartbeats 4000000 in
set_option maxRecDepth 100000 in
theorem c_M_areEnds (l : Launch) (D : va_G) (x a a2 a3 : Nat) (cA cB cC : ClassId) (F P G : Nat → Int) (n rd br v ln ft : Int) (hF : zi_By F) (hn : 0 ≤ n ∧ n ≤ 600) (hP0 : zi_By P) (hG : zi_By G) (hrd : rd = 0 ∨ rd = 1) (hbr : 0 ≤ br ∧ br ≤ 15) (hv0 : 0 ≤ v ∧ v ≤ 255) (hln : 0 ≤ ln ∧ ln ≤ 524280) (hft : 0 ≤ ft ∧ ft ≤ 1) (p0 : Int) (hp : 0 ≤ p0 ∧ p0 ≤ 65535) (hL : ln ≤ 600) : Met l yX4_areEnds wsX4_areEnds ({ frames := 0, cells := 0, slots := 0, locals := 0 }) (va_Pc [.ref x, .int (zi_n p0)] (zp_Q D vwCl [(x, .inr (5, [.int (zi_n ft), .ref a, .int (zi_n n), .int (zi_n rd), .int (zi_n br), .ref a2, .ref a3, .int (zi_n v), .int (zi_n ln)])), (a, .inl (cA, 600, .inl (zi_F F))), (a2, .inl (cB, 600, .inl (zi_F P))), (a3, .inl (cC, 600, .inl (zi_F G)))] [(cA, .int), (cB, .int), (cC, .int)])) (vp_Si (fun r => (r = zi_n 1 ∧ (zh_mE F ln p0)) ∨ (r = zi_n 0 ∧ ¬ (zh_mE F ln p0)))) 0 0 (fun _ => False) := by
  refine Met.ofW (cc := cX4_areEnds) (maxL := 4) (ret := (some .boolean)) (by decide) rfl ?_
  intro p e s m args below meth c s₁ B hml hv
  obtain ⟨rfl, hP, hK⟩ := hv
  have hx := B.exec
  have hb := B.bytes
  have hr := B.returns
  have hts := atoms_spec (ws := wsX4_areEnds) B.pre
  have hown : s.vm.findClass RX4 = some m.cls := findClass_of_methodNamed B.named
  have hlocks := B.notSynchronized
  have hl := lv_entry ([.ref x, .int (zi_n p0)]) (n := 4) (Nat.le_of_ble_eq_true rfl)
  rw [lg_entry_eq]
  generalize (lg_sl ([.ref x, .int (zi_n p0)]) ++ List.replicate (4 - (lg_sl ([.ref x, .int (zi_n p0)])).length) Slot.unset).toArray = ls at hl ⊢
  have hl : lv_has ls 4 [(0, .ref x), (1, .int (zi_n p0))] := hl
  refine lv_iload_n hx hb dX4_areEnds_0 rfl (lv_at hl 1 rfl) ?_
  refine zr_if_ne (tgt := 8) hx hb dX4_areEnds_1 (by decide) (by omega) (fun c_1 => ?_) (fun c_1 => ?_)
  · refine zr_iconst hx hb dX4_areEnds_8 ?_
    refine lv_istore_n (lv' := [(2, .int (zi_n 0)), (0, .ref x), (1, .int (zi_n p0))]) hx hb dX4_areEnds_9 rfl hl (by decide) rfl (fun ls hl => ?_)
    refine lv_iload_n hx hb dX4_areEnds_10 rfl (lv_at hl 2 rfl) ?_
    refine lv_istore_n (lv' := [(3, .int (zi_n p0)), (2, .int (zi_n 0)), (0, .ref x), (1, .int (zi_n p0))]) hx hb dX4_areEnds_11 rfl hl (by decide) rfl (fun ls hl => ?_)
    have key : ∀ (N : Nat) (i : Int) (en : Int), (p0 ≤ i) → (en = 0 ∨ en = 1) → (zh_ei F p0 i en) → (i ≤ 70000) → (p0 < 64 → i = p0) → (i = p0 ∨ i ≤ ln) → 70000 - i < N → ∀ ls : Array Slot, lv_has ls 4 [(3, .int (zi_n i)), (2, .int (zi_n en)), (0, .ref x), (1, .int (zi_n p0))] → W p l e (headSpec wsX4_areEnds ({ frames := 0, cells := 0, slots := 0, locals := 0 })).room s m ([.ref x, .int (zi_n p0)] : List Value).toArray below meth c s.heap [] 0 0 (MQ below (vp_Si (fun r => (r = zi_n 1 ∧ (zh_mE F ln p0)) ∨ (r = zi_n 0 ∧ ¬ (zh_mE F ln p0)))) ([.ref x, .int (zi_n p0)] : List Value).toArray s 0 0 (fun _ => False)) (F0 m 12 ls []) := by
      intro N
      induction N with
      | zero => intro i en h1 h2 h3 h5 h6 h7 hm ls hl; exfalso; omega
      | succ N ih =>
        intro i en h1 h2 h3 h5 h6 h7 hm ls hl
        refine lv_iload_n hx hb dX4_areEnds_12 rfl (lv_at hl 3 rfl) ?_
        refine zr_bipush hx hb dX4_areEnds_13 (by decide) ?_
        refine zr_icmp_lt (tgt := 51) hx hb dX4_areEnds_15 (by decide) (by omega) (by omega) (fun c_2 => ?_) (fun c_2 => ?_)
        · rcases h2 with rfl | rfl
          · refine lv_iload_n hx hb dX4_areEnds_51 rfl (lv_at hl 1 rfl) ?_
            exact W.zret (v := zi_n 0) (ty := .boolean) hx hb hr zl_b0 (fun t ht hW => ⟨_, rfl, zl_f (zh_ei_f h3 (by omega)), ht⟩) (fun q hq => nomatch hq) dX4_areEnds_52
          · refine lv_iload_n hx hb dX4_areEnds_51 rfl (lv_at hl 1 rfl) ?_
            exact W.zret (v := zi_n 1) (ty := .boolean) hx hb hr zl_b1 (fun t ht hW => ⟨_, rfl, zl_t (zh_ei_t h3 h6 h7), ht⟩) (fun q hq => nomatch hq) dX4_areEnds_52
        · refine lv_iload_n hx hb dX4_areEnds_18 rfl (lv_at hl 0 rfl) ?_
          refine lv_aload_n hx hb dX4_areEnds_19 rfl (lv_at hl 2 rfl) ?_
          refine va_get (D := D) (ci := 5) (v := .int (zi_n ln)) (C := RX4) (T := TX4) (N := 9) hx hb hts in_X4_areEnds_X4 hown hK hP 0 rfl rfl 8 (by decide) (hts (.fieldLink RX4 54 "ZHeadsModel" "length" "I") (by decide +kernel)) (fun _ h9 => h9) rfl dX4_areEnds_20 ?_
          refine zr_icmp_ge (tgt := 51) hx hb dX4_areEnds_23 (by decide) (by omega) (by omega) (fun c_3 => ?_) (fun c_3 => ?_)
          · rcases h2 with rfl | rfl
            · refine lv_iload_n hx hb dX4_areEnds_51 rfl (lv_at hl 1 rfl) ?_
              exact W.zret (v := zi_n 0) (ty := .boolean) hx hb hr zl_b0 (fun t ht hW => ⟨_, rfl, zl_f (zh_ei_f h3 (by omega)), ht⟩) (fun q hq => nomatch hq) dX4_areEnds_52
            · refine lv_iload_n hx hb dX4_areEnds_51 rfl (lv_at hl 1 rfl) ?_
              exact W.zret (v := zi_n 1) (ty := .boolean) hx hb hr zl_b1 (fun t ht hW => ⟨_, rfl, zl_t (zh_ei_t h3 h6 h7), ht⟩) (fun q hq => nomatch hq) dX4_areEnds_52
          · refine lv_iload_n hx hb dX4_areEnds_26 rfl (lv_at hl 1 rfl) ?_
            refine zr_if_ne (tgt := 39) hx hb dX4_areEnds_27 (by decide) (by omega) (fun c_4 => ?_) (fun c_4 => ?_)
            · refine zr_iconst hx hb dX4_areEnds_39 ?_
              refine lv_goto (tgt := 44) hx hb dX4_areEnds_40 (by decide) ?_
              refine lv_istore_n (lv' := [(2, .int (zi_n 1)), (3, .int (zi_n i)), (0, .ref x), (1, .int (zi_n p0))]) hx hb dX4_areEnds_44 rfl hl (by decide) rfl (fun ls hl => ?_)
              refine zr_iinc (lv' := [(3, .int (zi_n (i + 1))), (2, .int (zi_n 1)), (0, .ref x), (1, .int (zi_n p0))]) hx hb dX4_areEnds_45 hl (k := 1) rfl (by decide) rfl (fun ls hl => ?_)
              refine lv_goto (tgt := 12) hx hb dX4_areEnds_48 (by decide) ?_
              exact ih (i + 1) 1 (by omega) (by omega) (by first | exact zh_ei_sa h3 (by omega) | exact zh_ei_h (by omega) (by assumption)) (by omega) (by omega) (by omega) (by omega) _ (lv_sub hl [0, 1, 2, 3] rfl)
            · refine lv_aload_n hx hb dX4_areEnds_30 rfl (lv_at hl 2 rfl) ?_
              refine va_get (D := D) (ci := 5) (v := .ref a) (C := RX4) (T := TX4) (N := 9) hx hb hts in_X4_areEnds_X4 hown hK hP 0 rfl rfl 1 (by decide) (hts (.fieldLink RX4 7 "ZHeadsModel" "file" "[I") (by decide +kernel)) (fun _ h9 => h9) rfl dX4_areEnds_31 ?_
              refine lv_iload_n hx hb dX4_areEnds_34 rfl (lv_at hl 0 rfl) ?_
              refine zr_iald hx hb hK hP 1 0 rfl rfl (by decide) (by omega) dX4_areEnds_35 ?_
              have b_5 := hF i.toNat
              refine zr_if_ne (tgt := 43) hx hb dX4_areEnds_36 (by decide) (by omega) (fun c_6 => ?_) (fun c_6 => ?_)
              · refine zr_iconst hx hb dX4_areEnds_43 ?_
                refine lv_istore_n (lv' := [(2, .int (zi_n 0)), (3, .int (zi_n i)), (0, .ref x), (1, .int (zi_n p0))]) hx hb dX4_areEnds_44 rfl hl (by decide) rfl (fun ls hl => ?_)
                refine zr_iinc (lv' := [(3, .int (zi_n (i + 1))), (2, .int (zi_n 0)), (0, .ref x), (1, .int (zi_n p0))]) hx hb dX4_areEnds_45 hl (k := 1) rfl (by decide) rfl (fun ls hl => ?_)
                refine lv_goto (tgt := 12) hx hb dX4_areEnds_48 (by decide) ?_
                exact ih (i + 1) 0 (by omega) (by omega) (zh_ei_sb h3 (by omega) c_6) (by omega) (by omega) (by omega) (by omega) _ (lv_sub hl [0, 1, 2, 3] rfl)
              · refine zr_iconst hx hb dX4_areEnds_39 ?_
                refine lv_goto (tgt := 44) hx hb dX4_areEnds_40 (by decide) ?_
                refine lv_istore_n (lv' := [(2, .int (zi_n 1)), (3, .int (zi_n i)), (0, .ref x), (1, .int (zi_n p0))]) hx hb dX4_areEnds_44 rfl hl (by decide) rfl (fun ls hl => ?_)
                refine zr_iinc (lv' := [(3, .int (zi_n (i + 1))), (2, .int (zi_n 1)), (0, .ref x), (1, .int (zi_n p0))]) hx hb dX4_areEnds_45 hl (k := 1) rfl (by decide) rfl (fun ls hl => ?_)
                refine lv_goto (tgt := 12) hx hb dX4_areEnds_48 (by decide) ?_
                exact ih (i + 1) 1 (by omega) (by omega) (by first | exact zh_ei_sa h3 (by omega) | exact zh_ei_h (by omega) (by assumption)) (by omega) (by omega) (by omega) (by omega) _ (lv_sub hl [0, 1, 2, 3] rfl)
    exact key 70001 p0 0 (by omega) (by omega) (zh_ei_00 (by omega) rfl) (by omega) (by omega) (by omega) (by omega) _ hl
  · refine zr_iconst hx hb dX4_areEnds_4 ?_
    refine lv_goto (tgt := 9) hx hb dX4_areEnds_5 (by decide) ?_
    refine lv_istore_n (lv' := [(2, .int (zi_n 1)), (0, .ref x), (1, .int (zi_n p0))]) hx hb dX4_areEnds_9 rfl hl (by decide) rfl (fun ls hl => ?_)
    refine lv_iload_n hx hb dX4_areEnds_10 rfl (lv_at hl 2 rfl) ?_
    refine lv_istore_n (lv' := [(3, .int (zi_n p0)), (2, .int (zi_n 1)), (0, .ref x), (1, .int (zi_n p0))]) hx hb dX4_areEnds_11 rfl hl (by decide) rfl (fun ls hl => ?_)
    have key : ∀ (N : Nat) (i : Int) (en : Int), (p0 ≤ i) → (en = 0 ∨ en = 1) → (zh_ei F p0 i en) → (i ≤ 70000) → (p0 < 64 → i = p0) → (i = p0 ∨ i ≤ ln) → 70000 - i < N → ∀ ls : Array Slot, lv_has ls 4 [(3, .int (zi_n i)), (2, .int (zi_n en)), (0, .ref x), (1, .int (zi_n p0))] → W p l e (headSpec wsX4_areEnds ({ frames := 0, cells := 0, slots := 0, locals := 0 })).room s m ([.ref x, .int (zi_n p0)] : List Value).toArray below meth c s.heap [] 0 0 (MQ below (vp_Si (fun r => (r = zi_n 1 ∧ (zh_mE F ln p0)) ∨ (r = zi_n 0 ∧ ¬ (zh_mE F ln p0)))) ([.ref x, .int (zi_n p0)] : List Value).toArray s 0 0 (fun _ => False)) (F0 m 12 ls []) := by
      intro N
      induction N with
      | zero => intro i en h1 h2 h3 h5 h6 h7 hm ls hl; exfalso; omega
      | succ N ih =>
        intro i en h1 h2 h3 h5 h6 h7 hm ls hl
        refine lv_iload_n hx hb dX4_areEnds_12 rfl (lv_at hl 3 rfl) ?_
        refine zr_bipush hx hb dX4_areEnds_13 (by decide) ?_
        refine zr_icmp_lt (tgt := 51) hx hb dX4_areEnds_15 (by decide) (by omega) (by omega) (fun c_7 => ?_) (fun c_7 => ?_)
        · rcases h2 with rfl | rfl
          · refine lv_iload_n hx hb dX4_areEnds_51 rfl (lv_at hl 1 rfl) ?_
            exact W.zret (v := zi_n 0) (ty := .boolean) hx hb hr zl_b0 (fun t ht hW => ⟨_, rfl, zl_f (zh_ei_f h3 (by omega)), ht⟩) (fun q hq => nomatch hq) dX4_areEnds_52
          · refine lv_iload_n hx hb dX4_areEnds_51 rfl (lv_at hl 1 rfl) ?_
            exact W.zret (v := zi_n 1) (ty := .boolean) hx hb hr zl_b1 (fun t ht hW => ⟨_, rfl, zl_t (zh_ei_t h3 h6 h7), ht⟩) (fun q hq => nomatch hq) dX4_areEnds_52
        · refine lv_iload_n hx hb dX4_areEnds_18 rfl (lv_at hl 0 rfl) ?_
          refine lv_aload_n hx hb dX4_areEnds_19 rfl (lv_at hl 2 rfl) ?_
          refine va_get (D := D) (ci := 5) (v := .int (zi_n ln)) (C := RX4) (T := TX4) (N := 9) hx hb hts in_X4_areEnds_X4 hown hK hP 0 rfl rfl 8 (by decide) (hts (.fieldLink RX4 54 "ZHeadsModel" "length" "I") (by decide +kernel)) (fun _ h9 => h9) rfl dX4_areEnds_20 ?_
          refine zr_icmp_ge (tgt := 51) hx hb dX4_areEnds_23 (by decide) (by omega) (by omega) (fun c_8 => ?_) (fun c_8 => ?_)
          · rcases h2 with rfl | rfl
            · refine lv_iload_n hx hb dX4_areEnds_51 rfl (lv_at hl 1 rfl) ?_
              exact W.zret (v := zi_n 0) (ty := .boolean) hx hb hr zl_b0 (fun t ht hW => ⟨_, rfl, zl_f (zh_ei_f h3 (by omega)), ht⟩) (fun q hq => nomatch hq) dX4_areEnds_52
            · refine lv_iload_n hx hb dX4_areEnds_51 rfl (lv_at hl 1 rfl) ?_
              exact W.zret (v := zi_n 1) (ty := .boolean) hx hb hr zl_b1 (fun t ht hW => ⟨_, rfl, zl_t (zh_ei_t h3 h6 h7), ht⟩) (fun q hq => nomatch hq) dX4_areEnds_52
          · refine lv_iload_n hx hb dX4_areEnds_26 rfl (lv_at hl 1 rfl) ?_
            refine zr_if_ne (tgt := 39) hx hb dX4_areEnds_27 (by decide) (by omega) (fun c_9 => ?_) (fun c_9 => ?_)
            · refine zr_iconst hx hb dX4_areEnds_39 ?_
              refine lv_goto (tgt := 44) hx hb dX4_areEnds_40 (by decide) ?_
              refine lv_istore_n (lv' := [(2, .int (zi_n 1)), (3, .int (zi_n i)), (0, .ref x), (1, .int (zi_n p0))]) hx hb dX4_areEnds_44 rfl hl (by decide) rfl (fun ls hl => ?_)
              refine zr_iinc (lv' := [(3, .int (zi_n (i + 1))), (2, .int (zi_n 1)), (0, .ref x), (1, .int (zi_n p0))]) hx hb dX4_areEnds_45 hl (k := 1) rfl (by decide) rfl (fun ls hl => ?_)
              refine lv_goto (tgt := 12) hx hb dX4_areEnds_48 (by decide) ?_
              exact ih (i + 1) 1 (by omega) (by omega) (by first | exact zh_ei_sa h3 (by omega) | exact zh_ei_h (by omega) (by assumption)) (by omega) (by omega) (by omega) (by omega) _ (lv_sub hl [0, 1, 2, 3] rfl)
            · refine lv_aload_n hx hb dX4_areEnds_30 rfl (lv_at hl 2 rfl) ?_
              refine va_get (D := D) (ci := 5) (v := .ref a) (C := RX4) (T := TX4) (N := 9) hx hb hts in_X4_areEnds_X4 hown hK hP 0 rfl rfl 1 (by decide) (hts (.fieldLink RX4 7 "ZHeadsModel" "file" "[I") (by decide +kernel)) (fun _ h9 => h9) rfl dX4_areEnds_31 ?_
              refine lv_iload_n hx hb dX4_areEnds_34 rfl (lv_at hl 0 rfl) ?_
              refine zr_iald hx hb hK hP 1 0 rfl rfl (by decide) (by omega) dX4_areEnds_35 ?_
              have b_10 := hF i.toNat
              refine zr_if_ne (tgt := 43) hx hb dX4_areEnds_36 (by decide) (by omega) (fun c_11 => ?_) (fun c_11 => ?_)
              · refine zr_iconst hx hb dX4_areEnds_43 ?_
                refine lv_istore_n (lv' := [(2, .int (zi_n 0)), (3, .int (zi_n i)), (0, .ref x), (1, .int (zi_n p0))]) hx hb dX4_areEnds_44 rfl hl (by decide) rfl (fun ls hl => ?_)
                refine zr_iinc (lv' := [(3, .int (zi_n (i + 1))), (2, .int (zi_n 0)), (0, .ref x), (1, .int (zi_n p0))]) hx hb dX4_areEnds_45 hl (k := 1) rfl (by decide) rfl (fun ls hl => ?_)
                refine lv_goto (tgt := 12) hx hb dX4_areEnds_48 (by decide) ?_
                exact ih (i + 1) 0 (by omega) (by omega) (zh_ei_sb h3 (by omega) c_11) (by omega) (by omega) (by omega) (by omega) _ (lv_sub hl [0, 1, 2, 3] rfl)
              · refine zr_iconst hx hb dX4_areEnds_39 ?_
                refine lv_goto (tgt := 44) hx hb dX4_areEnds_40 (by decide) ?_
                refine lv_istore_n (lv' := [(2, .int (zi_n 1)), (3, .int (zi_n i)), (0, .ref x), (1, .int (zi_n p0))]) hx hb dX4_areEnds_44 rfl hl (by decide) rfl (fun ls hl => ?_)
                refine zr_iinc (lv' := [(3, .int (zi_n (i + 1))), (2, .int (zi_n 1)), (0, .ref x), (1, .int (zi_n p0))]) hx hb dX4_areEnds_45 hl (k := 1) rfl (by decide) rfl (fun ls hl => ?_)
                refine lv_goto (tgt := 12) hx hb dX4_areEnds_48 (by decide) ?_
                exact ih (i + 1) 1 (by omega) (by omega) (by first | exact zh_ei_sa h3 (by omega) | exact zh_ei_h (by omega) (by assumption)) (by omega) (by omega) (by omega) (by omega) _ (lv_sub hl [0, 1, 2, 3] rfl)
    exact key 70001 p0 1 (by omega) (by omega) (zh_ei_10 (by omega)) (by omega) (by omega) (by omega) (by omega) _ hl

theorem in_X4_brokenAt_X4 : ∀ w ∈ u_ws RX4 TX4 9, w ∈ wsX4_brokenAt := by decide +kernel
set_option maxHeartbeats 4000000 in
set_option maxRecDepth 100000 in
theorem c_M_brokenAt (l : Launch) (D : va_G) (x a a2 a3 : Nat) (cA cB cC : ClassId) (F P G : Nat → Int) (n rd br v ln ft : Int) (hF : zi_By F) (hn : 0 ≤ n ∧ n ≤ 600) (hP0 : zi_By P) (hG : zi_By G) (hrd : rd = 0 ∨ rd = 1) (hbr : 0 ≤ br ∧ br ≤ 15) (hv0 : 0 ≤ v ∧ v ≤ 255) (hln : 0 ≤ ln ∧ ln ≤ 524280) (hft : 0 ≤ ft ∧ ft ≤ 1) (sz : Nat) (p0 : Int) (p1 : Int) (hp : 0 ≤ p0 ∧ p0 ≤ 15) (hq : 0 ≤ p1 ∧ p1 ≤ 70000) : Met l yX4_brokenAt wsX4_brokenAt ({ frames := 0, cells := 0, slots := 0, locals := 0 }) (va_Pc [.ref x, .int (zi_n p0), .int (zi_n p1)] (zp_P D vwCl sz [(x, .inr (5, [.int (zi_n ft), .ref a, .int (zi_n n), .int (zi_n rd), .int (zi_n br), .ref a2, .ref a3, .int (zi_n v), .int (zi_n ln)])), (a, .inl (cA, 600, .inl (zi_F F))), (a2, .inl (cB, 600, .inl (zi_F P))), (a3, .inl (cC, 600, .inl (zi_F G)))] [(cA, .int), (cB, .int), (cC, .int)])) (va_Qi (fun (r : Int32) (_ : Unit) => r = zi_n (-20 - p1) ∧ -70020 ≤ (-20 - p1) ∧ (-20 - p1) ≤ -20) (fun (_ : Unit) => zp_B D vwCl [(cA, .int), (cB, .int), (cC, .int)] (va_A [(x, .inr (5, [.int (zi_n ft), .ref a, .int (zi_n n), .int (zi_n rd), .int (zi_n br), .ref a2, .ref a3, .int (zi_n v), .int (zi_n ln)])), (a, .inl (cA, 600, .inl (zi_F F))), (a2, .inl (cB, 600, .inl (zi_F P))), (a3, .inl (cC, 600, .inl (zi_F G)))] sz) [(x, .inr (5, [.int (zi_n ft), .ref a, .int (zi_n n), .int (zi_n rd), .int (zi_n p0), .ref a2, .ref a3, .int (zi_n v), .int (zi_n ln)])), (a, .inl (cA, 600, .inl (zi_F F))), (a2, .inl (cB, 600, .inl (zi_F P))), (a3, .inl (cC, 600, .inl (zi_F G)))]) (va_A [(x, .inr (5, [.int (zi_n ft), .ref a, .int (zi_n n), .int (zi_n rd), .int (zi_n br), .ref a2, .ref a3, .int (zi_n v), .int (zi_n ln)])), (a, .inl (cA, 600, .inl (zi_F F))), (a2, .inl (cB, 600, .inl (zi_F P))), (a3, .inl (cC, 600, .inl (zi_F G)))] sz)) 0 0 (va_A [(x, .inr (5, [.int (zi_n ft), .ref a, .int (zi_n n), .int (zi_n rd), .int (zi_n br), .ref a2, .ref a3, .int (zi_n v), .int (zi_n ln)])), (a, .inl (cA, 600, .inl (zi_F F))), (a2, .inl (cB, 600, .inl (zi_F P))), (a3, .inl (cC, 600, .inl (zi_F G)))] sz) := by
  refine Met.ofW (cc := cX4_brokenAt) (maxL := 3) (ret := (some .int)) (by decide) rfl ?_
  intro p e s m args below meth c s₁ B hml hv
  obtain ⟨rfl, hsz, hP, hK, hD0⟩ := hv
  have hx := B.exec
  have hb := B.bytes
  have hr := B.returns
  have hts := atoms_spec (ws := wsX4_brokenAt) B.pre
  have hown : s.vm.findClass RX4 = some m.cls := findClass_of_methodNamed B.named
  have hlocks := B.notSynchronized
  subst hsz
  have hD := hD0.self (sz := s.heap.size)
  generalize hAe : va_A [(x, .inr (5, [.int (zi_n ft), .ref a, .int (zi_n n), .int (zi_n rd), .int (zi_n br), .ref a2, .ref a3, .int (zi_n v), .int (zi_n ln)])), (a, .inl (cA, 600, .inl (zi_F F))), (a2, .inl (cB, 600, .inl (zi_F P))), (a3, .inl (cC, 600, .inl (zi_F G)))] s.heap.size = A at hD ⊢
  have hA : ∀ q : Nat, s.heap.size ≤ q → A q := fun q h => by rw [← hAe]; exact Or.inr h
  have hS : va_S A s.heap s.heap [] := va_S.rf
  have hP : va_P D vwCl [(x, .inr (5, [.int (zi_n ft), .ref a, .int (zi_n n), .int (zi_n rd), .int (zi_n br), .ref a2, .ref a3, .int (zi_n v), .int (zi_n ln)])), (a, .inl (cA, 600, .inl (zi_F F))), (a2, .inl (cB, 600, .inl (zi_F P))), (a3, .inl (cC, 600, .inl (zi_F G)))] s.heap := hP
  have hl := lv_entry ([.ref x, .int (zi_n p0), .int (zi_n p1)]) (n := 3) (Nat.le_of_ble_eq_true rfl)
  rw [lg_entry_eq]
  generalize (lg_sl ([.ref x, .int (zi_n p0), .int (zi_n p1)]) ++ List.replicate (3 - (lg_sl ([.ref x, .int (zi_n p0), .int (zi_n p1)])).length) Slot.unset).toArray = ls at hl ⊢
  have hl : lv_has ls 3 [(0, .ref x), (1, .int (zi_n p0)), (2, .int (zi_n p1))] := hl
  refine lv_aload_n hx hb dX4_brokenAt_0 rfl (lv_at hl 0 rfl) ?_
  refine lv_iload_n hx hb dX4_brokenAt_1 rfl (lv_at hl 1 rfl) ?_
  refine va_put (D := D) (ci := 5) (v := .int (zi_n p0)) (ty := .int) (C := RX4) (T := TX4) (N := 9) hx hb hts in_X4_brokenAt_X4 tyX4 tyX4_ok nmX4 hown hK hP hD hS 0 rfl rfl 4 (by decide) (hts (.fieldLink RX4 40 "ZHeadsModel" "broken" "I") (by decide +kernel)) (fun _ h9 => h9) rfl (by decide +kernel) rfl rfl (Nat.le_of_ble_eq_true rfl) dX4_brokenAt_2 (fun H locs hP hD hS => ?_)
  have hP : va_P D vwCl [(x, .inr (5, [.int (zi_n ft), .ref a, .int (zi_n n), .int (zi_n rd), .int (zi_n p0), .ref a2, .ref a3, .int (zi_n v), .int (zi_n ln)])), (a, .inl (cA, 600, .inl (zi_F F))), (a2, .inl (cB, 600, .inl (zi_F P))), (a3, .inl (cC, 600, .inl (zi_F G)))] H := hP
  have hD : va_D A [(x, .inr (5, [.int (zi_n ft), .ref a, .int (zi_n n), .int (zi_n rd), .int (zi_n p0), .ref a2, .ref a3, .int (zi_n v), .int (zi_n ln)])), (a, .inl (cA, 600, .inl (zi_F F))), (a2, .inl (cB, 600, .inl (zi_F P))), (a3, .inl (cC, 600, .inl (zi_F G)))] := hD
  refine zr_bipush hx hb dX4_brokenAt_5 (by decide) ?_
  refine lv_iload_n hx hb dX4_brokenAt_7 rfl (lv_at hl 2 rfl) ?_
  refine zr_isub hx hb dX4_brokenAt_8 ?_
  have hP9 : va_P D vwCl [(x, .inr (5, [.int (zi_n ft), .ref a, .int (zi_n n), .int (zi_n rd), .int (zi_n p0), .ref a2, .ref a3, .int (zi_n v), .int (zi_n ln)])), (a, .inl (cA, 600, .inl (zi_F F))), (a2, .inl (cB, 600, .inl (zi_F P))), (a3, .inl (cC, 600, .inl (zi_F G)))] H := hP
  have hD9 : va_D A [(x, .inr (5, [.int (zi_n ft), .ref a, .int (zi_n n), .int (zi_n rd), .int (zi_n p0), .ref a2, .ref a3, .int (zi_n v), .int (zi_n ln)])), (a, .inl (cA, 600, .inl (zi_F F))), (a2, .inl (cB, 600, .inl (zi_F P))), (a3, .inl (cC, 600, .inl (zi_F G)))] := hD
  exact W.iret (v := zi_n ((-20) - p1)) hx hb hr (fun t ht hW => ⟨⟨zi_n ((-20) - p1), (), rfl, zl_r (by omega) (by omega), by rw [ht]; exact hP9, va_K.moved hW.alike hK, hD9⟩, hS.F ht⟩) hS.2.2 dX4_brokenAt_9

theorem in_X4_thrownAt_X4 : ∀ w ∈ u_ws RX4 TX4 9, w ∈ wsX4_thrownAt := by decide +kernel
set_option maxHeartbeats 4000000 in
set_option maxRecDepth 100000 in
theorem c_M_thrownAt (l : Launch) (D : va_G) (x a a2 a3 : Nat) (cA cB cC : ClassId) (F P G : Nat → Int) (n rd br v ln ft : Int) (hF : zi_By F) (hn : 0 ≤ n ∧ n ≤ 600) (hP0 : zi_By P) (hG : zi_By G) (hrd : rd = 0 ∨ rd = 1) (hbr : 0 ≤ br ∧ br ≤ 15) (hv0 : 0 ≤ v ∧ v ≤ 255) (hln : 0 ≤ ln ∧ ln ≤ 524280) (hft : 0 ≤ ft ∧ ft ≤ 1) (sz : Nat) : Met l yX4_thrownAt wsX4_thrownAt ({ frames := 0, cells := 0, slots := 0, locals := 0 }) (va_Pc [.ref x] (zp_P D vwCl sz [(x, .inr (5, [.int (zi_n ft), .ref a, .int (zi_n n), .int (zi_n rd), .int (zi_n br), .ref a2, .ref a3, .int (zi_n v), .int (zi_n ln)])), (a, .inl (cA, 600, .inl (zi_F F))), (a2, .inl (cB, 600, .inl (zi_F P))), (a3, .inl (cC, 600, .inl (zi_F G)))] [(cA, .int), (cB, .int), (cC, .int)])) (va_Qi (fun (r : Int32) (_ : Unit) => r = zi_n 0 ∧ 0 ≤ 0 ∧ 0 ≤ 0) (fun (_ : Unit) => zp_B D vwCl [(cA, .int), (cB, .int), (cC, .int)] (va_A [(x, .inr (5, [.int (zi_n ft), .ref a, .int (zi_n n), .int (zi_n rd), .int (zi_n br), .ref a2, .ref a3, .int (zi_n v), .int (zi_n ln)])), (a, .inl (cA, 600, .inl (zi_F F))), (a2, .inl (cB, 600, .inl (zi_F P))), (a3, .inl (cC, 600, .inl (zi_F G)))] sz) [(x, .inr (5, [.int (zi_n 1), .ref a, .int (zi_n n), .int (zi_n rd), .int (zi_n br), .ref a2, .ref a3, .int (zi_n v), .int (zi_n ln)])), (a, .inl (cA, 600, .inl (zi_F F))), (a2, .inl (cB, 600, .inl (zi_F P))), (a3, .inl (cC, 600, .inl (zi_F G)))]) (va_A [(x, .inr (5, [.int (zi_n ft), .ref a, .int (zi_n n), .int (zi_n rd), .int (zi_n br), .ref a2, .ref a3, .int (zi_n v), .int (zi_n ln)])), (a, .inl (cA, 600, .inl (zi_F F))), (a2, .inl (cB, 600, .inl (zi_F P))), (a3, .inl (cC, 600, .inl (zi_F G)))] sz)) 0 0 (va_A [(x, .inr (5, [.int (zi_n ft), .ref a, .int (zi_n n), .int (zi_n rd), .int (zi_n br), .ref a2, .ref a3, .int (zi_n v), .int (zi_n ln)])), (a, .inl (cA, 600, .inl (zi_F F))), (a2, .inl (cB, 600, .inl (zi_F P))), (a3, .inl (cC, 600, .inl (zi_F G)))] sz) := by
  refine Met.ofW (cc := cX4_thrownAt) (maxL := 1) (ret := (some .int)) (by decide) rfl ?_
  intro p e s m args below meth c s₁ B hml hv
  obtain ⟨rfl, hsz, hP, hK, hD0⟩ := hv
  have hx := B.exec
  have hb := B.bytes
  have hr := B.returns
  have hts := atoms_spec (ws := wsX4_thrownAt) B.pre
  have hown : s.vm.findClass RX4 = some m.cls := findClass_of_methodNamed B.named
  have hlocks := B.notSynchronized
  subst hsz
  have hD := hD0.self (sz := s.heap.size)
  generalize hAe : va_A [(x, .inr (5, [.int (zi_n ft), .ref a, .int (zi_n n), .int (zi_n rd), .int (zi_n br), .ref a2, .ref a3, .int (zi_n v), .int (zi_n ln)])), (a, .inl (cA, 600, .inl (zi_F F))), (a2, .inl (cB, 600, .inl (zi_F P))), (a3, .inl (cC, 600, .inl (zi_F G)))] s.heap.size = A at hD ⊢
  have hA : ∀ q : Nat, s.heap.size ≤ q → A q := fun q h => by rw [← hAe]; exact Or.inr h
  have hS : va_S A s.heap s.heap [] := va_S.rf
  have hP : va_P D vwCl [(x, .inr (5, [.int (zi_n ft), .ref a, .int (zi_n n), .int (zi_n rd), .int (zi_n br), .ref a2, .ref a3, .int (zi_n v), .int (zi_n ln)])), (a, .inl (cA, 600, .inl (zi_F F))), (a2, .inl (cB, 600, .inl (zi_F P))), (a3, .inl (cC, 600, .inl (zi_F G)))] s.heap := hP
  have hl := lv_entry ([.ref x]) (n := 1) (Nat.le_of_ble_eq_true rfl)
  rw [lg_entry_eq]
  generalize (lg_sl ([.ref x]) ++ List.replicate (1 - (lg_sl ([.ref x])).length) Slot.unset).toArray = ls at hl ⊢
  have hl : lv_has ls 1 [(0, .ref x)] := hl
  refine lv_aload_n hx hb dX4_thrownAt_0 rfl (lv_at hl 0 rfl) ?_
  refine zr_iconst hx hb dX4_thrownAt_1 ?_
  refine va_put (D := D) (ci := 5) (v := .int (zi_n 1)) (ty := .int) (C := RX4) (T := TX4) (N := 9) hx hb hts in_X4_thrownAt_X4 tyX4 tyX4_ok nmX4 hown hK hP hD hS 0 rfl rfl 0 (by decide) (hts (.fieldLink RX4 19 "ZHeadsModel" "fault" "I") (by decide +kernel)) (fun _ h9 => h9) rfl (by decide +kernel) rfl rfl (Nat.le_of_ble_eq_true rfl) dX4_thrownAt_2 (fun H locs hP hD hS => ?_)
  have hP : va_P D vwCl [(x, .inr (5, [.int (zi_n 1), .ref a, .int (zi_n n), .int (zi_n rd), .int (zi_n br), .ref a2, .ref a3, .int (zi_n v), .int (zi_n ln)])), (a, .inl (cA, 600, .inl (zi_F F))), (a2, .inl (cB, 600, .inl (zi_F P))), (a3, .inl (cC, 600, .inl (zi_F G)))] H := hP
  have hD : va_D A [(x, .inr (5, [.int (zi_n 1), .ref a, .int (zi_n n), .int (zi_n rd), .int (zi_n br), .ref a2, .ref a3, .int (zi_n v), .int (zi_n ln)])), (a, .inl (cA, 600, .inl (zi_F F))), (a2, .inl (cB, 600, .inl (zi_F P))), (a3, .inl (cC, 600, .inl (zi_F G)))] := hD
  refine zr_iconst hx hb dX4_thrownAt_5 ?_
  have hP9 : va_P D vwCl [(x, .inr (5, [.int (zi_n 1), .ref a, .int (zi_n n), .int (zi_n rd), .int (zi_n br), .ref a2, .ref a3, .int (zi_n v), .int (zi_n ln)])), (a, .inl (cA, 600, .inl (zi_F F))), (a2, .inl (cB, 600, .inl (zi_F P))), (a3, .inl (cC, 600, .inl (zi_F G)))] H := hP
  have hD9 : va_D A [(x, .inr (5, [.int (zi_n 1), .ref a, .int (zi_n n), .int (zi_n rd), .int (zi_n br), .ref a2, .ref a3, .int (zi_n v), .int (zi_n ln)])), (a, .inl (cA, 600, .inl (zi_F F))), (a2, .inl (cB, 600, .inl (zi_F P))), (a3, .inl (cC, 600, .inl (zi_F G)))] := hD
  exact W.iret (v := zi_n 0) hx hb hr (fun t ht hW => ⟨⟨zi_n 0, (), rfl, ⟨rfl, by omega⟩, by rw [ht]; exact hP9, va_K.moved hW.alike hK, hD9⟩, hS.F ht⟩) hS.2.2 dX4_thrownAt_6
