set_option maxHeartbeats 4000000 in
set_option maxRecDepth 100000 in
theorem law_loop {p : Program} {l : Launch} {e : Env} {s : State} {m : MethodId} {below : List Frame} {meth : Method} {c : Code} {D : va_G} {b L : Nat} {xs : Nat → Int32} {x q q2 hh a a2 y b1 b2 b3 o : Nat} {cA cB cC cD cE cO : ClassId} (htr : l.stackTraces = false) (hL : L ≤ 2560) (C0 : lw_At p s m meth c b L xs) {A : Nat → Prop} (hA : ∀ q : Nat, s.heap.size ≤ q → A q) (hA2 : ∀ q : Nat, A q → s.heap.size ≤ q) (hbA : ¬ A b) (hcaA : zn_P zn_A s) (hcaR : zn_P zn_R s) {sa8 : Nat} (hs8 : vk_R RX3 88 "the serial has bytes 0 to 5" sa8 s) {sa9 : Nat} (hs9 : vk_R RX3 93 "there are globals 0 to 239" sa9 s) {sa10 : Nat} (hs10 : vk_R RX3 101 "the place is not there" sa10 s) {sa13 : Nat} (hs13 : vk_R RX3 113 "the packed place is not there" sa13 s) {sa20 : Nat} (hs20 : vk_R RX3 154 "there is no such sign" sa20 s) {sa21 : Nat} (hs21 : vk_R RX3 167 "there are 0 entries" sa21 s) (hZU : vx_Zq Bundle.tN "UNASSIGNED_STACK" Bundle.steD A s s.heap) (hZN : vx_Zq Bundle.tN "SUPPRESSED_SENTINEL" Bundle.listD A s s.heap) (hK : va_K D vwCl [(cA, .int), (cB, .int), (cC, .int), (cD, .int), (cE, .int), (cO, .long)] s) :
    ∀ (N : Nat) (i : Int), 0 ≤ i → i ≤ (L : Int) + 5 → (L : Int) + 5 - i < N → ∀ (F G P G2 : Nat → Int) (n k rd br v ln ft : Int) (f : Nat → Int64), zI F G P G2 n k rd br v ln ft → ∀ (H : Heap) (locs : List Loc) (cells slots : Nat), (cells : Int) ≤ 20 + i → (slots : Int) ≤ 5000 + 6 * i → va_P D vwCl [(x, .inr (4, [.ref q, .ref q2, .ref hh, .int (zi_n rd), .int (zi_n br)])), (q, .inr (3, [.ref a, .int (zi_n n)])), (q2, .inr (3, [.ref a2, .int (zi_n k)])), (hh, .inr (2, [.ref q])), (a, .inl (cA, 600, .inl (zi_F F))), (a2, .inl (cB, 600, .inl (zi_F G))), (y, .inr (5, [.int (zi_n ft), .ref b1, .int (zi_n n), .int (zi_n rd), .int (zi_n br), .ref b2, .ref b3, .int (zi_n v), .int (zi_n ln)])), (b1, .inl (cC, 600, .inl (zi_F F))), (b2, .inl (cD, 600, .inl (zi_F P))), (b3, .inl (cE, 600, .inl (zi_F G2))), (o, .inl (cO, 1, .inr (.inl f)))] H → va_D A [(x, .inr (4, [.ref q, .ref q2, .ref hh, .int (zi_n rd), .int (zi_n br)])), (q, .inr (3, [.ref a, .int (zi_n n)])), (q2, .inr (3, [.ref a2, .int (zi_n k)])), (hh, .inr (2, [.ref q])), (a, .inl (cA, 600, .inl (zi_F F))), (a2, .inl (cB, 600, .inl (zi_F G))), (y, .inr (5, [.int (zi_n ft), .ref b1, .int (zi_n n), .int (zi_n rd), .int (zi_n br), .ref b2, .ref b3, .int (zi_n v), .int (zi_n ln)])), (b1, .inl (cC, 600, .inl (zi_F F))), (b2, .inl (cD, 600, .inl (zi_F P))), (b3, .inl (cE, 600, .inl (zi_F G2))), (o, .inl (cO, 1, .inr (.inl f)))] → va_S A s.heap H locs → ∀ ls : Array Slot, lv_has ls 7 [(0, .ref b), (1, .ref x), (2, .ref y), (3, .ref o), (4, .int (zi_n i))] → W p l e room_1 s m #[Value.ref b] below meth c H locs cells slots (lw_Z below #[Value.ref b] s) (F0 m 23 ls []) := by
  obtain ⟨hx, hb0, hr, hml, hown, hts0, hX, hbl, hlocks, hgv⟩ := id C0
  have hb : c.code = cL_law := hb0
  intro N
  induction N with
  | zero => intro i h0 h1 h2; exfalso; omega
  | succ N ih =>
    intro i h0 h1 h2 F G P G2 n k rd br v ln ft f hI H locs cells slots hc1 hc2 hP hD hS ls hl
    have hnext : i + 5 ≤ (L : Int) → (∀ (F G P G2 : Nat → Int) (n k rd br v ln ft : Int) (f : Nat → Int64), zI F G P G2 n k rd br v ln ft → ∀ (H : Heap) (locs : List Loc) (c9 s9 : Nat), c9 ≤ cells + 1 → s9 ≤ slots + 6 → va_P D vwCl [(x, .inr (4, [.ref q, .ref q2, .ref hh, .int (zi_n rd), .int (zi_n br)])), (q, .inr (3, [.ref a, .int (zi_n n)])), (q2, .inr (3, [.ref a2, .int (zi_n k)])), (hh, .inr (2, [.ref q])), (a, .inl (cA, 600, .inl (zi_F F))), (a2, .inl (cB, 600, .inl (zi_F G))), (y, .inr (5, [.int (zi_n ft), .ref b1, .int (zi_n n), .int (zi_n rd), .int (zi_n br), .ref b2, .ref b3, .int (zi_n v), .int (zi_n ln)])), (b1, .inl (cC, 600, .inl (zi_F F))), (b2, .inl (cD, 600, .inl (zi_F P))), (b3, .inl (cE, 600, .inl (zi_F G2))), (o, .inl (cO, 1, .inr (.inl f)))] H → va_D A [(x, .inr (4, [.ref q, .ref q2, .ref hh, .int (zi_n rd), .int (zi_n br)])), (q, .inr (3, [.ref a, .int (zi_n n)])), (q2, .inr (3, [.ref a2, .int (zi_n k)])), (hh, .inr (2, [.ref q])), (a, .inl (cA, 600, .inl (zi_F F))), (a2, .inl (cB, 600, .inl (zi_F G))), (y, .inr (5, [.int (zi_n ft), .ref b1, .int (zi_n n), .int (zi_n rd), .int (zi_n br), .ref b2, .ref b3, .int (zi_n v), .int (zi_n ln)])), (b1, .inl (cC, 600, .inl (zi_F F))), (b2, .inl (cD, 600, .inl (zi_F P))), (b3, .inl (cE, 600, .inl (zi_F G2))), (o, .inl (cO, 1, .inr (.inl f)))] → va_S A s.heap H locs → ∀ ls : Array Slot, lv_has ls 7 [(0, .ref b), (1, .ref x), (2, .ref y), (3, .ref o), (4, .int (zi_n i))] → W p l e room_1 s m #[Value.ref b] below meth c H locs c9 s9 (lw_Z below #[Value.ref b] s) (F0 m 1065 ls [])) := by
      intro hq F G P G2 n k rd br v ln ft f hI H locs c9 s9 k1 k2 hP hD hS ls hl
      skip
      refine zr_iinc (lv' := [(4, .int (zi_n (i + 5))), (0, .ref b), (1, .ref x), (2, .ref y), (3, .ref o)]) hx hb dL_law_1065 hl (k := 4) rfl (by decide) rfl (fun ls hl => ?_)
      refine lv_goto (tgt := 23) hx hb dL_law_1068 (by decide) ?_
      exact ih (i + 5) (by omega) (by omega) (by omega) F G P G2 n k rd br v ln ft f hI H locs c9 s9 (by omega) (by omega) hP hD hS _ (lv_sub hl [1, 2, 3, 4, 0] rfl)
    refine lv_iload hx hb dL_law_23 (lv_at hl 4 rfl) ?_
    refine lv_aload_n hx hb dL_law_25 rfl (lv_at hl 0 rfl) ?_
    refine zr_slen hx hb hX hbl hbA hS dL_law_26 ?_
    refine zr_iconst hx hb dL_law_27 ?_
    refine zr_isub hx hb dL_law_28 ?_
    refine zr_icmp_gt (tgt := 1071) hx hb dL_law_29 (by decide) (by omega) (by omega) (fun c1 => ?_) (fun c1 => ?_)
    · refine lv_iconst (v := 1) hx hb dL_law_1071 (by decide) ?_
      refine va_forget (fun q hq => hA2 _ (hS.2.2 q hq)) ?_
      refine W.widen (k := 3089) (n := 121840) (by omega) (by omega) ?_
      exact lw_ret hx hb0 hr hlocks dL_law_1072
    · have hi5 : i + 5 ≤ (L : Int) := by omega
      have hnx := hnext hi5
      refine lv_aload_n hx hb dL_law_32 rfl (lv_at hl 0 rfl) ?_
      refine lv_iload hx hb dL_law_33 (lv_at hl 4 rfl) ?_
      refine zr_sld hx hb hX hbl hbA hS (i := i) (by omega) (by omega) dL_law_35 ?_
      have hxb := zx_b xs i
      refine zr_bipush hx hb dL_law_36 (by decide) ?_
      refine zr_iand31 hx hb dL_law_38 (by omega) ?_
      obtain ⟨w, hw⟩ : ∃ w : Int, w = zx xs i % 32 := ⟨_, rfl⟩
      rw [← hw]
      have hwb : 0 ≤ w ∧ w ≤ 31 := by omega
      clear hw hxb
      rcases (show w = 0 ∨ w = 1 ∨ w = 2 ∨ w = 3 ∨ w = 4 ∨ w = 5 ∨ w = 6 ∨ w = 7 ∨ w = 8 ∨ w = 9 ∨ w = 10 ∨ w = 11 ∨ w = 12 ∨ w = 13 ∨ w = 14 ∨ w = 15 ∨ w = 16 ∨ w = 17 ∨ w = 18 ∨ w = 19 ∨ w = 20 ∨ w = 21 ∨ w = 22 ∨ 23 ≤ w by omega) with rfl | rfl | rfl | rfl | rfl | rfl | rfl | rfl | rfl | rfl | rfl | rfl | rfl | rfl | rfl | rfl | rfl | rfl | rfl | rfl | rfl | rfl | rfl | hc
      · refine zr_tabIn (tgt := 144) hx hb dL_law_39 (by decide) (by decide) (by decide) rfl (by decide) ?_
        exact lc_0 hL C0 hA hbA hI ⟨h0, hi5⟩ ⟨by omega, by omega⟩ hK hP hD hS hl hnx
      · refine zr_tabIn (tgt := 169) hx hb dL_law_39 (by decide) (by decide) (by decide) rfl (by decide) ?_
        exact lc_1 hL C0 hA hbA hI ⟨h0, hi5⟩ ⟨by omega, by omega⟩ hK hP hD hS hl hnx
      · refine zr_tabIn (tgt := 238) hx hb dL_law_39 (by decide) (by decide) (by decide) rfl (by decide) ?_
        exact lc_2 hL C0 hA hbA hI ⟨h0, hi5⟩ ⟨by omega, by omega⟩ hK hP hD hS hl hnx
      · refine zr_tabIn (tgt := 275) hx hb dL_law_39 (by decide) (by decide) (by decide) rfl (by decide) ?_
        exact lc_3 hL C0 hA hbA hI ⟨h0, hi5⟩ ⟨by omega, by omega⟩ hK hP hD hS hl hnx
      · refine zr_tabIn (tgt := 312) hx hb dL_law_39 (by decide) (by decide) (by decide) rfl (by decide) ?_
        exact lc_4 hL C0 hA hbA hI ⟨h0, hi5⟩ ⟨by omega, by omega⟩ hK hP hD hS hl hnx
      · refine zr_tabIn (tgt := 325) hx hb dL_law_39 (by decide) (by decide) (by decide) rfl (by decide) ?_
        exact lc_5 hL C0 hA hbA hI ⟨h0, hi5⟩ ⟨by omega, by omega⟩ hK hP hD hS hl hnx
      · refine zr_tabIn (tgt := 338) hx hb dL_law_39 (by decide) (by decide) (by decide) rfl (by decide) ?_
        exact lc_6 hL C0 hA hbA hI ⟨h0, hi5⟩ ⟨by omega, by omega⟩ hK hP hD hS hl hnx
      · refine zr_tabIn (tgt := 351) hx hb dL_law_39 (by decide) (by decide) (by decide) rfl (by decide) ?_
        exact lc_7 hL C0 hA hbA hI ⟨h0, hi5⟩ ⟨by omega, by omega⟩ hK hP hD hS hl hnx
      · refine zr_tabIn (tgt := 376) hx hb dL_law_39 (by decide) (by decide) (by decide) rfl (by decide) ?_
        exact lc_8 hL C0 hA hbA htr hcaA hs8 hZU hZN hI ⟨h0, hi5⟩ ⟨by omega, by omega⟩ hK hP hD hS hl hnx
      · refine zr_tabIn (tgt := 432) hx hb dL_law_39 (by decide) (by decide) (by decide) rfl (by decide) ?_
        exact lc_9 hL C0 hA hbA htr hcaA hs9 hZU hZN hI ⟨h0, hi5⟩ ⟨by omega, by omega⟩ hK hP hD hS hl hnx
      · refine zr_tabIn (tgt := 488) hx hb dL_law_39 (by decide) (by decide) (by decide) rfl (by decide) ?_
        exact lc_10 hL C0 hA hbA htr hcaA hs10 hZU hZN hI ⟨h0, hi5⟩ ⟨by omega, by omega⟩ hK hP hD hS hl hnx
      · refine zr_tabIn (tgt := 544) hx hb dL_law_39 (by decide) (by decide) (by decide) rfl (by decide) ?_
        exact lc_11 hL C0 hA hbA hI ⟨h0, hi5⟩ ⟨by omega, by omega⟩ hK hP hD hS hl hnx
      · refine zr_tabIn (tgt := 581) hx hb dL_law_39 (by decide) (by decide) (by decide) rfl (by decide) ?_
        exact lc_12 hL C0 hA hbA hI ⟨h0, hi5⟩ ⟨by omega, by omega⟩ hK hP hD hS hl hnx
      · refine zr_tabIn (tgt := 634) hx hb dL_law_39 (by decide) (by decide) (by decide) rfl (by decide) ?_
        exact lc_13 hL C0 hA hbA htr hcaA hs13 hZU hZN hI ⟨h0, hi5⟩ ⟨by omega, by omega⟩ hK hP hD hS hl hnx
      · refine zr_tabIn (tgt := 718) hx hb dL_law_39 (by decide) (by decide) (by decide) rfl (by decide) ?_
        exact lc_14 hL C0 hA hbA hI ⟨h0, hi5⟩ ⟨by omega, by omega⟩ hK hP hD hS hl hnx
      · refine zr_tabIn (tgt := 731) hx hb dL_law_39 (by decide) (by decide) (by decide) rfl (by decide) ?_
        exact lc_15 hL C0 hA hbA hI ⟨h0, hi5⟩ ⟨by omega, by omega⟩ hK hP hD hS hl hnx
      · refine zr_tabIn (tgt := 744) hx hb dL_law_39 (by decide) (by decide) (by decide) rfl (by decide) ?_
        exact lc_16 hL C0 hA hbA hI ⟨h0, hi5⟩ ⟨by omega, by omega⟩ hK hP hD hS hl hnx
      · refine zr_tabIn (tgt := 837) hx hb dL_law_39 (by decide) (by decide) (by decide) rfl (by decide) ?_
        exact lc_17 hL C0 hA hbA hI ⟨h0, hi5⟩ ⟨by omega, by omega⟩ hK hP hD hS hl hnx
      · refine zr_tabIn (tgt := 874) hx hb dL_law_39 (by decide) (by decide) (by decide) rfl (by decide) ?_
        exact lc_18 hL C0 hA hbA hI ⟨h0, hi5⟩ ⟨by omega, by omega⟩ hK hP hD hS hl hnx
      · refine zr_tabIn (tgt := 911) hx hb dL_law_39 (by decide) (by decide) (by decide) rfl (by decide) ?_
        exact lc_19 hL C0 hA hbA hI ⟨h0, hi5⟩ ⟨by omega, by omega⟩ hK hP hD hS hl hnx
      · refine zr_tabIn (tgt := 924) hx hb dL_law_39 (by decide) (by decide) (by decide) rfl (by decide) ?_
        exact lc_20 hL C0 hA hbA htr hcaA hs20 hZU hZN hI ⟨h0, hi5⟩ ⟨by omega, by omega⟩ hK hP hD hS hl hnx
      · refine zr_tabIn (tgt := 980) hx hb dL_law_39 (by decide) (by decide) (by decide) rfl (by decide) ?_
        exact lc_21 hL C0 hA hbA htr hcaR hs21 hZU hZN hI ⟨h0, hi5⟩ ⟨by omega, by omega⟩ hK hP hD hS hl hnx
      · refine zr_tabIn (tgt := 1052) hx hb dL_law_39 (by decide) (by decide) (by decide) rfl (by decide) ?_
        exact lc_22 hL C0 hA hbA hI ⟨h0, hi5⟩ ⟨by omega, by omega⟩ hK hP hD hS hl hnx
      · refine zr_tabOut (tgt := 1065) hx hb dL_law_39 (by omega) (by omega) (by decide) ?_
        exact hnx F G P G2 n k rd br v ln ft f hI H locs cells slots (by omega) (by omega) hP hD hS ls hl
