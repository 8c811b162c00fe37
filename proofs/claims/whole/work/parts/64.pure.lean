/-! The class's state and the reference's, side by side. -/
def zh_ser (F G : Nat → Int) : Prop := ∀ j : Nat, 18 ≤ j → j ≤ 23 → G j = F j
def zJ (F G P G2 : Nat → Int) (n k v ln : Int) : Prop := zh_all F n 15 ∧ k = n ∧ v = F 0 ∧ ln = zh_len F n ∧ zh_same F P n ∧ zh_same G G2 n ∧ zh_ser F G
def zI (F G P G2 : Nat → Int) (n k rd br v ln ft : Int) : Prop := (zi_By F ∧ zi_By G ∧ zi_By P ∧ zi_By G2) ∧ ((0 ≤ n ∧ n ≤ 600) ∧ (0 ≤ k ∧ k ≤ 600) ∧ (rd = 0 ∨ rd = 1) ∧ (0 ≤ br ∧ br ≤ 15) ∧ (0 ≤ v ∧ v ≤ 255) ∧ (0 ≤ ln ∧ ln ≤ 524280) ∧ (0 ≤ ft ∧ ft ≤ 1)) ∧ (rd = 1 → zJ F G P G2 n k v ln)
section ZPure
variable {F G P G2 : Nat → Int} {n k rd br v ln ft : Int}
theorem zI_G {G' G2' : Nat → Int} {ft' : Int} (h : zI F G P G2 n k rd br v ln ft) (h1 : zi_By G') (h2 : zi_By G2') (h3 : 0 ≤ ft' ∧ ft' ≤ 1) (h4 : rd = 1 → zJ F G P G2 n k v ln → zh_same G' G2' n ∧ zh_ser F G') : zI F G' P G2' n k rd br v ln ft' := by
  obtain ⟨⟨a1, a2, a3, a4⟩, ⟨b1, b2, b3, b4, b5, b6, b7⟩, c⟩ := h
  refine ⟨⟨a1, h1, a3, h2⟩, ⟨b1, b2, b3, b4, b5, b6, h3⟩, fun e => ?_⟩
  have j := c e
  have q := h4 e j
  exact ⟨j.1, j.2.1, j.2.2.1, j.2.2.2.1, j.2.2.2.2.1, q.1, q.2⟩
theorem zI_ft {ft' : Int} (h : zI F G P G2 n k rd br v ln ft) (h3 : 0 ≤ ft' ∧ ft' ≤ 1) : zI F G P G2 n k rd br v ln ft' :=
  ⟨h.1, ⟨h.2.1.1, h.2.1.2.1, h.2.1.2.2.1, h.2.1.2.2.2.1, h.2.1.2.2.2.2.1, h.2.1.2.2.2.2.2.1, h3⟩, h.2.2⟩
theorem zI_F {F' : Nat → Int} {n' rd' br' : Int} (h : zI F G P G2 n k rd br v ln ft) (h1 : zi_By F') (h2 : 0 ≤ n' ∧ n' ≤ 600) (h3 : rd' = 0 ∨ rd' = 1) (h5 : 0 ≤ br' ∧ br' ≤ 15) (h4 : rd' = 1 → rd = 1 ∧ F' = F ∧ n' = n) : zI F' G P G2 n' k rd' br' v ln 0 := by
  obtain ⟨⟨a1, a2, a3, a4⟩, ⟨b1, b2, b3, b4, b5, b6, b7⟩, c⟩ := h
  refine ⟨⟨h1, a2, a3, a4⟩, ⟨h2, b2, h3, h5, b5, b6, by omega⟩, fun e => ?_⟩
  obtain ⟨e1, e2, e3⟩ := h4 e
  rw [e2, e3]
  exact c e1
-- what the sound head gives
theorem zJ_w (hF : zi_By F) (h : zJ F G P G2 n k v ln) : 64 ≤ zh_t F 8 ∧ zh_t F 8 < n ∧ zh_t F 8 + F (zh_t F 8).toNat + 3 < n := by
  have h9 : zh_ok9 F n := zh_all_le (b := 8) h.1 (by decide)
  have q := (zh_mW_iff hF).mpr h9
  exact ⟨q.1, q.2.1, q.2.2.1⟩
theorem zJ_b (hF : zi_By F) (hn : 0 ≤ n ∧ n ≤ 600) (h : zJ F G P G2 n k v ln) : (64 ≤ n ∧ k = n) ∧ (1 ≤ F 0 ∧ F 0 ≤ 8) ∧ (64 ≤ zh_len F n ∧ zh_len F n ≤ n) ∧ (64 ≤ zh_t F 14 ∧ zh_t F 14 ≤ zh_len F n) ∧ (64 ≤ zh_t F 12 ∧ zh_t F 12 + 480 ≤ zh_t F 14) ∧ (64 ≤ zh_t F 8 ∧ 0 ≤ zh_sg F n ∧ 4 ≤ zh_eb F n) := by
  have h2 : zh_ok2 F n := zh_all_le (b := 1) h.1 (by decide)
  have h3 : zh_ok3 F n := zh_all_le (b := 2) h.1 (by decide)
  have h4 : zh_ok4 F n := zh_all_le (b := 3) h.1 (by decide)
  have h5 : zh_ok5 F n := zh_all_le (b := 4) h.1 (by decide)
  have h7 : zh_ok7 F n := zh_all_le (b := 6) h.1 (by decide)
  have h9 : zh_ok9 F n := zh_all_le (b := 8) h.1 (by decide)
  have hw := zJ_w hF h
  have hs := zh_f_sg hF ⟨hw.1, hw.2.2⟩
  have hb := hF (zh_t F 8).toNat
  obtain ⟨q1, q2, q3, q4, q5⟩ := h9
  refine ⟨⟨h3, h.2.1⟩, h2, h4, h5, h7, q1, by omega, ?_⟩
  revert q3
  split <;> intro q3 <;> omega
theorem zI_R (h : zI F G P G2 n k rd br v ln ft) : rd = 1 → (64 ≤ n ∧ k = n) ∧ (1 ≤ F 0 ∧ F 0 ≤ 8) ∧ (64 ≤ zh_len F n ∧ zh_len F n ≤ n) ∧ (64 ≤ zh_t F 14 ∧ zh_t F 14 ≤ zh_len F n) ∧ (64 ≤ zh_t F 12 ∧ zh_t F 12 + 480 ≤ zh_t F 14) ∧ (64 ≤ zh_t F 8 ∧ 0 ≤ zh_sg F n ∧ 4 ≤ zh_eb F n) := fun e => zJ_b h.1.1 h.2.1.1 (h.2.2 e)
theorem zI_M (h : zI F G P G2 n k rd br v ln ft) : rd = 1 → 64 ≤ n ∧ v = F 0 ∧ ln = zh_len F n ∧ (1 ≤ F 0 ∧ F 0 ≤ 8) ∧ (64 ≤ ln ∧ ln ≤ n) ∧ (64 ≤ zh_t F 14 ∧ zh_t F 14 ≤ ln) ∧ (64 ≤ zh_t F 12 ∧ zh_t F 12 + 480 ≤ zh_t F 14) ∧ (64 ≤ zh_t F 8 ∧ zh_t F 8 + F (zh_t F 8).toNat + 3 < n) := fun e => by
  have j := h.2.2 e
  have b := zJ_b h.1.1 h.2.1.1 j
  have w := zJ_w h.1.1 j
  obtain ⟨-, -, j3, j4, -⟩ := j
  refine ⟨b.1.1, j3, j4, b.2.1, by rw [j4]; exact b.2.2.1, by rw [j4]; exact b.2.2.2.1, b.2.2.2.2.1, w.1, w.2.2⟩
theorem zI_14 (h : zI F G P G2 n k rd br v ln ft) (e : rd = 1) (h5 : 5 ≤ F 0) : zh_more F = zh_t F 54 ∧ (zh_t F 54 = 0 ∨ (64 ≤ zh_t F 54 ∧ zh_t F 54 + 1 < n ∧ zh_mw F n = zh_T F (zh_t F 54) ∧ (2 < zh_T F (zh_t F 54) → zh_t F 54 + 7 < n ∧ zh_third F n = zh_T F (zh_t F 54 + 6)))) := by
  have j := h.2.2 e
  have b := zJ_b h.1.1 h.2.1.1 j
  have k14 : zh_ok14 F n := zh_all_le (b := 13) j.1 (by decide)
  have hm : zh_more F = zh_t F 54 := by unfold zh_more; exact if_neg (by omega)
  refine ⟨hm, ?_⟩
  by_cases c : zh_t F 54 = 0
  · exact Or.inl c
  · refine Or.inr ?_
    have r := zh_ok14_r h.1.1 b.2.2.1.2 k14 (by rw [hm]; exact c)
    rw [hm] at r
    refine ⟨r.1, r.2.1, r.2.2.1, fun q => ?_⟩
    have r3 := zh_ok14_r3 h.1.1 b.2.2.1.2 k14 (by rw [hm]; exact c) (by rw [hm]; exact q)
    rw [hm] at r3
    exact r3
theorem zI_O (h : zI F G P G2 n k rd br v ln ft) : rd = 1 → 5 ≤ F 0 → zh_t F 54 + 7 < 600 ∨ (zh_t F 54 + 1 < 600 ∧ zh_T F (zh_t F 54) ≤ 2) := fun e h5 => by
  obtain ⟨-, q | ⟨a, b, -, d⟩⟩ := zI_14 h e h5
  · left; omega
  · have hn := h.2.1.1
    by_cases c : 2 < zh_T F (zh_t F 54)
    · have := d c
      left; omega
    · right; omega
theorem zI_W (h : zI F G P G2 n k rd br v ln ft) : rd = 1 → zh_mw F n = zh_mof F v 11 ∧ zh_third F n = zh_mof F v 12 := fun e => by
  have j := h.2.2 e
  have ev : v = F 0 := j.2.2.1
  rw [ev]
  by_cases h5 : 5 ≤ F 0
  · obtain ⟨hm, q⟩ := zI_14 h e h5
    rcases q with q | ⟨a, b, c, d⟩
    · have e1 : zh_more F = 0 := by rw [hm]; exact q
      constructor
      · unfold zh_mw zh_mof
        rw [if_pos e1, if_pos (Or.inr q)]
      · unfold zh_third zh_mof
        rw [if_pos (Or.inl e1), if_pos (Or.inr q)]
    · have hT := zh_T_b h.1.1 (zh_t F 54)
      constructor
      · unfold zh_mof
        rw [c, if_neg (by omega), if_pos rfl]
      · unfold zh_mof
        rw [if_neg (by omega), if_neg (by decide)]
        by_cases q : zh_T F (zh_t F 54) > 2
        · rw [if_pos q]; exact (d q).2
        · rw [if_neg q]
          unfold zh_third
          rw [hm, zh_two_T (F := F) ⟨by omega, b⟩, if_pos (Or.inr (by omega))]
  · have e1 : zh_more F = 0 := by unfold zh_more; exact if_pos (by omega)
    constructor
    · unfold zh_mw zh_mof
      rw [if_pos e1, if_pos (Or.inl (by omega))]
    · unfold zh_third zh_mof
      rw [if_pos (Or.inl e1), if_pos (Or.inl (by omega))]
-- bytes that are the same
theorem zs_at (h : zh_same G G2 n) (p : Int) : zh_at G2 n p = zh_at G n p := by
  unfold zh_at
  by_cases c : 0 ≤ p ∧ p < n
  · rw [if_pos c, if_pos c]; exact h _ (by omega)
  · rw [if_neg c, if_neg c]
theorem zs_two (h : zh_same G G2 n) (p : Int) : zh_two G2 n p = zh_two G n p := by
  unfold zh_two
  by_cases c : 0 ≤ p ∧ p < n - 1
  · rw [if_pos c, if_pos c, h _ (by omega), h _ (by omega)]
  · rw [if_neg c, if_neg c]
theorem zs_up (h : zh_same G G2 n) (p : Nat) (x : Int) : zh_same (zi_up G p x) (zi_up G2 p x) n := fun j hj => by
  unfold zi_up
  by_cases c : j = p
  · rw [if_pos c, if_pos c]
  · rw [if_neg c, if_neg c]; exact h j hj
theorem zs_put (h : zh_same G G2 n) (p x : Int) : zh_same (zh_put G n p x) (zh_put G2 n p x) n := by
  unfold zh_put
  split
  · exact zs_up h _ _
  · exact h
theorem zs_ser_up (h : zh_ser F G) {p : Nat} {x : Int} (hp : p < 18 ∨ 23 < p) : zh_ser F (zi_up G p x) := fun j h1 h2 => by
  unfold zi_up
  rw [if_neg (by omega)]
  exact h j h1 h2
theorem zs_ser_put (h : zh_ser F G) {m p x : Int} (hp : p < 18 ∨ 23 < p) : zh_ser F (zh_put G m p x) := by
  unfold zh_put
  split
  · exact zs_ser_up h (by omega)
  · exact h
theorem zs_sm (h : zh_same F P n) : ∀ m : Nat, 64 + (m : Int) ≤ n → zh_sm P m = zh_sm F m
  | 0, _ => rfl
  | m + 1, hm => by
    show zh_sm P m + P (64 + m) = zh_sm F m + F (64 + m)
    rw [zs_sm h m (by omega), h (64 + m) (by omega)]
theorem zs_dc (h : zh_same F P n) (h2 : zh_same G G2 n) : ∀ m : Nat, 64 + (m : Int) ≤ n → zh_dc P G2 m = zh_dc F G m
  | 0, _ => rfl
  | m + 1, hm => by
    show zh_dc P G2 m + (if G2 (64 + m) = P (64 + m) then 0 else 1) = zh_dc F G m + (if G (64 + m) = F (64 + m) then 0 else 1)
    rw [zs_dc h h2 m (by omega), h (64 + m) (by omega), h2 (64 + m) (by omega)]
theorem zs_rs (h : zh_same F P n) (h2 : zh_same G G2 n) (i : Int) : zh_same (zh_rs F G i) (zh_rs P G2 i) n := fun j hj => by
  unfold zh_rs
  split
  · exact h j hj
  · exact h2 j hj
-- answers
theorem zq_sum (h : zI F G P G2 n k rd br v ln ft) : zh_sumE F n rd = zh_qsu P rd ln := by
  unfold zh_sumE zh_qsu zh_sum
  by_cases c : rd = 0
  · rw [if_pos c, if_pos c]
  · have e : rd = 1 := by have := h.2.1.2.2.1; omega
    have j := h.2.2 e
    have b := zI_R h e
    rw [if_neg c, if_neg c, j.2.2.2.1, zs_sm j.2.2.2.2.1 _ (by omega)]
theorem zq_ag (h : zI F G P G2 n k rd br v ln ft) : zh_agE F n rd = zh_qag F P rd ln := by
  unfold zh_agE zh_qag zh_sum
  by_cases c : rd = 0
  · rw [if_pos c, if_pos c]
  · have e : rd = 1 := by have := h.2.1.2.2.1; omega
    have j := h.2.2 e
    have b := zI_R h e
    rw [if_neg c, if_neg c, j.2.2.2.1, zs_sm j.2.2.2.2.1 _ (by omega)]
theorem zq_st (h : zI F G P G2 n k rd br v ln ft) (i : Int) : zh_stE F G k rd i = zh_stE F G2 n rd i := by
  unfold zh_stE
  by_cases c : rd = 0
  · rw [if_pos c, if_pos c]
  · have e : rd = 1 := by have := h.2.1.2.2.1; omega
    have j := h.2.2 e
    rw [if_neg c, if_neg c, j.2.1, zs_at j.2.2.2.2.2.1]
theorem zI_st (h : zI F G P G2 n k rd br v ln ft) (i x : Int) : zI F (zh_stG F G k rd i x) P (zh_stG F G2 n rd i x) n k rd br v ln 0 :=
  zI_G h (zh_stG_By h.1.2.1 _ _ _ _) (zh_stG_By h.1.2.2.2 _ _ _ _) (by omega) (fun e j => by
    have b := zI_R h e
    rw [j.2.1]
    unfold zh_stG
    by_cases c : rd = 0 ∨ i < 64 ∨ zh_t F 14 ≤ i
    · rw [if_pos c, if_pos c]; exact j.2.2.2.2.2
    · rw [if_neg c, if_neg c]; exact ⟨zs_put j.2.2.2.2.2.1 _ _, zs_ser_put j.2.2.2.2.2.2 (by omega)⟩)
theorem zq_re (h : zI F G P G2 n k rd br v ln ft) : zh_reE F G rd = zh_qre F P G2 rd := by
  unfold zh_reE zh_qre
  by_cases c : rd = 0
  · rw [if_pos c, if_pos c]
  · have e : rd = 1 := by have := h.2.1.2.2.1; omega
    have j := h.2.2 e
    have b := zI_R h e
    rw [if_neg c, if_neg c, zs_dc j.2.2.2.2.1 j.2.2.2.2.2.1 _ (by omega)]
theorem zI_re (h : zI F G P G2 n k rd br v ln ft) : zI F (zh_reG F G rd) P (zh_qreG F P G2 rd) n k rd br v ln 0 :=
  zI_G h (zh_reG_By h.1.1 h.1.2.1 _) (zh_qreG_By h.1.2.2.1 h.1.2.2.2 _) (by omega) (fun e j => by
    unfold zh_reG zh_qreG
    rw [if_neg (by omega), if_neg (by omega)]
    refine ⟨zs_rs j.2.2.2.2.1 j.2.2.2.2.2.1 _, fun q h1 h2 => ?_⟩
    unfold zh_rs
    rw [if_neg (by omega)]
    exact j.2.2.2.2.2.2 q h1 h2)
theorem zq_se (h : zI F G P G2 n k rd br v ln ft) (w x : Int) : zh_seE F G k rd w x = zh_seE F G2 n rd w x := by
  unfold zh_seE
  by_cases c : rd = 0
  · rw [if_pos c, if_pos c]
  · have e : rd = 1 := by have := h.2.1.2.2.1; omega
    have j := h.2.2 e
    rw [if_neg c, if_neg c, j.2.1, zs_at j.2.2.2.2.2.1, zs_two j.2.2.2.2.2.1]
theorem zh_sp_b {w u : Int} (h : 0 ≤ w ∧ w ≤ 10) : 30 ≤ zh_sp w u ∧ zh_sp w u ≤ 50 := by
  unfold zh_sp
  (repeat' split) <;> omega
theorem zI_se (h : zI F G P G2 n k rd br v ln ft) (w x : Int) : zI F (zh_seG F G k rd w x) P (zh_seG F G2 n rd w x) n k rd br v ln 0 :=
  zI_G h (zh_seG_By h.1.2.1 _ _ _ _) (zh_seG_By h.1.2.2.2 _ _ _ _) (by omega) (fun e j => by
    rw [j.2.1]
    unfold zh_seG
    by_cases c : rd ≠ 0 ∧ zh_seB w x ∧ ¬ F 0 < zh_sf w
    · have hw := c.2.1.1
      have hb := zh_sp_b (u := F 0) hw
      rw [zh_if_t c, zh_if_t c]
      by_cases d : w = 4 ∨ w = 5 ∨ w = 10
      · rw [if_pos d, if_pos d]
        exact ⟨zs_put (zs_put j.2.2.2.2.2.1 _ _) _ _, zs_ser_put (zs_ser_put j.2.2.2.2.2.2 (by omega)) (by omega)⟩
      · rw [if_neg d, if_neg d]
        exact ⟨zs_put j.2.2.2.2.2.1 _ _, zs_ser_put j.2.2.2.2.2.2 (by omega)⟩
    · rw [zh_if_f c, zh_if_f c]
      exact j.2.2.2.2.2)
end ZPure
