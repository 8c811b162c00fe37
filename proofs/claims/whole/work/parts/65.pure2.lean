/-! Flags, and the six calls that may throw. -/
theorem zb_cases {b : Int} {Q : Int → Prop} (hb : 0 ≤ b ∧ b ≤ 15) (h : ∀ j : Nat, j < 16 → Q (j : Int)) : Q b := by
  have e : b = ((b.toNat : Nat) : Int) := by omega
  rw [e]
  exact h _ (by omega)
theorem zh_m1 {v b : Int} (hv : 1 ≤ v ∧ v ≤ 8) (hb : 0 ≤ b ∧ b ≤ 7) : zh_sr (zh_pb v) b % 2 = 1 ↔ zh_mm1 v b := by
  rcases (show b = 0 ∨ b = 1 ∨ b = 2 ∨ b = 3 ∨ b = 4 ∨ b = 5 ∨ b = 6 ∨ b = 7 by omega) with rfl | rfl | rfl | rfl | rfl | rfl | rfl | rfl <;> rcases (show v = 1 ∨ v = 2 ∨ v = 3 ∨ v = 4 ∨ v = 5 ∨ v = 6 ∨ v = 7 ∨ v = 8 by omega) with rfl | rfl | rfl | rfl | rfl | rfl | rfl | rfl <;> simp [zh_sr, zh_pb, zh_mm1]
theorem zh_bl {h l b : Int} (hh : 0 ≤ h ∧ h ≤ 255) (hl : 0 ≤ l ∧ l ≤ 255) (hb : 0 ≤ b ∧ b ≤ 7) : zh_sr (h * 256 + l) b % 2 = zh_sr l b % 2 := by
  rcases (show b = 0 ∨ b = 1 ∨ b = 2 ∨ b = 3 ∨ b = 4 ∨ b = 5 ∨ b = 6 ∨ b = 7 by omega) with rfl | rfl | rfl | rfl | rfl | rfl | rfl | rfl <;> simp [zh_sr] <;> omega
theorem zh_bh {h l b : Int} (hh : 0 ≤ h ∧ h ≤ 255) (hl : 0 ≤ l ∧ l ≤ 255) (hb : 8 ≤ b ∧ b ≤ 15) : zh_sr (h * 256 + l) b % 2 = zh_sr h (b % 8) % 2 := by
  rcases (show b = 8 ∨ b = 9 ∨ b = 10 ∨ b = 11 ∨ b = 12 ∨ b = 13 ∨ b = 14 ∨ b = 15 by omega) with rfl | rfl | rfl | rfl | rfl | rfl | rfl | rfl <;> simp [zh_sr] <;> omega
theorem zh_pw_h {b : Int} (hb : 8 ≤ b ∧ b ≤ 15) : zh_pw b = zh_pw (b % 8) * 256 := by
  rcases (show b = 8 ∨ b = 9 ∨ b = 10 ∨ b = 11 ∨ b = 12 ∨ b = 13 ∨ b = 14 ∨ b = 15 by omega) with rfl | rfl | rfl | rfl | rfl | rfl | rfl | rfl <;> simp [zh_pw]
/-- one byte: the class's way and the reference's -/
theorem zh_v1 {a b on : Int} (ha : 0 ≤ a ∧ a ≤ 255) (hb : 0 ≤ b ∧ b ≤ 7) : zh_swV a b on = zh_qflV a b on := by
  have h := zh_bit_b ha hb
  unfold zh_swV zh_set zh_clr zh_qflV
  (repeat' split) <;> omega
theorem zh_vl {h l b on : Int} (hh : 0 ≤ h ∧ h ≤ 255) (hl : 0 ≤ l ∧ l ≤ 255) (hb : 0 ≤ b ∧ b ≤ 7) : zh_swV (h * 256 + l) b on = h * 256 + zh_qflV l b on := by
  have q := zh_bit_b hl hb
  have e := zh_bl hh hl hb
  unfold zh_swV zh_set zh_clr zh_qflV
  rw [e]
  (repeat' split) <;> omega
theorem zh_vh {h l b on : Int} (hh : 0 ≤ h ∧ h ≤ 255) (hl : 0 ≤ l ∧ l ≤ 255) (hb : 8 ≤ b ∧ b ≤ 15) : zh_swV (h * 256 + l) b on = zh_qflV h (b % 8) on * 256 + l := by
  have q := zh_bit_b (k := b % 8) hh (by omega)
  have e := zh_bh hh hl hb
  have p := zh_pw_h hb
  unfold zh_swV zh_set zh_clr zh_qflV
  rw [e, p]
  (repeat' split) <;> omega
section ZPure2
variable {F G P G2 : Nat → Int} {n k rd br v ln ft : Int}
theorem zh_fb_q (hG : zi_By G) (hs : zh_same G G2 n) (hn : 64 ≤ n) {w b : Int} (h : zh_isF w b) : zh_fb G w b = zh_sr (G2 (zh_mp w b).toNat) (b % 8) % 2 := by
  unfold zh_fb zh_mp
  rcases h with ⟨rfl, h1, h2⟩ | ⟨rfl, h1, h2⟩
  · rw [if_pos rfl, if_pos rfl, show (1 : Int).toNat = 1 from rfl, hs 1 (by omega), show b % 8 = b by omega]
  · rw [if_neg (by decide), if_neg (by decide)]
    unfold zh_t
    by_cases c : b > 7
    · rw [if_pos c, show (16 : Int).toNat = 16 from rfl, hs 16 (by omega)]
      exact zh_bh (hG 16) (hG 17) ⟨by omega, h2⟩
    · rw [if_neg c, show (17 : Int).toNat = 17 from rfl, hs 17 (by omega), show b % 8 = b by omega]
      exact zh_bl (hG 16) (hG 17) ⟨h1, by omega⟩
theorem zq_on (h : zI F G P G2 n k rd br v ln ft) (w b : Int) : zh_onE G rd w b = zh_qon G2 rd w b := by
  unfold zh_onE zh_qon
  by_cases c : rd = 0
  · rw [if_pos c, if_pos c]
  · have e : rd = 1 := by have := h.2.1.2.2.1; omega
    have j := h.2.2 e
    have q := zI_R h e
    rw [if_neg c, if_neg c]
    by_cases d : zh_isF w b
    · rw [if_pos (show (w = 1 ∧ 0 ≤ b ∧ b ≤ 7) ∨ (w = 2 ∧ 0 ≤ b ∧ b ≤ 15) from d), zh_if_t d]
      exact zh_fb_q h.1.2.1 j.2.2.2.2.2.1 q.1.1 d
    · rw [if_neg (show ¬ ((w = 1 ∧ 0 ≤ b ∧ b ≤ 7) ∨ (w = 2 ∧ 0 ≤ b ∧ b ≤ 15)) from d), zh_if_f d]
theorem zh_may_q {w b on st : Int} (hv : 1 ≤ v ∧ v ≤ 8) (h : zh_isF w b) : zh_mayX v w b on st ↔ zh_qmay v w b on st := by
  unfold zh_mayX zh_qmay
  rcases h with ⟨rfl, h1, h2⟩ | ⟨rfl, h1, h2⟩
  · have q := zh_m1 hv ⟨h1, h2⟩
    constructor
    · intro a
      exact ⟨fun _ => ⟨(a.1 rfl).1, q.mp (a.1 rfl).2⟩, fun z => absurd rfl z⟩
    · intro a
      exact ⟨fun _ => ⟨(a.1 rfl).1, q.mpr (a.1 rfl).2⟩, fun z => absurd z (by decide)⟩
  · constructor
    · intro a
      exact ⟨fun z => absurd z (by decide), fun _ => a.2 rfl⟩
    · intro a
      exact ⟨fun z => absurd z (by decide), fun _ => a.2 (by decide)⟩
theorem zq_fl (h : zI F G P G2 n k rd br v ln ft) (w b on st : Int) : zh_flE F G rd w b on st = zh_qfl G2 rd v w b on st := by
  unfold zh_flE zh_qfl
  by_cases c : rd = 0
  · rw [if_pos c, if_pos c]
  · have e : rd = 1 := by have := h.2.1.2.2.1; omega
    have j := h.2.2 e
    have q := zI_R h e
    rw [if_neg c, if_neg c, j.2.2.1]
    by_cases d : zh_isF w b
    · rw [zh_if_t d, zh_if_t d]
      have m := zh_may_q (on := on) (st := st) q.2.1 d
      by_cases d2 : zh_mayX (F 0) w b on st
      · rw [zh_if_t d2, zh_if_t (m.mp d2)]
        exact zh_fb_q h.1.2.1 j.2.2.2.2.2.1 q.1.1 d
      · rw [zh_if_f d2, zh_if_f (fun z => d2 (m.mpr z))]
    · rw [zh_if_f d, zh_if_f d]
theorem zs_sw (hG : zi_By G) (hs : zh_same G G2 n) (hn : 64 ≤ n) {w b on : Int} (h : zh_isF w b) : zh_same (zh_swG G n w b on) (zi_up G2 (zh_mp w b).toNat (zh_qflV (G2 (zh_mp w b).toNat) (b % 8) on)) n := by
  intro j hj
  unfold zh_swG zh_mp
  rcases h with ⟨rfl, h1, h2⟩ | ⟨rfl, h1, h2⟩
  · rw [if_pos rfl, if_pos rfl, show (1 : Int).toNat = 1 from rfl, hs 1 (by omega), show b % 8 = b by omega]
    unfold zh_put
    rw [if_pos (by omega), zh_v1 (hG 1) ⟨h1, h2⟩, show (1 : Int).toNat = 1 from rfl]
    have q := zh_qflV_b (on := on) (hG 1) ⟨h1, h2⟩
    unfold zi_up
    by_cases c : j = 1
    · rw [if_pos c, if_pos c]; omega
    · rw [if_neg c, if_neg c]; exact hs j hj
  · rw [if_neg (show ¬ (2 : Int) = 1 by decide), if_neg (show ¬ (2 : Int) = 1 by decide)]
    unfold zh_put
    rw [if_pos (show (0 : Int) ≤ 16 ∧ (16 : Int) < n by omega), if_pos (show (0 : Int) ≤ 16 + 1 ∧ (16 : Int) + 1 < n by omega), show (16 : Int).toNat = 16 from rfl, show ((16 : Int) + 1).toNat = 17 from rfl]
    unfold zh_t
    have g6 := hG 16
    have g7 := hG 17
    by_cases c : b > 7
    · have q := zh_qflV_b (on := on) (b := b % 8) g6 (by omega)
      rw [if_pos c, show (16 : Int).toNat = 16 from rfl, hs 16 (by omega), zh_vh g6 g7 ⟨by omega, h2⟩]
      unfold zi_up
      by_cases d : j = 17
      · rw [if_neg (by omega), if_pos d, hs j hj, d]; omega
      · rw [if_neg d]
        by_cases d2 : j = 16
        · rw [if_pos d2, if_pos d2]; omega
        · rw [if_neg d2, if_neg d2]; exact hs j hj
    · have q := zh_qflV_b (on := on) (b := b) g7 (by omega)
      rw [if_neg c, show (17 : Int).toNat = 17 from rfl, hs 17 (by omega), show b % 8 = b by omega, zh_vl g6 g7 ⟨h1, by omega⟩]
      unfold zi_up
      by_cases d : j = 17
      · rw [if_pos d, if_pos d]; omega
      · rw [if_neg d, if_neg d]
        by_cases d2 : j = 16
        · rw [if_pos d2, hs j hj, d2]; omega
        · rw [if_neg d2]; exact hs j hj
theorem zs_ser_sw (h : zh_ser F G) (m w b on : Int) : zh_ser F (zh_swG G m w b on) := by
  unfold zh_swG
  split
  · exact zs_ser_put h (by omega)
  · exact zs_ser_put (zs_ser_put h (by omega)) (by omega)
theorem zI_fl (h : zI F G P G2 n k rd br v ln ft) (w b on st : Int) : zI F (zh_flG F G k rd w b on st) P (zh_qflG G2 rd v w b on st) n k rd br v ln 0 :=
  zI_G h (zh_flG_By h.1.2.1 _ _ _ _ _ _) (zh_qflG_By h.1.2.2.2 _ _ _ _ _ _) (by omega) (fun e j => by
    have q := zI_R h e
    rw [j.2.1, j.2.2.1]
    unfold zh_flG zh_qflG
    by_cases d : zh_isF w b
    · have m := zh_may_q (on := on) (st := st) q.2.1 d
      by_cases d2 : zh_mayX (F 0) w b on st
      · rw [zh_if_t ⟨by omega, d, d2⟩, zh_if_t ⟨by omega, d, m.mp d2⟩]
        exact ⟨zs_sw h.1.2.1 j.2.2.2.2.2.1 q.1.1 d, zs_ser_sw j.2.2.2.2.2.2 _ _ _ _⟩
      · rw [zh_if_f (fun z => d2 z.2.2), zh_if_f (fun z => d2 (m.mpr z.2.2))]
        exact j.2.2.2.2.2
    · rw [zh_if_f (fun z => d z.2.1), zh_if_f (fun z => d z.2.1)]
      exact j.2.2.2.2.2)
-- the six
theorem zq_ser (h : zI F G P G2 n k rd br v ln ft) {i : Int} (hp : rd = 0 ∨ (0 ≤ i ∧ i ≤ 5)) : zh_serE G k rd i = zh_qser P rd i ∧ zh_qserT rd i = 0 := by
  refine ⟨?_, if_pos hp⟩
  unfold zh_serE zh_qser
  by_cases c : rd = 0
  · rw [if_pos c, if_pos c]
  · have e : rd = 1 := by have := h.2.1.2.2.1; omega
    have j := h.2.2 e
    have q := zI_R h e
    rw [if_neg c, if_neg c, if_pos (by omega), zh_at_in (by omega), j.2.2.2.2.1 _ (by omega), j.2.2.2.2.2.2 _ (by omega) (by omega)]
theorem zq_serT {i : Int} (hp : rd = 1 ∧ ¬ (0 ≤ i ∧ i ≤ 5)) : zh_qserT rd i = 1 := if_neg (by omega)
theorem zq_glo (h : zI F G P G2 n k rd br v ln ft) {i : Int} (hp : rd = 0 ∨ (0 ≤ i ∧ i ≤ 239)) : zh_gloE F G k rd i = zh_qglo F G2 rd i ∧ zh_qgloT rd i = 0 := by
  refine ⟨?_, if_pos hp⟩
  unfold zh_gloE zh_qglo
  by_cases c : rd = 0
  · rw [if_pos c, if_pos c]
  · have e : rd = 1 := by have := h.2.1.2.2.1; omega
    have j := h.2.2 e
    have q := zI_R h e
    rw [if_neg c, if_neg c, if_pos (by omega), zh_two_T (by omega)]
    unfold zh_T
    rw [j.2.2.2.2.2.1 _ (by omega), j.2.2.2.2.2.1 _ (by omega)]
theorem zq_gloT {i : Int} (hp : rd = 1 ∧ ¬ (0 ≤ i ∧ i ≤ 239)) : zh_qgloT rd i = 1 := if_neg (by omega)
theorem zq_ld (h : zI F G P G2 n k rd br v ln ft) {i : Int} (hp : rd = 0 ∨ (0 ≤ i ∧ i < k)) : zh_ldE G k rd i = zh_qld G2 n rd i ∧ zh_qldT n rd i = 0 := by
  unfold zh_ldE zh_qld zh_qldT
  by_cases c : rd = 0
  · rw [if_pos c, if_pos c, if_pos (Or.inl c)]; exact ⟨rfl, rfl⟩
  · have e : rd = 1 := by have := h.2.1.2.2.1; omega
    have j := h.2.2 e
    have q := zI_R h e
    rw [if_neg c, if_neg c, if_pos (by omega), if_pos (by omega), zh_at_in (by omega), j.2.2.2.2.2.1 _ (by omega)]
    exact ⟨rfl, rfl⟩
theorem zq_ldT (h : zI F G P G2 n k rd br v ln ft) {i : Int} (hp : rd = 1 ∧ ¬ (0 ≤ i ∧ i < k)) : zh_qldT n rd i = 1 := by
  have q := zI_R h hp.1
  exact if_neg (by omega)
theorem zq_fi (h : zI F G P G2 n k rd br v ln ft) {a t : Int} (hp : rd = 0 ∨ ¬ (0 ≤ a ∧ a ≤ 65535) ∨ (0 ≤ zh_unp F a t ∧ zh_unp F a t < k)) : zh_fiE1 F G k rd a t = zh_qfi F G2 n rd v a t ∧ zh_qfiT F n rd v a t = 0 := by
  unfold zh_fiE1 zh_qfi zh_qfiT
  by_cases c : rd = 0
  · rw [if_pos c, if_pos c]
    refine ⟨rfl, ?_⟩
    split
    · exact if_pos (Or.inl c)
    · rfl
  · have e : rd = 1 := by have := h.2.1.2.2.1; omega
    have j := h.2.2 e
    have q := zI_R h e
    rw [if_neg c, if_neg c]
    by_cases d : 0 ≤ a ∧ a ≤ 65535
    · rw [if_pos d, if_pos d, if_pos d, zh_mpk_eq j.2.2.1 q.2.1]
      unfold zh_qld zh_qldT
      rw [if_neg c, if_pos (by omega), if_pos (by omega), zh_at_in (by omega), j.2.2.2.2.2.1 _ (by omega)]
      exact ⟨rfl, rfl⟩
    · rw [if_neg d, if_neg d, if_neg d]; exact ⟨rfl, rfl⟩
theorem zq_fiT (h : zI F G P G2 n k rd br v ln ft) {a t : Int} (hp : rd = 1 ∧ ((0 ≤ a ∧ a ≤ 65535) ∧ ¬ (0 ≤ zh_unp F a t ∧ zh_unp F a t < k))) : zh_qfiT F n rd v a t = 1 := by
  have j := h.2.2 hp.1
  have q := zI_R h hp.1
  unfold zh_qfiT zh_qldT
  rw [if_pos hp.2.1, zh_mpk_eq j.2.2.1 q.2.1]
  exact if_neg (by omega)
theorem zq_sg (h : zI F G P G2 n k rd br v ln ft) {i : Int} (hp : rd = 0 ∨ (0 ≤ i ∧ i < zh_sg F n)) : zh_sgE F n rd i = zh_qsg F P rd i ∧ zh_qsgT F rd i = 0 := by
  unfold zh_sgE zh_qsg zh_qsgT
  by_cases c : rd = 0
  · rw [if_pos c, if_pos c, if_pos (Or.inl c)]; exact ⟨rfl, rfl⟩
  · have e : rd = 1 := by have := h.2.1.2.2.1; omega
    have j := h.2.2 e
    have w := zJ_w h.1.1 j
    have s := zh_f_sg h.1.1 ⟨w.1, w.2.2⟩
    rw [s] at hp
    rw [if_neg c, if_neg c, if_pos (by omega), if_pos (by omega), zh_at_in (by omega), j.2.2.2.2.1 _ (by omega)]
    exact ⟨rfl, rfl⟩
theorem zq_sgT (h : zI F G P G2 n k rd br v ln ft) {i : Int} (hp : rd = 1 ∧ ¬ (0 ≤ i ∧ i < zh_sg F n)) : zh_qsgT F rd i = 1 := by
  have j := h.2.2 hp.1
  have w := zJ_w h.1.1 j
  have s := zh_f_sg h.1.1 ⟨w.1, w.2.2⟩
  rw [s] at hp
  exact if_neg (by omega)
theorem zq_ra (h : zI F G P G2 n k rd br v ln ft) {b : Int} (hp : rd = 0 ∨ zh_dv F n b ≠ 0) : zh_raE F n rd b = zh_qra F n rd b ∧ zh_qraT F n rd b = 0 := by
  refine ⟨?_, if_pos hp⟩
  unfold zh_raE zh_qra
  by_cases c : rd = 0
  · rw [if_pos c, if_pos c]
  · rw [if_neg c, if_neg c, if_neg (by omega)]
theorem zq_raT {b : Int} (hp : rd = 1 ∧ zh_dv F n b = 0) : zh_qraT F n rd b = 1 := if_neg (by omega)
-- adding, poking, clearing, reading
theorem zI_fi (h : zI F G P G2 n k rd br v ln ft) (c b : Int) : zI (zh_fiF F n c b) G P G2 (zh_fiN n c b) k (zh_fiR n rd c b) br v ln 0 := by
  have hn := h.2.1.1
  have hr := h.2.1.2.2.1
  refine zI_F h (zh_fiF_By h.1.1 _ _ _) ?_ ?_ h.2.1.2.2.2.1 (fun e => ?_)
  · unfold zh_fiN zh_apN
    (repeat' split) <;> omega
  · unfold zh_fiR zh_apR
    (repeat' split) <;> omega
  · revert e
    unfold zh_fiR zh_apR zh_fiF zh_apF zh_fiN zh_apN
    by_cases c1 : (1 ≤ c ∧ c ≤ 600) ∧ (0 ≤ b ∧ b ≤ 255)
    · rw [if_pos c1, if_pos c1, if_pos c1]
      by_cases c2 : 600 - n < c
      · rw [if_pos c2, if_pos c2, if_pos c2]; exact fun e => ⟨e, rfl, rfl⟩
      · rw [if_neg c2, if_neg c2, if_neg c2]; exact fun e => absurd e (by decide)
    · rw [if_neg c1, if_neg c1, if_neg c1]; exact fun e => ⟨e, rfl, rfl⟩
theorem zI_fe (h : zI F G P G2 n k rd br v ln ft) (w : Int64) (c : Int) : zI (zh_feF F n w c) G P G2 (zh_feN n c) k (zh_feR n rd c) br v ln 0 := by
  have hn := h.2.1.1
  have hr := h.2.1.2.2.1
  refine zI_F h (zh_feF_By h.1.1 _ _ _) ?_ ?_ h.2.1.2.2.2.1 (fun e => ?_)
  · unfold zh_feN zh_apN
    (repeat' split) <;> omega
  · unfold zh_feR zh_apR
    (repeat' split) <;> omega
  · revert e
    unfold zh_feR zh_apR zh_feF zh_feN zh_apN
    by_cases c1 : 1 ≤ c ∧ c ≤ 8
    · rw [if_pos c1, if_pos c1]
      by_cases c2 : 600 - n < c
      · rw [if_pos c2, if_pos c2, if_neg (by omega)]; exact fun e => ⟨e, rfl, rfl⟩
      · rw [if_neg c2, if_neg c2]; exact fun e => absurd e (by decide)
    · rw [if_neg c1, if_neg c1, if_neg (by omega)]; exact fun e => ⟨e, rfl, rfl⟩
theorem zI_po (h : zI F G P G2 n k rd br v ln ft) (p b : Int) : zI (zh_poF F n p b) G P G2 n k (zh_poR n rd p b) br v ln 0 := by
  have hn := h.2.1.1
  have hr := h.2.1.2.2.1
  refine zI_F h (zh_poF_By h.1.1 _ _ _) hn ?_ h.2.1.2.2.2.1 (fun e => ?_)
  · unfold zh_poR
    (repeat' split) <;> omega
  · revert e
    unfold zh_poR zh_poF
    by_cases c1 : (0 ≤ p ∧ p < n) ∧ (0 ≤ b ∧ b ≤ 255)
    · rw [if_pos c1, if_pos c1]; exact fun e => absurd e (by decide)
    · rw [if_neg c1, if_neg c1]; exact fun e => ⟨e, rfl, rfl⟩
theorem zI_cl (h : zI F G P G2 n k rd br v ln ft) : zI F G P G2 0 k 0 0 v ln 0 :=
  zI_F h h.1.1 (by omega) (by omega) (by omega) (fun e => absurd e (by decide))
theorem zI_rd (h : zI F G P G2 n k rd br v ln ft) {u : Nat} {v' ln' : Int} (hf : zh_first F n u) (h0 : u = 0 → v' = F 0 ∧ ln' = zh_len F n) (hv : 0 ≤ v' ∧ v' ≤ 255) (hln : 0 ≤ ln' ∧ ln' ≤ 524280) : zI F (zh_rdG F G u) (zh_rcJ F P n u) (zh_rcJ F G2 n u) n (zh_rdK n k u) (zh_rdR u) (zh_rdB u) v' ln' 0 := by
  have hn := h.2.1.1
  have hk := h.2.1.2.1
  have h15 := zh_first_15 hf
  refine ⟨⟨h.1.1, zh_rdG_By h.1.1 h.1.2.1 _, zh_rcJ_By h.1.1 h.1.2.2.1 _ _, zh_rcJ_By h.1.1 h.1.2.2.2 _ _⟩, ⟨hn, ?_, ?_, ?_, hv, hln, by omega⟩, fun e => ?_⟩
  · unfold zh_rdK
    split <;> omega
  · unfold zh_rdR
    split <;> omega
  · unfold zh_rdB
    omega
  · have e0 : u = 0 := by
      revert e
      unfold zh_rdR
      split
      · intro _; assumption
      · intro e; exact absurd e (by decide)
    obtain ⟨a1, a2⟩ := h0 e0
    unfold zh_rdK zh_rdG zh_rcJ
    rw [if_pos e0, if_pos e0, if_pos e0, if_pos e0]
    refine ⟨zh_first_p hf e0, rfl, a1, a2, fun j hj => ?_, fun j hj => ?_, fun j h1 h2 => ?_⟩
    · unfold zh_rc; exact if_pos hj
    · unfold zh_rc zh_cp; rw [if_pos hj, if_pos (by omega)]
    · unfold zh_cp; exact if_pos (by omega)
end ZPure2
