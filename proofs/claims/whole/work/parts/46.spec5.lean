/-! flag, set -/
noncomputable def zh_if {α : Type} (P : Prop) (a b : α) : α := @ite _ P (Classical.propDecidable P) a b
theorem zh_if_t {α : Type} {P : Prop} (h : P) (a b : α) : zh_if P a b = a := by unfold zh_if; exact if_pos h
theorem zh_if_f {α : Type} {P : Prop} (h : ¬ P) (a b : α) : zh_if P a b = b := by unfold zh_if; exact if_neg h
def zh_mayX (v w b on st : Int) : Prop := (w = 1 → zh_may1 v b st) ∧ (w = 2 → zh_may2 v b on st)
noncomputable def zh_flE (F G : Nat → Int) (rd w b on st : Int) : Int := if rd = 0 then -11 else zh_if (zh_isF w b) (zh_if (zh_mayX (F 0) w b on st) (zh_fb G w b) (-13)) (-12)
noncomputable def zh_flG (F G : Nat → Int) (k rd w b on st : Int) : Nat → Int := zh_if (rd ≠ 0 ∧ zh_isF w b ∧ zh_mayX (F 0) w b on st) (zh_swG G k w b on) G
theorem zh_flG_By {F G : Nat → Int} (hG : zi_By G) (k rd w b on st : Int) : zi_By (zh_flG F G k rd w b on st) := by
  unfold zh_flG zh_if
  split
  · exact zh_swG_By hG _ _ _ _
  · exact hG
noncomputable def zh_seE (F G : Nat → Int) (k rd w v : Int) : Int := if rd = 0 then -11 else zh_if (zh_seB w v) (if F 0 < zh_sf w then -13 else if w = 4 ∨ w = 5 ∨ w = 10 then zh_two G k (zh_sp w (F 0)) else zh_at G k (zh_sp w (F 0))) (-12)
noncomputable def zh_seG (F G : Nat → Int) (k rd w v : Int) : Nat → Int := zh_if (rd ≠ 0 ∧ zh_seB w v ∧ ¬ F 0 < zh_sf w) (if w = 4 ∨ w = 5 ∨ w = 10 then zh_put (zh_put G k (zh_sp w (F 0)) (v / 256)) k (zh_sp w (F 0) + 1) v else zh_put G k (zh_sp w (F 0)) v) G
theorem zh_seG_By {F G : Nat → Int} (hG : zi_By G) (k rd w v : Int) : zi_By (zh_seG F G k rd w v) := by
  unfold zh_seG zh_if
  split
  · split
    · exact zh_put_By (zh_put_By hG _ _ _) _ _ _
    · exact zh_put_By hG _ _ _
  · exact hG
theorem zh_fb_b {G : Nat → Int} (w b : Int) : 0 ≤ zh_fb G w b ∧ zh_fb G w b ≤ 1 := by
  unfold zh_fb
  split <;> omega
