/-! what stays from one word of the script to the next -/
theorem tu_BO.ext {B B' : Nat → Nat → Int} (h : tu_BO B) (e : ∀ f, f < 8 → B' f = B f) : tu_BO B' := by
  unfold tu_BO
  rw [e 0 (by decide), e 1 (by decide), e 2 (by decide), e 3 (by decide), e 4 (by decide), e 5 (by decide), e 6 (by decide), e 7 (by decide)]
  exact h
theorem tu_MB.ext {B B' : Nat → Nat → Int} {N : Nat → Int} (h : tu_MB B N) (e : ∀ f, f < 8 → B' f = B f) : tu_MB B' N := by
  unfold tu_MB
  rw [e 0 (by decide), e 1 (by decide), e 2 (by decide), e 3 (by decide), e 4 (by decide), e 5 (by decide), e 6 (by decide), e 7 (by decide)]
  exact h
/-- the history of the one and of the other -/
def tu_IH (M : tu_M) (H : Nat → Int) : Prop := ∀ i : Nat, (i : Int) < M 0 4 → tu_BO (tu_hb M i) ∧ tu_MB (tu_hb M i) (fun j => H (112 * i + j))
theorem tu_IH.rec {M N : tu_M} {H S : Nat → Int} (h : tu_IH M H) (hO : tu_OK M) (hR : tu_MB (tu_cb M) S) (hr : tu_rec M N) : tu_IH N (tu_mq H S (M 0 4)) := by
  obtain ⟨-, -, -, hc⟩ := hr
  intro i hi
  rcases hc with ⟨c1, c2, c3, c4⟩ | ⟨c1, c2, c3, c4⟩
  · unfold tu_mq
    rw [if_pos c1]
    by_cases q : i < 5
    · have g := h (i + 1) (by omega)
      refine ⟨g.1.ext (c3 i q), (g.2.q g.1 (fun j hj => ?_)).ext (c3 i q)⟩
      rw [tu_ml_at, if_neg (by omega), tu_ml_at, if_pos (by omega)]
      rw [show 112 + (112 * i + j - 0) = 112 * (i + 1) + j by omega]
    · have e5 : i = 5 := by omega
      subst e5
      refine ⟨tu_BO.ext hO c4, (hR.q hO (fun j hj => ?_)).ext c4⟩
      rw [tu_ml_at, if_pos (by omega)]
      rw [show 0 + (112 * 5 + j - 560) = j by omega]
  · unfold tu_mq
    rw [if_neg (by omega)]
    by_cases q : (i : Int) < M 0 4
    · have g := h i q
      refine ⟨g.1.ext (c3 i q), (g.2.q g.1 (fun j hj => ?_)).ext (c3 i q)⟩
      rw [tu_ml_at, if_neg (by omega)]
    · have e5 : i = (M 0 4).toNat := by omega
      subst e5
      refine ⟨tu_BO.ext hO c4, (hR.q hO (fun j hj => ?_)).ext c4⟩
      rw [tu_ml_at, if_pos (by omega)]
      rw [show 0 + (112 * (M 0 4).toNat + j - (M 0 4).toNat * 112) = j by omega]
