theorem zThr_e {hs : List (Int × Int)} {v E t k w : Int} (e : t = k) (h : (E, k) ∈ hs) : zThr hs (v, E) t w := .inr (by
  show (E, t) ∈ hs
  rw [e]
  exact h)
theorem zThr_a {hs : List (Int × Int)} {v t w : Int} (e : t = 0) (h : v = w) : zThr hs (v, 0) t w := .inl ⟨rfl, e, h⟩
