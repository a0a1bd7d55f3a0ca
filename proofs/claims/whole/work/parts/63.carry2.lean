theorem PO_n {n X E q : Nat} {dc ec cc dm em cm : Nat → Int32} (h : PO n dc ec cc dm em cm) (hX : X ≤ n) (he : em q = nI E) (hE : E < 10) (h0 : E = 0) : PO (n + 1) dc ec cc dm em (upd cm q (nI (X + 1))) := fun j hj => by
  obtain ⟨h1, h2, h3, h4, x, h5, h6, h7⟩ := h j hj
  by_cases hjq : j = q
  · subst hjq
    refine ⟨h1, h2, h3, h4, X + 1, by omega, updS0, fun z => ?_⟩
    rw [he, nI_toInt (by omega)] at z
    omega
  · refine ⟨h1, h2, h3, h4, x, by omega, ?_, h7⟩
    unfold upd
    rw [if_neg hjq]
    exact h6
theorem PO_y {n X E q : Nat} {v : Int32} {dc ec cc dm em cm : Nat → Int32} (h : PO n dc ec cc dm em cm) (hX : X ≤ n) (he : em q = nI E) (hE : E < 10) (hv : v = nI ((X + 1) % E)) : PO (n + 1) dc ec (upd cc q v) dm em (upd cm q (nI (X + 1))) := fun j hj => by
  obtain ⟨h1, h2, h3, h4, x, h5, h6, h7⟩ := h j hj
  by_cases hjq : j = q
  · subst hjq
    refine ⟨h1, h2, h3, h4, X + 1, by omega, updS0, fun z => ?_⟩
    rw [updS0, hv, he, nI_toInt (by omega)]
    rfl
  · refine ⟨h1, h2, h3, h4, x, by omega, ?_, ?_⟩
    · unfold upd
      rw [if_neg hjq]
      exact h6
    · unfold upd
      rw [if_neg hjq]
      exact h7
theorem LO_same {nt nth x : Nat} {v : Int32} {lm kd tt : Nat → Int32} (h : LO nt nth lm kd tt) (hn : nt ≤ 6) (hx : x < nth) (h2 : tt x = -4) : LO nt nth lm (upd kd x v) tt := ⟨fun j hj => by
  have h4 : ∀ j, j ≠ x → upd kd x v j = kd j ∧ tt j = tt j := fun j hj => ⟨by unfold upd; exact if_neg hj, rfl⟩
  have cc := (cntT_ch (u := j) h4 nth).2 hx
  have ne4 : ¬ (-4 : Int32) = nI j := fun z => by
    have z2 : (nI j).toInt = (j : Int) := nI_toInt (by omega)
    rw [← z, show ((-4 : Int32)).toInt = -4 by decide] at z2
    omega
  rw [h2, if_neg (show ¬ (kd x = 1 ∧ (-4 : Int32) = nI j) from fun z => ne4 z.2), if_neg (show ¬ (upd kd x v x = 1 ∧ (-4 : Int32) = nI j) from fun z => ne4 z.2)] at cc
  rw [show cntT (upd kd x v) tt j nth = cntT kd tt j nth by omega]
  exact h.1 j hj, fun t ht hk => by
  by_cases htx : t = x
  · rw [htx]; exact h2
  · unfold upd at hk
    rw [if_neg htx] at hk
    exact h.2 t ht hk⟩
