theorem kk_lim98 {x : Int32} (h : kk_lim x 8) : kk_lim x 9 := by
  obtain ⟨k, hk, rfl⟩ := kk_lim_of h (by decide)
  exact ⟨h.1, fun q => by have := (nI_leI (by decide) (by omega)).mp q; omega⟩
theorem kk_lim89 {x : Int32} (h : x = nI 8) : kk_lim x 9 := by
  subst h
  exact ⟨nI_pos (by decide), fun q => by have := (nI_leI (by decide) (by decide)).mp q; omega⟩
theorem kk_lim_n {k n : Nat} (hk : k < n) (hn : n < 2 ^ 31) : kk_lim (nI k) n := ⟨nI_pos (by omega), fun q => by have := (nI_leI hn (by omega)).mp q; omega⟩
