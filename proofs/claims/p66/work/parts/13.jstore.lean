section JST
variable {G : jk_G} {M : jk_M} {pc q : Nat} {ls : List (Option Value)} {st : List Value} {n : Nat} {t : jk_T} {σ : jk_I} {ρ : jk_P} {rc rs : Nat} {Q : jk_Q} {X : jk_X}
abbrev jk_c1 (o : Option Value) : Bool := match o with
  | none => true
  | some v => v.category == 1
theorem jk_re_cat (v : Value) : (jk_re G v).category = v.category := by cases v <;> rfl
theorem jk_Lst {l : List (Nat × Value)} {i : Nat} {v : Value} (h2 : ∀ (i : Nat) (v : Value), ls[i]? = some (some v) → (i, jk_re G v) ∈ l) (hc : ∀ j w, j + 1 = i → ls[j]? = some (some w) → w.category = 1) :
    ∀ (j : Nat) (w : Value), (ls.set i (some v))[j]? = some (some w) → (j, jk_re G w) ∈ ((i, jk_re G v) :: l.filter (fun q => !(q.1 == i) && !(q.1 + 1 == i && q.2.category == 2))) := by
  intro j w hj
  by_cases hji : j = i
  · subst hji
    rw [List.getElem?_set] at hj
    split at hj
    · split at hj
      · cases hj; exact List.mem_cons_self
      · cases hj
    · rename_i hne; exact absurd rfl hne
  · rw [List.getElem?_set_ne (Ne.symm hji)] at hj
    refine List.mem_cons_of_mem _ (List.mem_filter.mpr ⟨h2 j w hj, ?_⟩)
    by_cases h1 : j + 1 = i
    · have := hc j w h1 hj
      simp [hji, jk_re_cat, this]
    · simp [hji, h1]
theorem jk_Lst2 {l : List (Nat × Value)} {i : Nat} {v : Value} (h2 : ∀ (i : Nat) (v : Value), ls[i]? = some (some v) → (i, jk_re G v) ∈ l) (hc : ∀ j w, j + 1 = i → ls[j]? = some (some w) → w.category = 1) :
    ∀ (j : Nat) (w : Value), ((ls.set i (some v)).set (i + 1) none)[j]? = some (some w) → (j, jk_re G w) ∈ ((i, jk_re G v) :: l.filter (fun q => !(q.1 == i) && (!(q.1 == i + 1) && !(q.1 + 1 == i && q.2.category == 2)))) := by
  intro j w hj
  by_cases hj1 : j = i + 1
  · subst hj1
    rw [List.getElem?_set] at hj
    split at hj
    · split at hj <;> cases hj
    · rename_i hne; exact absurd rfl hne
  · rw [List.getElem?_set_ne (Ne.symm hj1)] at hj
    have h3 := jk_Lst (v := v) h2 hc j w hj
    rcases List.mem_cons.mp h3 with h4 | h4
    · exact h4 ▸ List.mem_cons_self
    · obtain ⟨h5, h6⟩ := List.mem_filter.mp h4
      refine List.mem_cons_of_mem _ (List.mem_filter.mpr ⟨h5, ?_⟩)
      simp at h6 ⊢
      exact ⟨h6.1, hj1, h6.2⟩
theorem jk_istore_gn {i : Fin 4} {x : Int} (hd : decode (jk_cc M) pc = .ok (.istore_n i, 1)) (hp : pc + 1 = q) (hn : (i : Nat) < jk_nL M) (hc : ∀ j w, j + 1 = (i : Nat) → ls[j]? = some (some w) → w.category = 1) (k : jk_J G M q (ls.set (i : Nat) (some (jI x))) st n t σ ρ rc rs Q X) : jk_J G M pc ls (jI x :: st) n t σ ρ rc rs Q X := by
  subst hp
  exact jk_mono (fun p e R s m args below meth c H locs cells slots ls' Qf C h kk => by
    obtain ⟨l, h1, h2⟩ := h
    exact lv_istore_n C.1 C.2.1 hd rfl h1 hn rfl (fun ls2 h3 => kk ls2 ⟨_, h3, jk_Lst h2 hc⟩)) k
theorem jk_istore_g {i : Nat} {x : Int} (hd : decode (jk_cc M) pc = .ok (.istore i, 2)) (hp : pc + 2 = q) (hn : i < jk_nL M) (hc : ∀ j w, j + 1 = i → ls[j]? = some (some w) → w.category = 1) (k : jk_J G M q (ls.set i (some (jI x))) st n t σ ρ rc rs Q X) : jk_J G M pc ls (jI x :: st) n t σ ρ rc rs Q X := by
  subst hp
  exact jk_mono (fun p e R s m args below meth c H locs cells slots ls' Qf C h kk => by
    obtain ⟨l, h1, h2⟩ := h
    exact lv_istore C.1 C.2.1 hd h1 hn rfl (fun ls2 h3 => kk ls2 ⟨_, h3, jk_Lst h2 hc⟩)) k
theorem jk_astore_gn {i : Fin 4} {x : Nat} (hd : decode (jk_cc M) pc = .ok (.astore_n i, 1)) (hp : pc + 1 = q) (hn : (i : Nat) < jk_nL M) (hc : ∀ j w, j + 1 = (i : Nat) → ls[j]? = some (some w) → w.category = 1) (k : jk_J G M q (ls.set (i : Nat) (some (.ref x))) st n t σ ρ rc rs Q X) : jk_J G M pc ls (.ref x :: st) n t σ ρ rc rs Q X := by
  subst hp
  exact jk_mono (fun p e R s m args below meth c H locs cells slots ls' Qf C h kk => by
    obtain ⟨l, h1, h2⟩ := h
    exact lv_astore_n C.1 C.2.1 hd rfl h1 hn rfl (fun ls2 h3 => kk ls2 ⟨_, h3, jk_Lst h2 hc⟩)) k
theorem jk_astore_g {i : Nat} {x : Nat} (hd : decode (jk_cc M) pc = .ok (.astore i, 2)) (hp : pc + 2 = q) (hn : i < jk_nL M) (hc : ∀ j w, j + 1 = i → ls[j]? = some (some w) → w.category = 1) (k : jk_J G M q (ls.set i (some (.ref x))) st n t σ ρ rc rs Q X) : jk_J G M pc ls (.ref x :: st) n t σ ρ rc rs Q X := by
  subst hp
  exact jk_mono (fun p e R s m args below meth c H locs cells slots ls' Qf C h kk => by
    obtain ⟨l, h1, h2⟩ := h
    exact lv_astore C.1 C.2.1 hd h1 hn rfl (fun ls2 h3 => kk ls2 ⟨_, h3, jk_Lst h2 hc⟩)) k
theorem jk_aNstore_gn {i : Fin 4}  (hd : decode (jk_cc M) pc = .ok (.astore_n i, 1)) (hp : pc + 1 = q) (hn : (i : Nat) < jk_nL M) (hc : ∀ j w, j + 1 = (i : Nat) → ls[j]? = some (some w) → w.category = 1) (k : jk_J G M q (ls.set (i : Nat) (some (.null))) st n t σ ρ rc rs Q X) : jk_J G M pc ls (.null :: st) n t σ ρ rc rs Q X := by
  subst hp
  exact jk_mono (fun p e R s m args below meth c H locs cells slots ls' Qf C h kk => by
    obtain ⟨l, h1, h2⟩ := h
    exact lv_astore_nN C.1 C.2.1 hd rfl h1 hn rfl (fun ls2 h3 => kk ls2 ⟨_, h3, jk_Lst h2 hc⟩)) k
theorem jk_aNstore_g {i : Nat}  (hd : decode (jk_cc M) pc = .ok (.astore i, 2)) (hp : pc + 2 = q) (hn : i < jk_nL M) (hc : ∀ j w, j + 1 = i → ls[j]? = some (some w) → w.category = 1) (k : jk_J G M q (ls.set i (some (.null))) st n t σ ρ rc rs Q X) : jk_J G M pc ls (.null :: st) n t σ ρ rc rs Q X := by
  subst hp
  exact jk_mono (fun p e R s m args below meth c H locs cells slots ls' Qf C h kk => by
    obtain ⟨l, h1, h2⟩ := h
    exact lv_astoreN C.1 C.2.1 hd h1 hn rfl (fun ls2 h3 => kk ls2 ⟨_, h3, jk_Lst h2 hc⟩)) k
theorem jk_fstore_gn {i : Fin 4} {x : UInt32} (hd : decode (jk_cc M) pc = .ok (.fstore_n i, 1)) (hp : pc + 1 = q) (hn : (i : Nat) < jk_nL M) (hc : ∀ j w, j + 1 = (i : Nat) → ls[j]? = some (some w) → w.category = 1) (k : jk_J G M q (ls.set (i : Nat) (some (.float x))) st n t σ ρ rc rs Q X) : jk_J G M pc ls (.float x :: st) n t σ ρ rc rs Q X := by
  subst hp
  exact jk_mono (fun p e R s m args below meth c H locs cells slots ls' Qf C h kk => by
    obtain ⟨l, h1, h2⟩ := h
    exact lv_fstore_n C.1 C.2.1 hd rfl h1 hn rfl (fun ls2 h3 => kk ls2 ⟨_, h3, jk_Lst h2 hc⟩)) k
theorem jk_fstore_g {i : Nat} {x : UInt32} (hd : decode (jk_cc M) pc = .ok (.fstore i, 2)) (hp : pc + 2 = q) (hn : i < jk_nL M) (hc : ∀ j w, j + 1 = i → ls[j]? = some (some w) → w.category = 1) (k : jk_J G M q (ls.set i (some (.float x))) st n t σ ρ rc rs Q X) : jk_J G M pc ls (.float x :: st) n t σ ρ rc rs Q X := by
  subst hp
  exact jk_mono (fun p e R s m args below meth c H locs cells slots ls' Qf C h kk => by
    obtain ⟨l, h1, h2⟩ := h
    exact lv_fstore C.1 C.2.1 hd h1 hn rfl (fun ls2 h3 => kk ls2 ⟨_, h3, jk_Lst h2 hc⟩)) k
theorem jk_iinc_g {i : Nat} {x y : Int} (hd : decode (jk_cc M) pc = .ok (.iinc i y, 3)) (hp : pc + 3 = q) (hn : i < jk_nL M) (hl : ls[i]? = some (some (jI x))) (hc : ∀ j w, j + 1 = i → ls[j]? = some (some w) → w.category = 1) (k : jk_J G M q (ls.set i (some (jI (x + y)))) st n t σ ρ rc rs Q X) : jk_J G M pc ls st n t σ ρ rc rs Q X := by
  subst hp
  exact jk_mono (fun p e R s m args below meth c H locs cells slots ls' Qf C h kk => by
    obtain ⟨l, h1, h2⟩ := h
    obtain ⟨k0, hk0⟩ := List.getElem?_of_mem (h2 i _ hl)
    exact lv_iinc C.1 C.2.1 hd h1 hk0 (Int32.ofInt_add x y).symm hn rfl (fun ls2 h3 => kk ls2 ⟨_, h3, jk_Lst (v := jI (x + y)) h2 hc⟩)) k
theorem jk_dstore_g {i : Nat} {x : UInt64} (hd : decode (jk_cc M) pc = .ok (.dstore i, 2)) (hp : pc + 2 = q) (hn : i + 1 < jk_nL M) (hc : ∀ j w, j + 1 = i → ls[j]? = some (some w) → w.category = 1) (k : jk_J G M q ((ls.set i (some (.double x))).set (i + 1) none) st n t σ ρ rc rs Q X) : jk_J G M pc ls (.double x :: st) n t σ ρ rc rs Q X := by
  subst hp
  exact jk_mono (fun p e R s m args below meth c H locs cells slots ls' Qf C h kk => by
    obtain ⟨l, h1, h2⟩ := h
    exact lv_dstore C.1 C.2.1 hd h1 hn rfl (fun ls2 h3 => kk ls2 ⟨_, h3, jk_Lst2 h2 hc⟩)) k
theorem jk_cc0 {ls : List (Option Value)} : ∀ (j : Nat) (w : Value), j + 1 = 0 → ls[j]? = some (some w) → w.category = 1 := fun j w h => absurd h (Nat.succ_ne_zero j)
theorem jk_ccS {i : Nat} {ls : List (Option Value)} {a : Option Value} (hi : ls[i]? = some a) (hc : jk_c1 a = true) : ∀ (j : Nat) (w : Value), j + 1 = i + 1 → ls[j]? = some (some w) → w.category = 1 := by
  intro j w hj hw
  have : j = i := by omega
  subst this
  rw [hi] at hw
  cases hw
  exact eq_of_beq hc
theorem jk_istore0 {a0 : Option Value} {tl : List (Option Value)} {x : Int} (hd : decode (jk_cc M) pc = .ok (.istore_n 0, 1)) (hp : pc + 1 = q) (hn : Nat.blt 0 (jk_nL M) = true) (k : jk_J G M q (some (jI x)::tl) st n t σ ρ rc rs Q X) : jk_J G M pc (a0::tl) (jI x :: st) n t σ ρ rc rs Q X :=
  jk_istore_gn (i := 0) hd hp (Nat.blt_eq.mp hn) jk_cc0 k
theorem jk_astore0 {a0 : Option Value} {tl : List (Option Value)} {x : Nat} (hd : decode (jk_cc M) pc = .ok (.astore_n 0, 1)) (hp : pc + 1 = q) (hn : Nat.blt 0 (jk_nL M) = true) (k : jk_J G M q (some (.ref x)::tl) st n t σ ρ rc rs Q X) : jk_J G M pc (a0::tl) (.ref x :: st) n t σ ρ rc rs Q X :=
  jk_astore_gn (i := 0) hd hp (Nat.blt_eq.mp hn) jk_cc0 k
theorem jk_aNstore0 {a0 : Option Value} {tl : List (Option Value)}  (hd : decode (jk_cc M) pc = .ok (.astore_n 0, 1)) (hp : pc + 1 = q) (hn : Nat.blt 0 (jk_nL M) = true) (k : jk_J G M q (some (.null)::tl) st n t σ ρ rc rs Q X) : jk_J G M pc (a0::tl) (.null :: st) n t σ ρ rc rs Q X :=
  jk_aNstore_gn (i := 0) hd hp (Nat.blt_eq.mp hn) jk_cc0 k
theorem jk_fstore0 {a0 : Option Value} {tl : List (Option Value)} {x : UInt32} (hd : decode (jk_cc M) pc = .ok (.fstore_n 0, 1)) (hp : pc + 1 = q) (hn : Nat.blt 0 (jk_nL M) = true) (k : jk_J G M q (some (.float x)::tl) st n t σ ρ rc rs Q X) : jk_J G M pc (a0::tl) (.float x :: st) n t σ ρ rc rs Q X :=
  jk_fstore_gn (i := 0) hd hp (Nat.blt_eq.mp hn) jk_cc0 k
theorem jk_iinc0 {tl : List (Option Value)} {x y : Int} (hd : decode (jk_cc M) pc = .ok (.iinc 0 y, 3)) (hp : pc + 3 = q) (hn : Nat.blt 0 (jk_nL M) = true) (k : jk_J G M q (some (jI (x + y))::tl) st n t σ ρ rc rs Q X) : jk_J G M pc (some (jI x)::tl) st n t σ ρ rc rs Q X :=
  jk_iinc_g (i := 0) hd hp (Nat.blt_eq.mp hn) rfl jk_cc0 k
theorem jk_istore1 {a0 a1 : Option Value} {tl : List (Option Value)} {x : Int} (hd : decode (jk_cc M) pc = .ok (.istore_n 1, 1)) (hp : pc + 1 = q) (hn : Nat.blt 1 (jk_nL M) = true) (hc : jk_c1 a0 = true) (k : jk_J G M q (a0::some (jI x)::tl) st n t σ ρ rc rs Q X) : jk_J G M pc (a0::a1::tl) (jI x :: st) n t σ ρ rc rs Q X :=
  jk_istore_gn (i := 1) hd hp (Nat.blt_eq.mp hn) (jk_ccS rfl hc) k
theorem jk_astore1 {a0 a1 : Option Value} {tl : List (Option Value)} {x : Nat} (hd : decode (jk_cc M) pc = .ok (.astore_n 1, 1)) (hp : pc + 1 = q) (hn : Nat.blt 1 (jk_nL M) = true) (hc : jk_c1 a0 = true) (k : jk_J G M q (a0::some (.ref x)::tl) st n t σ ρ rc rs Q X) : jk_J G M pc (a0::a1::tl) (.ref x :: st) n t σ ρ rc rs Q X :=
  jk_astore_gn (i := 1) hd hp (Nat.blt_eq.mp hn) (jk_ccS rfl hc) k
theorem jk_aNstore1 {a0 a1 : Option Value} {tl : List (Option Value)}  (hd : decode (jk_cc M) pc = .ok (.astore_n 1, 1)) (hp : pc + 1 = q) (hn : Nat.blt 1 (jk_nL M) = true) (hc : jk_c1 a0 = true) (k : jk_J G M q (a0::some (.null)::tl) st n t σ ρ rc rs Q X) : jk_J G M pc (a0::a1::tl) (.null :: st) n t σ ρ rc rs Q X :=
  jk_aNstore_gn (i := 1) hd hp (Nat.blt_eq.mp hn) (jk_ccS rfl hc) k
theorem jk_fstore1 {a0 a1 : Option Value} {tl : List (Option Value)} {x : UInt32} (hd : decode (jk_cc M) pc = .ok (.fstore_n 1, 1)) (hp : pc + 1 = q) (hn : Nat.blt 1 (jk_nL M) = true) (hc : jk_c1 a0 = true) (k : jk_J G M q (a0::some (.float x)::tl) st n t σ ρ rc rs Q X) : jk_J G M pc (a0::a1::tl) (.float x :: st) n t σ ρ rc rs Q X :=
  jk_fstore_gn (i := 1) hd hp (Nat.blt_eq.mp hn) (jk_ccS rfl hc) k
theorem jk_iinc1 {a0 : Option Value} {tl : List (Option Value)} {x y : Int} (hd : decode (jk_cc M) pc = .ok (.iinc 1 y, 3)) (hp : pc + 3 = q) (hn : Nat.blt 1 (jk_nL M) = true) (hc : jk_c1 a0 = true) (k : jk_J G M q (a0::some (jI (x + y))::tl) st n t σ ρ rc rs Q X) : jk_J G M pc (a0::some (jI x)::tl) st n t σ ρ rc rs Q X :=
  jk_iinc_g (i := 1) hd hp (Nat.blt_eq.mp hn) rfl (jk_ccS rfl hc) k
theorem jk_istore2 {a0 a1 a2 : Option Value} {tl : List (Option Value)} {x : Int} (hd : decode (jk_cc M) pc = .ok (.istore_n 2, 1)) (hp : pc + 1 = q) (hn : Nat.blt 2 (jk_nL M) = true) (hc : jk_c1 a1 = true) (k : jk_J G M q (a0::a1::some (jI x)::tl) st n t σ ρ rc rs Q X) : jk_J G M pc (a0::a1::a2::tl) (jI x :: st) n t σ ρ rc rs Q X :=
  jk_istore_gn (i := 2) hd hp (Nat.blt_eq.mp hn) (jk_ccS rfl hc) k
theorem jk_astore2 {a0 a1 a2 : Option Value} {tl : List (Option Value)} {x : Nat} (hd : decode (jk_cc M) pc = .ok (.astore_n 2, 1)) (hp : pc + 1 = q) (hn : Nat.blt 2 (jk_nL M) = true) (hc : jk_c1 a1 = true) (k : jk_J G M q (a0::a1::some (.ref x)::tl) st n t σ ρ rc rs Q X) : jk_J G M pc (a0::a1::a2::tl) (.ref x :: st) n t σ ρ rc rs Q X :=
  jk_astore_gn (i := 2) hd hp (Nat.blt_eq.mp hn) (jk_ccS rfl hc) k
theorem jk_aNstore2 {a0 a1 a2 : Option Value} {tl : List (Option Value)}  (hd : decode (jk_cc M) pc = .ok (.astore_n 2, 1)) (hp : pc + 1 = q) (hn : Nat.blt 2 (jk_nL M) = true) (hc : jk_c1 a1 = true) (k : jk_J G M q (a0::a1::some (.null)::tl) st n t σ ρ rc rs Q X) : jk_J G M pc (a0::a1::a2::tl) (.null :: st) n t σ ρ rc rs Q X :=
  jk_aNstore_gn (i := 2) hd hp (Nat.blt_eq.mp hn) (jk_ccS rfl hc) k
theorem jk_fstore2 {a0 a1 a2 : Option Value} {tl : List (Option Value)} {x : UInt32} (hd : decode (jk_cc M) pc = .ok (.fstore_n 2, 1)) (hp : pc + 1 = q) (hn : Nat.blt 2 (jk_nL M) = true) (hc : jk_c1 a1 = true) (k : jk_J G M q (a0::a1::some (.float x)::tl) st n t σ ρ rc rs Q X) : jk_J G M pc (a0::a1::a2::tl) (.float x :: st) n t σ ρ rc rs Q X :=
  jk_fstore_gn (i := 2) hd hp (Nat.blt_eq.mp hn) (jk_ccS rfl hc) k
theorem jk_iinc2 {a0 a1 : Option Value} {tl : List (Option Value)} {x y : Int} (hd : decode (jk_cc M) pc = .ok (.iinc 2 y, 3)) (hp : pc + 3 = q) (hn : Nat.blt 2 (jk_nL M) = true) (hc : jk_c1 a1 = true) (k : jk_J G M q (a0::a1::some (jI (x + y))::tl) st n t σ ρ rc rs Q X) : jk_J G M pc (a0::a1::some (jI x)::tl) st n t σ ρ rc rs Q X :=
  jk_iinc_g (i := 2) hd hp (Nat.blt_eq.mp hn) rfl (jk_ccS rfl hc) k
theorem jk_istore3 {a0 a1 a2 a3 : Option Value} {tl : List (Option Value)} {x : Int} (hd : decode (jk_cc M) pc = .ok (.istore_n 3, 1)) (hp : pc + 1 = q) (hn : Nat.blt 3 (jk_nL M) = true) (hc : jk_c1 a2 = true) (k : jk_J G M q (a0::a1::a2::some (jI x)::tl) st n t σ ρ rc rs Q X) : jk_J G M pc (a0::a1::a2::a3::tl) (jI x :: st) n t σ ρ rc rs Q X :=
  jk_istore_gn (i := 3) hd hp (Nat.blt_eq.mp hn) (jk_ccS rfl hc) k
theorem jk_astore3 {a0 a1 a2 a3 : Option Value} {tl : List (Option Value)} {x : Nat} (hd : decode (jk_cc M) pc = .ok (.astore_n 3, 1)) (hp : pc + 1 = q) (hn : Nat.blt 3 (jk_nL M) = true) (hc : jk_c1 a2 = true) (k : jk_J G M q (a0::a1::a2::some (.ref x)::tl) st n t σ ρ rc rs Q X) : jk_J G M pc (a0::a1::a2::a3::tl) (.ref x :: st) n t σ ρ rc rs Q X :=
  jk_astore_gn (i := 3) hd hp (Nat.blt_eq.mp hn) (jk_ccS rfl hc) k
theorem jk_aNstore3 {a0 a1 a2 a3 : Option Value} {tl : List (Option Value)}  (hd : decode (jk_cc M) pc = .ok (.astore_n 3, 1)) (hp : pc + 1 = q) (hn : Nat.blt 3 (jk_nL M) = true) (hc : jk_c1 a2 = true) (k : jk_J G M q (a0::a1::a2::some (.null)::tl) st n t σ ρ rc rs Q X) : jk_J G M pc (a0::a1::a2::a3::tl) (.null :: st) n t σ ρ rc rs Q X :=
  jk_aNstore_gn (i := 3) hd hp (Nat.blt_eq.mp hn) (jk_ccS rfl hc) k
theorem jk_fstore3 {a0 a1 a2 a3 : Option Value} {tl : List (Option Value)} {x : UInt32} (hd : decode (jk_cc M) pc = .ok (.fstore_n 3, 1)) (hp : pc + 1 = q) (hn : Nat.blt 3 (jk_nL M) = true) (hc : jk_c1 a2 = true) (k : jk_J G M q (a0::a1::a2::some (.float x)::tl) st n t σ ρ rc rs Q X) : jk_J G M pc (a0::a1::a2::a3::tl) (.float x :: st) n t σ ρ rc rs Q X :=
  jk_fstore_gn (i := 3) hd hp (Nat.blt_eq.mp hn) (jk_ccS rfl hc) k
theorem jk_iinc3 {a0 a1 a2 : Option Value} {tl : List (Option Value)} {x y : Int} (hd : decode (jk_cc M) pc = .ok (.iinc 3 y, 3)) (hp : pc + 3 = q) (hn : Nat.blt 3 (jk_nL M) = true) (hc : jk_c1 a2 = true) (k : jk_J G M q (a0::a1::a2::some (jI (x + y))::tl) st n t σ ρ rc rs Q X) : jk_J G M pc (a0::a1::a2::some (jI x)::tl) st n t σ ρ rc rs Q X :=
  jk_iinc_g (i := 3) hd hp (Nat.blt_eq.mp hn) rfl (jk_ccS rfl hc) k
theorem jk_istore4 {a0 a1 a2 a3 a4 : Option Value} {tl : List (Option Value)} {x : Int} (hd : decode (jk_cc M) pc = .ok (.istore 4, 2)) (hp : pc + 2 = q) (hn : Nat.blt 4 (jk_nL M) = true) (hc : jk_c1 a3 = true) (k : jk_J G M q (a0::a1::a2::a3::some (jI x)::tl) st n t σ ρ rc rs Q X) : jk_J G M pc (a0::a1::a2::a3::a4::tl) (jI x :: st) n t σ ρ rc rs Q X :=
  jk_istore_g (i := 4) hd hp (Nat.blt_eq.mp hn) (jk_ccS rfl hc) k
theorem jk_astore4 {a0 a1 a2 a3 a4 : Option Value} {tl : List (Option Value)} {x : Nat} (hd : decode (jk_cc M) pc = .ok (.astore 4, 2)) (hp : pc + 2 = q) (hn : Nat.blt 4 (jk_nL M) = true) (hc : jk_c1 a3 = true) (k : jk_J G M q (a0::a1::a2::a3::some (.ref x)::tl) st n t σ ρ rc rs Q X) : jk_J G M pc (a0::a1::a2::a3::a4::tl) (.ref x :: st) n t σ ρ rc rs Q X :=
  jk_astore_g (i := 4) hd hp (Nat.blt_eq.mp hn) (jk_ccS rfl hc) k
theorem jk_aNstore4 {a0 a1 a2 a3 a4 : Option Value} {tl : List (Option Value)}  (hd : decode (jk_cc M) pc = .ok (.astore 4, 2)) (hp : pc + 2 = q) (hn : Nat.blt 4 (jk_nL M) = true) (hc : jk_c1 a3 = true) (k : jk_J G M q (a0::a1::a2::a3::some (.null)::tl) st n t σ ρ rc rs Q X) : jk_J G M pc (a0::a1::a2::a3::a4::tl) (.null :: st) n t σ ρ rc rs Q X :=
  jk_aNstore_g (i := 4) hd hp (Nat.blt_eq.mp hn) (jk_ccS rfl hc) k
theorem jk_fstore4 {a0 a1 a2 a3 a4 : Option Value} {tl : List (Option Value)} {x : UInt32} (hd : decode (jk_cc M) pc = .ok (.fstore 4, 2)) (hp : pc + 2 = q) (hn : Nat.blt 4 (jk_nL M) = true) (hc : jk_c1 a3 = true) (k : jk_J G M q (a0::a1::a2::a3::some (.float x)::tl) st n t σ ρ rc rs Q X) : jk_J G M pc (a0::a1::a2::a3::a4::tl) (.float x :: st) n t σ ρ rc rs Q X :=
  jk_fstore_g (i := 4) hd hp (Nat.blt_eq.mp hn) (jk_ccS rfl hc) k
theorem jk_iinc4 {a0 a1 a2 a3 : Option Value} {tl : List (Option Value)} {x y : Int} (hd : decode (jk_cc M) pc = .ok (.iinc 4 y, 3)) (hp : pc + 3 = q) (hn : Nat.blt 4 (jk_nL M) = true) (hc : jk_c1 a3 = true) (k : jk_J G M q (a0::a1::a2::a3::some (jI (x + y))::tl) st n t σ ρ rc rs Q X) : jk_J G M pc (a0::a1::a2::a3::some (jI x)::tl) st n t σ ρ rc rs Q X :=
  jk_iinc_g (i := 4) hd hp (Nat.blt_eq.mp hn) rfl (jk_ccS rfl hc) k
theorem jk_istore5 {a0 a1 a2 a3 a4 a5 : Option Value} {tl : List (Option Value)} {x : Int} (hd : decode (jk_cc M) pc = .ok (.istore 5, 2)) (hp : pc + 2 = q) (hn : Nat.blt 5 (jk_nL M) = true) (hc : jk_c1 a4 = true) (k : jk_J G M q (a0::a1::a2::a3::a4::some (jI x)::tl) st n t σ ρ rc rs Q X) : jk_J G M pc (a0::a1::a2::a3::a4::a5::tl) (jI x :: st) n t σ ρ rc rs Q X :=
  jk_istore_g (i := 5) hd hp (Nat.blt_eq.mp hn) (jk_ccS rfl hc) k
theorem jk_astore5 {a0 a1 a2 a3 a4 a5 : Option Value} {tl : List (Option Value)} {x : Nat} (hd : decode (jk_cc M) pc = .ok (.astore 5, 2)) (hp : pc + 2 = q) (hn : Nat.blt 5 (jk_nL M) = true) (hc : jk_c1 a4 = true) (k : jk_J G M q (a0::a1::a2::a3::a4::some (.ref x)::tl) st n t σ ρ rc rs Q X) : jk_J G M pc (a0::a1::a2::a3::a4::a5::tl) (.ref x :: st) n t σ ρ rc rs Q X :=
  jk_astore_g (i := 5) hd hp (Nat.blt_eq.mp hn) (jk_ccS rfl hc) k
theorem jk_aNstore5 {a0 a1 a2 a3 a4 a5 : Option Value} {tl : List (Option Value)}  (hd : decode (jk_cc M) pc = .ok (.astore 5, 2)) (hp : pc + 2 = q) (hn : Nat.blt 5 (jk_nL M) = true) (hc : jk_c1 a4 = true) (k : jk_J G M q (a0::a1::a2::a3::a4::some (.null)::tl) st n t σ ρ rc rs Q X) : jk_J G M pc (a0::a1::a2::a3::a4::a5::tl) (.null :: st) n t σ ρ rc rs Q X :=
  jk_aNstore_g (i := 5) hd hp (Nat.blt_eq.mp hn) (jk_ccS rfl hc) k
theorem jk_fstore5 {a0 a1 a2 a3 a4 a5 : Option Value} {tl : List (Option Value)} {x : UInt32} (hd : decode (jk_cc M) pc = .ok (.fstore 5, 2)) (hp : pc + 2 = q) (hn : Nat.blt 5 (jk_nL M) = true) (hc : jk_c1 a4 = true) (k : jk_J G M q (a0::a1::a2::a3::a4::some (.float x)::tl) st n t σ ρ rc rs Q X) : jk_J G M pc (a0::a1::a2::a3::a4::a5::tl) (.float x :: st) n t σ ρ rc rs Q X :=
  jk_fstore_g (i := 5) hd hp (Nat.blt_eq.mp hn) (jk_ccS rfl hc) k
theorem jk_iinc5 {a0 a1 a2 a3 a4 : Option Value} {tl : List (Option Value)} {x y : Int} (hd : decode (jk_cc M) pc = .ok (.iinc 5 y, 3)) (hp : pc + 3 = q) (hn : Nat.blt 5 (jk_nL M) = true) (hc : jk_c1 a4 = true) (k : jk_J G M q (a0::a1::a2::a3::a4::some (jI (x + y))::tl) st n t σ ρ rc rs Q X) : jk_J G M pc (a0::a1::a2::a3::a4::some (jI x)::tl) st n t σ ρ rc rs Q X :=
  jk_iinc_g (i := 5) hd hp (Nat.blt_eq.mp hn) rfl (jk_ccS rfl hc) k
theorem jk_istore6 {a0 a1 a2 a3 a4 a5 a6 : Option Value} {tl : List (Option Value)} {x : Int} (hd : decode (jk_cc M) pc = .ok (.istore 6, 2)) (hp : pc + 2 = q) (hn : Nat.blt 6 (jk_nL M) = true) (hc : jk_c1 a5 = true) (k : jk_J G M q (a0::a1::a2::a3::a4::a5::some (jI x)::tl) st n t σ ρ rc rs Q X) : jk_J G M pc (a0::a1::a2::a3::a4::a5::a6::tl) (jI x :: st) n t σ ρ rc rs Q X :=
  jk_istore_g (i := 6) hd hp (Nat.blt_eq.mp hn) (jk_ccS rfl hc) k
theorem jk_astore6 {a0 a1 a2 a3 a4 a5 a6 : Option Value} {tl : List (Option Value)} {x : Nat} (hd : decode (jk_cc M) pc = .ok (.astore 6, 2)) (hp : pc + 2 = q) (hn : Nat.blt 6 (jk_nL M) = true) (hc : jk_c1 a5 = true) (k : jk_J G M q (a0::a1::a2::a3::a4::a5::some (.ref x)::tl) st n t σ ρ rc rs Q X) : jk_J G M pc (a0::a1::a2::a3::a4::a5::a6::tl) (.ref x :: st) n t σ ρ rc rs Q X :=
  jk_astore_g (i := 6) hd hp (Nat.blt_eq.mp hn) (jk_ccS rfl hc) k
theorem jk_aNstore6 {a0 a1 a2 a3 a4 a5 a6 : Option Value} {tl : List (Option Value)}  (hd : decode (jk_cc M) pc = .ok (.astore 6, 2)) (hp : pc + 2 = q) (hn : Nat.blt 6 (jk_nL M) = true) (hc : jk_c1 a5 = true) (k : jk_J G M q (a0::a1::a2::a3::a4::a5::some (.null)::tl) st n t σ ρ rc rs Q X) : jk_J G M pc (a0::a1::a2::a3::a4::a5::a6::tl) (.null :: st) n t σ ρ rc rs Q X :=
  jk_aNstore_g (i := 6) hd hp (Nat.blt_eq.mp hn) (jk_ccS rfl hc) k
theorem jk_fstore6 {a0 a1 a2 a3 a4 a5 a6 : Option Value} {tl : List (Option Value)} {x : UInt32} (hd : decode (jk_cc M) pc = .ok (.fstore 6, 2)) (hp : pc + 2 = q) (hn : Nat.blt 6 (jk_nL M) = true) (hc : jk_c1 a5 = true) (k : jk_J G M q (a0::a1::a2::a3::a4::a5::some (.float x)::tl) st n t σ ρ rc rs Q X) : jk_J G M pc (a0::a1::a2::a3::a4::a5::a6::tl) (.float x :: st) n t σ ρ rc rs Q X :=
  jk_fstore_g (i := 6) hd hp (Nat.blt_eq.mp hn) (jk_ccS rfl hc) k
theorem jk_iinc6 {a0 a1 a2 a3 a4 a5 : Option Value} {tl : List (Option Value)} {x y : Int} (hd : decode (jk_cc M) pc = .ok (.iinc 6 y, 3)) (hp : pc + 3 = q) (hn : Nat.blt 6 (jk_nL M) = true) (hc : jk_c1 a5 = true) (k : jk_J G M q (a0::a1::a2::a3::a4::a5::some (jI (x + y))::tl) st n t σ ρ rc rs Q X) : jk_J G M pc (a0::a1::a2::a3::a4::a5::some (jI x)::tl) st n t σ ρ rc rs Q X :=
  jk_iinc_g (i := 6) hd hp (Nat.blt_eq.mp hn) rfl (jk_ccS rfl hc) k
theorem jk_istore7 {a0 a1 a2 a3 a4 a5 a6 a7 : Option Value} {tl : List (Option Value)} {x : Int} (hd : decode (jk_cc M) pc = .ok (.istore 7, 2)) (hp : pc + 2 = q) (hn : Nat.blt 7 (jk_nL M) = true) (hc : jk_c1 a6 = true) (k : jk_J G M q (a0::a1::a2::a3::a4::a5::a6::some (jI x)::tl) st n t σ ρ rc rs Q X) : jk_J G M pc (a0::a1::a2::a3::a4::a5::a6::a7::tl) (jI x :: st) n t σ ρ rc rs Q X :=
  jk_istore_g (i := 7) hd hp (Nat.blt_eq.mp hn) (jk_ccS rfl hc) k
theorem jk_astore7 {a0 a1 a2 a3 a4 a5 a6 a7 : Option Value} {tl : List (Option Value)} {x : Nat} (hd : decode (jk_cc M) pc = .ok (.astore 7, 2)) (hp : pc + 2 = q) (hn : Nat.blt 7 (jk_nL M) = true) (hc : jk_c1 a6 = true) (k : jk_J G M q (a0::a1::a2::a3::a4::a5::a6::some (.ref x)::tl) st n t σ ρ rc rs Q X) : jk_J G M pc (a0::a1::a2::a3::a4::a5::a6::a7::tl) (.ref x :: st) n t σ ρ rc rs Q X :=
  jk_astore_g (i := 7) hd hp (Nat.blt_eq.mp hn) (jk_ccS rfl hc) k
theorem jk_aNstore7 {a0 a1 a2 a3 a4 a5 a6 a7 : Option Value} {tl : List (Option Value)}  (hd : decode (jk_cc M) pc = .ok (.astore 7, 2)) (hp : pc + 2 = q) (hn : Nat.blt 7 (jk_nL M) = true) (hc : jk_c1 a6 = true) (k : jk_J G M q (a0::a1::a2::a3::a4::a5::a6::some (.null)::tl) st n t σ ρ rc rs Q X) : jk_J G M pc (a0::a1::a2::a3::a4::a5::a6::a7::tl) (.null :: st) n t σ ρ rc rs Q X :=
  jk_aNstore_g (i := 7) hd hp (Nat.blt_eq.mp hn) (jk_ccS rfl hc) k
theorem jk_fstore7 {a0 a1 a2 a3 a4 a5 a6 a7 : Option Value} {tl : List (Option Value)} {x : UInt32} (hd : decode (jk_cc M) pc = .ok (.fstore 7, 2)) (hp : pc + 2 = q) (hn : Nat.blt 7 (jk_nL M) = true) (hc : jk_c1 a6 = true) (k : jk_J G M q (a0::a1::a2::a3::a4::a5::a6::some (.float x)::tl) st n t σ ρ rc rs Q X) : jk_J G M pc (a0::a1::a2::a3::a4::a5::a6::a7::tl) (.float x :: st) n t σ ρ rc rs Q X :=
  jk_fstore_g (i := 7) hd hp (Nat.blt_eq.mp hn) (jk_ccS rfl hc) k
theorem jk_iinc7 {a0 a1 a2 a3 a4 a5 a6 : Option Value} {tl : List (Option Value)} {x y : Int} (hd : decode (jk_cc M) pc = .ok (.iinc 7 y, 3)) (hp : pc + 3 = q) (hn : Nat.blt 7 (jk_nL M) = true) (hc : jk_c1 a6 = true) (k : jk_J G M q (a0::a1::a2::a3::a4::a5::a6::some (jI (x + y))::tl) st n t σ ρ rc rs Q X) : jk_J G M pc (a0::a1::a2::a3::a4::a5::a6::some (jI x)::tl) st n t σ ρ rc rs Q X :=
  jk_iinc_g (i := 7) hd hp (Nat.blt_eq.mp hn) rfl (jk_ccS rfl hc) k
theorem jk_istore8 {a0 a1 a2 a3 a4 a5 a6 a7 a8 : Option Value} {tl : List (Option Value)} {x : Int} (hd : decode (jk_cc M) pc = .ok (.istore 8, 2)) (hp : pc + 2 = q) (hn : Nat.blt 8 (jk_nL M) = true) (hc : jk_c1 a7 = true) (k : jk_J G M q (a0::a1::a2::a3::a4::a5::a6::a7::some (jI x)::tl) st n t σ ρ rc rs Q X) : jk_J G M pc (a0::a1::a2::a3::a4::a5::a6::a7::a8::tl) (jI x :: st) n t σ ρ rc rs Q X :=
  jk_istore_g (i := 8) hd hp (Nat.blt_eq.mp hn) (jk_ccS rfl hc) k
theorem jk_astore8 {a0 a1 a2 a3 a4 a5 a6 a7 a8 : Option Value} {tl : List (Option Value)} {x : Nat} (hd : decode (jk_cc M) pc = .ok (.astore 8, 2)) (hp : pc + 2 = q) (hn : Nat.blt 8 (jk_nL M) = true) (hc : jk_c1 a7 = true) (k : jk_J G M q (a0::a1::a2::a3::a4::a5::a6::a7::some (.ref x)::tl) st n t σ ρ rc rs Q X) : jk_J G M pc (a0::a1::a2::a3::a4::a5::a6::a7::a8::tl) (.ref x :: st) n t σ ρ rc rs Q X :=
  jk_astore_g (i := 8) hd hp (Nat.blt_eq.mp hn) (jk_ccS rfl hc) k
theorem jk_aNstore8 {a0 a1 a2 a3 a4 a5 a6 a7 a8 : Option Value} {tl : List (Option Value)}  (hd : decode (jk_cc M) pc = .ok (.astore 8, 2)) (hp : pc + 2 = q) (hn : Nat.blt 8 (jk_nL M) = true) (hc : jk_c1 a7 = true) (k : jk_J G M q (a0::a1::a2::a3::a4::a5::a6::a7::some (.null)::tl) st n t σ ρ rc rs Q X) : jk_J G M pc (a0::a1::a2::a3::a4::a5::a6::a7::a8::tl) (.null :: st) n t σ ρ rc rs Q X :=
  jk_aNstore_g (i := 8) hd hp (Nat.blt_eq.mp hn) (jk_ccS rfl hc) k
theorem jk_fstore8 {a0 a1 a2 a3 a4 a5 a6 a7 a8 : Option Value} {tl : List (Option Value)} {x : UInt32} (hd : decode (jk_cc M) pc = .ok (.fstore 8, 2)) (hp : pc + 2 = q) (hn : Nat.blt 8 (jk_nL M) = true) (hc : jk_c1 a7 = true) (k : jk_J G M q (a0::a1::a2::a3::a4::a5::a6::a7::some (.float x)::tl) st n t σ ρ rc rs Q X) : jk_J G M pc (a0::a1::a2::a3::a4::a5::a6::a7::a8::tl) (.float x :: st) n t σ ρ rc rs Q X :=
  jk_fstore_g (i := 8) hd hp (Nat.blt_eq.mp hn) (jk_ccS rfl hc) k
theorem jk_iinc8 {a0 a1 a2 a3 a4 a5 a6 a7 : Option Value} {tl : List (Option Value)} {x y : Int} (hd : decode (jk_cc M) pc = .ok (.iinc 8 y, 3)) (hp : pc + 3 = q) (hn : Nat.blt 8 (jk_nL M) = true) (hc : jk_c1 a7 = true) (k : jk_J G M q (a0::a1::a2::a3::a4::a5::a6::a7::some (jI (x + y))::tl) st n t σ ρ rc rs Q X) : jk_J G M pc (a0::a1::a2::a3::a4::a5::a6::a7::some (jI x)::tl) st n t σ ρ rc rs Q X :=
  jk_iinc_g (i := 8) hd hp (Nat.blt_eq.mp hn) rfl (jk_ccS rfl hc) k
theorem jk_istore9 {a0 a1 a2 a3 a4 a5 a6 a7 a8 a9 : Option Value} {tl : List (Option Value)} {x : Int} (hd : decode (jk_cc M) pc = .ok (.istore 9, 2)) (hp : pc + 2 = q) (hn : Nat.blt 9 (jk_nL M) = true) (hc : jk_c1 a8 = true) (k : jk_J G M q (a0::a1::a2::a3::a4::a5::a6::a7::a8::some (jI x)::tl) st n t σ ρ rc rs Q X) : jk_J G M pc (a0::a1::a2::a3::a4::a5::a6::a7::a8::a9::tl) (jI x :: st) n t σ ρ rc rs Q X :=
  jk_istore_g (i := 9) hd hp (Nat.blt_eq.mp hn) (jk_ccS rfl hc) k
theorem jk_astore9 {a0 a1 a2 a3 a4 a5 a6 a7 a8 a9 : Option Value} {tl : List (Option Value)} {x : Nat} (hd : decode (jk_cc M) pc = .ok (.astore 9, 2)) (hp : pc + 2 = q) (hn : Nat.blt 9 (jk_nL M) = true) (hc : jk_c1 a8 = true) (k : jk_J G M q (a0::a1::a2::a3::a4::a5::a6::a7::a8::some (.ref x)::tl) st n t σ ρ rc rs Q X) : jk_J G M pc (a0::a1::a2::a3::a4::a5::a6::a7::a8::a9::tl) (.ref x :: st) n t σ ρ rc rs Q X :=
  jk_astore_g (i := 9) hd hp (Nat.blt_eq.mp hn) (jk_ccS rfl hc) k
theorem jk_aNstore9 {a0 a1 a2 a3 a4 a5 a6 a7 a8 a9 : Option Value} {tl : List (Option Value)}  (hd : decode (jk_cc M) pc = .ok (.astore 9, 2)) (hp : pc + 2 = q) (hn : Nat.blt 9 (jk_nL M) = true) (hc : jk_c1 a8 = true) (k : jk_J G M q (a0::a1::a2::a3::a4::a5::a6::a7::a8::some (.null)::tl) st n t σ ρ rc rs Q X) : jk_J G M pc (a0::a1::a2::a3::a4::a5::a6::a7::a8::a9::tl) (.null :: st) n t σ ρ rc rs Q X :=
  jk_aNstore_g (i := 9) hd hp (Nat.blt_eq.mp hn) (jk_ccS rfl hc) k
theorem jk_fstore9 {a0 a1 a2 a3 a4 a5 a6 a7 a8 a9 : Option Value} {tl : List (Option Value)} {x : UInt32} (hd : decode (jk_cc M) pc = .ok (.fstore 9, 2)) (hp : pc + 2 = q) (hn : Nat.blt 9 (jk_nL M) = true) (hc : jk_c1 a8 = true) (k : jk_J G M q (a0::a1::a2::a3::a4::a5::a6::a7::a8::some (.float x)::tl) st n t σ ρ rc rs Q X) : jk_J G M pc (a0::a1::a2::a3::a4::a5::a6::a7::a8::a9::tl) (.float x :: st) n t σ ρ rc rs Q X :=
  jk_fstore_g (i := 9) hd hp (Nat.blt_eq.mp hn) (jk_ccS rfl hc) k
theorem jk_iinc9 {a0 a1 a2 a3 a4 a5 a6 a7 a8 : Option Value} {tl : List (Option Value)} {x y : Int} (hd : decode (jk_cc M) pc = .ok (.iinc 9 y, 3)) (hp : pc + 3 = q) (hn : Nat.blt 9 (jk_nL M) = true) (hc : jk_c1 a8 = true) (k : jk_J G M q (a0::a1::a2::a3::a4::a5::a6::a7::a8::some (jI (x + y))::tl) st n t σ ρ rc rs Q X) : jk_J G M pc (a0::a1::a2::a3::a4::a5::a6::a7::a8::some (jI x)::tl) st n t σ ρ rc rs Q X :=
  jk_iinc_g (i := 9) hd hp (Nat.blt_eq.mp hn) rfl (jk_ccS rfl hc) k
theorem jk_istore10 {a0 a1 a2 a3 a4 a5 a6 a7 a8 a9 a10 : Option Value} {tl : List (Option Value)} {x : Int} (hd : decode (jk_cc M) pc = .ok (.istore 10, 2)) (hp : pc + 2 = q) (hn : Nat.blt 10 (jk_nL M) = true) (hc : jk_c1 a9 = true) (k : jk_J G M q (a0::a1::a2::a3::a4::a5::a6::a7::a8::a9::some (jI x)::tl) st n t σ ρ rc rs Q X) : jk_J G M pc (a0::a1::a2::a3::a4::a5::a6::a7::a8::a9::a10::tl) (jI x :: st) n t σ ρ rc rs Q X :=
  jk_istore_g (i := 10) hd hp (Nat.blt_eq.mp hn) (jk_ccS rfl hc) k
theorem jk_astore10 {a0 a1 a2 a3 a4 a5 a6 a7 a8 a9 a10 : Option Value} {tl : List (Option Value)} {x : Nat} (hd : decode (jk_cc M) pc = .ok (.astore 10, 2)) (hp : pc + 2 = q) (hn : Nat.blt 10 (jk_nL M) = true) (hc : jk_c1 a9 = true) (k : jk_J G M q (a0::a1::a2::a3::a4::a5::a6::a7::a8::a9::some (.ref x)::tl) st n t σ ρ rc rs Q X) : jk_J G M pc (a0::a1::a2::a3::a4::a5::a6::a7::a8::a9::a10::tl) (.ref x :: st) n t σ ρ rc rs Q X :=
  jk_astore_g (i := 10) hd hp (Nat.blt_eq.mp hn) (jk_ccS rfl hc) k
theorem jk_aNstore10 {a0 a1 a2 a3 a4 a5 a6 a7 a8 a9 a10 : Option Value} {tl : List (Option Value)}  (hd : decode (jk_cc M) pc = .ok (.astore 10, 2)) (hp : pc + 2 = q) (hn : Nat.blt 10 (jk_nL M) = true) (hc : jk_c1 a9 = true) (k : jk_J G M q (a0::a1::a2::a3::a4::a5::a6::a7::a8::a9::some (.null)::tl) st n t σ ρ rc rs Q X) : jk_J G M pc (a0::a1::a2::a3::a4::a5::a6::a7::a8::a9::a10::tl) (.null :: st) n t σ ρ rc rs Q X :=
  jk_aNstore_g (i := 10) hd hp (Nat.blt_eq.mp hn) (jk_ccS rfl hc) k
theorem jk_fstore10 {a0 a1 a2 a3 a4 a5 a6 a7 a8 a9 a10 : Option Value} {tl : List (Option Value)} {x : UInt32} (hd : decode (jk_cc M) pc = .ok (.fstore 10, 2)) (hp : pc + 2 = q) (hn : Nat.blt 10 (jk_nL M) = true) (hc : jk_c1 a9 = true) (k : jk_J G M q (a0::a1::a2::a3::a4::a5::a6::a7::a8::a9::some (.float x)::tl) st n t σ ρ rc rs Q X) : jk_J G M pc (a0::a1::a2::a3::a4::a5::a6::a7::a8::a9::a10::tl) (.float x :: st) n t σ ρ rc rs Q X :=
  jk_fstore_g (i := 10) hd hp (Nat.blt_eq.mp hn) (jk_ccS rfl hc) k
theorem jk_iinc10 {a0 a1 a2 a3 a4 a5 a6 a7 a8 a9 : Option Value} {tl : List (Option Value)} {x y : Int} (hd : decode (jk_cc M) pc = .ok (.iinc 10 y, 3)) (hp : pc + 3 = q) (hn : Nat.blt 10 (jk_nL M) = true) (hc : jk_c1 a9 = true) (k : jk_J G M q (a0::a1::a2::a3::a4::a5::a6::a7::a8::a9::some (jI (x + y))::tl) st n t σ ρ rc rs Q X) : jk_J G M pc (a0::a1::a2::a3::a4::a5::a6::a7::a8::a9::some (jI x)::tl) st n t σ ρ rc rs Q X :=
  jk_iinc_g (i := 10) hd hp (Nat.blt_eq.mp hn) rfl (jk_ccS rfl hc) k
theorem jk_istore11 {a0 a1 a2 a3 a4 a5 a6 a7 a8 a9 a10 a11 : Option Value} {tl : List (Option Value)} {x : Int} (hd : decode (jk_cc M) pc = .ok (.istore 11, 2)) (hp : pc + 2 = q) (hn : Nat.blt 11 (jk_nL M) = true) (hc : jk_c1 a10 = true) (k : jk_J G M q (a0::a1::a2::a3::a4::a5::a6::a7::a8::a9::a10::some (jI x)::tl) st n t σ ρ rc rs Q X) : jk_J G M pc (a0::a1::a2::a3::a4::a5::a6::a7::a8::a9::a10::a11::tl) (jI x :: st) n t σ ρ rc rs Q X :=
  jk_istore_g (i := 11) hd hp (Nat.blt_eq.mp hn) (jk_ccS rfl hc) k
theorem jk_astore11 {a0 a1 a2 a3 a4 a5 a6 a7 a8 a9 a10 a11 : Option Value} {tl : List (Option Value)} {x : Nat} (hd : decode (jk_cc M) pc = .ok (.astore 11, 2)) (hp : pc + 2 = q) (hn : Nat.blt 11 (jk_nL M) = true) (hc : jk_c1 a10 = true) (k : jk_J G M q (a0::a1::a2::a3::a4::a5::a6::a7::a8::a9::a10::some (.ref x)::tl) st n t σ ρ rc rs Q X) : jk_J G M pc (a0::a1::a2::a3::a4::a5::a6::a7::a8::a9::a10::a11::tl) (.ref x :: st) n t σ ρ rc rs Q X :=
  jk_astore_g (i := 11) hd hp (Nat.blt_eq.mp hn) (jk_ccS rfl hc) k
theorem jk_aNstore11 {a0 a1 a2 a3 a4 a5 a6 a7 a8 a9 a10 a11 : Option Value} {tl : List (Option Value)}  (hd : decode (jk_cc M) pc = .ok (.astore 11, 2)) (hp : pc + 2 = q) (hn : Nat.blt 11 (jk_nL M) = true) (hc : jk_c1 a10 = true) (k : jk_J G M q (a0::a1::a2::a3::a4::a5::a6::a7::a8::a9::a10::some (.null)::tl) st n t σ ρ rc rs Q X) : jk_J G M pc (a0::a1::a2::a3::a4::a5::a6::a7::a8::a9::a10::a11::tl) (.null :: st) n t σ ρ rc rs Q X :=
  jk_aNstore_g (i := 11) hd hp (Nat.blt_eq.mp hn) (jk_ccS rfl hc) k
theorem jk_fstore11 {a0 a1 a2 a3 a4 a5 a6 a7 a8 a9 a10 a11 : Option Value} {tl : List (Option Value)} {x : UInt32} (hd : decode (jk_cc M) pc = .ok (.fstore 11, 2)) (hp : pc + 2 = q) (hn : Nat.blt 11 (jk_nL M) = true) (hc : jk_c1 a10 = true) (k : jk_J G M q (a0::a1::a2::a3::a4::a5::a6::a7::a8::a9::a10::some (.float x)::tl) st n t σ ρ rc rs Q X) : jk_J G M pc (a0::a1::a2::a3::a4::a5::a6::a7::a8::a9::a10::a11::tl) (.float x :: st) n t σ ρ rc rs Q X :=
  jk_fstore_g (i := 11) hd hp (Nat.blt_eq.mp hn) (jk_ccS rfl hc) k
theorem jk_iinc11 {a0 a1 a2 a3 a4 a5 a6 a7 a8 a9 a10 : Option Value} {tl : List (Option Value)} {x y : Int} (hd : decode (jk_cc M) pc = .ok (.iinc 11 y, 3)) (hp : pc + 3 = q) (hn : Nat.blt 11 (jk_nL M) = true) (hc : jk_c1 a10 = true) (k : jk_J G M q (a0::a1::a2::a3::a4::a5::a6::a7::a8::a9::a10::some (jI (x + y))::tl) st n t σ ρ rc rs Q X) : jk_J G M pc (a0::a1::a2::a3::a4::a5::a6::a7::a8::a9::a10::some (jI x)::tl) st n t σ ρ rc rs Q X :=
  jk_iinc_g (i := 11) hd hp (Nat.blt_eq.mp hn) rfl (jk_ccS rfl hc) k
theorem jk_istore12 {a0 a1 a2 a3 a4 a5 a6 a7 a8 a9 a10 a11 a12 : Option Value} {tl : List (Option Value)} {x : Int} (hd : decode (jk_cc M) pc = .ok (.istore 12, 2)) (hp : pc + 2 = q) (hn : Nat.blt 12 (jk_nL M) = true) (hc : jk_c1 a11 = true) (k : jk_J G M q (a0::a1::a2::a3::a4::a5::a6::a7::a8::a9::a10::a11::some (jI x)::tl) st n t σ ρ rc rs Q X) : jk_J G M pc (a0::a1::a2::a3::a4::a5::a6::a7::a8::a9::a10::a11::a12::tl) (jI x :: st) n t σ ρ rc rs Q X :=
  jk_istore_g (i := 12) hd hp (Nat.blt_eq.mp hn) (jk_ccS rfl hc) k
theorem jk_astore12 {a0 a1 a2 a3 a4 a5 a6 a7 a8 a9 a10 a11 a12 : Option Value} {tl : List (Option Value)} {x : Nat} (hd : decode (jk_cc M) pc = .ok (.astore 12, 2)) (hp : pc + 2 = q) (hn : Nat.blt 12 (jk_nL M) = true) (hc : jk_c1 a11 = true) (k : jk_J G M q (a0::a1::a2::a3::a4::a5::a6::a7::a8::a9::a10::a11::some (.ref x)::tl) st n t σ ρ rc rs Q X) : jk_J G M pc (a0::a1::a2::a3::a4::a5::a6::a7::a8::a9::a10::a11::a12::tl) (.ref x :: st) n t σ ρ rc rs Q X :=
  jk_astore_g (i := 12) hd hp (Nat.blt_eq.mp hn) (jk_ccS rfl hc) k
theorem jk_aNstore12 {a0 a1 a2 a3 a4 a5 a6 a7 a8 a9 a10 a11 a12 : Option Value} {tl : List (Option Value)}  (hd : decode (jk_cc M) pc = .ok (.astore 12, 2)) (hp : pc + 2 = q) (hn : Nat.blt 12 (jk_nL M) = true) (hc : jk_c1 a11 = true) (k : jk_J G M q (a0::a1::a2::a3::a4::a5::a6::a7::a8::a9::a10::a11::some (.null)::tl) st n t σ ρ rc rs Q X) : jk_J G M pc (a0::a1::a2::a3::a4::a5::a6::a7::a8::a9::a10::a11::a12::tl) (.null :: st) n t σ ρ rc rs Q X :=
  jk_aNstore_g (i := 12) hd hp (Nat.blt_eq.mp hn) (jk_ccS rfl hc) k
theorem jk_fstore12 {a0 a1 a2 a3 a4 a5 a6 a7 a8 a9 a10 a11 a12 : Option Value} {tl : List (Option Value)} {x : UInt32} (hd : decode (jk_cc M) pc = .ok (.fstore 12, 2)) (hp : pc + 2 = q) (hn : Nat.blt 12 (jk_nL M) = true) (hc : jk_c1 a11 = true) (k : jk_J G M q (a0::a1::a2::a3::a4::a5::a6::a7::a8::a9::a10::a11::some (.float x)::tl) st n t σ ρ rc rs Q X) : jk_J G M pc (a0::a1::a2::a3::a4::a5::a6::a7::a8::a9::a10::a11::a12::tl) (.float x :: st) n t σ ρ rc rs Q X :=
  jk_fstore_g (i := 12) hd hp (Nat.blt_eq.mp hn) (jk_ccS rfl hc) k
theorem jk_iinc12 {a0 a1 a2 a3 a4 a5 a6 a7 a8 a9 a10 a11 : Option Value} {tl : List (Option Value)} {x y : Int} (hd : decode (jk_cc M) pc = .ok (.iinc 12 y, 3)) (hp : pc + 3 = q) (hn : Nat.blt 12 (jk_nL M) = true) (hc : jk_c1 a11 = true) (k : jk_J G M q (a0::a1::a2::a3::a4::a5::a6::a7::a8::a9::a10::a11::some (jI (x + y))::tl) st n t σ ρ rc rs Q X) : jk_J G M pc (a0::a1::a2::a3::a4::a5::a6::a7::a8::a9::a10::a11::some (jI x)::tl) st n t σ ρ rc rs Q X :=
  jk_iinc_g (i := 12) hd hp (Nat.blt_eq.mp hn) rfl (jk_ccS rfl hc) k
theorem jk_istore13 {a0 a1 a2 a3 a4 a5 a6 a7 a8 a9 a10 a11 a12 a13 : Option Value} {tl : List (Option Value)} {x : Int} (hd : decode (jk_cc M) pc = .ok (.istore 13, 2)) (hp : pc + 2 = q) (hn : Nat.blt 13 (jk_nL M) = true) (hc : jk_c1 a12 = true) (k : jk_J G M q (a0::a1::a2::a3::a4::a5::a6::a7::a8::a9::a10::a11::a12::some (jI x)::tl) st n t σ ρ rc rs Q X) : jk_J G M pc (a0::a1::a2::a3::a4::a5::a6::a7::a8::a9::a10::a11::a12::a13::tl) (jI x :: st) n t σ ρ rc rs Q X :=
  jk_istore_g (i := 13) hd hp (Nat.blt_eq.mp hn) (jk_ccS rfl hc) k
theorem jk_astore13 {a0 a1 a2 a3 a4 a5 a6 a7 a8 a9 a10 a11 a12 a13 : Option Value} {tl : List (Option Value)} {x : Nat} (hd : decode (jk_cc M) pc = .ok (.astore 13, 2)) (hp : pc + 2 = q) (hn : Nat.blt 13 (jk_nL M) = true) (hc : jk_c1 a12 = true) (k : jk_J G M q (a0::a1::a2::a3::a4::a5::a6::a7::a8::a9::a10::a11::a12::some (.ref x)::tl) st n t σ ρ rc rs Q X) : jk_J G M pc (a0::a1::a2::a3::a4::a5::a6::a7::a8::a9::a10::a11::a12::a13::tl) (.ref x :: st) n t σ ρ rc rs Q X :=
  jk_astore_g (i := 13) hd hp (Nat.blt_eq.mp hn) (jk_ccS rfl hc) k
theorem jk_aNstore13 {a0 a1 a2 a3 a4 a5 a6 a7 a8 a9 a10 a11 a12 a13 : Option Value} {tl : List (Option Value)}  (hd : decode (jk_cc M) pc = .ok (.astore 13, 2)) (hp : pc + 2 = q) (hn : Nat.blt 13 (jk_nL M) = true) (hc : jk_c1 a12 = true) (k : jk_J G M q (a0::a1::a2::a3::a4::a5::a6::a7::a8::a9::a10::a11::a12::some (.null)::tl) st n t σ ρ rc rs Q X) : jk_J G M pc (a0::a1::a2::a3::a4::a5::a6::a7::a8::a9::a10::a11::a12::a13::tl) (.null :: st) n t σ ρ rc rs Q X :=
  jk_aNstore_g (i := 13) hd hp (Nat.blt_eq.mp hn) (jk_ccS rfl hc) k
theorem jk_iinc13 {a0 a1 a2 a3 a4 a5 a6 a7 a8 a9 a10 a11 a12 : Option Value} {tl : List (Option Value)} {x y : Int} (hd : decode (jk_cc M) pc = .ok (.iinc 13 y, 3)) (hp : pc + 3 = q) (hn : Nat.blt 13 (jk_nL M) = true) (hc : jk_c1 a12 = true) (k : jk_J G M q (a0::a1::a2::a3::a4::a5::a6::a7::a8::a9::a10::a11::a12::some (jI (x + y))::tl) st n t σ ρ rc rs Q X) : jk_J G M pc (a0::a1::a2::a3::a4::a5::a6::a7::a8::a9::a10::a11::a12::some (jI x)::tl) st n t σ ρ rc rs Q X :=
  jk_iinc_g (i := 13) hd hp (Nat.blt_eq.mp hn) rfl (jk_ccS rfl hc) k
theorem jk_istore14 {a0 a1 a2 a3 a4 a5 a6 a7 a8 a9 a10 a11 a12 a13 a14 : Option Value} {tl : List (Option Value)} {x : Int} (hd : decode (jk_cc M) pc = .ok (.istore 14, 2)) (hp : pc + 2 = q) (hn : Nat.blt 14 (jk_nL M) = true) (hc : jk_c1 a13 = true) (k : jk_J G M q (a0::a1::a2::a3::a4::a5::a6::a7::a8::a9::a10::a11::a12::a13::some (jI x)::tl) st n t σ ρ rc rs Q X) : jk_J G M pc (a0::a1::a2::a3::a4::a5::a6::a7::a8::a9::a10::a11::a12::a13::a14::tl) (jI x :: st) n t σ ρ rc rs Q X :=
  jk_istore_g (i := 14) hd hp (Nat.blt_eq.mp hn) (jk_ccS rfl hc) k
theorem jk_astore14 {a0 a1 a2 a3 a4 a5 a6 a7 a8 a9 a10 a11 a12 a13 a14 : Option Value} {tl : List (Option Value)} {x : Nat} (hd : decode (jk_cc M) pc = .ok (.astore 14, 2)) (hp : pc + 2 = q) (hn : Nat.blt 14 (jk_nL M) = true) (hc : jk_c1 a13 = true) (k : jk_J G M q (a0::a1::a2::a3::a4::a5::a6::a7::a8::a9::a10::a11::a12::a13::some (.ref x)::tl) st n t σ ρ rc rs Q X) : jk_J G M pc (a0::a1::a2::a3::a4::a5::a6::a7::a8::a9::a10::a11::a12::a13::a14::tl) (.ref x :: st) n t σ ρ rc rs Q X :=
  jk_astore_g (i := 14) hd hp (Nat.blt_eq.mp hn) (jk_ccS rfl hc) k
theorem jk_aNstore14 {a0 a1 a2 a3 a4 a5 a6 a7 a8 a9 a10 a11 a12 a13 a14 : Option Value} {tl : List (Option Value)}  (hd : decode (jk_cc M) pc = .ok (.astore 14, 2)) (hp : pc + 2 = q) (hn : Nat.blt 14 (jk_nL M) = true) (hc : jk_c1 a13 = true) (k : jk_J G M q (a0::a1::a2::a3::a4::a5::a6::a7::a8::a9::a10::a11::a12::a13::some (.null)::tl) st n t σ ρ rc rs Q X) : jk_J G M pc (a0::a1::a2::a3::a4::a5::a6::a7::a8::a9::a10::a11::a12::a13::a14::tl) (.null :: st) n t σ ρ rc rs Q X :=
  jk_aNstore_g (i := 14) hd hp (Nat.blt_eq.mp hn) (jk_ccS rfl hc) k
theorem jk_iinc14 {a0 a1 a2 a3 a4 a5 a6 a7 a8 a9 a10 a11 a12 a13 : Option Value} {tl : List (Option Value)} {x y : Int} (hd : decode (jk_cc M) pc = .ok (.iinc 14 y, 3)) (hp : pc + 3 = q) (hn : Nat.blt 14 (jk_nL M) = true) (hc : jk_c1 a13 = true) (k : jk_J G M q (a0::a1::a2::a3::a4::a5::a6::a7::a8::a9::a10::a11::a12::a13::some (jI (x + y))::tl) st n t σ ρ rc rs Q X) : jk_J G M pc (a0::a1::a2::a3::a4::a5::a6::a7::a8::a9::a10::a11::a12::a13::some (jI x)::tl) st n t σ ρ rc rs Q X :=
  jk_iinc_g (i := 14) hd hp (Nat.blt_eq.mp hn) rfl (jk_ccS rfl hc) k
theorem jk_istore15 {a0 a1 a2 a3 a4 a5 a6 a7 a8 a9 a10 a11 a12 a13 a14 a15 : Option Value} {tl : List (Option Value)} {x : Int} (hd : decode (jk_cc M) pc = .ok (.istore 15, 2)) (hp : pc + 2 = q) (hn : Nat.blt 15 (jk_nL M) = true) (hc : jk_c1 a14 = true) (k : jk_J G M q (a0::a1::a2::a3::a4::a5::a6::a7::a8::a9::a10::a11::a12::a13::a14::some (jI x)::tl) st n t σ ρ rc rs Q X) : jk_J G M pc (a0::a1::a2::a3::a4::a5::a6::a7::a8::a9::a10::a11::a12::a13::a14::a15::tl) (jI x :: st) n t σ ρ rc rs Q X :=
  jk_istore_g (i := 15) hd hp (Nat.blt_eq.mp hn) (jk_ccS rfl hc) k
theorem jk_astore15 {a0 a1 a2 a3 a4 a5 a6 a7 a8 a9 a10 a11 a12 a13 a14 a15 : Option Value} {tl : List (Option Value)} {x : Nat} (hd : decode (jk_cc M) pc = .ok (.astore 15, 2)) (hp : pc + 2 = q) (hn : Nat.blt 15 (jk_nL M) = true) (hc : jk_c1 a14 = true) (k : jk_J G M q (a0::a1::a2::a3::a4::a5::a6::a7::a8::a9::a10::a11::a12::a13::a14::some (.ref x)::tl) st n t σ ρ rc rs Q X) : jk_J G M pc (a0::a1::a2::a3::a4::a5::a6::a7::a8::a9::a10::a11::a12::a13::a14::a15::tl) (.ref x :: st) n t σ ρ rc rs Q X :=
  jk_astore_g (i := 15) hd hp (Nat.blt_eq.mp hn) (jk_ccS rfl hc) k
theorem jk_aNstore15 {a0 a1 a2 a3 a4 a5 a6 a7 a8 a9 a10 a11 a12 a13 a14 a15 : Option Value} {tl : List (Option Value)}  (hd : decode (jk_cc M) pc = .ok (.astore 15, 2)) (hp : pc + 2 = q) (hn : Nat.blt 15 (jk_nL M) = true) (hc : jk_c1 a14 = true) (k : jk_J G M q (a0::a1::a2::a3::a4::a5::a6::a7::a8::a9::a10::a11::a12::a13::a14::some (.null)::tl) st n t σ ρ rc rs Q X) : jk_J G M pc (a0::a1::a2::a3::a4::a5::a6::a7::a8::a9::a10::a11::a12::a13::a14::a15::tl) (.null :: st) n t σ ρ rc rs Q X :=
  jk_aNstore_g (i := 15) hd hp (Nat.blt_eq.mp hn) (jk_ccS rfl hc) k
theorem jk_iinc15 {a0 a1 a2 a3 a4 a5 a6 a7 a8 a9 a10 a11 a12 a13 a14 : Option Value} {tl : List (Option Value)} {x y : Int} (hd : decode (jk_cc M) pc = .ok (.iinc 15 y, 3)) (hp : pc + 3 = q) (hn : Nat.blt 15 (jk_nL M) = true) (hc : jk_c1 a14 = true) (k : jk_J G M q (a0::a1::a2::a3::a4::a5::a6::a7::a8::a9::a10::a11::a12::a13::a14::some (jI (x + y))::tl) st n t σ ρ rc rs Q X) : jk_J G M pc (a0::a1::a2::a3::a4::a5::a6::a7::a8::a9::a10::a11::a12::a13::a14::some (jI x)::tl) st n t σ ρ rc rs Q X :=
  jk_iinc_g (i := 15) hd hp (Nat.blt_eq.mp hn) rfl (jk_ccS rfl hc) k
theorem jk_istore16 {a0 a1 a2 a3 a4 a5 a6 a7 a8 a9 a10 a11 a12 a13 a14 a15 a16 : Option Value} {tl : List (Option Value)} {x : Int} (hd : decode (jk_cc M) pc = .ok (.istore 16, 2)) (hp : pc + 2 = q) (hn : Nat.blt 16 (jk_nL M) = true) (hc : jk_c1 a15 = true) (k : jk_J G M q (a0::a1::a2::a3::a4::a5::a6::a7::a8::a9::a10::a11::a12::a13::a14::a15::some (jI x)::tl) st n t σ ρ rc rs Q X) : jk_J G M pc (a0::a1::a2::a3::a4::a5::a6::a7::a8::a9::a10::a11::a12::a13::a14::a15::a16::tl) (jI x :: st) n t σ ρ rc rs Q X :=
  jk_istore_g (i := 16) hd hp (Nat.blt_eq.mp hn) (jk_ccS rfl hc) k
theorem jk_astore16 {a0 a1 a2 a3 a4 a5 a6 a7 a8 a9 a10 a11 a12 a13 a14 a15 a16 : Option Value} {tl : List (Option Value)} {x : Nat} (hd : decode (jk_cc M) pc = .ok (.astore 16, 2)) (hp : pc + 2 = q) (hn : Nat.blt 16 (jk_nL M) = true) (hc : jk_c1 a15 = true) (k : jk_J G M q (a0::a1::a2::a3::a4::a5::a6::a7::a8::a9::a10::a11::a12::a13::a14::a15::some (.ref x)::tl) st n t σ ρ rc rs Q X) : jk_J G M pc (a0::a1::a2::a3::a4::a5::a6::a7::a8::a9::a10::a11::a12::a13::a14::a15::a16::tl) (.ref x :: st) n t σ ρ rc rs Q X :=
  jk_astore_g (i := 16) hd hp (Nat.blt_eq.mp hn) (jk_ccS rfl hc) k
theorem jk_aNstore16 {a0 a1 a2 a3 a4 a5 a6 a7 a8 a9 a10 a11 a12 a13 a14 a15 a16 : Option Value} {tl : List (Option Value)}  (hd : decode (jk_cc M) pc = .ok (.astore 16, 2)) (hp : pc + 2 = q) (hn : Nat.blt 16 (jk_nL M) = true) (hc : jk_c1 a15 = true) (k : jk_J G M q (a0::a1::a2::a3::a4::a5::a6::a7::a8::a9::a10::a11::a12::a13::a14::a15::some (.null)::tl) st n t σ ρ rc rs Q X) : jk_J G M pc (a0::a1::a2::a3::a4::a5::a6::a7::a8::a9::a10::a11::a12::a13::a14::a15::a16::tl) (.null :: st) n t σ ρ rc rs Q X :=
  jk_aNstore_g (i := 16) hd hp (Nat.blt_eq.mp hn) (jk_ccS rfl hc) k
theorem jk_iinc16 {a0 a1 a2 a3 a4 a5 a6 a7 a8 a9 a10 a11 a12 a13 a14 a15 : Option Value} {tl : List (Option Value)} {x y : Int} (hd : decode (jk_cc M) pc = .ok (.iinc 16 y, 3)) (hp : pc + 3 = q) (hn : Nat.blt 16 (jk_nL M) = true) (hc : jk_c1 a15 = true) (k : jk_J G M q (a0::a1::a2::a3::a4::a5::a6::a7::a8::a9::a10::a11::a12::a13::a14::a15::some (jI (x + y))::tl) st n t σ ρ rc rs Q X) : jk_J G M pc (a0::a1::a2::a3::a4::a5::a6::a7::a8::a9::a10::a11::a12::a13::a14::a15::some (jI x)::tl) st n t σ ρ rc rs Q X :=
  jk_iinc_g (i := 16) hd hp (Nat.blt_eq.mp hn) rfl (jk_ccS rfl hc) k
end JST
section JAR
variable {G : jk_G} {M : jk_M} {pc q : Nat} {ls : List (Option Value)} {st : List Value} {n : Nat} {t : jk_T} {σ : jk_I} {ρ : jk_P} {rc rs : Nat} {Q : jk_Q} {X : jk_X}
abbrev jk_in (x : Int) : Prop := -2147483648 ≤ x ∧ x < 2147483648
theorem jk_ti {x : Int} (h : jk_in x) : (Int32.ofInt x).toInt = x := by
  rw [Int32.toInt_ofInt]
  have h1 := h.1
  have h2 := h.2
  have e : ((2 ^ 32 : Nat) : Int) = 4294967296 := rfl
  simp only [Int.bmod, e]
  split <;> omega
theorem jk_eq {x y : Int} (hx : jk_in x) (hy : jk_in y) : Int32.ofInt x = Int32.ofInt y ↔ x = y := by
  rw [← Int32.toInt_inj, jk_ti hx, jk_ti hy]
theorem jk_lt {x y : Int} (hx : jk_in x) (hy : jk_in y) : Int32.ofInt x < Int32.ofInt y ↔ x < y := by
  rw [Int32.lt_iff_toInt_lt, jk_ti hx, jk_ti hy]
theorem jk_le {x y : Int} (hx : jk_in x) (hy : jk_in y) : Int32.ofInt x ≤ Int32.ofInt y ↔ x ≤ y := by
  rw [Int32.le_iff_toInt_le, jk_ti hx, jk_ti hy]
theorem jk_bmod (x : Int) : (Int32.ofInt x).toInt = Int.bmod x 4294967296 := Int32.toInt_ofInt
theorem jk_div {x y : Int} (hx : jk_in x) (hy : jk_in y) : Int32.ofInt x / Int32.ofInt y = Int32.ofInt (x.tdiv y) := by
  rw [← Int32.toInt_inj, Int32.toInt_div, jk_ti hx, jk_ti hy, Int32.toInt_ofInt]
theorem jk_iadd {x y : Int} (hd : decode (jk_cc M) pc = .ok (.iadd, 1)) (hp : pc + 1 = q) (k : jk_J G M q ls (jI (x + y) :: st) n t σ ρ rc rs Q X) : jk_J G M pc ls (jI y :: jI x :: st) n t σ ρ rc rs Q X := by
  subst hp
  exact jk_pure (fun p e R s m args below meth c H locs cells slots ls' Qf hx hb kk => lv_iadd hx hb hd (by rw [← Int32.ofInt_add]; exact kk)) k
theorem jk_isub {x y : Int} (hd : decode (jk_cc M) pc = .ok (.isub, 1)) (hp : pc + 1 = q) (k : jk_J G M q ls (jI (x - y) :: st) n t σ ρ rc rs Q X) : jk_J G M pc ls (jI y :: jI x :: st) n t σ ρ rc rs Q X := by
  subst hp
  exact jk_pure (fun p e R s m args below meth c H locs cells slots ls' Qf hx hb kk => lv_isub hx hb hd (by rw [← Int32.ofInt_sub]; exact kk)) k
theorem jk_imul {x y : Int} (hd : decode (jk_cc M) pc = .ok (.imul, 1)) (hp : pc + 1 = q) (k : jk_J G M q ls (jI (x * y) :: st) n t σ ρ rc rs Q X) : jk_J G M pc ls (jI y :: jI x :: st) n t σ ρ rc rs Q X := by
  subst hp
  exact jk_pure (fun p e R s m args below meth c H locs cells slots ls' Qf hx hb kk => lv_imul hx hb hd (by rw [← Int32.ofInt_mul]; exact kk)) k
theorem jk_ineg {x : Int} (hd : decode (jk_cc M) pc = .ok (.ineg, 1)) (hp : pc + 1 = q) (k : jk_J G M q ls (jI (-x) :: st) n t σ ρ rc rs Q X) : jk_J G M pc ls (jI x :: st) n t σ ρ rc rs Q X := by
  subst hp
  exact jk_pure (fun p e R s m args below meth c H locs cells slots ls' Qf hx hb kk => lv_ineg hx hb hd (by rw [← Int32.ofInt_neg]; exact kk)) k
theorem jk_idiv {x y : Int} (hd : decode (jk_cc M) pc = .ok (.idiv, 1)) (hp : pc + 1 = q) (h1 : jk_in x) (h2 : jk_in y) (h0 : y ≠ 0) (k : jk_J G M q ls (jI (x.tdiv y) :: st) n t σ ρ rc rs Q X) : jk_J G M pc ls (jI y :: jI x :: st) n t σ ρ rc rs Q X := by
  subst hp
  exact jk_pure (fun p e R s m args below meth c H locs cells slots ls' Qf hx hb kk => lv_idiv hx hb hd (fun h => h0 ((jk_eq h2 ⟨by decide, by decide⟩).mp h)) (by rw [jk_div h1 h2]; exact kk)) k
theorem jk_irem {x y : Int} (hd : decode (jk_cc M) pc = .ok (.irem, 1)) (hp : pc + 1 = q) (h1 : jk_in x) (h2 : jk_in y) (h0 : y ≠ 0) (k : jk_J G M q ls (jI (x - x.tdiv y * y) :: st) n t σ ρ rc rs Q X) : jk_J G M pc ls (jI y :: jI x :: st) n t σ ρ rc rs Q X := by
  subst hp
  exact jk_pure (fun p e R s m args below meth c H locs cells slots ls' Qf hx hb kk => lv_irem hx hb hd (fun h => h0 ((jk_eq h2 ⟨by decide, by decide⟩).mp h)) (by rw [jk_div h1 h2, ← Int32.ofInt_mul, ← Int32.ofInt_sub]; exact kk)) k
theorem jk_tdiv {x y : Int} (hx : 0 ≤ x) : x.tdiv y = x / y := Int.tdiv_eq_ediv_of_nonneg hx
theorem jk_idivP {x y : Int} (hd : decode (jk_cc M) pc = .ok (.idiv, 1)) (hp : pc + 1 = q) (h1 : 0 ≤ x ∧ x < 2147483648 ∧ 0 < y ∧ y < 2147483648) (k : jk_J G M q ls (jI (x / y) :: st) n t σ ρ rc rs Q X) : jk_J G M pc ls (jI y :: jI x :: st) n t σ ρ rc rs Q X :=
  jk_idiv hd hp ⟨by omega, by omega⟩ ⟨by omega, by omega⟩ (by omega) (by rw [jk_tdiv h1.1]; exact k)
theorem jk_iremP {x y : Int} (hd : decode (jk_cc M) pc = .ok (.irem, 1)) (hp : pc + 1 = q) (h1 : 0 ≤ x ∧ x < 2147483648 ∧ 0 < y ∧ y < 2147483648) (k : jk_J G M q ls (jI (x % y) :: st) n t σ ρ rc rs Q X) : jk_J G M pc ls (jI y :: jI x :: st) n t σ ρ rc rs Q X :=
  jk_irem hd hp ⟨by omega, by omega⟩ ⟨by omega, by omega⟩ (by omega) (by rw [jk_tdiv h1.1, Int.mul_comm, ← Int.emod_def]; exact k)
theorem jk_i2l {x : Int} (hd : decode (jk_cc M) pc = .ok (.i2l, 1)) (hp : pc + 1 = q) (h1 : jk_in x) (k : jk_J G M q ls (jL x :: st) n t σ ρ rc rs Q X) : jk_J G M pc ls (jI x :: st) n t σ ρ rc rs Q X := by
  subst hp
  exact jk_pure (fun p e R s m args below meth c H locs cells slots ls' Qf hx hb kk => lv_i2l (v := Int64.ofInt x) hx hb hd (by
    rw [← Int64.toInt_inj, Int32.toInt_toInt64, jk_ti h1, Int64.toInt_ofInt]
    have h3 := h1.1
    have h4 := h1.2
    have e : ((2 ^ 64 : Nat) : Int) = 18446744073709551616 := rfl
    simp only [Int.bmod, e]
    split <;> omega) kk) k
theorem jk_dup {v : Value} (hd : decode (jk_cc M) pc = .ok (.dup, 1)) (hp : pc + 1 = q) (hv : v.category = 1) (k : jk_J G M q ls (v :: v :: st) n t σ ρ rc rs Q X) : jk_J G M pc ls (v :: st) n t σ ρ rc rs Q X := by
  subst hp
  exact jk_pure (fun p e R s m args below meth c H locs cells slots ls' Qf hx hb kk => lv_dup hx hb hd (by rw [jk_re_cat]; exact hv) kk) k
theorem jk_pop {v : Value} (hd : decode (jk_cc M) pc = .ok (.pop, 1)) (hp : pc + 1 = q) (hv : v.category = 1) (k : jk_J G M q ls st n t σ ρ rc rs Q X) : jk_J G M pc ls (v :: st) n t σ ρ rc rs Q X := by
  subst hp
  exact jk_pure (fun p e R s m args below meth c H locs cells slots ls' Qf hx hb kk => lv_pop hx hb hd (by rw [jk_re_cat]; exact hv) kk) k
theorem jk_dup2 {v w : Value} (hd : decode (jk_cc M) pc = .ok (.dup2, 1)) (hp : pc + 1 = q) (hv : v.category = 1) (hw : w.category = 1) (k : jk_J G M q ls (v :: w :: v :: w :: st) n t σ ρ rc rs Q X) : jk_J G M pc ls (v :: w :: st) n t σ ρ rc rs Q X := by
  subst hp
  exact jk_pure (fun p e R s m args below meth c H locs cells slots ls' Qf hx hb kk => lv_dup2_11 hx hb hd (by rw [jk_re_cat]; exact hv) (by rw [jk_re_cat]; exact hw) kk) k
theorem jk_dup_x1 {v w : Value} (hd : decode (jk_cc M) pc = .ok (.dup_x1, 1)) (hp : pc + 1 = q) (hv : v.category = 1) (hw : w.category = 1) (k : jk_J G M q ls (v :: w :: v :: st) n t σ ρ rc rs Q X) : jk_J G M pc ls (v :: w :: st) n t σ ρ rc rs Q X := by
  subst hp
  exact jk_pure (fun p e R s m args below meth c H locs cells slots ls' Qf hx hb kk => lv_dup_x1 hx hb hd (by rw [jk_re_cat]; exact hv) (by rw [jk_re_cat]; exact hw) kk) k
theorem jk_goto {off : Int} (hd : decode (jk_cc M) pc = .ok (.goto off, 3)) (hp : (pc : Int) + off = (q : Int)) (k : jk_J G M q ls st n t σ ρ rc rs Q X) : jk_J G M pc ls st n t σ ρ rc rs Q X :=
  jk_pure (fun p e R s m args below meth c H locs cells slots ls' Qf hx hb kk => lv_goto hx hb hd hp kk) k
theorem jk_two {q2 : Nat} {st1 st2 : List Value} {P : Prop} 
    (h : ∀ (p : Program) (e : Env) (R : Room) (s : State) (m : MethodId) (args : Array Value) (below : List Frame) (meth : Method) (c : Code) (H : Heap) (locs : List Loc) (cells slots : Nat) (ls' : Array Slot) (Qf : State → Prop),
      p.tables.exec = Jvm.exec → c.code = jk_cc M → (P → W p (jk_l G) e R s m args below meth c H locs cells slots Qf (F0 m q ls' (st2.map (jk_re G)))) → (¬ P → W p (jk_l G) e R s m args below meth c H locs cells slots Qf (F0 m q2 ls' (st2.map (jk_re G)))) →
      W p (jk_l G) e R s m args below meth c H locs cells slots Qf (F0 m pc ls' (st1.map (jk_re G))))
    (kt : P → jk_J G M q ls st2 n t σ ρ rc rs Q X) (kf : ¬ P → jk_J G M q2 ls st2 n t σ ρ rc rs Q X) : jk_J G M pc ls st1 n t σ ρ rc rs Q X :=
  fun p e R s m args below meth c H locs cells slots ls' C hl hR hS hc hs => h p e R s m args below meth c H locs cells slots ls' _ C.1 C.2.1
    (fun a => kt a p e R s m args below meth c H locs cells slots ls' C hl hR hS hc hs) (fun a => kf a p e R s m args below meth c H locs cells slots ls' C hl hR hS hc hs)
theorem jk_in0 : jk_in 0 := ⟨by decide, by decide⟩
theorem jk_if_eq {x : Int} {off : Int} {q2 : Nat} (hd : decode (jk_cc M) pc = .ok (.ifCond .eq off, 3)) (hp : (pc : Int) + off = (q : Int)) (hp2 : pc + 3 = q2) (h1 : jk_in x) (kt : x = 0 → jk_J G M q ls st n t σ ρ rc rs Q X) (kf : ¬ (x = 0) → jk_J G M q2 ls st n t σ ρ rc rs Q X) : jk_J G M pc ls (jI x :: st) n t σ ρ rc rs Q X := by
  subst hp2
  exact jk_two (st2 := st) (P := x = 0) (fun p e R s m args below meth c H locs cells slots ls' Qf hx hb k1 k2 => lv_if_eq hx hb hd hp (fun a => k1 ((jk_eq h1 jk_in0).mp a)) (fun a => k2 (fun b => a ((jk_eq h1 jk_in0).mpr b)))) kt kf
theorem jk_icmp_eq {x y : Int} {off : Int} {q2 : Nat} (hd : decode (jk_cc M) pc = .ok (.if_icmp .eq off, 3)) (hp : (pc : Int) + off = (q : Int)) (hp2 : pc + 3 = q2) (h1 : jk_in x) (h2 : jk_in y) (kt : x = y → jk_J G M q ls st n t σ ρ rc rs Q X) (kf : ¬ (x = y) → jk_J G M q2 ls st n t σ ρ rc rs Q X) : jk_J G M pc ls (jI y :: jI x :: st) n t σ ρ rc rs Q X := by
  subst hp2
  exact jk_two (st2 := st) (P := x = y) (fun p e R s m args below meth c H locs cells slots ls' Qf hx hb k1 k2 => lv_icmp_eq hx hb hd hp (fun a => k1 ((jk_eq h1 h2).mp a)) (fun a => k2 (fun b => a ((jk_eq h1 h2).mpr b)))) kt kf
theorem jk_if_ne {x : Int} {off : Int} {q2 : Nat} (hd : decode (jk_cc M) pc = .ok (.ifCond .ne off, 3)) (hp : (pc : Int) + off = (q : Int)) (hp2 : pc + 3 = q2) (h1 : jk_in x) (kt : ¬ x = 0 → jk_J G M q ls st n t σ ρ rc rs Q X) (kf : x = 0 → jk_J G M q2 ls st n t σ ρ rc rs Q X) : jk_J G M pc ls (jI x :: st) n t σ ρ rc rs Q X := by
  subst hp2
  exact jk_two (st2 := st) (P := ¬ x = 0) (fun p e R s m args below meth c H locs cells slots ls' Qf hx hb k1 k2 => lv_if_ne hx hb hd hp (fun a => k1 ((not_congr (jk_eq h1 jk_in0)).mp a)) (fun a => k2 (fun b => b ((jk_eq h1 jk_in0).mp a)))) kt (fun a => kf (Decidable.not_not.mp a))
theorem jk_icmp_ne {x y : Int} {off : Int} {q2 : Nat} (hd : decode (jk_cc M) pc = .ok (.if_icmp .ne off, 3)) (hp : (pc : Int) + off = (q : Int)) (hp2 : pc + 3 = q2) (h1 : jk_in x) (h2 : jk_in y) (kt : ¬ x = y → jk_J G M q ls st n t σ ρ rc rs Q X) (kf : x = y → jk_J G M q2 ls st n t σ ρ rc rs Q X) : jk_J G M pc ls (jI y :: jI x :: st) n t σ ρ rc rs Q X := by
  subst hp2
  exact jk_two (st2 := st) (P := ¬ x = y) (fun p e R s m args below meth c H locs cells slots ls' Qf hx hb k1 k2 => lv_icmp_ne hx hb hd hp (fun a => k1 ((not_congr (jk_eq h1 h2)).mp a)) (fun a => k2 (fun b => b ((jk_eq h1 h2).mp a)))) kt (fun a => kf (Decidable.not_not.mp a))
theorem jk_if_lt {x : Int} {off : Int} {q2 : Nat} (hd : decode (jk_cc M) pc = .ok (.ifCond .lt off, 3)) (hp : (pc : Int) + off = (q : Int)) (hp2 : pc + 3 = q2) (h1 : jk_in x) (kt : x < 0 → jk_J G M q ls st n t σ ρ rc rs Q X) (kf : ¬ (x < 0) → jk_J G M q2 ls st n t σ ρ rc rs Q X) : jk_J G M pc ls (jI x :: st) n t σ ρ rc rs Q X := by
  subst hp2
  exact jk_two (st2 := st) (P := x < 0) (fun p e R s m args below meth c H locs cells slots ls' Qf hx hb k1 k2 => lv_if_lt hx hb hd hp (fun a => k1 ((jk_lt h1 jk_in0).mp a)) (fun a => k2 (fun b => a ((jk_lt h1 jk_in0).mpr b)))) kt kf
theorem jk_icmp_lt {x y : Int} {off : Int} {q2 : Nat} (hd : decode (jk_cc M) pc = .ok (.if_icmp .lt off, 3)) (hp : (pc : Int) + off = (q : Int)) (hp2 : pc + 3 = q2) (h1 : jk_in x) (h2 : jk_in y) (kt : x < y → jk_J G M q ls st n t σ ρ rc rs Q X) (kf : ¬ (x < y) → jk_J G M q2 ls st n t σ ρ rc rs Q X) : jk_J G M pc ls (jI y :: jI x :: st) n t σ ρ rc rs Q X := by
  subst hp2
  exact jk_two (st2 := st) (P := x < y) (fun p e R s m args below meth c H locs cells slots ls' Qf hx hb k1 k2 => lv_icmp_lt hx hb hd hp (fun a => k1 ((jk_lt h1 h2).mp a)) (fun a => k2 (fun b => a ((jk_lt h1 h2).mpr b)))) kt kf
theorem jk_if_ge {x : Int} {off : Int} {q2 : Nat} (hd : decode (jk_cc M) pc = .ok (.ifCond .ge off, 3)) (hp : (pc : Int) + off = (q : Int)) (hp2 : pc + 3 = q2) (h1 : jk_in x) (kt : 0 ≤ x → jk_J G M q ls st n t σ ρ rc rs Q X) (kf : ¬ (0 ≤ x) → jk_J G M q2 ls st n t σ ρ rc rs Q X) : jk_J G M pc ls (jI x :: st) n t σ ρ rc rs Q X := by
  subst hp2
  exact jk_two (st2 := st) (P := 0 ≤ x) (fun p e R s m args below meth c H locs cells slots ls' Qf hx hb k1 k2 => lv_if_ge hx hb hd hp (fun a => k1 ((jk_le jk_in0 h1).mp a)) (fun a => k2 (fun b => a ((jk_le jk_in0 h1).mpr b)))) kt kf
theorem jk_icmp_ge {x y : Int} {off : Int} {q2 : Nat} (hd : decode (jk_cc M) pc = .ok (.if_icmp .ge off, 3)) (hp : (pc : Int) + off = (q : Int)) (hp2 : pc + 3 = q2) (h1 : jk_in x) (h2 : jk_in y) (kt : y ≤ x → jk_J G M q ls st n t σ ρ rc rs Q X) (kf : ¬ (y ≤ x) → jk_J G M q2 ls st n t σ ρ rc rs Q X) : jk_J G M pc ls (jI y :: jI x :: st) n t σ ρ rc rs Q X := by
  subst hp2
  exact jk_two (st2 := st) (P := y ≤ x) (fun p e R s m args below meth c H locs cells slots ls' Qf hx hb k1 k2 => lv_icmp_ge hx hb hd hp (fun a => k1 ((jk_le h2 h1).mp a)) (fun a => k2 (fun b => a ((jk_le h2 h1).mpr b)))) kt kf
theorem jk_if_gt {x : Int} {off : Int} {q2 : Nat} (hd : decode (jk_cc M) pc = .ok (.ifCond .gt off, 3)) (hp : (pc : Int) + off = (q : Int)) (hp2 : pc + 3 = q2) (h1 : jk_in x) (kt : 0 < x → jk_J G M q ls st n t σ ρ rc rs Q X) (kf : ¬ (0 < x) → jk_J G M q2 ls st n t σ ρ rc rs Q X) : jk_J G M pc ls (jI x :: st) n t σ ρ rc rs Q X := by
  subst hp2
  exact jk_two (st2 := st) (P := 0 < x) (fun p e R s m args below meth c H locs cells slots ls' Qf hx hb k1 k2 => lv_if_gt hx hb hd hp (fun a => k1 ((jk_lt jk_in0 h1).mp a)) (fun a => k2 (fun b => a ((jk_lt jk_in0 h1).mpr b)))) kt kf
theorem jk_icmp_gt {x y : Int} {off : Int} {q2 : Nat} (hd : decode (jk_cc M) pc = .ok (.if_icmp .gt off, 3)) (hp : (pc : Int) + off = (q : Int)) (hp2 : pc + 3 = q2) (h1 : jk_in x) (h2 : jk_in y) (kt : y < x → jk_J G M q ls st n t σ ρ rc rs Q X) (kf : ¬ (y < x) → jk_J G M q2 ls st n t σ ρ rc rs Q X) : jk_J G M pc ls (jI y :: jI x :: st) n t σ ρ rc rs Q X := by
  subst hp2
  exact jk_two (st2 := st) (P := y < x) (fun p e R s m args below meth c H locs cells slots ls' Qf hx hb k1 k2 => lv_icmp_gt hx hb hd hp (fun a => k1 ((jk_lt h2 h1).mp a)) (fun a => k2 (fun b => a ((jk_lt h2 h1).mpr b)))) kt kf
theorem jk_if_le {x : Int} {off : Int} {q2 : Nat} (hd : decode (jk_cc M) pc = .ok (.ifCond .le off, 3)) (hp : (pc : Int) + off = (q : Int)) (hp2 : pc + 3 = q2) (h1 : jk_in x) (kt : x ≤ 0 → jk_J G M q ls st n t σ ρ rc rs Q X) (kf : ¬ (x ≤ 0) → jk_J G M q2 ls st n t σ ρ rc rs Q X) : jk_J G M pc ls (jI x :: st) n t σ ρ rc rs Q X := by
  subst hp2
  exact jk_two (st2 := st) (P := x ≤ 0) (fun p e R s m args below meth c H locs cells slots ls' Qf hx hb k1 k2 => lv_if_le hx hb hd hp (fun a => k1 ((jk_le h1 jk_in0).mp a)) (fun a => k2 (fun b => a ((jk_le h1 jk_in0).mpr b)))) kt kf
theorem jk_icmp_le {x y : Int} {off : Int} {q2 : Nat} (hd : decode (jk_cc M) pc = .ok (.if_icmp .le off, 3)) (hp : (pc : Int) + off = (q : Int)) (hp2 : pc + 3 = q2) (h1 : jk_in x) (h2 : jk_in y) (kt : x ≤ y → jk_J G M q ls st n t σ ρ rc rs Q X) (kf : ¬ (x ≤ y) → jk_J G M q2 ls st n t σ ρ rc rs Q X) : jk_J G M pc ls (jI y :: jI x :: st) n t σ ρ rc rs Q X := by
  subst hp2
  exact jk_two (st2 := st) (P := x ≤ y) (fun p e R s m args below meth c H locs cells slots ls' Qf hx hb k1 k2 => lv_icmp_le hx hb hd hp (fun a => k1 ((jk_le h1 h2).mp a)) (fun a => k2 (fun b => a ((jk_le h1 h2).mpr b)))) kt kf
end JAR
