section JF
variable {G : jk_G} {M : jk_M} {pc q : Nat} {ls : List (Option Value)} {st : List Value} {n : Nat} {t : jk_T} {σ σ' : jk_I} {ρ ρ' : jk_P} {rc rs : Nat} {Q : jk_Q} {X : jk_X}
theorem jk_i2d {x : Int} (hd : decode (jk_cc M) pc = .ok (.i2d, 1)) (hp : pc + 1 = q) (k : jk_J G M q ls (.double (FP.i2d (Int32.ofInt x)) :: st) n t σ ρ rc rs Q X) : jk_J G M pc ls (jI x :: st) n t σ ρ rc rs Q X := by
  subst hp
  exact jk_pure (fun p e R s m args below meth c H locs cells slots ls' Qf hx hb kk => lv_i2d hx hb hd kk) k
theorem jk_i2f {x : Int} (hd : decode (jk_cc M) pc = .ok (.i2f, 1)) (hp : pc + 1 = q) (k : jk_J G M q ls (.float (FP.i2f (Int32.ofInt x)) :: st) n t σ ρ rc rs Q X) : jk_J G M pc ls (jI x :: st) n t σ ρ rc rs Q X := by
  subst hp
  exact jk_pure (fun p e R s m args below meth c H locs cells slots ls' Qf hx hb kk => lv_i2f hx hb hd kk) k
theorem jk_ddiv {x y : UInt64} (hne : vf_n64 (FP.ddiv x y)) (hd : decode (jk_cc M) pc = .ok (.ddiv, 1)) (hp : pc + 1 = q) (k : jk_J G M q ls (.double (FP.ddiv x y) :: st) n t σ ρ rc rs Q X) : jk_J G M pc ls (.double y :: .double x :: st) n t σ ρ rc rs Q X := by
  subst hp
  exact jk_pure (fun p e R s m args below meth c H locs cells slots ls' Qf hx hb kk => lv_ddiv hx hb hd hne kk) k
theorem jk_fdiv {x y : UInt32} (hne : vf_n32 (FP.fdiv x y)) (hd : decode (jk_cc M) pc = .ok (.fdiv, 1)) (hp : pc + 1 = q) (k : jk_J G M q ls (.float (FP.fdiv x y) :: st) n t σ ρ rc rs Q X) : jk_J G M pc ls (.float y :: .float x :: st) n t σ ρ rc rs Q X := by
  subst hp
  exact jk_pure (fun p e R s m args below meth c H locs cells slots ls' Qf hx hb kk => lv_fdiv hx hb hd hne kk) k
theorem jk_dconst0 (hd : decode (jk_cc M) pc = .ok (.dconst 0, 1)) (hp : pc + 1 = q) (k : jk_J G M q ls (.double FP.dconst0 :: st) n t σ ρ rc rs Q X) : jk_J G M pc ls st n t σ ρ rc rs Q X := by
  subst hp
  exact jk_pure (fun p e R s m args below meth c H locs cells slots ls' Qf hx hb kk => lv_dconst0 hx hb hd kk) k
theorem jk_fconst0 (hd : decode (jk_cc M) pc = .ok (.fconst 0, 1)) (hp : pc + 1 = q) (k : jk_J G M q ls (.float FP.fconst0 :: st) n t σ ρ rc rs Q X) : jk_J G M pc ls st n t σ ρ rc rs Q X := by
  subst hp
  exact jk_pure (fun p e R s m args below meth c H locs cells slots ls' Qf hx hb kk => lv_fconst0 hx hb hd kk) k
theorem jk_f2d {x : UInt32} (hne : vf_n64 (FP.f2d x)) (hd : decode (jk_cc M) pc = .ok (.f2d, 1)) (hp : pc + 1 = q) (k : jk_J G M q ls (.double (FP.f2d x) :: st) n t σ ρ rc rs Q X) : jk_J G M pc ls (.float x :: st) n t σ ρ rc rs Q X := by
  subst hp
  exact jk_pure (fun p e R s m args below meth c H locs cells slots ls' Qf hx hb kk => lv_f2d hx hb hd hne kk) k
theorem jk_lcmpv {x y : Int} (hx : -9223372036854775808 ≤ x ∧ x < 9223372036854775808) : (Int64.ofInt x).toInt = x := by
  rw [Int64.toInt_ofInt]
  have e : ((2 ^ 64 : Nat) : Int) = 18446744073709551616 := rfl
  simp only [Int.bmod, e]
  have := hx.1
  have := hx.2
  split <;> omega
theorem jk_i2cv {x : Int} (hx : 0 ≤ x ∧ x < 65536) : ((Int32.ofInt x).toUInt32 % 65536).toInt32 = Int32.ofInt x := by
  obtain ⟨j, rfl⟩ : ∃ j : Nat, x = (j : Int) := ⟨x.toNat, by omega⟩
  have hj : j < 65536 := by omega
  have e : Int32.ofInt (j : Int) = nI j := Int32.ofInt_eq_ofNat
  rw [e, pk_char]
  congr 1
  show (BitVec.ofNat 32 j).toNat % 65536 = j
  rw [BitVec.toNat_ofNat]
  omega
theorem jk_i2c {x : Int} (h1 : 0 ≤ x ∧ x < 65536) (hd : decode (jk_cc M) pc = .ok (.i2c, 1)) (hp : pc + 1 = q) (k : jk_J G M q ls (jI x :: st) n t σ ρ rc rs Q X) : jk_J G M pc ls (jI x :: st) n t σ ρ rc rs Q X := by
  subst hp
  exact jk_pure (fun p e R s m args below meth c H locs cells slots ls' Qf hx hb kk => lv_i2c hx hb hd (jk_i2cv h1) kk) k
theorem jk_caseC {x : Int} (v : Int) (kt : x = v → jk_J G M pc ls (jI v :: st) n t σ ρ rc rs Q X) (kf : ¬ x = v → jk_J G M pc ls (jI x :: st) n t σ ρ rc rs Q X) : jk_J G M pc ls (jI x :: st) n t σ ρ rc rs Q X := by
  by_cases h : x = v
  · have := kt h; rw [← h] at this; exact this
  · exact kf h
theorem jk_tswIn {x dflt lo hi off : Int} {offs : Array Int} {len : Nat} (hx : jk_in x) (hd : decode (jk_cc M) pc = .ok (.tableswitch dflt lo hi offs, len)) (h1 : lo ≤ x ∧ x ≤ hi) (ho : offs[(x - lo).toNat]? = some off) (ht : (pc : Int) + off = (q : Int)) (k : jk_J G M q ls st n t σ ρ rc rs Q X) : jk_J G M pc ls (jI x :: st) n t σ ρ rc rs Q X :=
  jk_pure (fun p e R s m args below meth c H locs cells slots ls' Qf hx9 hb kk => lv_tableIn hx9 hb hd (by rw [jk_ti hx]; omega) (by rw [jk_ti hx]; omega) (by rw [jk_ti hx]; exact ho) ht kk) k
theorem jk_tswD {x dflt lo hi : Int} {offs : Array Int} {len : Nat} (cs : List Int) (hx : jk_in x) (hd : decode (jk_cc M) pc = .ok (.tableswitch dflt lo hi offs, len)) (hall : (List.range offs.size).all (fun i => offs[i]? == some dflt || cs.contains (lo + (i : Int))) = true) (hsz : hi - lo + 1 = (offs.size : Int)) (hne : cs.contains x = false) (ht : (pc : Int) + dflt = (q : Int)) (k : jk_J G M q ls st n t σ ρ rc rs Q X) : jk_J G M pc ls (jI x :: st) n t σ ρ rc rs Q X := by
  by_cases h : lo ≤ x ∧ x ≤ hi
  · have hi9 : (x - lo).toNat < offs.size := by omega
    have h2 := List.all_eq_true.mp hall (x - lo).toNat (List.mem_range.mpr hi9)
    rw [show lo + (((x - lo).toNat : Nat) : Int) = x by omega, hne, Bool.or_false] at h2
    exact jk_tswIn hx hd h (eq_of_beq h2) ht k
  · exact jk_pure (fun p e R s m args below meth c H locs cells slots ls' Qf hx9 hb kk => lv_tableOut hx9 hb hd (by rw [jk_ti hx]; omega) ht kk) k
end JF
