section JP
variable {G : jk_G} {M : jk_M} {pc q : Nat} {ls : List (Option Value)} {st : List Value} {n : Nat} {t : jk_T} {σ : jk_I} {ρ : jk_P} {rc rs : Nat} {Q : jk_Q} {X : jk_X}
theorem jk_mono {ls2 : List (Option Value)} {st1 st2 : List Value}
    (h : ∀ (p : Program) (e : Env) (R : Room) (s : State) (m : MethodId) (args : Array Value) (below : List Frame) (meth : Method) (c : Code) (H : Heap) (locs : List Loc) (cells slots : Nat) (ls' : Array Slot) (Qf : State → Prop),
      jk_C G M p R s m args meth c → jk_L G (jk_nL M) ls ls' → (∀ ls2' : Array Slot, jk_L G (jk_nL M) ls2 ls2' → W p (jk_l G) e R s m args below meth c H locs cells slots Qf (F0 m q ls2' (st2.map (jk_re G)))) →
      W p (jk_l G) e R s m args below meth c H locs cells slots Qf (F0 m pc ls' (st1.map (jk_re G))))
    (k : jk_J G M q ls2 st2 n t σ ρ rc rs Q X) : jk_J G M pc ls st1 n t σ ρ rc rs Q X :=
  fun p e R s m args below meth c H locs cells slots ls' C hl hR hS hc hs => h p e R s m args below meth c H locs cells slots ls' _ C hl (fun ls2' h2 => k p e R s m args below meth c H locs cells slots ls2' C h2 hR hS hc hs)
/-- a row that leaves the locals alone -/
theorem jk_pure {st1 st2 : List Value}
    (h : ∀ (p : Program) (e : Env) (R : Room) (s : State) (m : MethodId) (args : Array Value) (below : List Frame) (meth : Method) (c : Code) (H : Heap) (locs : List Loc) (cells slots : Nat) (ls' : Array Slot) (Qf : State → Prop),
      p.tables.exec = Jvm.exec → c.code = jk_cc M → W p (jk_l G) e R s m args below meth c H locs cells slots Qf (F0 m q ls' (st2.map (jk_re G))) →
      W p (jk_l G) e R s m args below meth c H locs cells slots Qf (F0 m pc ls' (st1.map (jk_re G))))
    (k : jk_J G M q ls st2 n t σ ρ rc rs Q X) : jk_J G M pc ls st1 n t σ ρ rc rs Q X :=
  jk_mono (fun p e R s m args below meth c H locs cells slots ls' Qf C hl kk => h p e R s m args below meth c H locs cells slots ls' Qf C.1 C.2.1 (kk ls' hl)) k
theorem jk_at {nL : Nat} {ls' : Array Slot} {i : Nat} {v : Value} (h : jk_L G nL ls ls') (hi : ls[i]? = some (some v)) : ls'[i]? = some (.val (jk_re G v)) := by
  obtain ⟨l, h1, h2⟩ := h
  exact h1.2.2 (i, jk_re G v) (h2 i v hi)
/-! constants -/
theorem jk_iconst {x : Int} (hd : decode (jk_cc M) pc = .ok (.iconst x, 1)) (hp : pc + 1 = q) (k : jk_J G M q ls (jI x :: st) n t σ ρ rc rs Q X) : jk_J G M pc ls st n t σ ρ rc rs Q X := by
  subst hp
  exact jk_pure (fun p e R s m args below meth c H locs cells slots ls' Qf hx hb kk => lv_iconst hx hb hd rfl kk) k
theorem jk_bipush {x y : Int} (hd : decode (jk_cc M) pc = .ok (.bipush x, 2)) (hp : pc + 2 = q) (hv : (Int8.ofInt x).toInt32 = Int32.ofInt y) (k : jk_J G M q ls (jI y :: st) n t σ ρ rc rs Q X) : jk_J G M pc ls st n t σ ρ rc rs Q X := by
  subst hp
  exact jk_pure (fun p e R s m args below meth c H locs cells slots ls' Qf hx hb kk => lv_bipush hx hb hd hv kk) k
theorem jk_sipush {x y : Int} (hd : decode (jk_cc M) pc = .ok (.sipush x, 3)) (hp : pc + 3 = q) (hv : (Int16.ofInt x).toInt32 = Int32.ofInt y) (k : jk_J G M q ls (jI y :: st) n t σ ρ rc rs Q X) : jk_J G M pc ls st n t σ ρ rc rs Q X := by
  subst hp
  exact jk_pure (fun p e R s m args below meth c H locs cells slots ls' Qf hx hb kk => lv_sipush hx hb hd hv kk) k
theorem jk_ldc {i : Nat} {x : Int} (hw : Cond.constant (jk_own M) i (Int32.ofInt x) ∈ jk_WS) (hd : decode (jk_cc M) pc = .ok (.ldc i, 2)) (hp : pc + 2 = q) (k : jk_J G M q ls (jI x :: st) n t σ ρ rc rs Q X) : jk_J G M pc ls st n t σ ρ rc rs Q X := by
  subst hp
  exact jk_mono (fun p e R s m args below meth c H locs cells slots ls' Qf C hl kk => lv_ldc C.1 C.2.1 C.2.2.2.2.2.1 (C.2.2.2.2.2.2.1 _ hw) hd (kk ls' hl)) k
theorem jk_ldcw {i : Nat} {x : Int} (hw : Cond.constant (jk_own M) i (Int32.ofInt x) ∈ jk_WS) (hd : decode (jk_cc M) pc = .ok (.ldc_w i, 3)) (hp : pc + 3 = q) (k : jk_J G M q ls (jI x :: st) n t σ ρ rc rs Q X) : jk_J G M pc ls st n t σ ρ rc rs Q X := by
  subst hp
  exact jk_mono (fun p e R s m args below meth c H locs cells slots ls' Qf C hl kk => lv_ldcw C.1 C.2.1 C.2.2.2.2.2.1 (C.2.2.2.2.2.2.1 _ hw) hd (kk ls' hl)) k
theorem jk_lconst {x : Fin 2} {y : Int} (hd : decode (jk_cc M) pc = .ok (.lconst x, 1)) (hp : pc + 1 = q) (hv : Int64.ofNat (x : Nat) = Int64.ofInt y) (k : jk_J G M q ls (jL y :: st) n t σ ρ rc rs Q X) : jk_J G M pc ls st n t σ ρ rc rs Q X := by
  subst hp
  exact jk_pure (fun p e R s m args below meth c H locs cells slots ls' Qf hx hb kk => lv_lconst hx hb hd hv kk) k
theorem jk_null (hd : decode (jk_cc M) pc = .ok (.aconst_null, 1)) (hp : pc + 1 = q) (k : jk_J G M q ls (.null :: st) n t σ ρ rc rs Q X) : jk_J G M pc ls st n t σ ρ rc rs Q X := by
  subst hp
  exact jk_pure (fun p e R s m args below meth c H locs cells slots ls' Qf hx hb kk => lv_null hx hb hd kk) k
/-! locals -/
theorem jk_iload_n {i : Fin 4} {x : Int} (hd : decode (jk_cc M) pc = .ok (.iload_n i, 1)) (hp : pc + 1 = q) (hl : ls[(i : Nat)]? = some (some (jI x))) (k : jk_J G M q ls (jI x :: st) n t σ ρ rc rs Q X) : jk_J G M pc ls st n t σ ρ rc rs Q X := by
  subst hp
  exact jk_mono (fun p e R s m args below meth c H locs cells slots ls' Qf C h kk => lv_iload_n C.1 C.2.1 hd rfl (jk_at h hl) (kk ls' h)) k
theorem jk_iload {i : Nat} {x : Int} (hd : decode (jk_cc M) pc = .ok (.iload i, 2)) (hp : pc + 2 = q) (hl : ls[i]? = some (some (jI x))) (k : jk_J G M q ls (jI x :: st) n t σ ρ rc rs Q X) : jk_J G M pc ls st n t σ ρ rc rs Q X := by
  subst hp
  exact jk_mono (fun p e R s m args below meth c H locs cells slots ls' Qf C h kk => lv_iload C.1 C.2.1 hd (jk_at h hl) (kk ls' h)) k
theorem jk_aload_n {i : Fin 4} {x : Nat} (hd : decode (jk_cc M) pc = .ok (.aload_n i, 1)) (hp : pc + 1 = q) (hl : ls[(i : Nat)]? = some (some (.ref x))) (k : jk_J G M q ls (.ref x :: st) n t σ ρ rc rs Q X) : jk_J G M pc ls st n t σ ρ rc rs Q X := by
  subst hp
  exact jk_mono (fun p e R s m args below meth c H locs cells slots ls' Qf C h kk => lv_aload_n C.1 C.2.1 hd rfl (jk_at h hl) (kk ls' h)) k
theorem jk_aload {i : Nat} {x : Nat} (hd : decode (jk_cc M) pc = .ok (.aload i, 2)) (hp : pc + 2 = q) (hl : ls[i]? = some (some (.ref x))) (k : jk_J G M q ls (.ref x :: st) n t σ ρ rc rs Q X) : jk_J G M pc ls st n t σ ρ rc rs Q X := by
  subst hp
  exact jk_mono (fun p e R s m args below meth c H locs cells slots ls' Qf C h kk => lv_aload C.1 C.2.1 hd (jk_at h hl) (kk ls' h)) k
theorem jk_aload_nN {i : Fin 4} (hd : decode (jk_cc M) pc = .ok (.aload_n i, 1)) (hp : pc + 1 = q) (hl : ls[(i : Nat)]? = some (some .null)) (k : jk_J G M q ls (.null :: st) n t σ ρ rc rs Q X) : jk_J G M pc ls st n t σ ρ rc rs Q X := by
  subst hp
  exact jk_mono (fun p e R s m args below meth c H locs cells slots ls' Qf C h kk => lv_aload_nN C.1 C.2.1 hd rfl (jk_at h hl) (kk ls' h)) k
theorem jk_fload {i : Nat} {x : UInt32} (hd : decode (jk_cc M) pc = .ok (.fload i, 2)) (hp : pc + 2 = q) (hl : ls[i]? = some (some (.float x))) (k : jk_J G M q ls (.float x :: st) n t σ ρ rc rs Q X) : jk_J G M pc ls st n t σ ρ rc rs Q X := by
  subst hp
  exact jk_mono (fun p e R s m args below meth c H locs cells slots ls' Qf C h kk => lv_fload C.1 C.2.1 hd (jk_at h hl) (kk ls' h)) k
theorem jk_dload {i : Nat} {x : UInt64} (hd : decode (jk_cc M) pc = .ok (.dload i, 2)) (hp : pc + 2 = q) (hl : ls[i]? = some (some (.double x))) (k : jk_J G M q ls (.double x :: st) n t σ ρ rc rs Q X) : jk_J G M pc ls st n t σ ρ rc rs Q X := by
  subst hp
  exact jk_mono (fun p e R s m args below meth c H locs cells slots ls' Qf C h kk => lv_dload C.1 C.2.1 hd (jk_at h hl) (kk ls' h)) k
end JP
