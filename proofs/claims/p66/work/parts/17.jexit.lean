section JE
variable {G : jk_G} {M : jk_M} {pc q : Nat} {ls : List (Option Value)} {st : List Value} {n : Nat} {t : jk_T} {σ σ' : jk_I} {ρ ρ' : jk_P} {rc rs : Nat} {Q : jk_Q} {X : jk_X}
theorem jk_lgsl (l : List Value) (h : ∀ v ∈ l, v.category = 1) : (lg_sl l).length = l.length := by
  unfold lg_sl
  induction l with
  | nil => rfl
  | cons v l ih =>
    rw [List.flatMap_cons, if_neg (by rw [h v List.mem_cons_self]; decide), List.length_append, ih (fun w hw => h w (List.mem_cons_of_mem _ hw))]
    simp only [List.length_cons, List.length_nil]; omega
theorem jk_largs : ∀ (l : List Value) (k i : Nat) (v : Value), (∀ v ∈ l, v.category = 1) → l[i]? = some v → (k + i, jk_re G v) ∈ lv_args k (l.map (jk_re G))
  | [], _, _, _, _, h => by simp at h
  | w :: l, k, i, v, hc, h => by
    have hw : ¬ (jk_re G w).category = 2 := by rw [jk_re_cat, hc w List.mem_cons_self]; decide
    show _ ∈ (k, jk_re G w) :: lv_args (if (jk_re G w).category = 2 then k + 2 else k + 1) (l.map (jk_re G))
    rw [if_neg hw]
    match i, h with
    | 0, h => cases h; exact List.mem_cons_self
    | i + 1, h =>
      have := jk_largs l (k + 1) i v (fun w hw => hc w (List.mem_cons_of_mem _ hw)) h
      rw [show k + 1 + i = k + (i + 1) by omega] at this
      exact List.mem_cons_of_mem _ this
theorem jk_entryL {As : List Value} {nL : Nat} (hcat : ∀ v ∈ As, v.category = 1) (hsz : As.length ≤ nL) (hls : ls = As.map some ++ List.replicate (nL - As.length) none) :
    jk_L G nL ls ((lg_sl (As.map (jk_re G)) ++ List.replicate (nL - (lg_sl (As.map (jk_re G))).length) Slot.unset).toArray) := by
  have hc' : ∀ v ∈ As.map (jk_re G), v.category = 1 := fun v hv => by
    obtain ⟨w, hw, rfl⟩ := List.mem_map.mp hv
    rw [jk_re_cat]; exact hcat w hw
  refine ⟨lv_args 0 (As.map (jk_re G)), lv_entry _ (by rw [jk_lgsl _ hc', List.length_map]; exact hsz), fun i v h => ?_⟩
  rw [hls] at h
  have hi : As[i]? = some v := by
    by_cases hlt : i < As.length
    · rw [List.getElem?_append_left (by simpa using hlt), List.getElem?_map] at h
      cases hA : As[i]? with
      | none => rw [hA] at h; cases h
      | some w => rw [hA] at h; cases h; rfl
    · rw [List.getElem?_append_right (by simpa using hlt), List.getElem?_replicate] at h
      split at h <;> cases h
  have := jk_largs (G := G) As 0 i v hcat hi
  rwa [Nat.zero_add] at this
theorem jk_entry {y : MethodName} {M1 : jk_M} {mc ms na : Nat} {As : List Value} (hm : jk_me y M1 na) (hcat : ∀ v ∈ As, v.category = 1) (hsz : As.length ≤ jk_nL M1) (hls : ls = As.map some ++ List.replicate (jk_nL M1 - As.length) none) (k : jk_J G M1 0 ls [] n t σ ρ mc ms Q X) : jk_K G y M1 mc ms As n t σ ρ Q X := by
  obtain ⟨h1, h2, h3, h4, h5, h6, h7, h8, h9⟩ := hm
  refine vx_ofW (cc := jk_cc M1) (maxL := jk_nL M1) (ret := jk_rt M1) h5 rfl ?_
  intro p e s m args below meth c s₁ B hml htab hv
  obtain ⟨rfl, hok, hZ, hb, hR⟩ := hv
  have hts := atoms_spec (ws := Cond.code y (jk_cc M1) (jk_nL M1) (jk_rt M1) :: jk_WS) B.pre
  have htab' : c.exceptionTable.toList = [] := List.eq_nil_iff_forall_not_mem.mpr htab
  rw [lg_entry_eq]
  exact k p e _ s m _ below meth c s.heap [] 0 0 _ ⟨B.exec, B.bytes, hml, B.returns, B.notSynchronized, by rw [h6]; exact findClass_of_methodNamed B.named, fun w hw => hts w (List.mem_cons_of_mem _ hw), by rw [h9]; exact htab', fun hi => by rw [← h8 hi]; exact (name_of_methodNamed B.named B.method).1, Nat.le_refl _, Nat.le_refl _, hok, hZ, hb⟩ (jk_entryL hcat hsz hls) hR va_S.rf (by show 0 + mc ≤ mc; omega) (by show 0 + ms ≤ ms; omega)
/-! ends -/
theorem jk_iretg {x : Int} {ty : FieldType} (hrt : jk_rt M = some ty) (hn : narrow ty (.int (Int32.ofInt x)) = .int (Int32.ofInt x)) (hd : decode (jk_cc M) pc = .ok (.ireturn, 1)) (hQ : Q (some (jI x)) n t σ ρ) : jk_J G M pc ls [jI x] n t σ ρ rc rs Q X := by
  intro p e R s m args below meth c H locs cells slots ls' C hl hR hS hc hs
  refine vx_ret (W.widen (k := R.cells) (n := R.slots) (by omega) (by omega) (W.zret C.1 C.2.1 (C.2.2.2.1.trans hrt) hn (fun T hT hW => ⟨some (jI x), n, t, σ, ρ, rfl, hQ, by rw [hT]; exact jk_R_moved hW.alike hR, hS.F hT⟩) hS.2.2 hd C.2.2.2.2.1))
theorem jk_iret {x : Int} (hrt : jk_rt M = some .int) (hd : decode (jk_cc M) pc = .ok (.ireturn, 1)) (hQ : Q (some (jI x)) n t σ ρ) : jk_J G M pc ls [jI x] n t σ ρ rc rs Q X := jk_iretg hrt rfl hd hQ
theorem jk_zret {x : Int} (hrt : jk_rt M = some .boolean) (hx : x = 0 ∨ x = 1) (hd : decode (jk_cc M) pc = .ok (.ireturn, 1)) (hQ : Q (some (jI x)) n t σ ρ) : jk_J G M pc ls [jI x] n t σ ρ rc rs Q X := jk_iretg hrt (jk_narZ hx) hd hQ
theorem jk_cret {x : Int} (hrt : jk_rt M = some .char) (hx : 0 ≤ x ∧ x < 65536) (hd : decode (jk_cc M) pc = .ok (.ireturn, 1)) (hQ : Q (some (jI x)) n t σ ρ) : jk_J G M pc ls [jI x] n t σ ρ rc rs Q X := jk_iretg hrt (jk_narC hx) hd hQ
theorem jk_bret {x : Int} (hrt : jk_rt M = some .byte) (hx : -128 ≤ x ∧ x < 128) (hd : decode (jk_cc M) pc = .ok (.ireturn, 1)) (hQ : Q (some (jI x)) n t σ ρ) : jk_J G M pc ls [jI x] n t σ ρ rc rs Q X := jk_iretg hrt (jk_narB hx) hd hQ
theorem jk_ret (hrt : jk_rt M = none) (hd : decode (jk_cc M) pc = .ok (.return_, 1)) (hQ : Q none n t σ ρ) : jk_J G M pc ls [] n t σ ρ rc rs Q X := by
  intro p e R s m args below meth c H locs cells slots ls' C hl hR hS hc hs
  refine vx_ret (W.widen (k := R.cells) (n := R.slots) (by omega) (by omega) (W.vret C.1 C.2.1 (C.2.2.2.1.trans hrt) (fun T hT hW => ⟨none, n, t, σ, ρ, rfl, hQ, by rw [hT]; exact jk_R_moved hW.alike hR, hS.F hT⟩) hS.2.2 hd C.2.2.2.2.1))
theorem jk_aretg {v : Value} {ty : FieldType} (hrt : jk_rt M = some ty) (hty : (∃ n, ty = .object n) ∨ ∃ t, ty = .array t) (hv : v = .null ∨ ∃ a, v = .ref a) (hd : decode (jk_cc M) pc = .ok (.areturn, 1)) (hQ : Q (some v) n t σ ρ) : jk_J G M pc ls [v] n t σ ρ rc rs Q X := by
  intro p e R s m args below meth c H locs cells slots ls' C hl hR hS hc hs
  refine vx_ret (W.widen (k := R.cells) (n := R.slots) (by omega) (by omega) (W.aret C.1 C.2.1 (C.2.2.2.1.trans hrt) hty (v := jk_re G v) (by rcases hv with rfl | ⟨a, rfl⟩; exact Or.inl rfl; exact Or.inr ⟨_, rfl⟩) (fun T hT hW => ⟨some v, n, t, σ, ρ, rfl, hQ, by rw [hT]; exact jk_R_moved hW.alike hR, hS.F hT⟩) hS.2.2 hd C.2.2.2.2.1))
theorem jk_aret {a : Nat} {ty : FieldType} (hrt : jk_rt M = some ty) (hty : (∃ n, ty = .object n) ∨ ∃ t, ty = .array t) (hd : decode (jk_cc M) pc = .ok (.areturn, 1)) (hQ : Q (some (.ref a)) n t σ ρ) : jk_J G M pc ls [.ref a] n t σ ρ rc rs Q X := jk_aretg hrt hty (Or.inr ⟨a, rfl⟩) hd hQ
theorem jk_fret {x : UInt32} (hrt : jk_rt M = some .float) (hd : decode (jk_cc M) pc = .ok (.freturn, 1)) (hQ : Q (some (.float x)) n t σ ρ) : jk_J G M pc ls [.float x] n t σ ρ rc rs Q X := by
  intro p e R s m args below meth c H locs cells slots ls' C hl hR hS hc hs
  have hlk : meth.locks = false := C.2.2.2.2.1
  refine vx_ret (W.widen (k := R.cells) (n := R.slots) (by omega) (by omega) (W.fret C.1 C.2.1 (C.2.2.2.1.trans hrt) (fun T hT hW => ⟨some (.float x), n, t, σ, ρ, rfl, hQ, by rw [hT]; exact jk_R_moved hW.alike hR, hS.F hT⟩) hS.2.2 hd hlk))
theorem jk_dret {x : UInt64} (hrt : jk_rt M = some .double) (hd : decode (jk_cc M) pc = .ok (.dreturn, 1)) (hQ : Q (some (.double x)) n t σ ρ) : jk_J G M pc ls [.double x] n t σ ρ rc rs Q X := by
  intro p e R s m args below meth c H locs cells slots ls' C hl hR hS hc hs
  have hlk : meth.locks = false := C.2.2.2.2.1
  refine vx_ret (W.widen (k := R.cells) (n := R.slots) (by omega) (by omega) (W.dret C.1 C.2.1 (C.2.2.2.1.trans hrt) (fun T hT hW => ⟨some (.double x), n, t, σ, ρ, rfl, hQ, by rw [hT]; exact jk_R_moved hW.alike hR, hS.F hT⟩) hS.2.2 hd hlk))
/-! new things -/
theorem jk_E0 (ty : FieldType) : defaultValue ty = jk_E G ty 0 none := by cases ty <;> rfl
theorem jk_new {k index : Nat} (hw1 : Cond.classLink (jk_own M) index (jk_cl k).1 ∈ jk_WS) (hw2 : Cond.instantiable (jk_cl k).1 (jk_cl k).2.2.1 ∈ jk_WS) (hw3 : Cond.initialized (jk_cl k).1 ∈ jk_WS) (hrc : 1 ≤ rc) (hrs : (jk_cl k).2.2.1 ≤ rs) (hd : decode (jk_cc M) pc = .ok (.new index, 3)) (hp : pc + 3 = q)
    (kk : jk_J G M q ls (.ref n :: st) (n + 2) (jk_tg t n (.inr k)) (jk_zr σ n 0) (jk_zr ρ n none) (rc - 1) (rs - (jk_cl k).2.2.1) Q X) : jk_J G M pc ls st n t σ ρ rc rs Q X := by
  subst hp
  intro p e R s m args below meth c H locs cells slots ls' C hl hR hS hc hs
  have hts := C.2.2.2.2.2.2.1
  obtain ⟨cC, iS, hKn⟩ := u_known hts (jk_uw k) (hts _ hw2)
  refine W.newcK C.1 C.2.1 C.2.2.2.2.2.1 (hts _ hw1) (hts _ hw2) (hts _ hw3) rfl hd (by omega) (by omega) hKn.2.1 (jk_new_ad hR) fun H' kC hkC e1 z1 o1 => ?_
  have hz : H'.size = H.size + 1 := by rw [z1, jk_new_ad hR]
  have ho : ∀ q, q < H.size → H'[q]? = H[q]? := fun q hq => o1 q (by rw [← jk_new_ad hR]; exact hq)
  refine kk p e R s m args below meth c H' locs (cells + 1) (slots + (jk_cl k).2.2.1) ls' C hl (jk_R_push hR hz ho ?_ (fun b hb => jk_zr_row σ 0 hb) (fun b hb => jk_zr_row ρ none hb)) ⟨by have := hS.1; omega, fun x h1 h2 => (ho x (Nat.lt_of_lt_of_le h1 hS.1)).trans (hS.2.1 x h1 h2), hS.2.2⟩ (by omega) (by omega)
  refine ⟨hR.1, by omega, hR.2.1, cC, iS, hKn, (u_born (jk_cl k).2.2.2 hts (jk_uw k) hKn hkC e1 (jk_clty k)).to (fun j _ => ?_)⟩
  rw [jk_E0 (G := G)]
  simp only [jk_zr, if_pos]
theorem jk_newarr {ty : FieldType} {atype : ArrayType} {len : Nat} {x : Int} (hat : newarray.typeOf atype = ty) (hw : Cond.arrayClass (newarray.typeOf atype) ∈ jk_WS) (hx : x = (len : Int)) (hlen : len ≤ 60000000) (hrc : 1 ≤ rc) (hrs : len ≤ rs) (hd : decode (jk_cc M) pc = .ok (.newarray atype, 2)) (hp : pc + 2 = q)
    (kk : jk_J G M q ls (.ref n :: st) (n + 2) (jk_tg t n (.inl (ty, len))) (jk_zr σ n 0) (jk_zr ρ n none) (rc - 1) (rs - len) Q X) : jk_J G M pc ls (jI x :: st) n t σ ρ rc rs Q X := by
  subst hp hx
  subst hat
  intro p e R s m args below meth c H locs cells slots ls' C hl hR hS hc hs
  have hts := C.2.2.2.2.2.2.1
  have hi : (Int32.ofInt (len : Int)).toInt = (len : Int) := jk_ti ⟨by omega, by omega⟩
  have hcl : (Int32.ofInt (len : Int)).toNatClampNeg = len := by show (Int32.ofInt (len : Int)).toInt.toNat = _; rw [hi]; rfl
  refine va_newaK C.1 C.2.1 (hts _ hw) rfl hd rfl (fun h => by
    rw [Int32.lt_iff_toInt_lt, hi] at h
    have : (0 : Int32).toInt = 0 := rfl
    omega) hcl (by cases atype <;> simp only [newarray.typeOf, componentBytes] <;> omega) (by omega) (by omega) (jk_new_ad hR) fun H' cA e1 z1 o1 hAr hNm => ?_
  have hz : H'.size = H.size + 1 := by rw [z1, jk_new_ad hR]
  have ho : ∀ q, q < H.size → H'[q]? = H[q]? := fun q hq => o1 q (by rw [← jk_new_ad hR]; exact hq)
  refine kk p e R s m args below meth c H' locs (cells + 1) (slots + len) ls' C hl (jk_R_push hR hz ho ?_ (fun b hb => jk_zr_row σ 0 hb) (fun b hb => jk_zr_row ρ none hb)) ⟨by have := hS.1; omega, fun x h1 h2 => (ho x (Nat.lt_of_lt_of_le h1 hS.1)).trans (hS.2.1 x h1 h2), hS.2.2⟩ (by omega) (by omega)
  refine ⟨hR.1, by omega, hR.2.1, by omega, cA, e1.trans ?_, hAr, by cases atype <;> exact hNm⟩
  congr 2
  funext j
  rw [jk_E0 (G := G)]
  simp only [jk_zr, if_pos]
end JE
