section PA
variable {G : jk_G} {M : jk_M} {pc q : Nat} {ls : List (Option Value)} {st : List Value} {n : Nat} {t : jk_T} {σ : jk_I} {ρ : jk_P} {rc rs : Nat} {Q : jk_Q} {X : jk_X}
/-- a text of the launch's own -/
theorem jk_ldcS {index a : Nat} {tx : String} (hR : ∀ s, jk_Z G s → vk_R (jk_own M) index tx (jk_ad G a) s) (hd : decode (jk_cc M) pc = .ok (.ldc index, 2)) (hp : pc + 2 = q) (kk : jk_J G M q ls (.ref a :: st) n t σ ρ rc rs Q X) : jk_J G M pc ls st n t σ ρ rc rs Q X := by
  subst hp
  exact jk_mono (fun p e R s m args below meth c H locs cells slots ls' Qf C hl k => va_ldcS C.1 C.2.1 C.2.2.2.2.2.1 (hR s C.2.2.2.2.2.2.2.2.2.2.2.2.1) hd (k ls' hl)) kk
theorem jk_ldcwS {index a : Nat} {tx : String} (hR : ∀ s, jk_Z G s → vk_R (jk_own M) index tx (jk_ad G a) s) (hd : decode (jk_cc M) pc = .ok (.ldc_w index, 3)) (hp : pc + 3 = q) (kk : jk_J G M q ls (.ref a :: st) n t σ ρ rc rs Q X) : jk_J G M pc ls st n t σ ρ rc rs Q X := by
  subst hp
  refine jk_mono (fun p e R s m args below meth c H locs cells slots ls' Qf C hl k => ?_) kk
  intro T hT X9
  obtain ⟨t9, a1, b1⟩ := k ls' hl T hT X9
  have hZ := hR s C.2.2.2.2.2.2.2.2.2.2.2.2.1
  exact ⟨t9, X9.ldcStringW C.1 C.2.2.2.2.2.1 (text := tx) (a := jk_ad G a) hZ.1 hZ.2 (g := F0 m pc ls' (st.map (jk_re G))) rfl (by rw [C.2.1]; exact hd) t9 a1, b1⟩
/-- a call of a name that the object's class overrides -/
theorem jk_callUV {x y : MethodName} {owner : String} {M1 : jk_M} {mc ms index na : Nat} {b k : Nat} {As rest : List Value} {Q1 : jk_Q} {X1 : jk_X} {bb : ByteArray} {m0 : Nat} {r0 : Option FieldType} (hK : jk_K G y M1 mc ms (.ref b :: As) n t σ ρ Q1 X1) (hm : jk_me y M1 na) (hinst : Cond.instanceMethod y ∈ jk_WS) (hi0 : Cond.instanceMethod ⟨owner, x.name, x.desc⟩ ∈ jk_WS) (h0 : Cond.code ⟨owner, x.name, x.desc⟩ bb m0 r0 ∈ jk_WS) (hno : owner ≠ "java/lang/invoke/MethodHandle" ∧ owner ≠ "java/lang/invoke/VarHandle") (hpx : (parseMethodDescriptor x.desc).map (fun d => d.parameters.length) = some na) (hsel : Cond.selects (jk_cl k).1 x y ∈ jk_WS) (hsame : Cond.sameMethod x.cls owner x.name x.desc ∈ jk_WS) (hw : Cond.methodLink (jk_own M) index x ∈ jk_WS) (ht : t b = some (.inr k)) (hna : As.length = na) (hdep : Nat.ble (jk_d M1 + 1) (jk_d M) = true) (hlen : Nat.ble rest.length 4 = true) (hmc : mc ≤ rc) (hms : ms ≤ rs) (htb : jk_tb M = [])
    (hd : decode (jk_cc M) pc = .ok (.invokevirtual index, 3)) (hp : pc + 3 = q) (kk : ∀ v n' t' σ' ρ', Q1 v n' t' σ' ρ' → jk_J G M q ls (v.toList ++ rest) n' t' σ' ρ' (rc - mc) (rs - ms) Q X) (kx : ∀ E n' t' σ' ρ', X1 E n' t' σ' ρ' → X E n' t' σ' ρ') : jk_J G M pc ls (As.reverse ++ .ref b :: rest) n t σ ρ rc rs Q X := by
  subst hp
  intro p e R s m args below meth c H locs cells slots ls' C hl hR hS hc hs
  have hts := C.2.2.2.2.2.2.1
  have hok := C.2.2.2.2.2.2.2.2.2.2.2.1
  have hZ := C.2.2.2.2.2.2.2.2.2.2.2.2.1
  have hb0 := C.2.2.2.2.2.2.2.2.2.2.2.2.2
  have hd1 := C.2.2.2.2.2.2.2.2.2.1
  have hd2 := C.2.2.2.2.2.2.2.2.2.2.1
  have hdep := Nat.le_of_ble_eq_true hdep
  have hlen := Nat.le_of_ble_eq_true hlen
  obtain ⟨h1, h2, h3, h4, h5, h6, h7, h8⟩ := hm
  have cu : va_CU R s args (jk_own M) (jk_cl k).1 owner index x y (jk_cc M1) (jk_nL M1) (jk_rt M1) (Cond.code y (jk_cc M1) (jk_nL M1) (jk_rt M1) :: jk_WS) ({ frames := jk_d M1, cells := mc, slots := ms, locals := 64 * jk_d M1 } : Room) mc ms na := by
    refine ⟨⟨rfl, rfl, by show jk_d M1 + 1 ≤ R.frames; omega, by show 8 + (jk_nL M1 + 11) + 64 * jk_d M1 ≤ R.locals; omega, ?_, List.mem_cons_self⟩, hts _ h1, hts _ h2, hno, ?_, hts _ hw, hts _ hsame, va_Decl.of (hts _ hi0) (hts _ h0), hts _ hsel, hts _ hinst⟩
    · intro w hw a' U hW
      rcases List.mem_cons.mp hw with rfl | hw
      · exact jk_kw_warm (jk_ws_kw h1) hW (hts _ h1)
      · exact jk_kw_warm (jk_ws_kw hw) hW (hts _ hw)
    · intro sig h
      have h4' := hpx
      rw [h] at h4'
      exact (Option.some.inj h4').symm
  refine jk_behind (M := M) (mc := mc) (ms := ms) (rc' := rc - mc) (rs' := rs - ms) (rest := rest) (Q1 := Q1) (X1 := X1) (vx_runU (As := As.map (jk_re G)) (C := (jk_cl k).1) (owner := owner) (own := jk_own M) (cc := jk_cc M) (nL := jk_nL M) (Ts := jk_WS) (n := na) ⟨C.1, C.2.1, C.2.2.1, C.2.2.2.2.2.1, hts⟩ hK cu ⟨jk_blind, jk_recv hR ht, fun U hU hW => ⟨rfl, hok, jk_Zat hok hZ hb0 hS hU hW, by rw [hU]; exact Nat.le_trans hb0 hS.1, by rw [hU]; exact jk_R_moved hW.alike hR⟩⟩ rfl (by rw [List.length_map]; exact hna) (jk_fsz hl) (by simp [F0, jk_re]) ?_ hd ⟨by omega, by omega⟩) C hl hS (by omega) (by omega) (fun x hx => by rw [htb] at hx; cases hx) kk kx
  exact lv_room (Nat.le_trans (jk_catsum rest) (by omega))
/-- bytes of the launch's own copied by System.arraycopy, from the first on -/
theorem jk_copyo {a0 a N n1 : Nat} {f : Nat → Int} {k d : Int} {index : Nat} (hT0 : ∀ s, jk_Z G s → va_T .byte (jk_ad G a0) N (fun j => jI (f j)) (jk_A G) s s.heap) (ht1 : t a = some (.inl (.byte, n1))) (hk : 0 ≤ k ∧ k ≤ (N : Int) ∧ 0 ≤ d ∧ d + k ≤ (n1 : Int) ∧ d + k ≤ 65536) (hfit : ∀ j : Nat, j < N → 0 ≤ f j ∧ f j < 128)
    (hw : Cond.methodLink (jk_own M) index ⟨"java/lang/System", "arraycopy", "(Ljava/lang/Object;ILjava/lang/Object;II)V"⟩ ∈ jk_WS) (hdep : Nat.ble 1 (jk_d M) = true) (hlen : Nat.ble st.length 4 = true) (hd : decode (jk_cc M) pc = .ok (.invokestatic index, 3)) (hp : pc + 3 = q)
    (kk : jk_J G M q ls st n t (jk_row σ a (fun j => if d ≤ j ∧ j < d + k then f (j - d).toNat else σ a j)) ρ rc rs Q X) : jk_J G M pc ls (jI k :: jI d :: .ref a :: jI 0 :: .ref a0 :: st) n t σ ρ rc rs Q X := by
  subst hp
  intro p e R s m args below meth c H locs cells slots ls' C hl hR hS hc hs
  have hts := C.2.2.2.2.2.2.1
  have hok := C.2.2.2.2.2.2.2.2.2.2.2.1
  have hZ := C.2.2.2.2.2.2.2.2.2.2.2.2.1
  have hb0 := C.2.2.2.2.2.2.2.2.2.2.2.2.2
  have hd1 := C.2.2.2.2.2.2.2.2.2.1
  have hd2 := C.2.2.2.2.2.2.2.2.2.2.1
  have h1 := Nat.le_of_ble_eq_true hdep
  have h2 := Nat.le_of_ble_eq_true hlen
  have hcs := jk_catsum (G := G) st
  obtain ⟨scr, x1, x2, x3, x4, x5, x6, x7⟩ := hT0 s hZ
  have hc0 : H[jk_ad G a0]? = some scr := by rw [hS.2.1 _ (Array.getElem?_eq_some_iff.mp x1).1 x7]; exact x1
  have c1 := hR.2.2.2 a
  rw [ht1] at c1
  obtain ⟨h6, han, hae, hlen9, cA, q1, q2, q3⟩ := c1
  have ek : (Int32.ofInt k).toInt = k := jk_ti ⟨by omega, by omega⟩
  have ek2 : (Int32.ofInt k).toNatClampNeg = k.toNat := by show (Int32.ofInt k).toInt.toNat = _; rw [ek]
  have ed : (Int32.ofInt d).toInt = d := jk_ti ⟨by omega, by omega⟩
  have ed2 : (Int32.ofInt d).toNatClampNeg = d.toNat := by show (Int32.ofInt d).toInt.toNat = _; rw [ed]
  have e02 : (Int32.ofInt 0).toNatClampNeg = 0 := by decide
  have e00 : (Int32.ofInt 0).toInt = 0 := by decide
  intro T hT X
  obtain ⟨hs6, k0, hk0, cm0, hkk0⟩ := x2
  obtain ⟨-, k1, hk1, cm1, hkk1⟩ := q2 n1 (fun j => jk_E G .byte (σ a (j : Int)) (ρ a (j : Int)))
  obtain ⟨vm', X', step⟩ := X.arraycopy C.1 C.2.2.2.2.2.1 (hts _ hw) (hts _ jw_1255) (hts _ jw_1254) (hts _ jw_33) (src := jk_ad G a0) (dst := jk_ad G a) (cs := scr) (cd := arrV cA n1 (fun j => jk_E G .byte (σ a (j : Int)) (ρ a (j : Int)))) (srcPos := Int32.ofInt 0) (destPos := Int32.ofInt d) (n := Int32.ofInt k) (by rw [hT]; exact hc0) (by rw [hT]; exact q1)
    hs6 (fun _ h => by cases h) x3 (fun h => by cases h) hk0 hk1 hkk0 hkk1 rfl (by decide) (fun h => by
      have := Int32.lt_iff_toInt_lt.mp h
      rw [ed] at this
      have h0 : (0 : Int32).toInt = 0 := by decide
      omega) (fun h => by
      have := Int32.lt_iff_toInt_lt.mp h
      rw [ek] at this
      have h0 : (0 : Int32).toInt = 0 := by decide
      omega)
    (by rw [ek, e00]; omega)
    (by rw [ek, ed]; show ¬ d + k > ((arrV cA n1 (fun j => jk_E G .byte (σ a (j : Int)) (ρ a (j : Int)))).slots.size : Int); rw [arrV_size]; omega)
    (fun vm₁ _ i hi => by
      rw [ek2] at hi
      have e9 : scr.slots.getD ((Int32.ofInt 0).toNatClampNeg + i) .null = .int (Int32.ofInt (f i)) := by
        rw [e02, Nat.zero_add, Array.getD_eq_getD_getElem?, x6 _ (by omega)]
        rfl
      rw [e9]
      exact ⟨jk_fitB (hfit i (by omega)), trivial⟩)
    (g := F0 m pc ls' ((jI k :: jI d :: .ref a :: jI 0 :: .ref a0 :: st).map (jk_re G))) rfl ((jk_fsz hl).trans C.2.2.1.symm) (rest := st.map (jk_re G)) rfl (by rw [C.2.1]; exact hd) (by omega) (by show 2 * 0 + _ + (18 : Nat) ≤ _; omega)
  have e1 : copied scr (arrV cA n1 (fun j => jk_E G .byte (σ a (j : Int)) (ρ a (j : Int)))) (Int32.ofInt 0) (Int32.ofInt d) (Int32.ofInt k) = arrV cA n1 (fun j => Value.int (Int32.ofInt (va_cpy f (fun j : Nat => σ a (j : Int)) (Int32.ofInt 0).toNatClampNeg (Int32.ofInt d).toNatClampNeg (Int32.ofInt k).toNatClampNeg j))) := va_copiedX (fun z : Int => Value.int (Int32.ofInt z)) scr cA f (fun j : Nat => σ a (j : Int)) x6 (by rw [e02, ek2]; omega)
  rw [e1] at X' step
  generalize hC : arrV cA n1 (fun j => Value.int (Int32.ofInt (va_cpy f (fun j : Nat => σ a (j : Int)) (Int32.ofInt 0).toNatClampNeg (Int32.ofInt d).toNatClampNeg (Int32.ofInt k).toNatClampNeg j))) = NC at X' step
  have hlt : jk_ad G a < H.size := (Array.getElem?_eq_some_iff.mp q1).1
  have hheap : ((T.setVm vm').setCell (jk_ad G a) NC).heap = H.setIfInBounds (jk_ad G a) NC := by rw [← hT]; rfl
  have oq : ∀ z : Nat, z ≠ jk_ad G a → (H.setIfInBounds (jk_ad G a) NC)[z]? = H[z]? := fun z hz => by simp [Array.getElem?_setIfInBounds, Ne.symm hz]
  have hA := jk_ad_A (G := G) h6 hae
  obtain ⟨t9, a9, b9⟩ := kk p e R s m args below meth c (H.setIfInBounds (jk_ad G a) NC) (locs ++ (Cell.stretch scr (Int32.ofInt 0).toNatClampNeg (Int32.ofInt k).toNatClampNeg).zipIdx.map fun z => ⟨jk_ad G a, (Int32.ofInt d).toNatClampNeg + z.2⟩) cells slots ls' C hl (jk_R_set hR (by simp) oq h6 hae (by
      rw [ht1]
      refine ⟨h6, han, hae, hlen9, cA, ?_, q2, q3⟩
      rw [show (H.setIfInBounds (jk_ad G a) NC)[jk_ad G a]? = some NC by simp [Array.getElem?_setIfInBounds, hlt], ← hC]
      congr 2
      funext j
      rw [jk_row_same]
      show Value.int _ = Value.int _
      congr 2
      unfold va_cpy
      rw [e02, ek2, ed2]
      by_cases hj : d ≤ (j : Int) ∧ (j : Int) < d + k
      · rw [if_pos (by omega), if_pos hj, Nat.zero_add, show ((j : Int) - d).toNat = j - d.toNat by omega]
      · rw [if_neg (by omega), if_neg hj]) (fun b hb => jk_row_ne _ _ hb) (fun b hb => rfl)) ⟨by simp; exact hS.1, fun z g1 g2 => by
      rw [oq z (fun e => g2 (by rw [e]; exact hA))]
      exact hS.2.1 z g1 g2, fun z hz => by
      rcases List.mem_append.mp hz with h | h
      · exact hS.2.2 z h
      · obtain ⟨w, -, hw⟩ := List.mem_map.mp h
        rw [← hw]
        exact hA⟩ hc hs _ hheap X'
  exact ⟨t9, step t9 a9, b9⟩
/-- a clone of bytes -/
theorem jk_cloneb {a len : Nat} {index : Nat} (ht : t a = some (.inl (.byte, len))) (hfit : ∀ j : Int, 0 ≤ j ∧ j < (len : Int) → 0 ≤ σ a j ∧ σ a j < 128) (hw : Cond.methodLink (jk_own M) index ⟨"[B", "clone", "()Ljava/lang/Object;"⟩ ∈ jk_WS) (hdep : Nat.ble 1 (jk_d M) = true) (hlen : Nat.ble st.length 4 = true) (hrc : 1 ≤ rc) (hrs : len ≤ rs) (hd : decode (jk_cc M) pc = .ok (.invokevirtual index, 3)) (hp : pc + 3 = q)
    (kk : jk_J G M q ls (.ref n :: st) (n + 2) (jk_tg t n (.inl (.byte, len))) (jk_row σ n (σ a)) (jk_zr ρ n none) (rc - 1) (rs - len) Q X) : jk_J G M pc ls (.ref a :: st) n t σ ρ rc rs Q X := by
  subst hp
  intro p e R s m args below meth c H locs cells slots ls' C hl hR hS hc hs
  have hts := C.2.2.2.2.2.2.1
  have hok := C.2.2.2.2.2.2.2.2.2.2.2.1
  have hZ := C.2.2.2.2.2.2.2.2.2.2.2.2.1
  have hb0 := C.2.2.2.2.2.2.2.2.2.2.2.2.2
  have hd1 := C.2.2.2.2.2.2.2.2.2.1
  have hd2 := C.2.2.2.2.2.2.2.2.2.2.1
  have h1 := Nat.le_of_ble_eq_true hdep
  have h2 := Nat.le_of_ble_eq_true hlen
  have hcs := jk_catsum (G := G) st
  have c0 := hR.2.2.2 a
  rw [ht] at c0
  obtain ⟨h60, han0, hae0, hlen0, cA, q1, q2, q3⟩ := c0
  obtain ⟨c9, t9', f1, f2, f3⟩ := Cond.castable_spec (hts _ jw_1250)
  cases q3.symm.trans f1
  intro T hT X
  obtain ⟨-, kA, hkA, comp, hkind⟩ := State.isArrayOf_alike X.warmed.alike (q2 0 (fun _ => .null))
  obtain ⟨-, kS, hkS, compS, hkindS⟩ := q2 0 (fun _ => .null)
  obtain ⟨vm', X', stp⟩ := X.cloneArray C.1 C.2.2.2.2.2.1 (hts _ hw) (hts _ jw_1246) (hts _ jw_1247) (hts _ jw_1248) (hts _ jw_1249) (a := jk_ad G a) (cell := arrV cA len (fun j => jk_E G .byte (σ a (j : Int)) (ρ a (j : Int)))) (by rw [hT]; exact q1) (fun k h => by cases h) (fun h => by cases h) q3 f2 f3
    (fun i v hv => by
      have hi : i < len := by
        rcases Nat.lt_or_ge i len with h | h
        · exact h
        · rw [Array.getElem?_eq_none (by rw [arrV_size]; omega)] at hv; cases hv
      rw [arrV_read _ _ hi] at hv
      have hv2 := Option.some.inj hv
      subst hv2
      have hk' : T.vm.classes[(arrV cA len (fun j => jk_E G .byte (σ a (j : Int)) (ρ a (j : Int)))).cls]? = some kA := hkA
      have hf : fits .byte (jk_E G .byte (σ a (i : Int)) (ρ a (i : Int))) = true := jk_fitB (hfit i ⟨by omega, by omega⟩)
      simpa [State.fitsSlot, State.slotType?, hk', hkind] using hf)
    (g := F0 m pc ls' ((.ref a :: st).map (jk_re G))) rfl ((jk_fsz hl).trans C.2.2.1.symm) (rest := st.map (jk_re G)) rfl (by rw [C.2.1]; exact hd) (by omega) (by show 2 * 0 + _ + (14 : Nat) ≤ _; omega) (by omega) (by rw [arrV_size]; omega) (hloader := Vm.clonesLoader_of_array hkS hkindS)
  rw [arrV_size] at X'
  generalize hH1 : H.push (arrV cA len (fun j => jk_E G .byte (σ a (j : Int)) (ρ a (j : Int)))) = H1
  have z1 : H1.size = H.size + 1 := by rw [← hH1, Array.size_push]
  have e1 : H1[H.size]? = some (arrV cA len (fun j => jk_E G .byte (σ a (j : Int)) (ρ a (j : Int)))) := by rw [← hH1, Array.getElem?_push_size]
  have o1 : ∀ q : Nat, q < H.size → H1[q]? = H[q]? := fun q hq => by rw [← hH1, Array.getElem?_push, if_neg (Nat.ne_of_lt hq)]
  have hsz := jk_new_ad hR
  obtain ⟨t2, b1, b2⟩ := kk p e R s m args below meth c H1 locs (cells + 1) (slots + len) ls' C hl (jk_R_push hR z1 o1 (by
      refine ⟨hR.1, by omega, hR.2.1, hlen0, cA, ?_, q2, q3⟩
      rw [← hsz, e1]
      congr 2
      funext j
      rw [jk_row_same]
      rfl) (fun b hb => jk_row_ne _ _ hb) (fun b hb => jk_zr_row ρ none hb)) ⟨by have := hS.1; omega, fun x g1 g2 => (o1 x (Nat.lt_of_lt_of_le g1 hS.1)).trans (hS.2.1 x g1 g2), hS.2.2⟩ (by omega) (by omega) _ (by rw [← hH1, ← hT]; rfl) X'
  refine ⟨t2, stp t2 ?_, b2⟩
  rw [hT, hsz]
  exact b1
/-- a cast of bytes to bytes -/
theorem jk_castb {a len : Nat} {index : Nat} (ht : t a = some (.inl (.byte, len))) (hw : Cond.classLink (jk_own M) index "[B" ∈ jk_WS) (hd : decode (jk_cc M) pc = .ok (.checkcast index, 3)) (hp : pc + 3 = q) (kk : jk_J G M q ls (.ref a :: st) n t σ ρ rc rs Q X) : jk_J G M pc ls (.ref a :: st) n t σ ρ rc rs Q X := by
  subst hp
  intro p e R s m args below meth c H locs cells slots ls' C hl hR hS hc hs
  have hts := C.2.2.2.2.2.2.1
  have hok := C.2.2.2.2.2.2.2.2.2.2.2.1
  have hZ := C.2.2.2.2.2.2.2.2.2.2.2.2.1
  have hb0 := C.2.2.2.2.2.2.2.2.2.2.2.2.2
  have hd1 := C.2.2.2.2.2.2.2.2.2.1
  have hd2 := C.2.2.2.2.2.2.2.2.2.2.1
  have c0 := hR.2.2.2 a
  rw [ht] at c0
  obtain ⟨h60, han0, hae0, hlen0, cA, q1, q2, q3⟩ := c0
  exact va_castE C.1 C.2.1 C.2.2.2.2.2.1 (hts _ hw) ⟨_, q1, rfl, q3⟩ hd (kk p e R s m args below meth c H locs cells slots ls' C hl hR hS hc hs)
end PA
