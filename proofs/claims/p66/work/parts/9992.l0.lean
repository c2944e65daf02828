section L0
/-- an int as the machine holds it -/
def jk_w (x : Int) : Int := (Int32.ofInt x).toInt
theorem jk_wI (x : Int) : jI (jk_w x) = jI x := congrArg Value.int (Int32.ofInt_toInt _)
theorem jk_w_in (x : Int) : jk_in (jk_w x) := by
  have h1 := Int32.le_toInt (Int32.ofInt x)
  have h2 := Int32.toInt_lt (Int32.ofInt x)
  exact ⟨by unfold jk_w; omega, by unfold jk_w; omega⟩
theorem jk_w_id {x : Int} (h : jk_in x) : jk_w x = x := jk_ti h
/-- which throws are told apart -/
def zn_ok (G : jk_G) : Prop := ∀ s, jk_Z G s → va_Nc "java/lang/IllegalStateException" "java/lang/IndexOutOfBoundsException" s ∧ va_Nc "java/lang/UnsupportedOperationException" "java/util/NoSuchElementException" s ∧ va_Nc "java/lang/UnsupportedOperationException" "java/lang/IndexOutOfBoundsException" s ∧ va_Nc "java/util/NoSuchElementException" "java/lang/IllegalArgumentException" s ∧ va_Nc "java/lang/IllegalArgumentException" "java/lang/IndexOutOfBoundsException" s ∧ va_Nc "java/lang/IllegalStateException" "java/lang/IllegalArgumentException" s ∧ va_Nc "java/util/NoSuchElementException" "java/lang/IndexOutOfBoundsException" s
/-- a contract of a method with handlers -/
def jk_KH (G : jk_G) (y : MethodName) (M : jk_M) (hh : List (Nat × Nat × Nat × Nat)) (mc ms : Nat) (As : List Value) (n : Nat) (t : jk_T) (σ : jk_I) (ρ : jk_P) (Q : jk_Q) (X : jk_X) : Prop :=
  vx_Met (jk_l G) y (Cond.codeWith y (jk_cc M) (jk_nL M) (jk_rt M) hh :: jk_WS) ({ frames := jk_d M, cells := mc, slots := ms, locals := 64 * jk_d M } : Room)
    (fun a s => a = (As.map (jk_re G)).toArray ∧ jk_ok G ∧ jk_Z G s ∧ jk_b G ≤ s.heap.size ∧ jk_R G s s.heap n t σ ρ) (jk_QC G Q) (jk_XC G X) mc ms (jk_A G)
def jk_mH (y : MethodName) (M1 : jk_M) (hh : List (Nat × Nat × Nat × Nat)) (na : Nat) : Prop := (Cond.codeWith y (jk_cc M1) (jk_nL M1) (jk_rt M1) hh ∈ jk_WS ∧ Cond.initialized y.cls ∈ jk_WS ∧ (y.cls ≠ "java/lang/invoke/MethodHandle" ∧ y.cls ≠ "java/lang/invoke/VarHandle") ∧
  (parseMethodDescriptor y.desc).map (fun d => d.parameters.length) = some na ∧ plainName y.cls = true ∧ jk_own M1 = y.cls ∧ jk_nL M1 ≤ 45 ∧ (jk_ini M1 = true → y.name = "<init>") ∧ jk_tb M1 = tableOf hh) ∧ Cond.static y ∈ jk_WS
/-- the handler that takes a throw of the class E at pc -/
def jk_hnd (G : jk_G) (M : jk_M) (pc : Nat) (E : String) (K : Nat → Prop) : Prop := ∃ (pre : List ExceptionTableEntry) (x : ExceptionTableEntry) (suf : List ExceptionTableEntry) (name : String), jk_tb M = pre ++ x :: suf ∧
  (∀ z ∈ pre, z.catchType ≠ 0 ∧ ∃ nm : String, Cond.classLink (jk_own M) z.catchType nm ∈ jk_WS ∧ ∀ s, jk_Z G s → va_Nc E nm s) ∧ covers x pc = true ∧ x.catchType ≠ 0 ∧ Cond.classLink (jk_own M) x.catchType name ∈ jk_WS ∧ Cond.castable E name ∈ jk_WS ∧ K x.handlerPc
section JL0
variable {G : jk_G} {M : jk_M} {pc q : Nat} {ls : List (Option Value)} {st : List Value} {n : Nat} {t : jk_T} {σ : jk_I} {ρ : jk_P} {rc rs : Nat} {Q : jk_Q} {X : jk_X}
theorem jk_i2lw {x : Int} (hd : decode (jk_cc M) pc = .ok (.i2l, 1)) (hp : pc + 1 = q) (k : jk_J G M q ls (jL (jk_w x) :: st) n t σ ρ rc rs Q X) : jk_J G M pc ls (jI x :: st) n t σ ρ rc rs Q X := by
  rw [← jk_wI x]
  exact jk_i2l hd hp (jk_w_in x) k
theorem jk_adx (q0 : Nat) : jk_ad G (2 * q0 + 65) = q0 := by
  unfold jk_ad
  rw [if_neg (by omega), if_neg (by omega)]
  omega
theorem jk_dastR {a len : Nat} {x : Int} {y : UInt64} {f : Int → Int} (ht : t a = some (.inl (.double, len))) (hrow : σ a = f) (hx : 0 ≤ x ∧ x < (len : Int)) (hd : decode (jk_cc M) pc = .ok (.dastore, 1)) (hp : pc + 1 = q) (kk : jk_J G M q ls st n t (jk_row σ a (jk_set f x (y.toNat : Int))) ρ rc rs Q X) : jk_J G M pc ls (.double y :: jI x :: .ref a :: st) n t σ ρ rc rs Q X := by
  subst hrow
  rw [← jk_up_eq] at kk
  subst hp
  intro p e R s m args below meth c H locs cells slots ls' C hl hR hS hc hs
  have hcell := hR.2.2.2 a
  rw [ht] at hcell
  obtain ⟨h6, han, hae, hlen, cA, q1, q2, q3⟩ := hcell
  obtain ⟨i1, i2, i3, i4⟩ := jk_ix hx.1 hx.2 hlen
  refine W.dast C.1 C.2.1 q1 (q2 _ _) (fun h => by cases h) (by rw [arrV_size]; exact i1) rfl rfl hd fun H' e1 e2 e3 => ?_
  rw [i2, arrV_store] at e1
  refine kk p e R s m args below meth c H' _ cells slots ls' C hl (jk_R_set hR e2 e3 h6 hae ?_ (fun b hb => jk_up_row σ x _ hb) (fun b hb => rfl)) (hS.put e2 e3 (jk_ad_A h6 hae)) hc hs
  rw [ht]
  refine ⟨h6, han, hae, hlen, cA, e1.trans ?_, q2, q3⟩
  congr 2
  funext j
  by_cases hj : j = x.toNat
  · subst hj; simp [updV, i4, jk_up, jk_E]
  · have : ¬ (j : Int) = x := by omega
    simp [updV, hj, jk_up, this]
theorem jk_entryH {y : MethodName} {M1 : jk_M} {hh : List (Nat × Nat × Nat × Nat)} {mc ms na : Nat} {As : List Value} (hm : jk_mH y M1 hh na) (hcat : As.all (fun v => v.category == 1) = true) (hsz : Nat.ble As.length (jk_nL M1) = true) (hls : ls = As.map some ++ List.replicate (jk_nL M1 - As.length) none) (k : jk_J G M1 0 ls [] n t σ ρ mc ms Q X) : jk_KH G y M1 hh mc ms As n t σ ρ Q X := by
  obtain ⟨⟨h1, h2, h3, h4, h5, h6, h7, h8, h9⟩, -⟩ := hm
  have hcat2 : ∀ v ∈ As, v.category = 1 := fun v hv => eq_of_beq (List.all_eq_true.mp hcat v hv)
  refine vx_ofWH (cc := jk_cc M1) (maxL := jk_nL M1) (ret := jk_rt M1) (hh := hh) h5 rfl ?_
  intro p e s m args below meth c s₁ B hml hv
  obtain ⟨rfl, hok, hZ, hb, hR⟩ := hv
  have hts := atoms_spec (ws := Cond.codeWith y (jk_cc M1) (jk_nL M1) (jk_rt M1) hh :: jk_WS) B.pre
  have htab : c.exceptionTable.toList = tableOf hh := vx_table (x := y) B (hts _ List.mem_cons_self)
  rw [lg_entry_eq]
  exact k p e _ s m _ below meth c s.heap [] 0 0 _ ⟨B.exec, B.bytes, hml, B.returns, B.notSynchronized, by rw [h6]; exact findClass_of_methodNamed B.named, fun w hw => hts w (List.mem_cons_of_mem _ hw), by rw [h9]; exact htab, fun hi => by rw [← h8 hi]; exact (name_of_methodNamed B.named B.method).1, Nat.le_refl _, Nat.le_refl _, hok, hZ, hb⟩ (jk_entryL hcat2 (Nat.le_of_ble_eq_true hsz) hls) hR va_S.rf (by show 0 + mc ≤ mc; omega) (by show 0 + ms ≤ ms; omega)
theorem jk_behindC {p : Program} {e : Env} {R : Room} {s : State} {m : MethodId} {args : Array Value} {below : List Frame} {meth : Method} {c : Code} {H : Heap} {locs : List Loc} {cells slots : Nat} {ls' : Array Slot} {mc ms rc' rs' : Nat} {st0 : List Value} {rest : List Value} {Q1 : jk_Q} {X1 : jk_X} {a : Array Value}
    (hr : vx_Run p (jk_l G) e R s m args below meth c H locs cells slots mc ms (F0 m pc ls' st0) (rest.map (jk_re G)) (jk_QC G Q1 a) (jk_XC G X1) (jk_A G))
    (C : jk_C G M p R s m args meth c) (hl : jk_L G (jk_nL M) ls ls') (hS : va_S (jk_A G) s.heap H locs) (hc : cells + mc + rc' ≤ R.cells) (hs : slots + ms + rs' ≤ R.slots)
    (kk : ∀ v n' t' σ' ρ', Q1 v n' t' σ' ρ' → jk_J G M (pc + 3) ls (v.toList ++ rest) n' t' σ' ρ' rc' rs' Q X) (kx : ∀ E n' t' σ' ρ', X1 E n' t' σ' ρ' → jk_hnd G M pc E (fun h => ∀ a, jk_J G M h ls [.ref a] n' t' σ' ρ' rc' rs' Q X)) :
    W p (jk_l G) e R s m args below meth c H locs cells slots (vx_MQ below (jk_QC G Q) (jk_XC G X) args s R.cells R.slots (jk_A G)) (F0 m pc ls' st0) := by
  intro T hT Xs
  rcases hr T hT Xs with ⟨v, st₀, t0, T', L, h0, X', hL, e1, e2, ⟨v', n', t', σ', ρ', hv, hQ, hR', hF⟩, stp⟩ | ⟨q0, st₀, t0, T', L, E, ce, h0, X', hL, e1, e2, ⟨n', t', σ', ρ', hX, hR', hF⟩, hce, hcv, hcl, stp⟩
  · cases hv
    obtain ⟨k1, k2, k3⟩ := vx_keep h0 e1 hS (fun _ _ h => h) (fun _ h => h) hL hF
    have ha : t0.vm.Alike s.vm := by rw [← e2]; exact (X'.warmed.alike).symm
    have hR2 : jk_R G s T'.heap n' t' σ' ρ' := by rw [e1]; exact jk_R_moved ha hR'
    obtain ⟨t2, a1, b1⟩ := kk v' n' t' σ' ρ' hQ p e R s m args below meth c T'.heap (locs ++ L) (cells + mc) (slots + ms) ls' C hl hR2 k3 hc hs T' rfl X'
    refine ⟨t2, stp t2 ?_, b1⟩
    have e3 : (v'.map (jk_re G)).toList ++ rest.map (jk_re G) = (v'.toList ++ rest).map (jk_re G) := by cases v' <;> simp
    show Steps p.tables e below (T'.setTop { F0 m pc ls' st0 with pc := pc + 3, stack := (v'.map (jk_re G)).toList ++ rest.map (jk_re G) }) t2
    rw [e3]
    exact a1
  · obtain ⟨k1, k2, k3⟩ := vx_keep h0 e1 hS (fun _ _ h => h) (fun _ h => h) hL hF
    have ha : t0.vm.Alike s.vm := by rw [← e2]; exact (X'.warmed.alike).symm
    have hR2 : jk_R G s T'.heap n' t' σ' ρ' := by rw [e1]; exact jk_R_moved ha hR'
    obtain ⟨pre, x, suf, name, g1, g2, g3, g4, g5, g6, g7⟩ := kx E n' t' σ' ρ' hX
    have hts := C.2.2.2.2.2.2.1
    have hZ := C.2.2.2.2.2.2.2.2.2.2.2.2.1
    have hk := g7 (2 * q0 + 65) p e R s m args below meth c T'.heap (locs ++ L) (cells + mc) (slots + ms) ls' C hl hR2 k3 hc hs
    rw [show ([Value.ref (2 * q0 + 65)].map (jk_re G)) = [Value.ref q0] by show [Value.ref (jk_ad G (2 * q0 + 65))] = _; rw [jk_adx]] at hk
    obtain ⟨t2, a1, b1⟩ := vx_catch (rest := rest.map (jk_re G)) (pc := pc) (own := jk_own M) (name := name) (E := E) (ce := ce) (q := q0) C.2.2.2.2.2.1 pre x suf (by rw [C.2.2.2.2.2.2.2.1]; exact g1) (fun z hz => by
      obtain ⟨h1, nm, h2, h3⟩ := g2 z hz
      exact Or.inr ⟨h1, nm, hts _ h2, h3 s hZ⟩) g3 g4 (hts _ g5) (hts _ g6) (by rw [e1]; exact hce) hcv hcl hk T' rfl X'
    exact ⟨t2, stp.trans a1, b1⟩
/-- a virtual call inside try -/
theorem jk_callVC {y : MethodName} {M1 : jk_M} {mc ms index na : Nat} {b k : Nat} {As rest : List Value} {Q1 : jk_Q} {X1 : jk_X} (hK : jk_K G y M1 mc ms (.ref b :: As) n t σ ρ Q1 X1) (hm : jk_mV y M1 na) (hw : Cond.methodLink (jk_own M) index y ∈ jk_WS) (hcl : (jk_cl k).1 = y.cls) (ht : t b = some (.inr k)) (hna : As.length = na) (hdep : Nat.ble (jk_d M1 + 1) (jk_d M) = true) (hlen : Nat.ble rest.length 4 = true) (hmc : mc ≤ rc) (hms : ms ≤ rs)
    (hd : decode (jk_cc M) pc = .ok (.invokevirtual index, 3)) (hp : pc + 3 = q) (kk : ∀ v n' t' σ' ρ', Q1 v n' t' σ' ρ' → jk_J G M q ls (v.toList ++ rest) n' t' σ' ρ' (rc - mc) (rs - ms) Q X) (kx : ∀ E n' t' σ' ρ', X1 E n' t' σ' ρ' → jk_hnd G M pc E (fun h => ∀ a, jk_J G M h ls [.ref a] n' t' σ' ρ' (rc - mc) (rs - ms) Q X)) : jk_J G M pc ls (As.reverse ++ .ref b :: rest) n t σ ρ rc rs Q X := by
  subst hp
  intro p e R s m args below meth c H locs cells slots ls' C hl hR hS hc hs
  have hdep := Nat.le_of_ble_eq_true hdep
  have hlen := Nat.le_of_ble_eq_true hlen
  have hts := C.2.2.2.2.2.2.1
  have hok := C.2.2.2.2.2.2.2.2.2.2.2.1
  have hZ := C.2.2.2.2.2.2.2.2.2.2.2.2.1
  have hb0 := C.2.2.2.2.2.2.2.2.2.2.2.2.2
  refine jk_behindC (M := M) (mc := mc) (ms := ms) (rc' := rc - mc) (rs' := rs - ms) (rest := rest) (Q1 := Q1) (X1 := X1) (vx_runV (As := As.map (jk_re G)) (C := (jk_cl k).1) (own := jk_own M) (cc := jk_cc M) (nL := jk_nL M) (Ts := jk_WS) (n := na) ⟨C.1, C.2.1, C.2.2.1, C.2.2.2.2.2.1, hts⟩ hK ⟨jk_callB C hm.1 hw hdep, hts _ hm.2.1, by rw [hcl]; exact hts _ hm.2.2⟩ ⟨jk_blind, jk_recv hR ht, fun U hU hW => ⟨rfl, hok, jk_Zat hok hZ hb0 hS hU hW, by rw [hU]; exact Nat.le_trans hb0 hS.1, by rw [hU]; exact jk_R_moved hW.alike hR⟩⟩ rfl (by rw [List.length_map]; exact hna) (jk_fsz hl) (by simp [F0, jk_re]) ?_ hd ⟨by omega, by omega⟩) C hl hS (by omega) (by omega) kk kx
  exact lv_room (Nat.le_trans (jk_catsum rest) (by omega))
/-- a static call of a method with handlers -/
theorem jk_callSH {y : MethodName} {M1 : jk_M} {hh : List (Nat × Nat × Nat × Nat)} {mc ms index na : Nat} {As rest : List Value} {Q1 : jk_Q} {X1 : jk_X} (hK : jk_KH G y M1 hh mc ms As n t σ ρ Q1 X1) (hm : jk_mH y M1 hh na) (hw : Cond.methodLink (jk_own M) index y ∈ jk_WS) (hna : As.length = na) (hdep : Nat.ble (jk_d M1 + 1) (jk_d M) = true) (hlen : Nat.ble rest.length 4 = true) (hmc : mc ≤ rc) (hms : ms ≤ rs) (htb : jk_tb M = [])
    (hd : decode (jk_cc M) pc = .ok (.invokestatic index, 3)) (hp : pc + 3 = q) (kk : ∀ v n' t' σ' ρ', Q1 v n' t' σ' ρ' → jk_J G M q ls (v.toList ++ rest) n' t' σ' ρ' (rc - mc) (rs - ms) Q X) (kx : ∀ E n' t' σ' ρ', X1 E n' t' σ' ρ' → X E n' t' σ' ρ') : jk_J G M pc ls (As.reverse ++ rest) n t σ ρ rc rs Q X := by
  subst hp
  intro p e R s m args below meth c H locs cells slots ls' C hl hR hS hc hs
  have hdep := Nat.le_of_ble_eq_true hdep
  have hlen := Nat.le_of_ble_eq_true hlen
  have hts := C.2.2.2.2.2.2.1
  have hok := C.2.2.2.2.2.2.2.2.2.2.2.1
  have hZ := C.2.2.2.2.2.2.2.2.2.2.2.2.1
  have hb0 := C.2.2.2.2.2.2.2.2.2.2.2.2.2
  have hd1 := C.2.2.2.2.2.2.2.2.2.1
  have hd2 := C.2.2.2.2.2.2.2.2.2.2.1
  obtain ⟨⟨h1, h2, h3, h4, h5, h6, h7, h8⟩, h10⟩ := hm
  have cw : vx_CSW R s args (jk_own M) index y (jk_cc M1) (jk_nL M1) (jk_rt M1) hh (Cond.codeWith y (jk_cc M1) (jk_nL M1) (jk_rt M1) hh :: jk_WS) ({ frames := jk_d M1, cells := mc, slots := ms, locals := 64 * jk_d M1 } : Room) mc ms na := by
    refine ⟨⟨rfl, rfl, by show jk_d M1 + 1 ≤ R.frames; omega, by show 8 + (jk_nL M1 + 11) + 64 * jk_d M1 ≤ R.locals; omega, ?_, List.mem_cons_self⟩, hts _ h1, hts _ h2, h3, ?_, hts _ hw, hts _ h10⟩
    · intro w hw a' U hW
      rcases List.mem_cons.mp hw with rfl | hw
      · exact jk_kw_warm (jk_ws_kw h1) hW (hts _ h1)
      · exact jk_kw_warm (jk_ws_kw hw) hW (hts _ hw)
    · intro sig h
      have h4' := h4
      rw [h] at h4'
      exact (Option.some.inj h4').symm
  refine jk_behind (M := M) (mc := mc) (ms := ms) (rc' := rc - mc) (rs' := rs - ms) (rest := rest) (Q1 := Q1) (X1 := X1) (vx_runSX (As := As.map (jk_re G)) (own := jk_own M) (cc := jk_cc M) (nL := jk_nL M) (Ts := jk_WS) (n := na) ⟨C.1, C.2.1, C.2.2.1, C.2.2.2.2.2.1, hts⟩ hK cw ⟨jk_blind, fun U hU hW => ⟨rfl, hok, jk_Zat hok hZ hb0 hS hU hW, by rw [hU]; exact Nat.le_trans hb0 hS.1, by rw [hU]; exact jk_R_moved hW.alike hR⟩⟩ rfl (by rw [List.length_map]; exact hna) (jk_fsz hl) (by simp [F0, jk_re]) ?_ hd ⟨by omega, by omega⟩) C hl hS (by omega) (by omega) (fun x hx => by rw [htb] at hx; cases hx) kk kx
  exact lv_room (Nat.le_trans (jk_catsum rest) (by omega))
end JL0
end L0
