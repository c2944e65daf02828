section CB1
theorem jk_xsg {x y : Int} (hx : jk_in x) (hy : jk_in y) : ((Int32.ofInt x ^^^ Int32.ofInt y).toInt < 0) ↔ ¬ (x < 0 ↔ y < 0) := by
  have hm : ∀ z : Int32, z.toBitVec.msb = decide (z.toInt < 0) := fun z => BitVec.msb_eq_toInt
  have h1 := hm (Int32.ofInt x ^^^ Int32.ofInt y)
  have h2 := hm (Int32.ofInt x)
  have h3 := hm (Int32.ofInt y)
  rw [jk_ti hx] at h2
  rw [jk_ti hy] at h3
  have h4 : (Int32.ofInt x ^^^ Int32.ofInt y).toBitVec.msb = ((Int32.ofInt x).toBitVec.msb ^^ (Int32.ofInt y).toBitVec.msb) := by
    show ((Int32.ofInt x).toBitVec ^^^ (Int32.ofInt y).toBitVec).msb = _
    rw [BitVec.msb_xor]
  rw [h1, h2, h3] at h4
  by_cases a : x < 0 <;> by_cases b : y < 0 <;> by_cases c : (Int32.ofInt x ^^^ Int32.ofInt y).toInt < 0 <;> simp [a, b, c] at h4 ⊢
section JX7
variable {G : jk_G} {M : jk_M} {pc q : Nat} {ls : List (Option Value)} {st : List Value} {n : Nat} {t : jk_T} {σ : jk_I} {ρ : jk_P} {rc rs : Nat} {Q : jk_Q} {X : jk_X}
theorem jk_ixor {x y : Int} (hd : decode (jk_cc M) pc = .ok (.ixor, 1)) (hp : pc + 1 = q) (hx : jk_in x) (hy : jk_in y) (k : ∀ z, jk_in z → (z < 0 ↔ ¬ (x < 0 ↔ y < 0)) → jk_J G M q ls (jI z :: st) n t σ ρ rc rs Q X) : jk_J G M pc ls (jI y :: jI x :: st) n t σ ρ rc rs Q X := by
  subst hp
  have hz : jk_in (Int32.ofInt x ^^^ Int32.ofInt y).toInt := by
    have h1 := Int32.le_toInt (Int32.ofInt x ^^^ Int32.ofInt y)
    have h2 := Int32.toInt_lt (Int32.ofInt x ^^^ Int32.ofInt y)
    exact ⟨by omega, by omega⟩
  have h := k _ hz (jk_xsg hx hy)
  rw [show jI (Int32.ofInt x ^^^ Int32.ofInt y).toInt = Value.int (Int32.ofInt x ^^^ Int32.ofInt y) from congrArg Value.int (Int32.ofInt_toInt _)] at h
  exact jk_pure (st2 := .int (Int32.ofInt x ^^^ Int32.ofInt y) :: st) (fun p e R s m args below meth c H locs cells slots ls' Qf hx9 hb kk => lv_ixor hx9 hb hd kk) h
end JX7
theorem cb_fdn {x y : Int} (hx : x < 0) (hy : 0 < y) : x.tdiv y = -((-x) / y) ∧ (x.tdiv y * y = x → x / y = x.tdiv y) ∧ (x.tdiv y * y ≠ x → x / y = x.tdiv y - 1) := by
  have e : x.tdiv y = -((-x) / y) := by
    have h1 : x = -(-x) := by omega
    rw [show x.tdiv y = (-(-x)).tdiv y by rw [← h1], Int.neg_tdiv, jk_tdiv (by omega)]
  have h1 := Int.mul_ediv_add_emod (-x) y
  have h2 := Int.emod_nonneg (-x) (show y ≠ 0 by omega)
  have h3 := Int.emod_lt_of_pos (-x) hy
  have hm : -((-x) / y) * y = -(y * ((-x) / y)) := by rw [Int.neg_mul, Int.mul_comm]
  refine ⟨e, fun h => ?_, fun h => ?_⟩
  · rw [e] at h ⊢
    rw [hm] at h
    have hx9 : x = y * (-((-x) / y)) := by rw [Int.mul_neg]; omega
    have h9 := Int.mul_ediv_cancel_left (-((-x) / y)) (show y ≠ 0 by omega)
    rw [← hx9] at h9
    exact h9
  · rw [e] at h ⊢
    rw [hm] at h
    have hx9 : x = (y - (-x) % y) + y * (-((-x) / y) - 1) := by rw [Int.mul_sub, Int.mul_neg]; omega
    have h9 : x / y = ((y - (-x) % y) + y * (-((-x) / y) - 1)) / y := by rw [← hx9]
    rw [h9, Int.add_mul_ediv_left _ _ (show y ≠ 0 by omega), Int.ediv_eq_zero_of_lt (by omega) (by omega)]
    omega
abbrev mJ9_floorDiv_7cf53 : jk_M := (RJ9, cJ9_floorDiv_7cf53, 3, (some FieldType.int), [], false, 0)
theorem jk_pF : plainFor yJ9_floorDiv_7cf53 = true := by decide +kernel
/-- a method of a class that has rows of the machine's own, but none for it -/
def jk_meF (y : MethodName) (M1 : jk_M) (na : Nat) : Prop := Cond.code y (jk_cc M1) (jk_nL M1) (jk_rt M1) ∈ jk_WS ∧ Cond.initialized y.cls ∈ jk_WS ∧ (y.cls ≠ "java/lang/invoke/MethodHandle" ∧ y.cls ≠ "java/lang/invoke/VarHandle") ∧
  (parseMethodDescriptor y.desc).map (fun d => d.parameters.length) = some na ∧ plainFor y = true ∧ jk_own M1 = y.cls ∧ jk_nL M1 ≤ 45 ∧ (jk_ini M1 = true → y.name = "<init>") ∧ jk_tb M1 = []
theorem jm_J9_floorDiv_7cf53 : jk_meF yJ9_floorDiv_7cf53 mJ9_floorDiv_7cf53 2 ∧ Cond.static yJ9_floorDiv_7cf53 ∈ jk_WS := ⟨⟨jw_1102, jw_24, ⟨by decide +kernel, by decide +kernel⟩, by decide +kernel, jk_pF, rfl, by decide, fun h => absurd h (by decide), rfl⟩, jw_1101⟩
section JX8
variable {G : jk_G} {M : jk_M} {pc q : Nat} {ls : List (Option Value)} {st : List Value} {n : Nat} {t : jk_T} {σ : jk_I} {ρ : jk_P} {rc rs : Nat} {Q : jk_Q} {X : jk_X}
theorem vx_ofWF {l : Launch} {y : MethodName} {ws ws' : List Cond} {rm : Room} {Pc : Array Value → State → Prop} {Qc : Array Value → State → Outcome → State → Prop} {XC : String → State → State → Prop} {mc ms : Nat} {free : Addr → Prop} {cc : ByteArray} {maxL : Nat} {ret : Option FieldType}
    (hy : plainFor y = true) (hw : ws = Cond.code y cc maxL ret :: ws')
    (body : ∀ p e s m args below meth c s₁, BodyLoose p l y (headSpec ws rm) cc maxL ret e s m args below meth c s₁ → c.maxLocals = maxL → (∀ x ∈ c.exceptionTable.toList, False) → Pc args s →
      W p l e (headSpec ws rm).room s m args below meth c s.heap [] 0 0 (vx_MQ below Qc XC args s mc ms free) (entryFrame m args maxL)) : vx_Met l y ws rm Pc Qc XC mc ms free := by
  refine MetFree.of_bodySF (code := cc) (maxLocals := maxL) (ret := ret) hy ?_ ?_
  · intro args s m h hn
    obtain ⟨meth, c, h1, h2, h3, h4, h5, h6, -, -⟩ := Cond.code_spec hn (atoms_spec (ws := ws) h _ (by rw [hw]; exact List.mem_cons_self))
    exact ⟨meth, c, h1, h2, h3, h4, h5, h6⟩
  · intro p e s m args below meth c s₁ B hml hP _
    have hh0 : s₁.heap = s.heap := by rw [B.state]; rfl
    have ht : ∀ x ∈ c.exceptionTable.toList, False := by
      obtain ⟨meth9, c9, h1, h2, -, -, -, -, h7, -⟩ := Cond.code_spec B.named (atoms_spec (ws := ws) B.pre _ (by rw [hw]; exact List.mem_cons_self))
      cases Option.some.inj (h1.symm.trans B.method)
      cases Option.some.inj (h2.symm.trans (Stand.of_body B).code)
      intro x hx
      rw [Array.isEmpty_iff.mp h7] at hx
      cases hx
    obtain ⟨t, a1, o, b1, b2, b3⟩ := body p e s m args below meth c s₁ B hml ht hP s₁ hh0 (Stand.of_body B)
    exact ⟨t, o, a1, b1, b2, b3⟩
theorem jk_entryF {y : MethodName} {M1 : jk_M} {mc ms na : Nat} {As : List Value} (hm : jk_meF y M1 na) (hcat : As.all (fun v => v.category == 1) = true) (hsz : Nat.ble As.length (jk_nL M1) = true) (hls : ls = As.map some ++ List.replicate (jk_nL M1 - As.length) none) (k : jk_J G M1 0 ls [] n t σ ρ mc ms Q X) : jk_K G y M1 mc ms As n t σ ρ Q X := by
  obtain ⟨h1, h2, h3, h4, h5, h6, h7, h8, h9⟩ := hm
  refine vx_ofWF (cc := jk_cc M1) (maxL := jk_nL M1) (ret := jk_rt M1) h5 rfl ?_
  intro p e s m args below meth c s₁ B hml htab hv
  obtain ⟨rfl, hok, hZ, hb, hR⟩ := hv
  have hts := atoms_spec (ws := Cond.code y (jk_cc M1) (jk_nL M1) (jk_rt M1) :: jk_WS) B.pre
  have htab' : c.exceptionTable.toList = [] := List.eq_nil_iff_forall_not_mem.mpr htab
  rw [lg_entry_eq]
  exact k p e _ s m _ below meth c s.heap [] 0 0 _ ⟨B.exec, B.bytes, hml, B.returns, B.notSynchronized, by rw [h6]; exact findClass_of_methodNamed B.named, fun w hw => hts w (List.mem_cons_of_mem _ hw), by rw [h9]; exact htab', fun hi => by rw [← h8 hi]; exact (name_of_methodNamed B.named B.method).1, Nat.le_refl _, Nat.le_refl _, hok, hZ, hb⟩ (jk_entryL (fun v hv => eq_of_beq (List.all_eq_true.mp hcat v hv)) (Nat.le_of_ble_eq_true hsz) hls) hR va_S.rf (by show 0 + mc ≤ mc; omega) (by show 0 + ms ≤ ms; omega)
theorem jk_callBF {y : MethodName} {M1 : jk_M} {na index mc ms : Nat} {p : Program} {R : Room} {s : State} {m : MethodId} {args : Array Value} {meth : Method} {c : Code} (C : jk_C G M p R s m args meth c) (hm : jk_meF y M1 na) (hw : Cond.methodLink (jk_own M) index y ∈ jk_WS) (hdep : jk_d M1 + 1 ≤ jk_d M) :
    CallB R s args (jk_own M) index y (jk_cc M1) (jk_nL M1) (jk_rt M1) (Cond.code y (jk_cc M1) (jk_nL M1) (jk_rt M1) :: jk_WS) ({ frames := jk_d M1, cells := mc, slots := ms, locals := 64 * jk_d M1 } : Room) mc ms na := by
  obtain ⟨h1, h2, h3, h4, h5, h6, h7, h8⟩ := hm
  have hts := C.2.2.2.2.2.2.1
  have hd1 := C.2.2.2.2.2.2.2.2.2.1
  have hd2 := C.2.2.2.2.2.2.2.2.2.2.1
  refine ⟨rfl, rfl, ?_, ?_, ?_, List.mem_cons_self, hts _ h1, hts _ h2, h3, ?_, hts _ hw⟩
  · show jk_d M1 + 1 ≤ R.frames; omega
  · show 8 + (jk_nL M1 + 11) + 64 * jk_d M1 ≤ R.locals; omega
  · intro w hw a' U hW
    rcases List.mem_cons.mp hw with rfl | hw
    · exact jk_kw_warm (jk_ws_kw h1) hW (hts _ h1)
    · exact jk_kw_warm (jk_ws_kw hw) hW (hts _ hw)
  · intro sig h
    rw [h] at h4
    exact (Option.some.inj h4).symm
theorem jk_cS2pF {y : MethodName} {M1 : jk_M} {index : Nat} {n2 : Nat} {t2 : jk_T} {σ2 : jk_I} {ρ2 : jk_P} {a1 a2 v : Value} {rest : List Value} (hK : jk_K G y M1 0 0 [a1, a2] n t σ ρ (jk_q (some v) n2 t2 σ2 ρ2) jk_no) (hm : jk_meF y M1 2 ∧ Cond.static y ∈ jk_WS) (hw : Cond.methodLink (jk_own M) index y ∈ jk_WS) (hdep : Nat.ble (jk_d M1 + 1) (jk_d M) = true) (hlen : Nat.ble rest.length 4 = true) (htb : jk_tb M = []) (hd : decode (jk_cc M) pc = .ok (.invokestatic index, 3)) (hp : pc + 3 = q) (kk : jk_J G M q ls (v :: rest) n2 t2 σ2 ρ2 rc rs Q X) : jk_J G M pc ls (a2 :: a1 :: rest) n t σ ρ rc rs Q X := by
  subst hp
  intro p e R s m args below meth c H locs cells slots ls' C hl hR hS hc hs
  have hts := C.2.2.2.2.2.2.1
  have hok := C.2.2.2.2.2.2.2.2.2.2.2.1
  have hZ := C.2.2.2.2.2.2.2.2.2.2.2.2.1
  have hb0 := C.2.2.2.2.2.2.2.2.2.2.2.2.2
  refine jk_behind (M := M) (mc := 0) (ms := 0) (rc' := rc) (rs' := rs) (rest := rest) (Q1 := jk_q (some v) n2 t2 σ2 ρ2) (X1 := jk_no) (vx_runS (As := [a1, a2].map (jk_re G)) (own := jk_own M) (cc := jk_cc M) (nL := jk_nL M) (Ts := jk_WS) (n := 2) ⟨C.1, C.2.1, C.2.2.1, C.2.2.2.2.2.1, hts⟩ hK ⟨jk_callBF C hm.1 hw (Nat.le_of_ble_eq_true hdep), hts _ hm.2⟩ ⟨jk_blind, fun U hU hW => ⟨rfl, hok, jk_Zat hok hZ hb0 hS hU hW, by rw [hU]; exact Nat.le_trans hb0 hS.1, by rw [hU]; exact jk_R_moved hW.alike hR⟩⟩ rfl rfl (jk_fsz hl) (by simp [F0, jk_re]) ?_ hd ⟨by omega, by omega⟩) C hl hS (by omega) (by omega) (fun x hx => by rw [htb] at hx; cases hx) (fun v' n' t' σ' ρ' hq => by obtain ⟨rfl, rfl, rfl, rfl, rfl⟩ := hq; exact kk) (fun _ _ _ _ _ h => h.elim)
  exact lv_room (Nat.le_trans (jk_catsum rest) (by have := Nat.le_of_ble_eq_true hlen; omega))
end JX8
theorem c_J9_floorDiv_7cf53 {G : jk_G} {n : Nat} {t : jk_T} {σ : jk_I} {ρ : jk_P} {x y : Int} (hx : -1000000000 ≤ x ∧ x ≤ 1000000000) (hy : 0 < y ∧ y ≤ 1000000000) : jk_K G yJ9_floorDiv_7cf53 mJ9_floorDiv_7cf53 0 0 [jI x, jI y] n t σ ρ (jk_q (some (jI (x / y))) n t σ ρ) jk_no := by
  have hq : -1000000000 ≤ x.tdiv y ∧ x.tdiv y ≤ 1000000000 := by
    by_cases h : 0 ≤ x
    · rw [jk_tdiv h]; exact ⟨by have := Int.ediv_nonneg h (show (0 : Int) ≤ y by omega); omega, by have := Int.ediv_le_self y h; omega⟩
    · rw [(cb_fdn (by omega) hy.1).1]
      have h1 := Int.ediv_nonneg (show 0 ≤ -x by omega) (show (0 : Int) ≤ y by omega)
      have h2 := Int.ediv_le_self y (show 0 ≤ -x by omega)
      exact ⟨by omega, by omega⟩
  refine jk_entryF (ls := [some (jI x), some (jI y), none]) jm_J9_floorDiv_7cf53.1 rfl rfl rfl ?_
  refine jk_iload_n (q := 1) dJ9_floorDiv_7cf53_0 rfl rfl ?_
  refine jk_iload_n (q := 2) dJ9_floorDiv_7cf53_1 rfl rfl ?_
  refine jk_idiv (q := 3) dJ9_floorDiv_7cf53_2 rfl (by first | assumption | decide | omega | exact jB_01 _ | exact jB_in _ | exact ⟨by omega, by omega⟩) (by first | assumption | decide | omega | exact jB_01 _ | exact jB_in _ | exact ⟨by omega, by omega⟩) (by first | assumption | decide | omega | exact jB_01 _ | exact jB_in _ | exact ⟨by omega, by omega⟩) ?_
  refine jk_istore2 (q := 4) dJ9_floorDiv_7cf53_3 rfl rfl rfl ?_
  refine jk_iload_n (q := 5) dJ9_floorDiv_7cf53_4 rfl rfl ?_
  refine jk_iload_n (q := 6) dJ9_floorDiv_7cf53_5 rfl rfl ?_
  refine jk_ixor (q := 7) dJ9_floorDiv_7cf53_6 rfl (by first | assumption | decide | omega | exact jB_01 _ | exact jB_in _ | exact ⟨by omega, by omega⟩) (by first | assumption | decide | omega | exact jB_01 _ | exact jB_in _ | exact ⟨by omega, by omega⟩) (fun zx hzx hzs => ?_)
  refine jk_if_ge (q := 21) (q2 := 10) dJ9_floorDiv_7cf53_7 rfl rfl (by first | assumption | decide | omega | exact jB_01 _ | exact jB_in _ | exact ⟨by omega, by omega⟩) (fun z2 => ?_) (fun z2 => ?_)
  · refine jk_iload_n (q := 22) dJ9_floorDiv_7cf53_21 rfl rfl ?_
    exact jk_iret rfl dJ9_floorDiv_7cf53_22 (by refine jk_qI ?_; first | exact (f2 (by assumption)).symm | exact jk_tdiv (by omega))
  · have hx0 : x < 0 := (by omega)
    obtain ⟨f1, f2, f3⟩ := cb_fdn hx0 hy.1
    have hmul : x.tdiv y * y ≤ 0 ∧ -1000000000 ≤ x.tdiv y * y := by
      rw [f1, Int.neg_mul]
      have h4 := Int.ediv_mul_le (-x) (show y ≠ 0 by omega)
      have h5 := Int.mul_nonneg (Int.ediv_nonneg (show 0 ≤ -x by omega) (show (0 : Int) ≤ y by omega)) (show (0 : Int) ≤ y by omega)
      exact ⟨by omega, by omega⟩
    refine jk_iload_n (q := 11) dJ9_floorDiv_7cf53_10 rfl rfl ?_
    refine jk_iload_n (q := 12) dJ9_floorDiv_7cf53_11 rfl rfl ?_
    refine jk_imul (q := 13) dJ9_floorDiv_7cf53_12 rfl ?_
    refine jk_iload_n (q := 14) dJ9_floorDiv_7cf53_13 rfl rfl ?_
    refine jk_icmp_eq (q := 21) (q2 := 17) dJ9_floorDiv_7cf53_14 rfl rfl (by first | assumption | decide | omega | exact jB_01 _ | exact jB_in _ | exact ⟨by omega, by omega⟩) (by first | assumption | decide | omega | exact jB_01 _ | exact jB_in _ | exact ⟨by omega, by omega⟩) (fun z3 => ?_) (fun z3 => ?_)
    · refine jk_iload_n (q := 22) dJ9_floorDiv_7cf53_21 rfl rfl ?_
      exact jk_iret rfl dJ9_floorDiv_7cf53_22 (by refine jk_qI ?_; first | exact (f2 (by assumption)).symm | exact jk_tdiv (by omega))
    · refine jk_iload_n (q := 18) dJ9_floorDiv_7cf53_17 rfl rfl ?_
      refine jk_iconst (q := 19) dJ9_floorDiv_7cf53_18 rfl ?_
      refine jk_isub (q := 20) dJ9_floorDiv_7cf53_19 rfl ?_
      exact jk_iret rfl dJ9_floorDiv_7cf53_20 (by refine jk_qI ?_; exact (f3 (by assumption)).symm)
theorem c_X12_within {G : jk_G} {n : Nat} {t : jk_T} {σ : jk_I} {ρ : jk_P} {v lo hi : Int} (hv : jk_in v) (hlo : jk_in lo) (hhi : jk_in hi) : jk_K G yX12_within mX12_within 0 0 [jI v, jI lo, jI hi] n t σ ρ (jk_q (some (jI (jB (decide (lo ≤ v ∧ v ≤ hi))))) n t σ ρ) jk_no := by
  refine jk_entryB (ls := [some (jI v), some (jI lo), some (jI hi)]) jm_X12_within.1 rfl rfl rfl ?_
  refine jk_iload_n (q := 1) dX12_within_0 rfl rfl ?_
  refine jk_iload_n (q := 2) dX12_within_1 rfl rfl ?_
  refine jk_icmp_lt (q := 14) (q2 := 5) dX12_within_2 rfl rfl (by first | assumption | decide | omega | exact jB_01 _ | exact jB_in _ | exact ⟨by omega, by omega⟩) (by first | assumption | decide | omega | exact jB_01 _ | exact jB_in _ | exact ⟨by omega, by omega⟩) (fun z1 => ?_) (fun z1 => ?_)
  · refine jk_iconst (q := 15) dX12_within_14 rfl ?_
    exact jk_zret rfl (by first | assumption | decide | omega | exact jB_01 _ | exact jB_in _ | exact ⟨by omega, by omega⟩) dX12_within_15 (by refine jk_qI ?_; first | (rw [decide_eq_true (by omega)]; rfl) | (rw [decide_eq_false (by omega)]; rfl))
  · refine jk_iload_n (q := 6) dX12_within_5 rfl rfl ?_
    refine jk_iload_n (q := 7) dX12_within_6 rfl rfl ?_
    refine jk_icmp_gt (q := 14) (q2 := 10) dX12_within_7 rfl rfl (by first | assumption | decide | omega | exact jB_01 _ | exact jB_in _ | exact ⟨by omega, by omega⟩) (by first | assumption | decide | omega | exact jB_01 _ | exact jB_in _ | exact ⟨by omega, by omega⟩) (fun z2 => ?_) (fun z2 => ?_)
    · refine jk_iconst (q := 15) dX12_within_14 rfl ?_
      exact jk_zret rfl (by first | assumption | decide | omega | exact jB_01 _ | exact jB_in _ | exact ⟨by omega, by omega⟩) dX12_within_15 (by refine jk_qI ?_; first | (rw [decide_eq_true (by omega)]; rfl) | (rw [decide_eq_false (by omega)]; rfl))
    · refine jk_iconst (q := 11) dX12_within_10 rfl ?_
      refine jk_goto (q := 15) dX12_within_11 rfl ?_
      exact jk_zret rfl (by first | assumption | decide | omega | exact jB_01 _ | exact jB_in _ | exact ⟨by omega, by omega⟩) dX12_within_15 (by refine jk_qI ?_; first | (rw [decide_eq_true (by omega)]; rfl) | (rw [decide_eq_false (by omega)]; rfl))
theorem c_X1_clamp {G : jk_G} {n : Nat} {t : jk_T} {σ : jk_I} {ρ : jk_P} {v hi : Int} (hv : jk_in v) (hhi : 0 ≤ hi ∧ hi ≤ 1000) : jk_K G yX1_clamp mX1_clamp 0 0 [jI v, jI hi] n t σ ρ (jk_q (some (jI (if v < 0 then 0 else if hi < v then hi else v))) n t σ ρ) jk_no := by
  refine jk_entryB (ls := [some (jI v), some (jI hi)]) jm_X1_clamp.1 rfl rfl rfl ?_
  refine jk_iconst (q := 1) dX1_clamp_0 rfl ?_
  refine jk_iload_n (q := 2) dX1_clamp_1 rfl rfl ?_
  refine jk_iload_n (q := 3) dX1_clamp_2 rfl rfl ?_
  refine jk_mmin (q := 6) jw_1130 rfl rfl (by first | assumption | decide | omega | exact jB_01 _ | exact jB_in _ | exact ⟨by omega, by omega⟩) (by first | assumption | decide | omega | exact jB_01 _ | exact jB_in _ | exact ⟨by omega, by omega⟩) dX1_clamp_3 rfl ?_
  have hmm : jk_in (if hi < v then hi else v) := (by split <;> first | assumption | exact ⟨by omega, by omega⟩)
  refine jk_mmax (q := 9) jw_1131 rfl rfl (by first | assumption | decide | omega | exact jB_01 _ | exact jB_in _ | exact ⟨by omega, by omega⟩) (by first | assumption | decide | omega | exact jB_01 _ | exact jB_in _ | exact ⟨by omega, by omega⟩) dX1_clamp_6 rfl ?_
  exact jk_iret rfl dX1_clamp_9 (by refine jk_qI ?_; (repeat' split) <;> omega)
/-- a Bank at b over the Survey at s -/
def ba_at (t : jk_T) (ρ : jk_P) (b s : Nat) : Prop := (t b = some (.inr 1) ∧ ρ b 0 = some s) ∧ cl_at t ρ s ∧ s + 44 < b
theorem cl_rows {t : jk_T} {ρ : jk_P} {s q : Nat} (hs : cl_at t ρ s) (hq : q < 4) : t (s + (28 + 2 * q)) = some (.inl (.int, 10)) ∧ t (s + (38 + 2 * q)) = some (.inl (.int, 10)) := by
  have h : q = 0 ∨ q = 1 ∨ q = 2 ∨ q = 3 := by omega
  rcases h with rfl | rfl | rfl | rfl <;> exact ⟨hs.2.1 _ _ rfl, hs.2.1 _ _ rfl⟩
/-- no first distance is below 0, also of a profile without stations -/
def cl_nn (σ : jk_I) (s : Nat) : Prop := ∀ q : Nat, q < 4 → 0 ≤ σ (s + (28 + 2 * q)) 0 ∧ σ (s + (28 + 2 * q)) 0 ≤ 999
theorem c_X1_firstColumn {G : jk_G} {n : Nat} {t : jk_T} {σ : jk_I} {ρ : jk_P} {b s q : Nat} {g : Int → Int} {B : Int} (hba : ba_at t ρ b s) (hr : cl_rel σ s g) (hi : md_inv B g) (hx : md_inx g) (hnn : cl_nn σ s) (hq : (q : Int) < g 2) : jk_K G yX1_firstColumn mX1_firstColumn 0 0 [.ref b, jI (q : Int)] n t σ ρ (jk_q (some (jI (σ (s + (28 + 2 * q)) 0))) n t σ ρ) jk_no := by
  obtain ⟨-, hs, hsb⟩ := id hba
  have i2 := hi.2.2.1
  have hq4 : q < 4 := by omega
  obtain ⟨r1, r2, r3⟩ := hr.2.2.2 q hq
  obtain ⟨x1, x2⟩ := hx (q : Int) ⟨by omega, hq⟩
  have hst := (hi.2.2.2.2.2.2.2.1 (q : Int) ⟨by omega, by omega⟩).1
  have hnq := hnn q hq4
  refine jk_entryB (ls := [some (.ref b), some (jI (q : Int))]) jm_X1_firstColumn.1 rfl rfl rfl ?_
  refine jk_aload_n (q := 1) dX1_firstColumn_0 rfl rfl ?_
  refine jk_getA (q := 4) (k := 1) 0 0 rfl (by first | exact hba.1.1 | exact hs.1 | exact hs.2.1 _ _ rfl | exact (cl_rows hs hq4).1 | exact (cl_rows hs hq4).2 | assumption) (by first | exact hba.1.2 | exact hs.2.2.1 _ _ rfl | exact (hs.2.2.2 q hq4).1 | exact (hs.2.2.2 q hq4).2 | assumption) rfl rfl jw_285 dX1_firstColumn_1 rfl ?_
  refine jk_getA (q := 7) (k := 9) 15 15 rfl (by first | exact hba.1.1 | exact hs.1 | exact hs.2.1 _ _ rfl | exact (cl_rows hs hq4).1 | exact (cl_rows hs hq4).2 | assumption) (by first | exact hba.1.2 | exact hs.2.2.1 _ _ rfl | exact (hs.2.2.2 q hq4).1 | exact (hs.2.2.2 q hq4).2 | assumption) rfl rfl jw_116 dX1_firstColumn_4 rfl ?_
  refine jk_iload_n (q := 8) dX1_firstColumn_7 rfl rfl ?_
  refine jk_aald (q := 9) (ty := .array .int) rfl rfl (by first | exact hba.1.1 | exact hs.1 | exact hs.2.1 _ _ rfl | exact (cl_rows hs hq4).1 | exact (cl_rows hs hq4).2 | assumption) (by first | assumption | decide | omega | exact jB_01 _ | exact jB_in _ | exact ⟨by omega, by omega⟩) (by first | exact hba.1.2 | exact hs.2.2.1 _ _ rfl | exact (hs.2.2.2 q hq4).1 | exact (hs.2.2.2 q hq4).2 | assumption) dX1_firstColumn_8 rfl ?_
  refine jk_iconst (q := 10) dX1_firstColumn_9 rfl ?_
  refine jk_ialdR (q := 11) (by first | exact hba.1.1 | exact hs.1 | exact hs.2.1 _ _ rfl | exact (cl_rows hs hq4).1 | exact (cl_rows hs hq4).2 | assumption) (by first | exact jk_row_same _ _ _ | ((repeat rewrite [jk_row_ne _ _ (by omega)]); first | exact jk_row_same _ _ _ | rfl)) (by first | assumption | decide | omega | exact jB_01 _ | exact jB_in _ | exact ⟨by omega, by omega⟩) dX1_firstColumn_10 rfl ?_
  exact jk_iret rfl dX1_firstColumn_11 (by exact jk_qr)
theorem c_X1_lastColumn {G : jk_G} {n : Nat} {t : jk_T} {σ : jk_I} {ρ : jk_P} {b s q : Nat} {g : Int → Int} {B : Int} (hba : ba_at t ρ b s) (hr : cl_rel σ s g) (hi : md_inv B g) (hx : md_inx g) (hnn : cl_nn σ s) (hq : (q : Int) < g 2) : jk_K G yX1_lastColumn mX1_lastColumn 0 0 [.ref b, jI (q : Int)] n t σ ρ (jk_q (some (jI (if 0 < g (156 + (q : Int)) then md_Ds g (q : Int) (g (156 + (q : Int)) - 1) else -1))) n t σ ρ) jk_no := by
  obtain ⟨-, hs, hsb⟩ := id hba
  have i2 := hi.2.2.1
  have hq4 : q < 4 := by omega
  obtain ⟨r1, r2, r3⟩ := hr.2.2.2 q hq
  obtain ⟨x1, x2⟩ := hx (q : Int) ⟨by omega, hq⟩
  have hst := (hi.2.2.2.2.2.2.2.1 (q : Int) ⟨by omega, by omega⟩).1
  have hnq := hnn q hq4
  refine jk_entryB (ls := [some (.ref b), some (jI (q : Int)), none]) jm_X1_lastColumn.1 rfl rfl rfl ?_
  refine jk_aload_n (q := 1) dX1_lastColumn_0 rfl rfl ?_
  refine jk_getA (q := 4) (k := 1) 0 0 rfl (by first | exact hba.1.1 | exact hs.1 | exact hs.2.1 _ _ rfl | exact (cl_rows hs hq4).1 | exact (cl_rows hs hq4).2 | assumption) (by first | exact hba.1.2 | exact hs.2.2.1 _ _ rfl | exact (hs.2.2.2 q hq4).1 | exact (hs.2.2.2 q hq4).2 | assumption) rfl rfl jw_285 dX1_lastColumn_1 rfl ?_
  refine jk_getA (q := 7) (k := 9) 14 14 rfl (by first | exact hba.1.1 | exact hs.1 | exact hs.2.1 _ _ rfl | exact (cl_rows hs hq4).1 | exact (cl_rows hs hq4).2 | assumption) (by first | exact hba.1.2 | exact hs.2.2.1 _ _ rfl | exact (hs.2.2.2 q hq4).1 | exact (hs.2.2.2 q hq4).2 | assumption) rfl rfl jw_112 dX1_lastColumn_4 rfl ?_
  refine jk_iload_n (q := 8) dX1_lastColumn_7 rfl rfl ?_
  refine jk_ialdR (q := 9) (by first | exact hba.1.1 | exact hs.1 | exact hs.2.1 _ _ rfl | exact (cl_rows hs hq4).1 | exact (cl_rows hs hq4).2 | assumption) (by first | exact jk_row_same _ _ _ | ((repeat rewrite [jk_row_ne _ _ (by omega)]); first | exact jk_row_same _ _ _ | rfl)) (by first | assumption | decide | omega | exact jB_01 _ | exact jB_in _ | exact ⟨by omega, by omega⟩) dX1_lastColumn_8 rfl ?_
  rw [r2]
  refine jk_istore2 (q := 10) dX1_lastColumn_9 rfl rfl rfl ?_
  refine jk_iload_n (q := 11) dX1_lastColumn_10 rfl rfl ?_
  refine jk_if_le (q := 30) (q2 := 14) dX1_lastColumn_11 rfl rfl (by first | assumption | decide | omega | exact jB_01 _ | exact jB_in _ | exact ⟨by omega, by omega⟩) (fun z1 => ?_) (fun z1 => ?_)
  · refine jk_iconst (q := 31) dX1_lastColumn_30 rfl ?_
    exact jk_iret rfl dX1_lastColumn_31 (by refine jk_qI ?_; first | (rw [if_pos (by omega)]; unfold md_Ds; exact (r3 (g (156 + (q : Int)) - 1) ⟨by omega, by omega⟩).1.trans (by congr 1)) | rw [if_neg (by omega)])
  · refine jk_aload_n (q := 15) dX1_lastColumn_14 rfl rfl ?_
    refine jk_getA (q := 18) (k := 1) 0 0 rfl (by first | exact hba.1.1 | exact hs.1 | exact hs.2.1 _ _ rfl | exact (cl_rows hs hq4).1 | exact (cl_rows hs hq4).2 | assumption) (by first | exact hba.1.2 | exact hs.2.2.1 _ _ rfl | exact (hs.2.2.2 q hq4).1 | exact (hs.2.2.2 q hq4).2 | assumption) rfl rfl jw_285 dX1_lastColumn_15 rfl ?_
    refine jk_getA (q := 21) (k := 9) 15 15 rfl (by first | exact hba.1.1 | exact hs.1 | exact hs.2.1 _ _ rfl | exact (cl_rows hs hq4).1 | exact (cl_rows hs hq4).2 | assumption) (by first | exact hba.1.2 | exact hs.2.2.1 _ _ rfl | exact (hs.2.2.2 q hq4).1 | exact (hs.2.2.2 q hq4).2 | assumption) rfl rfl jw_116 dX1_lastColumn_18 rfl ?_
    refine jk_iload_n (q := 22) dX1_lastColumn_21 rfl rfl ?_
    refine jk_aald (q := 23) (ty := .array .int) rfl rfl (by first | exact hba.1.1 | exact hs.1 | exact hs.2.1 _ _ rfl | exact (cl_rows hs hq4).1 | exact (cl_rows hs hq4).2 | assumption) (by first | assumption | decide | omega | exact jB_01 _ | exact jB_in _ | exact ⟨by omega, by omega⟩) (by first | exact hba.1.2 | exact hs.2.2.1 _ _ rfl | exact (hs.2.2.2 q hq4).1 | exact (hs.2.2.2 q hq4).2 | assumption) dX1_lastColumn_22 rfl ?_
    refine jk_iload_n (q := 24) dX1_lastColumn_23 rfl rfl ?_
    refine jk_iconst (q := 25) dX1_lastColumn_24 rfl ?_
    refine jk_isub (q := 26) dX1_lastColumn_25 rfl ?_
    refine jk_ialdR (q := 27) (by first | exact hba.1.1 | exact hs.1 | exact hs.2.1 _ _ rfl | exact (cl_rows hs hq4).1 | exact (cl_rows hs hq4).2 | assumption) (by first | exact jk_row_same _ _ _ | ((repeat rewrite [jk_row_ne _ _ (by omega)]); first | exact jk_row_same _ _ _ | rfl)) (by first | assumption | decide | omega | exact jB_01 _ | exact jB_in _ | exact ⟨by omega, by omega⟩) dX1_lastColumn_26 rfl ?_
    have hds := (r3 (g (156 + (q : Int)) - 1) ⟨by omega, by omega⟩).1
    refine jk_goto (q := 31) dX1_lastColumn_27 rfl ?_
    exact jk_iret rfl dX1_lastColumn_31 (by refine jk_qI ?_; first | (rw [if_pos (by omega)]; unfold md_Ds; exact (r3 (g (156 + (q : Int)) - 1) ⟨by omega, by omega⟩).1.trans (by congr 1)) | rw [if_neg (by omega)])
theorem c_X1_hasColumn {G : jk_G} {n : Nat} {t : jk_T} {σ : jk_I} {ρ : jk_P} {b s q : Nat} {g : Int → Int} {B c : Int} (hba : ba_at t ρ b s) (hr : cl_rel σ s g) (hi : md_inv B g) (hx : md_inx g) (hnn : cl_nn σ s) (hq : (q : Int) < g 2) (hc : jk_in c) : jk_K G yX1_hasColumn mX1_hasColumn 0 0 [.ref b, jI (q : Int), jI c] n t σ ρ (jk_q (some (jI (jB (decide (0 < g (156 + (q : Int)) ∧ md_Ds g (q : Int) 0 ≤ c ∧ c ≤ md_Ds g (q : Int) (g (156 + (q : Int)) - 1)))))) n t σ ρ) jk_no := by
  obtain ⟨-, hs, hsb⟩ := id hba
  have i2 := hi.2.2.1
  have hq4 : q < 4 := by omega
  obtain ⟨r1, r2, r3⟩ := hr.2.2.2 q hq
  obtain ⟨x1, x2⟩ := hx (q : Int) ⟨by omega, hq⟩
  have hst := (hi.2.2.2.2.2.2.2.1 (q : Int) ⟨by omega, by omega⟩).1
  have hnq := hnn q hq4
  have hdl : -1 ≤ (if 0 < g (156 + (q : Int)) then md_Ds g (q : Int) (g (156 + (q : Int)) - 1) else -1) ∧ (if 0 < g (156 + (q : Int)) then md_Ds g (q : Int) (g (156 + (q : Int)) - 1) else -1) ≤ 99 := by
    split
    · have := x1 (g (156 + (q : Int)) - 1) ⟨by omega, by omega⟩; omega
    · omega
  have hd0 : 0 < g (156 + (q : Int)) → σ (s + (28 + 2 * q)) 0 = md_Ds g (q : Int) 0 := fun h => by unfold md_Ds; exact (r3 0 ⟨by omega, h⟩).1
  refine jk_entryB (ls := [some (.ref b), some (jI (q : Int)), some (jI c)]) jm_X1_hasColumn.1 rfl rfl rfl ?_
  refine jk_iload_n (q := 1) dX1_hasColumn_0 rfl rfl ?_
  refine jk_aload_n (q := 2) dX1_hasColumn_1 rfl rfl ?_
  refine jk_iload_n (q := 3) dX1_hasColumn_2 rfl rfl ?_
  refine jk_cV1p (q := 6) (c_X1_firstColumn hba hr hi hx hnn hq) jm_X1_firstColumn jw_1086 rfl (by first | exact hba.1.1 | exact hs.1 | exact hs.2.1 _ _ rfl | exact (cl_rows hs hq4).1 | exact (cl_rows hs hq4).2 | assumption) rfl rfl rfl dX1_hasColumn_3 rfl ?_
  refine jk_aload_n (q := 7) dX1_hasColumn_6 rfl rfl ?_
  refine jk_iload_n (q := 8) dX1_hasColumn_7 rfl rfl ?_
  refine jk_cV1p (q := 11) (c_X1_lastColumn hba hr hi hx hnn hq) jm_X1_lastColumn jw_1090 rfl (by first | exact hba.1.1 | exact hs.1 | exact hs.2.1 _ _ rfl | exact (cl_rows hs hq4).1 | exact (cl_rows hs hq4).2 | assumption) rfl rfl rfl dX1_hasColumn_8 rfl ?_
  refine jk_cS3pN (q := 14) (c_X12_within (v := c) (lo := σ (s + (28 + 2 * q)) 0) (hi := (if 0 < g (156 + (q : Int)) then md_Ds g (q : Int) (g (156 + (q : Int)) - 1) else -1)) hc ⟨by omega, by omega⟩ ⟨by omega, by omega⟩) jm_X12_within jw_1094 rfl rfl rfl dX1_hasColumn_11 rfl ?_
  exact jk_zret rfl (by first | assumption | decide | omega | exact jB_01 _ | exact jB_in _ | exact ⟨by omega, by omega⟩) dX1_hasColumn_14 (by refine jk_qI (congrArg jB (decide_eq_decide.mpr ?_)); by_cases h : 0 < g (156 + (q : Int)); (rw [if_pos h, hd0 h]; omega); (rw [if_neg h]; omega))
theorem cb_ws {g : Int → Int} {q c : Int} : ∀ (i f s : Nat), (∀ j : Nat, s ≤ j → j < s + i → (j : Int) < g (156 + q) - 1 ∧ md_Ds g q ((j : Int) + 1) ≤ c) → md_ws g q c (i + f) s = md_ws g q c f (s + i)
  | 0, f, s, _ => by rw [show 0 + f = f by omega]; rfl
  | i + 1, f, s, h => by
    rw [show i + 1 + f = (i + f) + 1 by omega]
    show (if _ then _ else _) = _
    rw [if_pos (h s (by omega) (by omega)), cb_ws i f (s + 1) (fun j h1 h2 => h j (by omega) (by omega)), show s + 1 + i = s + (i + 1) by omega]
theorem cb_stn {g : Int → Int} {q c : Int} {i : Nat} (hi : i < 10) (h1 : ∀ j : Nat, j < i → (j : Int) < g (156 + q) - 1 ∧ md_Ds g q ((j : Int) + 1) ≤ c) (h2 : ¬ ((i : Int) < g (156 + q) - 1 ∧ md_Ds g q ((i : Int) + 1) ≤ c)) : md_stn g q c = (i : Int) := by
  unfold md_stn
  have := cb_ws i (10 - i) 0 (g := g) (q := q) (c := c) (fun j _ hj => h1 j (by omega))
  rw [show i + (10 - i) = 10 by omega] at this
  rw [this, show 0 + i = i by omega]
  obtain ⟨k, hk⟩ : ∃ k, 10 - i = k + 1 := ⟨9 - i, by omega⟩
  rw [hk]
  show (((if _ then _ else _) : Nat) : Int) = _
  rw [if_neg h2]
theorem c_X1_offsetAt {G : jk_G} {n : Nat} {t : jk_T} {σ : jk_I} {ρ : jk_P} {b s q : Nat} {g : Int → Int} {B c : Int} (hba : ba_at t ρ b s) (hr : cl_rel σ s g) (hi : md_inv B g) (hx : md_inx g) (hnn : cl_nn σ s) (hq : (q : Int) < g 2) (hst1 : 1 ≤ g (156 + (q : Int))) (hc : md_Ds g (q : Int) 0 ≤ c ∧ c ≤ 99) : jk_K G yX1_offsetAt mX1_offsetAt 0 0 [.ref b, jI (q : Int), jI c] n t σ ρ (jk_q (some (jI (md_off g (q : Int) c))) n t σ ρ) jk_no := by
  obtain ⟨-, hs, hsb⟩ := id hba
  have i2 := hi.2.2.1
  have hq4 : q < 4 := by omega
  obtain ⟨r1, r2, r3⟩ := hr.2.2.2 q hq
  obtain ⟨x1, x2⟩ := hx (q : Int) ⟨by omega, hq⟩
  have hst := (hi.2.2.2.2.2.2.2.1 (q : Int) ⟨by omega, by omega⟩).1
  have hnq := hnn q hq4
  have hob : ∀ k, 0 ≤ k ∧ k < 10 → -999 ≤ g (200 + 10 * (q : Int) + k) ∧ g (200 + 10 * (q : Int) + k) ≤ 999 := fun k hk => hi.2.2.2.2.2.2.2.2 _ ⟨by omega, by omega⟩
  have hc0 := x1 0 ⟨by omega, by omega⟩
  refine jk_entryB (ls := [some (.ref b), some (jI (q : Int)), some (jI c), none, none, none, none, none]) jm_X1_offsetAt.1 rfl rfl rfl ?_
  refine jk_aload_n (q := 1) dX1_offsetAt_0 rfl rfl ?_
  refine jk_getA (q := 4) (k := 1) 0 0 rfl (by first | exact hba.1.1 | exact hs.1 | exact hs.2.1 _ _ rfl | exact (cl_rows hs hq4).1 | exact (cl_rows hs hq4).2 | assumption) (by first | exact hba.1.2 | exact hs.2.2.1 _ _ rfl | exact (hs.2.2.2 q hq4).1 | exact (hs.2.2.2 q hq4).2 | assumption) rfl rfl jw_285 dX1_offsetAt_1 rfl ?_
  refine jk_getA (q := 7) (k := 9) 15 15 rfl (by first | exact hba.1.1 | exact hs.1 | exact hs.2.1 _ _ rfl | exact (cl_rows hs hq4).1 | exact (cl_rows hs hq4).2 | assumption) (by first | exact hba.1.2 | exact hs.2.2.1 _ _ rfl | exact (hs.2.2.2 q hq4).1 | exact (hs.2.2.2 q hq4).2 | assumption) rfl rfl jw_116 dX1_offsetAt_4 rfl ?_
  refine jk_iload_n (q := 8) dX1_offsetAt_7 rfl rfl ?_
  refine jk_aald (q := 9) (ty := .array .int) rfl rfl (by first | exact hba.1.1 | exact hs.1 | exact hs.2.1 _ _ rfl | exact (cl_rows hs hq4).1 | exact (cl_rows hs hq4).2 | assumption) (by first | assumption | decide | omega | exact jB_01 _ | exact jB_in _ | exact ⟨by omega, by omega⟩) (by first | exact hba.1.2 | exact hs.2.2.1 _ _ rfl | exact (hs.2.2.2 q hq4).1 | exact (hs.2.2.2 q hq4).2 | assumption) dX1_offsetAt_8 rfl ?_
  refine jk_astore3 (q := 10) dX1_offsetAt_9 rfl rfl rfl ?_
  refine jk_aload_n (q := 11) dX1_offsetAt_10 rfl rfl ?_
  refine jk_getA (q := 14) (k := 1) 0 0 rfl (by first | exact hba.1.1 | exact hs.1 | exact hs.2.1 _ _ rfl | exact (cl_rows hs hq4).1 | exact (cl_rows hs hq4).2 | assumption) (by first | exact hba.1.2 | exact hs.2.2.1 _ _ rfl | exact (hs.2.2.2 q hq4).1 | exact (hs.2.2.2 q hq4).2 | assumption) rfl rfl jw_285 dX1_offsetAt_11 rfl ?_
  refine jk_getA (q := 17) (k := 9) 16 16 rfl (by first | exact hba.1.1 | exact hs.1 | exact hs.2.1 _ _ rfl | exact (cl_rows hs hq4).1 | exact (cl_rows hs hq4).2 | assumption) (by first | exact hba.1.2 | exact hs.2.2.1 _ _ rfl | exact (hs.2.2.2 q hq4).1 | exact (hs.2.2.2 q hq4).2 | assumption) rfl rfl jw_119 dX1_offsetAt_14 rfl ?_
  refine jk_iload_n (q := 18) dX1_offsetAt_17 rfl rfl ?_
  refine jk_aald (q := 19) (ty := .array .int) rfl rfl (by first | exact hba.1.1 | exact hs.1 | exact hs.2.1 _ _ rfl | exact (cl_rows hs hq4).1 | exact (cl_rows hs hq4).2 | assumption) (by first | assumption | decide | omega | exact jB_01 _ | exact jB_in _ | exact ⟨by omega, by omega⟩) (by first | exact hba.1.2 | exact hs.2.2.1 _ _ rfl | exact (hs.2.2.2 q hq4).1 | exact (hs.2.2.2 q hq4).2 | assumption) dX1_offsetAt_18 rfl ?_
  refine jk_astore4 (q := 21) dX1_offsetAt_19 rfl rfl rfl ?_
  refine jk_aload_n (q := 22) dX1_offsetAt_21 rfl rfl ?_
  refine jk_getA (q := 25) (k := 1) 0 0 rfl (by first | exact hba.1.1 | exact hs.1 | exact hs.2.1 _ _ rfl | exact (cl_rows hs hq4).1 | exact (cl_rows hs hq4).2 | assumption) (by first | exact hba.1.2 | exact hs.2.2.1 _ _ rfl | exact (hs.2.2.2 q hq4).1 | exact (hs.2.2.2 q hq4).2 | assumption) rfl rfl jw_285 dX1_offsetAt_22 rfl ?_
  refine jk_getA (q := 28) (k := 9) 14 14 rfl (by first | exact hba.1.1 | exact hs.1 | exact hs.2.1 _ _ rfl | exact (cl_rows hs hq4).1 | exact (cl_rows hs hq4).2 | assumption) (by first | exact hba.1.2 | exact hs.2.2.1 _ _ rfl | exact (hs.2.2.2 q hq4).1 | exact (hs.2.2.2 q hq4).2 | assumption) rfl rfl jw_112 dX1_offsetAt_25 rfl ?_
  refine jk_iload_n (q := 29) dX1_offsetAt_28 rfl rfl ?_
  refine jk_ialdR (q := 30) (by first | exact hba.1.1 | exact hs.1 | exact hs.2.1 _ _ rfl | exact (cl_rows hs hq4).1 | exact (cl_rows hs hq4).2 | assumption) (by first | exact jk_row_same _ _ _ | ((repeat rewrite [jk_row_ne _ _ (by omega)]); first | exact jk_row_same _ _ _ | rfl)) (by first | assumption | decide | omega | exact jB_01 _ | exact jB_in _ | exact ⟨by omega, by omega⟩) dX1_offsetAt_29 rfl ?_
  rw [r2]
  refine jk_iconst (q := 31) dX1_offsetAt_30 rfl ?_
  refine jk_isub (q := 32) dX1_offsetAt_31 rfl ?_
  refine jk_istore5 (q := 34) dX1_offsetAt_32 rfl rfl rfl ?_
  refine jk_iconst (q := 35) dX1_offsetAt_34 rfl ?_
  refine jk_istore6 (q := 37) dX1_offsetAt_35 rfl rfl rfl ?_
  have L37 : ∀ k37 : Nat, k37 ≤ (g (156 + (q : Int)) - 1).toNat → (hh : ∀ j : Nat, j < k37 → (j : Int) < g (156 + (q : Int)) - 1 ∧ md_Ds g (q : Int) ((j : Int) + 1) ≤ c) → jk_J G mX1_offsetAt 37 [some (.ref b), some (jI (q : Int)), some (jI c), some (.ref (s + (28 + 2 * q))), some (.ref (s + (38 + 2 * q))), some (jI (g (156 + (q : Int)) - 1)), some (jI (k37 : Int)), none] [] n t σ ρ 0 0 (jk_q (some (jI (md_off g (q : Int) c))) n t σ ρ) jk_no := by
    refine jk_loop _ (fun k37 hk37 ih37 => ?_)
    intro  hh
    refine jk_iload (q := 39) dX1_offsetAt_37 rfl rfl ?_
    refine jk_iload (q := 41) dX1_offsetAt_39 rfl rfl ?_
    refine jk_icmp_ge (q := 110) (q2 := 44) dX1_offsetAt_41 rfl rfl (by first | assumption | decide | omega | exact jB_01 _ | exact jB_in _ | exact ⟨by omega, by omega⟩) (by first | assumption | decide | omega | exact jB_01 _ | exact jB_in _ | exact ⟨by omega, by omega⟩) (fun z1 => ?_) (fun z1 => ?_)
    · have hl9 := (r3 (g (156 + (q : Int)) - 1) ⟨by omega, by omega⟩).2
      refine jk_iload (q := 112) dX1_offsetAt_110 rfl rfl ?_
      refine jk_if_lt (q := 123) (q2 := 115) dX1_offsetAt_112 rfl rfl (by first | assumption | decide | omega | exact jB_01 _ | exact jB_in _ | exact ⟨by omega, by omega⟩) (fun z2 => ?_) (fun z2 => ?_)
      · refine jk_iconst (q := 124) dX1_offsetAt_123 rfl ?_
        exact jk_iret rfl dX1_offsetAt_124 (by refine jk_qI ?_; first | (exfalso; omega) | skip; unfold md_off; rw [cb_stn (i := k37) (by omega) hh (fun h9 => by omega), if_pos (by omega), hl9, show (k37 : Int) = g (156 + (q : Int)) - 1 by omega])
      · refine jk_aload (q := 117) dX1_offsetAt_115 rfl rfl ?_
        refine jk_iload (q := 119) dX1_offsetAt_117 rfl rfl ?_
        refine jk_ialdR (q := 120) (by first | exact hba.1.1 | exact hs.1 | exact hs.2.1 _ _ rfl | exact (cl_rows hs hq4).1 | exact (cl_rows hs hq4).2 | assumption) (by first | exact jk_row_same _ _ _ | ((repeat rewrite [jk_row_ne _ _ (by omega)]); first | exact jk_row_same _ _ _ | rfl)) (by first | assumption | decide | omega | exact jB_01 _ | exact jB_in _ | exact ⟨by omega, by omega⟩) dX1_offsetAt_119 rfl ?_
        refine jk_goto (q := 124) dX1_offsetAt_120 rfl ?_
        exact jk_iret rfl dX1_offsetAt_124 (by refine jk_qI ?_; first | (exfalso; omega) | skip; unfold md_off; rw [cb_stn (i := k37) (by omega) hh (fun h9 => by omega), if_pos (by omega), hl9, show (k37 : Int) = g (156 + (q : Int)) - 1 by omega])
    · obtain ⟨a1, a2⟩ := r3 (k37 : Int) ⟨by omega, by omega⟩
      obtain ⟨a3, a4⟩ := r3 ((k37 : Int) + 1) ⟨by omega, by omega⟩
      have a5 := x2 (k37 : Int) ⟨by omega, by omega⟩
      have a6 := x1 (k37 : Int) ⟨by omega, by omega⟩
      have a7 := x1 ((k37 : Int) + 1) ⟨by omega, by omega⟩
      have a8 := hob (k37 : Int) ⟨by omega, by omega⟩
      have a9 := hob ((k37 : Int) + 1) ⟨by omega, by omega⟩
      have e1 : σ (s + (28 + 2 * q)) (k37 : Int) = md_Ds g (q : Int) (k37 : Int) := a1
      have e2 : σ (s + (28 + 2 * q)) ((k37 : Int) + 1) = md_Ds g (q : Int) ((k37 : Int) + 1) := a3
      refine jk_aload_n (q := 45) dX1_offsetAt_44 rfl rfl ?_
      refine jk_iload (q := 47) dX1_offsetAt_45 rfl rfl ?_
      refine jk_iconst (q := 48) dX1_offsetAt_47 rfl ?_
      refine jk_iadd (q := 49) dX1_offsetAt_48 rfl ?_
      refine jk_ialdR (q := 50) (by first | exact hba.1.1 | exact hs.1 | exact hs.2.1 _ _ rfl | exact (cl_rows hs hq4).1 | exact (cl_rows hs hq4).2 | assumption) (by first | exact jk_row_same _ _ _ | ((repeat rewrite [jk_row_ne _ _ (by omega)]); first | exact jk_row_same _ _ _ | rfl)) (by first | assumption | decide | omega | exact jB_01 _ | exact jB_in _ | exact ⟨by omega, by omega⟩) dX1_offsetAt_49 rfl ?_
      rw [e2]
      refine jk_aload_n (q := 51) dX1_offsetAt_50 rfl rfl ?_
      refine jk_iload (q := 53) dX1_offsetAt_51 rfl rfl ?_
      refine jk_ialdR (q := 54) (by first | exact hba.1.1 | exact hs.1 | exact hs.2.1 _ _ rfl | exact (cl_rows hs hq4).1 | exact (cl_rows hs hq4).2 | assumption) (by first | exact jk_row_same _ _ _ | ((repeat rewrite [jk_row_ne _ _ (by omega)]); first | exact jk_row_same _ _ _ | rfl)) (by first | assumption | decide | omega | exact jB_01 _ | exact jB_in _ | exact ⟨by omega, by omega⟩) dX1_offsetAt_53 rfl ?_
      rw [e1]
      refine jk_isub (q := 55) dX1_offsetAt_54 rfl ?_
      refine jk_istore7 (q := 57) dX1_offsetAt_55 rfl rfl rfl ?_
      refine jk_iload_n (q := 58) dX1_offsetAt_57 rfl rfl ?_
      refine jk_aload_n (q := 59) dX1_offsetAt_58 rfl rfl ?_
      refine jk_iload (q := 61) dX1_offsetAt_59 rfl rfl ?_
      refine jk_iconst (q := 62) dX1_offsetAt_61 rfl ?_
      refine jk_iadd (q := 63) dX1_offsetAt_62 rfl ?_
      refine jk_ialdR (q := 64) (by first | exact hba.1.1 | exact hs.1 | exact hs.2.1 _ _ rfl | exact (cl_rows hs hq4).1 | exact (cl_rows hs hq4).2 | assumption) (by first | exact jk_row_same _ _ _ | ((repeat rewrite [jk_row_ne _ _ (by omega)]); first | exact jk_row_same _ _ _ | rfl)) (by first | assumption | decide | omega | exact jB_01 _ | exact jB_in _ | exact ⟨by omega, by omega⟩) dX1_offsetAt_63 rfl ?_
      rw [e2]
      refine jk_icmp_ge (q := 104) (q2 := 67) dX1_offsetAt_64 rfl rfl (by first | assumption | decide | omega | exact jB_01 _ | exact jB_in _ | exact ⟨by omega, by omega⟩) (by first | assumption | decide | omega | exact jB_01 _ | exact jB_in _ | exact ⟨by omega, by omega⟩) (fun z3 => ?_) (fun z3 => ?_)
      · refine jk_iinc6 (q := 107) dX1_offsetAt_104 rfl rfl rfl ?_
        refine jk_goto (q := 37) dX1_offsetAt_107 rfl ?_
        exact jk_convw (ih37 (by omega) (fun j hj => by by_cases e : j = k37; (rw [e]; exact ⟨by omega, by omega⟩); exact hh j (by omega))) (jk_wkS rfl (jk_wkS rfl (jk_wkS rfl (jk_wkS rfl (jk_wkS rfl (jk_wkS rfl (jk_wkS rfl (jk_wkN jk_wk0))))))))
      · refine jk_iload (q := 69) dX1_offsetAt_67 rfl rfl ?_
        refine jk_if_le (q := 104) (q2 := 72) dX1_offsetAt_69 rfl rfl (by first | assumption | decide | omega | exact jB_01 _ | exact jB_in _ | exact ⟨by omega, by omega⟩) (fun z4 => ?_) (fun z4 => ?_)
        · refine jk_iinc6 (q := 107) dX1_offsetAt_104 rfl rfl rfl ?_
          refine jk_goto (q := 37) dX1_offsetAt_107 rfl ?_
          exact jk_convw (ih37 (by omega) (fun j hj => by by_cases e : j = k37; (rw [e]; exact ⟨by omega, by omega⟩); exact hh j (by omega))) (jk_wkS rfl (jk_wkS rfl (jk_wkS rfl (jk_wkS rfl (jk_wkS rfl (jk_wkS rfl (jk_wkS rfl (jk_wkN jk_wk0))))))))
        · refine jk_aload (q := 74) dX1_offsetAt_72 rfl rfl ?_
          refine jk_iload (q := 76) dX1_offsetAt_74 rfl rfl ?_
          refine jk_ialdR (q := 77) (by first | exact hba.1.1 | exact hs.1 | exact hs.2.1 _ _ rfl | exact (cl_rows hs hq4).1 | exact (cl_rows hs hq4).2 | assumption) (by first | exact jk_row_same _ _ _ | ((repeat rewrite [jk_row_ne _ _ (by omega)]); first | exact jk_row_same _ _ _ | rfl)) (by first | assumption | decide | omega | exact jB_01 _ | exact jB_in _ | exact ⟨by omega, by omega⟩) dX1_offsetAt_76 rfl ?_
          rw [a2]
          refine jk_aload (q := 79) dX1_offsetAt_77 rfl rfl ?_
          refine jk_iload (q := 81) dX1_offsetAt_79 rfl rfl ?_
          refine jk_iconst (q := 82) dX1_offsetAt_81 rfl ?_
          refine jk_iadd (q := 83) dX1_offsetAt_82 rfl ?_
          refine jk_ialdR (q := 84) (by first | exact hba.1.1 | exact hs.1 | exact hs.2.1 _ _ rfl | exact (cl_rows hs hq4).1 | exact (cl_rows hs hq4).2 | assumption) (by first | exact jk_row_same _ _ _ | ((repeat rewrite [jk_row_ne _ _ (by omega)]); first | exact jk_row_same _ _ _ | rfl)) (by first | assumption | decide | omega | exact jB_01 _ | exact jB_in _ | exact ⟨by omega, by omega⟩) dX1_offsetAt_83 rfl ?_
          rw [a4]
          refine jk_aload (q := 86) dX1_offsetAt_84 rfl rfl ?_
          refine jk_iload (q := 88) dX1_offsetAt_86 rfl rfl ?_
          refine jk_ialdR (q := 89) (by first | exact hba.1.1 | exact hs.1 | exact hs.2.1 _ _ rfl | exact (cl_rows hs hq4).1 | exact (cl_rows hs hq4).2 | assumption) (by first | exact jk_row_same _ _ _ | ((repeat rewrite [jk_row_ne _ _ (by omega)]); first | exact jk_row_same _ _ _ | rfl)) (by first | assumption | decide | omega | exact jB_01 _ | exact jB_in _ | exact ⟨by omega, by omega⟩) dX1_offsetAt_88 rfl ?_
          rw [a2]
          refine jk_isub (q := 90) dX1_offsetAt_89 rfl ?_
          refine jk_iload_n (q := 91) dX1_offsetAt_90 rfl rfl ?_
          refine jk_aload_n (q := 92) dX1_offsetAt_91 rfl rfl ?_
          refine jk_iload (q := 94) dX1_offsetAt_92 rfl rfl ?_
          refine jk_ialdR (q := 95) (by first | exact hba.1.1 | exact hs.1 | exact hs.2.1 _ _ rfl | exact (cl_rows hs hq4).1 | exact (cl_rows hs hq4).2 | assumption) (by first | exact jk_row_same _ _ _ | ((repeat rewrite [jk_row_ne _ _ (by omega)]); first | exact jk_row_same _ _ _ | rfl)) (by first | assumption | decide | omega | exact jB_01 _ | exact jB_in _ | exact ⟨by omega, by omega⟩) dX1_offsetAt_94 rfl ?_
          rw [e1]
          refine jk_isub (q := 96) dX1_offsetAt_95 rfl ?_
          refine jk_imul (q := 97) dX1_offsetAt_96 rfl ?_
          have hkd : md_Ds g (q : Int) (k37 : Int) ≤ c := by
            by_cases h0 : k37 = 0
            · rw [h0]; exact hc.1
            · have := (hh (k37 - 1) (by omega)).2; rw [show (((k37 - 1 : Nat) : Nat) : Int) + 1 = (k37 : Int) by omega] at this; exact this
          have hpb : -1000000000 ≤ (g (200 + 10 * (q : Int) + ((k37 : Int) + 1)) - g (200 + 10 * (q : Int) + (k37 : Int))) * (c - md_Ds g (q : Int) (k37 : Int)) ∧ (g (200 + 10 * (q : Int) + ((k37 : Int) + 1)) - g (200 + 10 * (q : Int) + (k37 : Int))) * (c - md_Ds g (q : Int) (k37 : Int)) ≤ 1000000000 := by
            have b1 : (g (200 + 10 * (q : Int) + ((k37 : Int) + 1)) - g (200 + 10 * (q : Int) + (k37 : Int))) * (c - md_Ds g (q : Int) (k37 : Int)) ≤ 1998 * (c - md_Ds g (q : Int) (k37 : Int)) := Int.mul_le_mul_of_nonneg_right (by omega) (by omega)
            have b2 : (-1998) * (c - md_Ds g (q : Int) (k37 : Int)) ≤ (g (200 + 10 * (q : Int) + ((k37 : Int) + 1)) - g (200 + 10 * (q : Int) + (k37 : Int))) * (c - md_Ds g (q : Int) (k37 : Int)) := Int.mul_le_mul_of_nonneg_right (by omega) (by omega)
            exact ⟨by omega, by omega⟩
          refine jk_iload (q := 99) dX1_offsetAt_97 rfl rfl ?_
          refine jk_cS2pF (q := 102) (c_J9_floorDiv_7cf53 hpb ⟨by omega, by omega⟩) jm_J9_floorDiv_7cf53 jw_1100 rfl rfl rfl dX1_offsetAt_99 rfl ?_
          refine jk_iadd (q := 103) dX1_offsetAt_102 rfl ?_
          exact jk_iret rfl dX1_offsetAt_103 (by refine jk_qI ?_; unfold md_off; rw [cb_stn (i := k37) (by omega) hh (fun h9 => by omega), if_neg (by omega), show 200 + 10 * (q : Int) + ((k37 : Int) + 1) = 200 + 10 * (q : Int) + (k37 : Int) + 1 by omega])
  exact jk_convw (L37 0 (Nat.zero_le _) (fun j hj => absurd hj (Nat.not_lt_zero j))) (jk_wkS rfl (jk_wkS rfl (jk_wkS rfl (jk_wkS rfl (jk_wkS rfl (jk_wkS rfl (jk_wkS rfl (jk_wkN jk_wk0))))))))
end CB1
