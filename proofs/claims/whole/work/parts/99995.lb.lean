section LB
abbrev lz_F : List Cond := flatC (Jvm.Cond.and given_1 narrow_1)
theorem lz_at {a : Array Value} {s : State} (hg : (Jvm.Cond.and given_1 narrow_1).before a s = true) {w : Cond} (i : Nat) (h : lz_F[i]? = some w) : w.before a s = true := flat_of_before _ hg _ (List.mem_of_getElem? h)
theorem lz_all {a : Array Value} {s : State} (hg : (Jvm.Cond.and given_1 narrow_1).before a s = true) {N : Nat} {w : Nat → Cond} (ix : List Nat) (h : (List.range N).all (fun i => decide (lz_F[ix.getD i 0]? = some (w i))) = true) : ∀ i, i < N → (w i).before a s = true := fun i hi =>
  lz_at hg _ (of_decide_eq_true (List.all_eq_true.mp h i (List.mem_range.mpr hi)))
theorem lz_tab {a : Array Value} {s : State} (hts : ∀ w ∈ lw_tbl, w.before a s = true) {w : Cond} (i : Nat) (h : tables_1[i]? = some w) : w.before a s = true := hts _ (List.mem_append_right _ (List.mem_of_getElem? h))
theorem lz_tabs {a : Array Value} {s : State} (hts : ∀ w ∈ lw_tbl, w.before a s = true) {N : Nat} {w : Nat → Cond} (ix : List Nat) (h : (List.range N).all (fun i => decide (tables_1[ix.getD i 0]? = some (w i))) = true) : ∀ i, i < N → (w i).before a s = true := fun i hi =>
  lz_tab hts _ (of_decide_eq_true (List.all_eq_true.mp h i (List.mem_range.mpr hi)))
theorem lz_ref {a : Array Value} {s : State} {A : Nat → Prop} {N : Nat} {t : Nat → Term} {nm : String} (hex : ∀ i, i < N → (Cond.exactly (t i) nm).before a s = true) (hA : ∀ a : Nat, a < s.heap.size → ¬ A a) : ∃ ad : Nat → Nat, ∀ i, i < N → (t i).eval a s none [] s = some (.ref (ad i)) ∧ va_O nm (ad i) A s s.heap := by
  have h0 : ∀ i : Nat, ∃ q : Nat, i < N → (t i).eval a s none [] s = some (.ref q) ∧ va_O nm q A s s.heap := by
    intro i
    by_cases hi : i < N
    · obtain ⟨q, c, cA, kA, q1, q2, q3, q4, q5, q6, -⟩ := Cond.exactly_spec (args := a) (first := s) (o := none) (s := s) (idx := []) (t := t i) (cls := nm) (hex i hi)
      exact ⟨q, fun _ => ⟨q1, cA, q3, q5, by rw [q6]; exact q2, hA q (Array.getElem?_eq_some_iff.mp q3).1⟩⟩
    · exact ⟨0, fun h => absurd h hi⟩
  obtain ⟨ad, had⟩ := Classical.axiomOfChoice h0
  exact ⟨ad, had⟩
theorem lz_arr {a : Array Value} {s : State} {A : Nat → Prop} {tm : Term} {ty : FieldType} {N : Nat} {f : Nat → Value} (hN : N < 2 ^ 31) (har : (Cond.arrayOf tm ty).before a s = true) (hle : (Cond.eq (.length tm) (.int (Int32.ofNat N))).before a s = true) (hel : ∀ j, j < N → (Term.elem tm (.int (Int32.ofNat j))).eval a s none [] s = some (f j)) (hA : ∀ a : Nat, a < s.heap.size → ¬ A a) : ∃ q : Nat, tm.eval a s none [] s = some (.ref q) ∧ va_T ty q N f A s s.heap :=
  va_Tof hN har (va_eqt hle) hel hA
/-! from the start to a later state -/
abbrev lz_Z (s : State) : State → Prop := fun U => s.WarmedH U.vm ∧ ∀ q : Nat, q < s.heap.size → U.heap[q]? = s.heap[q]?
section LT
variable {s : State} {A : Nat → Prop}
theorem lt_Z {C n d : String} {v : Value} (h : va_Z C n d v A s s.heap) : ∀ U, lz_Z s U → va_Z C n d v A U U.heap := fun U hU => (va_Z.moved hU.1.alike h).kept (fun a h1 _ => hU.2 a h1)
theorem lt_O {C : String} {q : Nat} (h : va_O C q A s s.heap) : ∀ U, lz_Z s U → va_O C q A U U.heap := fun U hU => (va_O.moved hU.1.alike h).kept (fun a h1 _ => hU.2 a h1)
theorem lt_OF {C n d : String} {v : Value} {q : Nat} (h : va_OF C n d v q A s s.heap) : ∀ U, lz_Z s U → va_OF C n d v q A U U.heap := fun U hU => (va_OF.moved hU.1.alike h).kept (fun a h1 _ => hU.2 a h1)
theorem lt_T {ty : FieldType} {q N : Nat} {f : Nat → Value} (h : va_T ty q N f A s s.heap) : ∀ U, lz_Z s U → va_T ty q N f A U U.heap := fun U hU => (va_T.moved hU.1.alike h).kept (fun a h1 _ => hU.2 a h1)
theorem lt_Zq {C n d : String} (h : vx_Zq C n d A s s.heap) : ∀ U, lz_Z s U → vx_Zq C n d A U U.heap := fun U hU => (vx_Zq.moved hU.1.alike h).kept (fun a h1 _ => hU.2 a h1)
theorem lt_N {C D : String} (h : va_Nc C D s) : ∀ U, lz_Z s U → va_Nc C D U := fun U hU => va_Nc.moved hU.1.alike h
theorem lt_R {own tx : String} {k q : Nat} (h : vk_R own k tx q s) : ∀ U, lz_Z s U → vk_R own k tx q U := fun U hU => vk_R.warm hU.1 h
end LT
theorem lz_vk {a : Array Value} {s : State} (hg : (Jvm.Cond.and given_1 narrow_1).before a s = true) (hts : ∀ w ∈ lw_tbl, w.before a s = true) {own tx : String} {k : Nat} (i j : Nat) (h1 : lz_F[i]? = some (.exactly (.string own k) "java/lang/String")) (h2 : tables_1[j]? = some (.stringRef own k tx)) : ∀ U, lz_Z s U → ∃ q, vk_R own k tx q U := by
  obtain ⟨q, c, cA, kA, q1, -⟩ := Cond.exactly_spec (args := a) (first := s) (o := none) (s := s) (idx := []) (t := .string own k) (cls := "java/lang/String") (lz_at hg i h1)
  exact fun U hU => ⟨q, lt_R (vk_R.of (A := a) (lz_tab hts j h2) q1) U hU⟩
/-- a private method of the class above, called on an object below it -/
theorem lz_sel {a : Array Value} {s : State} {C : String} {y z : MethodName} (hy : y.cls ≠ "java/lang/invoke/MethodHandle" ∧ y.cls ≠ "java/lang/invoke/VarHandle") (h1 : (Cond.selects C z z).before a s = true) (hz : z.cls = y.cls) (hpriv : (Cond.privateMethod y).before a s = true) (hinst : (Cond.instanceMethod y).before a s = true) : (Cond.selects C y y).before a s = true := by
  obtain ⟨c2, r2, m2, q1, q2, q3, q4, kP, hkP, hkPi⟩ := Cond.selects_spec h1
  obtain ⟨mk, methM, hnamed, hmethM, -, -⟩ := Cond.instanceMethod_spec hinst
  have hfound : s.methodFound? y.cls y.name y.desc = some mk := State.methodFound?_of_named hnamed hy
  have hcls : mk.cls = m2.cls := Option.some.inj ((findClass_of_methodNamed hnamed).symm.trans (by rw [← hz]; exact findClass_of_methodNamed q3))
  have hsel : selectMethod {} s.vm c2 mk = .method mk := selectMethod_private hmethM (Cond.privateMethod_at hpriv mk methM hnamed hmethM)
  rw [← hcls] at hkP
  simp only [Cond.before, Cond.holds, Cond.value, q1, hfound, hnamed, hsel, hkP]
  simp; exact hkPi
/-- where the launch's own things lie -/
def lz_st (aK aT : Nat → Nat) (kS mK mT : Nat) (aS aV : Nat → Nat) (d1 d10 b : Nat) : Nat → Nat := fun i => if i < 12 then aK i else if i < 18 then aT (i - 12) else if i = 18 then kS else if i = 19 then mK else if i = 20 then mT else if i < 41 then aS (i - 21) else if i < 61 then aV (i - 41) else if i = 61 then d1 else if i = 62 then d10 else b
section LS
variable {l : Launch} {Z : State → Prop} {B : Nat} {aK aT : Nat → Nat} {kS mK mT : Nat} {aS aV : Nat → Nat} {d1 d10 b : Nat}
theorem ls_K {i : Nat} (h : i < 12) : jk_ad (l, Z, B, lz_st aK aT kS mK mT aS aV d1 d10 b) i = aK i := by
  unfold jk_ad; rw [if_pos (by omega)]; show lz_st _ _ _ _ _ _ _ _ _ _ _ = _; unfold lz_st; rw [if_pos h]
theorem ls_T {i : Nat} (h : i < 6) : jk_ad (l, Z, B, lz_st aK aT kS mK mT aS aV d1 d10 b) (12 + i) = aT i := by
  unfold jk_ad; rw [if_pos (by omega)]; show lz_st _ _ _ _ _ _ _ _ _ _ _ = _; unfold lz_st; rw [if_neg (by omega), if_pos (by omega)]; congr 1; omega
theorem ls_S {i : Nat} (h : i < 20) : jk_ad (l, Z, B, lz_st aK aT kS mK mT aS aV d1 d10 b) (21 + i) = aS i := by
  unfold jk_ad; rw [if_pos (by omega)]; show lz_st _ _ _ _ _ _ _ _ _ _ _ = _; unfold lz_st; rw [if_neg (by omega), if_neg (by omega), if_neg (by omega), if_neg (by omega), if_neg (by omega), if_pos (by omega)]; congr 1; omega
theorem ls_V {i : Nat} (h : i < 20) : jk_ad (l, Z, B, lz_st aK aT kS mK mT aS aV d1 d10 b) (41 + i) = aV i := by
  unfold jk_ad; rw [if_pos (by omega)]; show lz_st _ _ _ _ _ _ _ _ _ _ _ = _; unfold lz_st; rw [if_neg (by omega), if_neg (by omega), if_neg (by omega), if_neg (by omega), if_neg (by omega), if_neg (by omega), if_pos (by omega)]; congr 1; omega
theorem ls_c : jk_ad (l, Z, B, lz_st aK aT kS mK mT aS aV d1 d10 b) 18 = kS ∧ jk_ad (l, Z, B, lz_st aK aT kS mK mT aS aV d1 d10 b) 19 = mK ∧ jk_ad (l, Z, B, lz_st aK aT kS mK mT aS aV d1 d10 b) 20 = mT ∧ jk_ad (l, Z, B, lz_st aK aT kS mK mT aS aV d1 d10 b) 61 = d1 ∧ jk_ad (l, Z, B, lz_st aK aT kS mK mT aS aV d1 d10 b) 62 = d10 ∧ jk_ad (l, Z, B, lz_st aK aT kS mK mT aS aV d1 d10 b) 63 = b := ⟨rfl, rfl, rfl, rfl, rfl, rfl⟩
end LS

def lz_sx : List Nat := [67, 75, 80, 85, 90, 95, 100, 103, 106, 109, 112, 117, 69, 77, 82, 87, 92, 97, 114, 119]
def lz_sel8 : List (List Nat) := [[1653, 1654, 1655, 1656, 1657], [1662, 1663, 1664, 1665], [1677, 1678, 1679, 1680, 1681], [1691, 1692, 1693, 1694, 1695], [1710, 1711, 1712, 1713, 1714], [1726, 1727, 1728, 1729, 1730, 1731, 1732, 1733], [1743, 1744, 1745, 1746, 1747, 1748, 1749, 1750], [1755, 1756, 1757, 1758, 1759, 1760], [1640, 1641, 1642, 1643, 1644], [1765, 1766, 1767, 1768, 1769, 1770, 1771, 1772], [1777, 1778, 1779, 1780, 1781, 1782, 1783, 1784], [1798, 1799, 1800, 1801, 1802, 1803], [], [1670, 1671, 1672], [1686], [1700, 1701, 1702, 1703, 1704, 1705], [1719, 1720, 1721], [1738], [1789, 1790, 1791, 1792, 1793], [1808]]
set_option maxRecDepth 20000 in
/-- the kinds, the troubles, the tables -/
theorem lz_enums {a : Array Value} {s : State} {A : Nat → Prop} (hg : (Jvm.Cond.and given_1 narrow_1).before a s = true) (hts : ∀ w ∈ lw_tbl, w.before a s = true) (hA : ∀ a : Nat, a < s.heap.size → ¬ A a) :
    (∃ aK : Nat → Nat, ∀ i, i < 12 → (Term.static "LevelingNetwork$Kind" (zk_nm i) "LLevelingNetwork$Kind;").eval a s none [] s = some (.ref (aK i)) ∧ va_Z "LevelingNetwork$Kind" (zk_nm i) "LLevelingNetwork$Kind;" (.ref (aK i)) A s s.heap ∧ va_O "LevelingNetwork$Kind" (aK i) A s s.heap ∧ va_OF "java/lang/Enum" "ordinal" "I" (jI (i : Int)) (aK i) A s s.heap) ∧
    (∃ aT : Nat → Nat, (∀ i, i < 6 → va_Z "LevelingNetwork$Trouble" (zt_nm i) "LLevelingNetwork$Trouble;" (.ref (aT i)) A s s.heap ∧ va_O "LevelingNetwork$Trouble" (aT i) A s s.heap ∧ va_OF "java/lang/Enum" "ordinal" "I" (jI (i : Int)) (aT i) A s s.heap) ∧ ∀ i, 0 < i → i < 6 → aT 0 ≠ aT i) := by
  refine ⟨?_, ?_⟩
  · have h1 := lz_all hg (N := 12) (w := fun i => .exactly (.static "LevelingNetwork$Kind" (zk_nm i) "LLevelingNetwork$Kind;") "LevelingNetwork$Kind") [68, 79, 91, 104, 118, 133, 149, 166, 5, 184, 203, 223] (by decide +kernel)
    have h2 := lz_all hg (N := 12) (w := fun i => .eq (.field (.static "LevelingNetwork$Kind" (zk_nm i) "LLevelingNetwork$Kind;") "java/lang/Enum" "ordinal" "I") (.int (Int32.ofInt (i : Int)))) [69, 80, 92, 105, 119, 134, 150, 167, 6, 185, 204, 224] (by decide +kernel)
    have h3 := lz_tabs hts (N := 12) (w := fun i => .laysStatic "LevelingNetwork$Kind" (zk_nm i) "LLevelingNetwork$Kind;") [969, 1000, 1009, 1018, 1027, 1036, 1045, 1056, 427, 1065, 1074, 1083] (by decide +kernel)
    have h4 := lz_tab hts (w := .initialized "LevelingNetwork$Kind") 17 (by decide +kernel)
    obtain ⟨aK, hK⟩ := lz_ref (A := A) h1 hA
    exact ⟨aK, fun i hi => ⟨(hK i hi).1, va_Zof (h3 i hi) h4 (hK i hi).1 hA, (hK i hi).2, vk_OFof (hK i hi).1 (va_eqt (h2 i hi)) hA⟩⟩
  · have h1 := lz_all hg (N := 6) (w := fun i => .exactly (.static "LevelingNetwork$Trouble" (zt_nm i) "LLevelingNetwork$Trouble;") "LevelingNetwork$Trouble") [24, 31, 36, 27, 42, 49] (by decide +kernel)
    have h2 := lz_all hg (N := 6) (w := fun i => .eq (.field (.static "LevelingNetwork$Trouble" (zt_nm i) "LLevelingNetwork$Trouble;") "java/lang/Enum" "ordinal" "I") (.int (Int32.ofInt (i : Int)))) [25, 32, 37, 28, 43, 50] (by decide +kernel)
    have h3 := lz_tabs hts (N := 6) (w := fun i => .laysStatic "LevelingNetwork$Trouble" (zt_nm i) "LLevelingNetwork$Trouble;") [448, 460, 470, 450, 535, 570] (by decide +kernel)
    have h4 := lz_tab hts (w := .initialized "LevelingNetwork$Trouble") 19 (by decide +kernel)
    obtain ⟨aT, hT⟩ := lz_ref (A := A) h1 hA
    refine ⟨aT, fun i hi => ⟨va_Zof (h3 i hi) h4 (hT i hi).1 hA, (hT i hi).2, vk_OFof (hT i hi).1 (va_eqt (h2 i hi)) hA⟩, fun i h0 hi => ?_⟩
    have h5 := lz_all hg (N := 5) (w := fun i => .not (.eq (.static "LevelingNetwork$Trouble" (zt_nm 0) "LLevelingNetwork$Trouble;") (.static "LevelingNetwork$Trouble" (zt_nm (i + 1)) "LLevelingNetwork$Trouble;"))) [34, 39, 30, 45, 52] (by decide +kernel)
    have h6 := h5 (i - 1) (by omega)
    rw [show i - 1 + 1 = i by omega] at h6
    exact va_neR h6 (hT 0 (by decide)).1 (hT i hi).1
set_option maxRecDepth 20000 in
/-- the words and forms -/
theorem lz_strs {a : Array Value} {s : State} {A : Nat → Prop} (hg : (Jvm.Cond.and given_1 narrow_1).before a s = true) (hA : ∀ a : Nat, a < s.heap.size → ¬ A a) : ∃ aS aV : Nat → Nat, ∀ i, i < 20 → (Term.string "LevelingNetwork$Kind" (lz_sx.getD i 0)).eval a s none [] s = some (.ref (aS i)) ∧ va_O "java/lang/String" (aS i) A s s.heap ∧ va_OF "java/lang/String" "value" "[B" (.ref (aV i)) (aS i) A s s.heap ∧ va_OF "java/lang/String" "coder" "B" (jI 0) (aS i) A s s.heap ∧ va_T .byte (aV i) (zs_len i) (fun j => jI (zs_ch i j)) A s s.heap := by
  have h1 := lz_all hg (N := 20) (w := fun i => .exactly (.string "LevelingNetwork$Kind" (lz_sx.getD i 0)) "java/lang/String") [1649, 1658, 1673, 1687, 1706, 1722, 1739, 1751, 1636, 1761, 1773, 1794, 1645, 1666, 1682, 1696, 1715, 1734, 1785, 1804] (by decide +kernel)
  have h2 := lz_all hg (N := 20) (w := fun i => .eq (.field (.string "LevelingNetwork$Kind" (lz_sx.getD i 0)) "java/lang/String" "coder" "B") (.int (Int32.ofInt 0))) [1650, 1659, 1674, 1688, 1707, 1723, 1740, 1752, 1637, 1762, 1774, 1795, 1646, 1667, 1683, 1697, 1716, 1735, 1786, 1805] (by decide +kernel)
  have h3 := lz_all hg (N := 20) (w := fun i => .arrayOf (.field (.string "LevelingNetwork$Kind" (lz_sx.getD i 0)) "java/lang/String" "value" "[B") .byte) [1651, 1660, 1675, 1689, 1708, 1724, 1741, 1753, 1638, 1763, 1775, 1796, 1647, 1668, 1684, 1698, 1717, 1736, 1787, 1806] (by decide +kernel)
  have h4 := lz_all hg (N := 20) (w := fun i => .eq (.length (.field (.string "LevelingNetwork$Kind" (lz_sx.getD i 0)) "java/lang/String" "value" "[B")) (.int (Int32.ofNat (zs_len i)))) [1652, 1661, 1676, 1690, 1709, 1725, 1742, 1754, 1639, 1764, 1776, 1797, 1648, 1669, 1685, 1699, 1718, 1737, 1788, 1807] (by decide +kernel)
  have h5 : ((List.range 20).all fun i => (List.range (zs_len i)).all fun j => decide (lz_F[(lz_sel8.getD i []).getD j 0]? = some (.eq (.elem (.field (.string "LevelingNetwork$Kind" (lz_sx.getD i 0)) "java/lang/String" "value" "[B") (.int (Int32.ofNat j))) (.int (Int32.ofInt (zs_ch i j)))))) = true := by decide +kernel
  have h6 : ((List.range 20).all fun i => decide (zs_len i < 2 ^ 31)) = true := by decide +kernel
  obtain ⟨aS, hS⟩ := lz_ref (A := A) h1 hA
  have h0 : ∀ i : Nat, ∃ q : Nat, i < 20 → (Term.field (.string "LevelingNetwork$Kind" (lz_sx.getD i 0)) "java/lang/String" "value" "[B").eval a s none [] s = some (.ref q) ∧ va_T .byte q (zs_len i) (fun j => jI (zs_ch i j)) A s s.heap := by
    intro i
    by_cases hi : i < 20
    · obtain ⟨q, hq⟩ := lz_arr (A := A) (f := fun j => jI (zs_ch i j)) (of_decide_eq_true (List.all_eq_true.mp h6 i (List.mem_range.mpr hi))) (h3 i hi) (h4 i hi) (fun j hj => va_eqt (lz_at hg _ (of_decide_eq_true (List.all_eq_true.mp (List.all_eq_true.mp h5 i (List.mem_range.mpr hi)) j (List.mem_range.mpr hj))))) hA
      exact ⟨q, fun _ => hq⟩
    · exact ⟨0, fun h => absurd h hi⟩
  obtain ⟨aV, hV⟩ := Classical.axiomOfChoice h0
  exact ⟨aS, aV, fun i hi => ⟨(hS i hi).1, (hS i hi).2, vk_OFof (hS i hi).1 (hV i hi).1 hA, vk_OFof (hS i hi).1 (va_eqt (h2 i hi)) hA, (hV i hi).2⟩⟩
set_option maxRecDepth 20000 in
theorem lz_mK {a : Array Value} {s : State} {A : Nat → Prop} (hg : (Jvm.Cond.and given_1 narrow_1).before a s = true) (hts : ∀ w ∈ lw_tbl, w.before a s = true) (hA : ∀ a : Nat, a < s.heap.size → ¬ A a) : ∃ q : Nat, va_Z "LevelingNetwork$1" "$SwitchMap$LevelingNetwork$Kind" "[I" (.ref q) A s s.heap ∧ va_T .int q 12 (fun j => jI (zk_sw j)) A s s.heap := by
  have h3 := lz_all hg (N := 12) (w := fun j => .eq (.elem (.static "LevelingNetwork$1" "$SwitchMap$LevelingNetwork$Kind" "[I") (.int (Int32.ofNat j))) (.int (Int32.ofInt (zk_sw j)))) [12, 13, 14, 15, 16, 17, 18, 19, 20, 21, 22, 23] (by decide +kernel)
  obtain ⟨q, h1, h2⟩ := lz_arr (A := A) (f := fun j => jI (zk_sw j)) (by decide) (lz_at hg (w := .arrayOf (.static "LevelingNetwork$1" "$SwitchMap$LevelingNetwork$Kind" "[I") .int) 10 (by decide +kernel)) (lz_at hg (w := .eq (.length (.static "LevelingNetwork$1" "$SwitchMap$LevelingNetwork$Kind" "[I")) (.int (Int32.ofNat 12))) 11 (by decide +kernel)) (fun j hj => va_eqt (h3 j hj)) hA
  exact ⟨q, va_Zof (lz_tab hts (w := .laysStatic "LevelingNetwork$1" "$SwitchMap$LevelingNetwork$Kind" "[I") 437 (by decide +kernel)) (lz_tab hts (w := .initialized "LevelingNetwork$1") 18 (by decide +kernel)) h1 hA, h2⟩
set_option maxRecDepth 20000 in
theorem lz_mT {a : Array Value} {s : State} {A : Nat → Prop} (hg : (Jvm.Cond.and given_1 narrow_1).before a s = true) (hts : ∀ w ∈ lw_tbl, w.before a s = true) (hA : ∀ a : Nat, a < s.heap.size → ¬ A a) : ∃ q : Nat, va_Z "LevelingNetwork$1" "$SwitchMap$LevelingNetwork$Trouble" "[I" (.ref q) A s s.heap ∧ va_T .int q 6 (fun j => jI ((j : Int))) A s s.heap := by
  have h3 := lz_all hg (N := 6) (w := fun j => .eq (.elem (.static "LevelingNetwork$1" "$SwitchMap$LevelingNetwork$Trouble" "[I") (.int (Int32.ofNat j))) (.int (Int32.ofInt ((j : Int))))) [60, 61, 62, 63, 64, 65] (by decide +kernel)
  obtain ⟨q, h1, h2⟩ := lz_arr (A := A) (f := fun j => jI ((j : Int))) (by decide) (lz_at hg (w := .arrayOf (.static "LevelingNetwork$1" "$SwitchMap$LevelingNetwork$Trouble" "[I") .int) 58 (by decide +kernel)) (lz_at hg (w := .eq (.length (.static "LevelingNetwork$1" "$SwitchMap$LevelingNetwork$Trouble" "[I")) (.int (Int32.ofNat 6))) 59 (by decide +kernel)) (fun j hj => va_eqt (h3 j hj)) hA
  exact ⟨q, va_Zof (lz_tab hts (w := .laysStatic "LevelingNetwork$1" "$SwitchMap$LevelingNetwork$Trouble" "[I") 587 (by decide +kernel)) (lz_tab hts (w := .initialized "LevelingNetwork$1") 18 (by decide +kernel)) h1 hA, h2⟩
set_option maxRecDepth 20000 in
theorem lz_d1 {a : Array Value} {s : State} {A : Nat → Prop} (hg : (Jvm.Cond.and given_1 narrow_1).before a s = true) (hts : ∀ w ∈ lw_tbl, w.before a s = true) (hA : ∀ a : Nat, a < s.heap.size → ¬ A a) : ∃ q : Nat, va_Z "java/lang/Integer" "DigitOnes" "[B" (.ref q) A s s.heap ∧ va_T .byte q 100 (fun j => jI (48 + (j : Int) % 10)) A s s.heap := by
  have h3 := lz_all hg (N := 100) (w := fun j => .eq (.elem (.static "java/lang/Integer" "DigitOnes" "[B") (.int (Int32.ofNat j))) (.int (Int32.ofInt (48 + (j : Int) % 10)))) [251, 252, 253, 254, 255, 256, 257, 258, 259, 260, 261, 262, 263, 264, 265, 266, 267, 268, 269, 270, 271, 272, 273, 274, 275, 276, 277, 278, 279, 280, 281, 282, 283, 284, 285, 286, 287, 288, 289, 290, 291, 292, 293, 294, 295, 296, 297, 298, 299, 300, 301, 302, 303, 304, 305, 306, 307, 308, 309, 310, 311, 312, 313, 314, 315, 316, 317, 318, 319, 320, 321, 322, 323, 324, 325, 326, 327, 328, 329, 330, 331, 332, 333, 334, 335, 336, 337, 338, 339, 340, 341, 342, 343, 344, 345, 346, 347, 348, 349, 350] (by decide +kernel)
  obtain ⟨q, h1, h2⟩ := lz_arr (A := A) (f := fun j => jI (48 + (j : Int) % 10)) (by decide) (lz_at hg (w := .arrayOf (.static "java/lang/Integer" "DigitOnes" "[B") .byte) 249 (by decide +kernel)) (lz_at hg (w := .eq (.length (.static "java/lang/Integer" "DigitOnes" "[B")) (.int (Int32.ofNat 100))) 250 (by decide +kernel)) (fun j hj => va_eqt (h3 j hj)) hA
  exact ⟨q, va_Zof (lz_tab hts (w := .laysStatic "java/lang/Integer" "DigitOnes" "[B") 1562 (by decide +kernel)) (lz_tab hts (w := .initialized "java/lang/Integer") 38 (by decide +kernel)) h1 hA, h2⟩
set_option maxRecDepth 20000 in
theorem lz_d10 {a : Array Value} {s : State} {A : Nat → Prop} (hg : (Jvm.Cond.and given_1 narrow_1).before a s = true) (hts : ∀ w ∈ lw_tbl, w.before a s = true) (hA : ∀ a : Nat, a < s.heap.size → ¬ A a) : ∃ q : Nat, va_Z "java/lang/Integer" "DigitTens" "[B" (.ref q) A s s.heap ∧ va_T .byte q 100 (fun j => jI (48 + (j : Int) / 10)) A s s.heap := by
  have h3 := lz_all hg (N := 100) (w := fun j => .eq (.elem (.static "java/lang/Integer" "DigitTens" "[B") (.int (Int32.ofNat j))) (.int (Int32.ofInt (48 + (j : Int) / 10)))) [354, 355, 356, 357, 358, 359, 360, 361, 362, 363, 364, 365, 366, 367, 368, 369, 370, 371, 372, 373, 374, 375, 376, 377, 378, 379, 380, 381, 382, 383, 384, 385, 386, 387, 388, 389, 390, 391, 392, 393, 394, 395, 396, 397, 398, 399, 400, 401, 402, 403, 404, 405, 406, 407, 408, 409, 410, 411, 412, 413, 414, 415, 416, 417, 418, 419, 420, 421, 422, 423, 424, 425, 426, 427, 428, 429, 430, 431, 432, 433, 434, 435, 436, 437, 438, 439, 440, 441, 442, 443, 444, 445, 446, 447, 448, 449, 450, 451, 452, 453] (by decide +kernel)
  obtain ⟨q, h1, h2⟩ := lz_arr (A := A) (f := fun j => jI (48 + (j : Int) / 10)) (by decide) (lz_at hg (w := .arrayOf (.static "java/lang/Integer" "DigitTens" "[B") .byte) 352 (by decide +kernel)) (lz_at hg (w := .eq (.length (.static "java/lang/Integer" "DigitTens" "[B")) (.int (Int32.ofNat 100))) 353 (by decide +kernel)) (fun j hj => va_eqt (h3 j hj)) hA
  exact ⟨q, va_Zof (lz_tab hts (w := .laysStatic "java/lang/Integer" "DigitTens" "[B") 1564 (by decide +kernel)) (lz_tab hts (w := .initialized "java/lang/Integer") 38 (by decide +kernel)) h1 hA, h2⟩
set_option maxRecDepth 20000 in
theorem lz_kS {a : Array Value} {s : State} {A : Nat → Prop} {aK : Nat → Nat} (hg : (Jvm.Cond.and given_1 narrow_1).before a s = true) (hts : ∀ w ∈ lw_tbl, w.before a s = true) (hA : ∀ a : Nat, a < s.heap.size → ¬ A a) (hK : ∀ i, i < 12 → (Term.static "LevelingNetwork$Kind" (zk_nm i) "LLevelingNetwork$Kind;").eval a s none [] s = some (.ref (aK i))) : ∃ q : Nat, va_Z "LevelingNetwork" "KINDS" "[LLevelingNetwork$Kind;" (.ref q) A s s.heap ∧ va_T (.object "LevelingNetwork$Kind") q 12 (fun j => .ref (aK j)) A s s.heap := by
  have h3 := lz_all hg (N := 12) (w := fun i => .eq (.elem (.static "LevelingNetwork" "KINDS" "[LLevelingNetwork$Kind;") (.int (Int32.ofNat i))) (.static "LevelingNetwork$Kind" (zk_nm i) "LLevelingNetwork$Kind;")) [459, 460, 461, 462, 463, 464, 465, 466, 467, 468, 469, 470] (by decide +kernel)
  obtain ⟨q, h1, h2⟩ := lz_arr (A := A) (f := fun j => .ref (aK j)) (by decide) (lz_at hg (w := .arrayOf (.static "LevelingNetwork" "KINDS" "[LLevelingNetwork$Kind;") (.object "LevelingNetwork$Kind")) 456 (by decide +kernel)) (lz_at hg (w := .eq (.length (.static "LevelingNetwork" "KINDS" "[LLevelingNetwork$Kind;")) (.int (Int32.ofNat 12))) 457 (by decide +kernel)) (fun j hj => va_eqv (h3 j hj) (hK j hj)) hA
  exact ⟨q, va_Zof (lz_tab hts (w := .laysStatic "LevelingNetwork" "KINDS" "[LLevelingNetwork$Kind;") 1757 (by decide +kernel)) (lz_tab hts (w := .initialized "LevelingNetwork") 1 (by decide +kernel)) h1 hA, h2⟩
theorem lz_kF {a : Array Value} {s : State} {A : Nat → Prop} {aK aS : Nat → Nat} (hg : (Jvm.Cond.and given_1 narrow_1).before a s = true) (hA : ∀ a : Nat, a < s.heap.size → ¬ A a) (hK : ∀ i, i < 12 → (Term.static "LevelingNetwork$Kind" (zk_nm i) "LLevelingNetwork$Kind;").eval a s none [] s = some (.ref (aK i))) (hS : ∀ i, i < 20 → (Term.string "LevelingNetwork$Kind" (lz_sx.getD i 0)).eval a s none [] s = some (.ref (aS i))) :
    ∀ k, k < 12 → va_OF "LevelingNetwork$Kind" "word" "Ljava/lang/String;" (.ref (aS k)) (aK k) A s s.heap ∧ va_OF "LevelingNetwork$Kind" "form" "Ljava/lang/String;" (.ref (aS (zs_fm k))) (aK k) A s s.heap := by
  have h1 := lz_all hg (N := 12) (w := fun i => .eq (.field (.static "LevelingNetwork$Kind" (zk_nm i) "LLevelingNetwork$Kind;") "LevelingNetwork$Kind" "word" "Ljava/lang/String;") (.string "LevelingNetwork$Kind" (lz_sx.getD i 0))) [70, 81, 93, 106, 120, 135, 151, 168, 7, 186, 205, 225] (by decide +kernel)
  have h2 := lz_all hg (N := 12) (w := fun i => .eq (.field (.static "LevelingNetwork$Kind" (zk_nm i) "LLevelingNetwork$Kind;") "LevelingNetwork$Kind" "form" "Ljava/lang/String;") (.string "LevelingNetwork$Kind" (lz_sx.getD (zs_fm i) 0))) [71, 82, 94, 107, 121, 136, 152, 169, 8, 187, 206, 226] (by decide +kernel)
  have h3 : ∀ k, k < 12 → zs_fm k < 20 := by decide
  exact fun k hk => ⟨vk_OFof (hK k hk) (va_eqv (h1 k hk) (hS k (by omega))) hA, vk_OFof (hK k hk) (va_eqv (h2 k hk) (hS _ (h3 k hk))) hA⟩
set_option maxRecDepth 20000 in
theorem lz_rest {l : Launch} {st : Nat → Nat} {a : Array Value} {s : State} (hg : (Jvm.Cond.and given_1 narrow_1).before a s = true) (hts : ∀ w ∈ lw_tbl, w.before a s = true) : zx_ok (l, lz_Z s, s.heap.size, st) ∧ zv_ok (l, lz_Z s, s.heap.size, st) ∧ zp_ok (l, lz_Z s, s.heap.size, st) ∧ zn_ok (l, lz_Z s, s.heap.size, st) := by
  have hA : ∀ q : Nat, q < s.heap.size → ¬ jk_A (l, lz_Z s, s.heap.size, st) q := fun q h1 h2 => absurd h1 (Nat.not_lt.mpr h2)
  refine ⟨fun U hU => ⟨⟨lt_Zq (vx_Zqof (lz_tab hts (w := .laysStatic Bundle.tN "UNASSIGNED_STACK" Bundle.steD) 618 (by decide +kernel)) (lz_tab hts (w := .initialized Bundle.tN) 21 (by decide +kernel)) (lz_at hg (w := .isRef (.static Bundle.tN "UNASSIGNED_STACK" Bundle.steD)) 66 (by decide +kernel)) hA) U hU, lt_Zq (vx_Zqof (lz_tab hts (w := .laysStatic Bundle.tN "SUPPRESSED_SENTINEL" Bundle.listD) 620 (by decide +kernel)) (lz_tab hts (w := .initialized Bundle.tN) 21 (by decide +kernel)) (lz_at hg (w := .isRef (.static Bundle.tN "SUPPRESSED_SENTINEL" Bundle.listD)) 67 (by decide +kernel)) hA) U hU⟩, lz_vk hg hts 876 1130 (by decide +kernel) (by decide +kernel) U hU, lz_vk hg hts 901 1140 (by decide +kernel) (by decide +kernel) U hU, lz_vk hg hts 936 1158 (by decide +kernel) (by decide +kernel) U hU, lz_vk hg hts 986 1208 (by decide +kernel) (by decide +kernel) U hU, lz_vk hg hts 1018 1233 (by decide +kernel) (by decide +kernel) U hU, lz_vk hg hts 1057 1268 (by decide +kernel) (by decide +kernel) U hU, lz_vk hg hts 1114 1335 (by decide +kernel) (by decide +kernel) U hU, lz_vk hg hts 1148 1369 (by decide +kernel) (by decide +kernel) U hU, lz_vk hg hts 1179 1396 (by decide +kernel) (by decide +kernel) U hU, lz_vk hg hts 1208 1409 (by decide +kernel) (by decide +kernel) U hU, lz_vk hg hts 1333 1713 (by decide +kernel) (by decide +kernel) U hU, lz_vk hg hts 1363 1731 (by decide +kernel) (by decide +kernel) U hU, lz_vk hg hts 1411 1732 (by decide +kernel) (by decide +kernel) U hU, lz_vk hg hts 1440 1799 (by decide +kernel) (by decide +kernel) U hU, lz_vk hg hts 1486 1805 (by decide +kernel) (by decide +kernel) U hU, lz_vk hg hts 1520 1813 (by decide +kernel) (by decide +kernel) U hU, lz_vk hg hts 1553 1821 (by decide +kernel) (by decide +kernel) U hU, lz_vk hg hts 1584 1829 (by decide +kernel) (by decide +kernel) U hU, lz_vk hg hts 1612 1841 (by decide +kernel) (by decide +kernel) U hU, lz_vk hg hts 647 637 (by decide +kernel) (by decide +kernel) U hU, lz_vk hg hts 673 672 (by decide +kernel) (by decide +kernel) U hU, lz_vk hg hts 708 688 (by decide +kernel) (by decide +kernel) U hU, lz_vk hg hts 748 704 (by decide +kernel) (by decide +kernel) U hU, lz_vk hg hts 775 720 (by decide +kernel) (by decide +kernel) U hU, lz_vk hg hts 815 1096 (by decide +kernel) (by decide +kernel) U hU, lz_vk hg hts 961 1171 (by decide +kernel) (by decide +kernel) U hU, lz_vk hg hts 1086 1322 (by decide +kernel) (by decide +kernel) U hU, lz_vk hg hts 845 1115 (by decide +kernel) (by decide +kernel) U hU⟩, ?_, ?_, fun U hU => ⟨lt_N (va_Nc.of (lz_at hg (w := .not (.castable "java/lang/IllegalStateException" "java/lang/IndexOutOfBoundsException")) 508 (by decide +kernel))) U hU, lt_N (va_Nc.of (lz_at hg (w := .not (.castable "java/lang/UnsupportedOperationException" "java/util/NoSuchElementException")) 552 (by decide +kernel))) U hU, lt_N (va_Nc.of (lz_at hg (w := .not (.castable "java/lang/UnsupportedOperationException" "java/lang/IndexOutOfBoundsException")) 510 (by decide +kernel))) U hU, lt_N (va_Nc.of (lz_at hg (w := .not (.castable "java/util/NoSuchElementException" "java/lang/IllegalArgumentException")) 529 (by decide +kernel))) U hU, lt_N (va_Nc.of (lz_at hg (w := .not (.castable "java/lang/IllegalArgumentException" "java/lang/IndexOutOfBoundsException")) 507 (by decide +kernel))) U hU, lt_N (va_Nc.of (lz_at hg (w := .not (.castable "java/lang/IllegalStateException" "java/lang/IllegalArgumentException")) 528 (by decide +kernel))) U hU, lt_N (va_Nc.of (lz_at hg (w := .not (.castable "java/util/NoSuchElementException" "java/lang/IndexOutOfBoundsException")) 509 (by decide +kernel))) U hU⟩⟩
  · rcases va_Zqof (A := jk_A (l, lz_Z s, s.heap.size, st)) (lz_tab hts (w := .laysStatic "jdk/internal/util/Preconditions" "SIOOBE_FORMATTER" "Ljava/util/function/BiFunction;") 1492 (by decide +kernel)) (lz_tab hts (w := .initialized "jdk/internal/util/Preconditions") 35 (by decide +kernel)) (lz_at hg (w := .isRef (.static "jdk/internal/util/Preconditions" "SIOOBE_FORMATTER" "Ljava/util/function/BiFunction;")) 244 (by decide +kernel)) hA with h | ⟨q, h⟩
    · exact ⟨.null, Or.inl rfl, fun U hU => lt_Z h U hU⟩
    · refine ⟨.ref (2 * q + 65), Or.inr ⟨_, rfl⟩, fun U hU => ?_⟩
      show va_Z _ _ _ (.ref (jk_ad _ (2 * q + 65))) _ _ _
      rw [jk_adx]
      exact lt_Z h U hU
  · intro U args hU
    have h0 := lz_tab hts (w := .selects "java/lang/StringBuilder" yJ5_isLatin1_aae02 yJ5_isLatin1_aae02) 1477 (by decide +kernel)
    refine ⟨?_, ?_⟩
    · exact jk_kw_warm (by decide +kernel) hU.1 (lz_sel (y := yJ5_ensureCapacityInternal_d00df) (by decide) h0 rfl (lz_tab hts (w := .privateMethod yJ5_ensureCapacityInternal_d00df) 1444 (by decide +kernel)) (lz_tab hts (w := .instanceMethod yJ5_ensureCapacityInternal_d00df) 1445 (by decide +kernel)))
    · exact jk_kw_warm (by decide +kernel) hU.1 (lz_sel (y := yJ5_newCapacity_0f7a4) (by decide) h0 rfl (lz_tab hts (w := .privateMethod yJ5_newCapacity_0f7a4) 1448 (by decide +kernel)) (lz_tab hts (w := .instanceMethod yJ5_newCapacity_0f7a4) 1449 (by decide +kernel)))
set_option maxRecDepth 20000 in
/-- ALL that the launch has laid -/
theorem lz_ok {l : Launch} {s : State} {b L : Nat} {xs : Nat → Int32} (hL : L ≤ 2560) (hX : va_X b L xs s s.heap) (hb : b < s.heap.size) (hts : ∀ w ∈ lw_tbl, w.before #[Value.ref b] s = true) (hg : (Jvm.Cond.and given_1 narrow_1).before #[Value.ref b] s = true) : ∃ st : Nat → Nat, st 63 = b ∧ zl_ok (l, lz_Z s, s.heap.size, st) L (fun j => (xs j).toInt) := by
  have hA : ∀ q : Nat, q < s.heap.size → ¬ (fun q : Nat => s.heap.size ≤ q) q := fun q h1 h2 => absurd h1 (Nat.not_lt.mpr h2)
  obtain ⟨⟨aK, hK⟩, ⟨aT, hT, hTn⟩⟩ := lz_enums hg hts hA
  obtain ⟨aS, aV, hS⟩ := lz_strs hg hA
  obtain ⟨kS, hk1, hk2⟩ := lz_kS hg hts hA (fun i hi => (hK i hi).1)
  have hF := lz_kF hg hA (fun i hi => (hK i hi).1) (fun i hi => (hS i hi).1)
  obtain ⟨mK, m1, m2⟩ := lz_mK hg hts hA
  obtain ⟨mT, m3, m4⟩ := lz_mT hg hts hA
  obtain ⟨d1, d2, d3⟩ := lz_d1 hg hts hA
  obtain ⟨d10, d4, d5⟩ := lz_d10 hg hts hA
  have hcs := va_Zof (A := fun q : Nat => s.heap.size ≤ q) (lz_tab hts (w := .laysStatic "java/lang/String" "COMPACT_STRINGS" "Z") 353 (by decide +kernel)) (lz_tab hts (w := .initialized "java/lang/String") 13 (by decide +kernel)) (va_eqi (lz_at hg (w := .eq (.static "java/lang/String" "COMPACT_STRINGS" "Z") (.int (Int32.ofInt 1))) 4 (by decide +kernel))) hA
  refine ⟨lz_st aK aT kS mK mT aS aV d1 d10 b, rfl, ?_⟩
  obtain ⟨r1, r2, r3, r4⟩ := lz_rest (l := l) (st := lz_st aK aT kS mK mT aS aV d1 d10 b) hg hts
  have h3 : ∀ k, k < 12 → zs_fm k < 20 := by decide
  refine ⟨⟨fun i hi U hU => ?_, fun i hi U hU => ?_, fun U hU => ⟨lt_Z m1 U hU, lt_T m2 U hU, lt_Z m3 U hU, lt_T m4 U hU, lt_Z hk1 U hU, ?_⟩, fun i h0 hi => ?_, fun k hk U hU => ?_, fun i hi U hU => ?_, fun U hU => ⟨lt_Z hcs U hU, lt_Z d2 U hU, lt_T d3 U hU, lt_Z d4 U hU, lt_T d5 U hU⟩⟩, r1, r2, r3, r4, ⟨hL, fun j => ⟨?_, ?_⟩⟩, fun U hU => ?_⟩
  · rw [Nat.zero_add, ls_K hi]
    exact ⟨lt_Z (hK i hi).2.1 U hU, lt_O (hK i hi).2.2.1 U hU, lt_OF (hK i hi).2.2.2 U hU⟩
  · rw [ls_T hi]
    exact ⟨lt_Z (hT i hi).1 U hU, lt_O (hT i hi).2.1 U hU, lt_OF (hT i hi).2.2 U hU⟩
  · obtain ⟨cell, g1, g2, g3, g4, g5, g6, g7⟩ := lt_T hk2 U hU
    exact ⟨cell, g1, g2, g3, g4, g5, fun j hj => by show cell.slots[j]? = some (Value.ref (jk_ad _ j)); rw [ls_K hj]; exact g6 j hj, g7⟩
  · rw [ls_T hi, show (12 : Nat) = 12 + 0 from rfl, ls_T (by decide)]
    exact hTn i h0 hi
  · rw [ls_K hk, ls_S (by omega), ls_S (h3 k hk)]
    exact ⟨lt_OF (hF k hk).1 U hU, lt_OF (hF k hk).2 U hU⟩
  · rw [ls_S hi, ls_V hi]
    exact ⟨lt_O (hS i hi).2.1 U hU, lt_OF (hS i hi).2.2.1 U hU, lt_OF (hS i hi).2.2.2.1 U hU, lt_T (hS i hi).2.2.2.2 U hU⟩
  · have := Int32.le_toInt (xs j); show -2147483648 ≤ (xs j).toInt; omega
  · have := Int32.toInt_lt (xs j); show (xs j).toInt < 2147483648; omega
  · have hx := (va_X.moved hU.1.alike hX).kept (H1 := U.heap) (hU.2 b hb)
    obtain ⟨scr, g1, g2, g3, g4, g5⟩ := hx
    refine ⟨scr, g1, g2, g3, by omega, by rw [g4], fun j hj => ?_, fun h => absurd hb (Nat.not_lt.mpr h)⟩
    rw [g5 j hj]
    show _ = some (Value.int (Int32.ofInt (xs j).toInt))
    rw [Int32.ofInt_toInt]
end LB
