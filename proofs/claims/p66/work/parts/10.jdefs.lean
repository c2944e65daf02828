/-- the launch, the launch's own facts, where the new cells begin, where the launch's own cells lie -/
abbrev jk_G : Type := Launch × (State → Prop) × Nat × (Nat → Nat)
abbrev jk_l (G : jk_G) : Launch := G.1
abbrev jk_Z (G : jk_G) : State → Prop := G.2.1
abbrev jk_b (G : jk_G) : Nat := G.2.2.1
abbrev jk_st (G : jk_G) : Nat → Nat := G.2.2.2
/-- a method: its class, bytes, locals, what it returns, its table, whether it is a constructor, the depth of the calls under it -/
abbrev jk_M : Type := String × ByteArray × Nat × Option FieldType × List ExceptionTableEntry × Bool × Nat
abbrev jk_own (M : jk_M) : String := M.1
abbrev jk_cc (M : jk_M) : ByteArray := M.2.1
abbrev jk_nL (M : jk_M) : Nat := M.2.2.1
abbrev jk_rt (M : jk_M) : Option FieldType := M.2.2.2.1
abbrev jk_tb (M : jk_M) : List ExceptionTableEntry := M.2.2.2.2.1
abbrev jk_ini (M : jk_M) : Bool := M.2.2.2.2.2.1
abbrev jk_d (M : jk_M) : Nat := M.2.2.2.2.2.2
abbrev jk_T : Type := Nat → Option ((FieldType × Nat) ⊕ Nat)
abbrev jk_I : Type := Nat → Int → Int
abbrev jk_P : Type := Nat → Int → Option Nat
abbrev jk_Q : Type := Option Value → Nat → jk_T → jk_I → jk_P → Prop
abbrev jk_X : Type := String → Nat → jk_T → jk_I → jk_P → Prop
/-- places: below 64 the launch's own; from 64 on the even ones are the new cells in order, the odd ones any cell -/
def jk_ad (G : jk_G) (a : Nat) : Nat := if a < 64 then jk_st G a else if a % 2 = 0 then jk_b G + (a - 64) / 2 else (a - 65) / 2
def jk_re (G : jk_G) : Value → Value
  | .ref a => .ref (jk_ad G a)
  | v => v
abbrev jI (x : Int) : Value := .int (Int32.ofInt x)
abbrev jL (x : Int) : Value := .long (Int64.ofInt x)
def jk_E (G : jk_G) (ty : FieldType) (x : Int) (r : Option Nat) : Value := match ty with
  | .object _ => va_rf (r.map (jk_ad G))
  | .array _ => va_rf (r.map (jk_ad G))
  | .long => .long (Int64.ofInt x)
  | .double => .double (UInt64.ofNat x.toNat)
  | .float => .float (UInt32.ofNat x.toNat)
  | _ => .int (Int32.ofInt x)
/-- the classes that are made: name, fields, how many, their types -/
def jk_cl (k : Nat) : String × u_T × Nat × (Nat → FieldType) := match k with
  | 1 => (RX1, TX1, 1, tyX1)
  | 2 => (RX2, TX2, 4, tyX2)
  | 3 => (RX3, TX3, 6, tyX3)
  | 4 => (RX4, TX4, 5, tyX4)
  | 5 => (RX5, TX5, 3, tyX5)
  | 7 => (RX7, TX7, 6, tyX7)
  | 8 => (RX8, TX8, 3, tyX8)
  | 9 => (RX9, TX9, 18, tyX9)
  | 11 => (RX11, TX11, 5, tyX11)
  | 12 => (RX12, TX12, 15, tyX12)
  | 13 => (RJ0, TJ0, 4, tyJ0)
  | 14 => (RJ4, TJ4, 4, tyJ4)
  | _ => (RX1, TX1, 1, tyX1)
def jk_cell (G : jk_G) (U : State) (H : Heap) (n a : Nat) (t : Option ((FieldType × Nat) ⊕ Nat)) (σ : Int → Int) (ρ : Int → Option Nat) : Prop := match t with
  | none => True
  | some (.inl (ty, len)) => 64 ≤ a ∧ a < n ∧ a % 2 = 0 ∧ len ≤ 536870912 ∧ ∃ cA : ClassId, H[jk_ad G a]? = some (arrV cA len (fun j => jk_E G ty (σ (j : Int)) (ρ (j : Int)))) ∧ ArrOfT U cA ty ∧ va_RA U cA ty
  | some (.inr k) => 64 ≤ a ∧ a < n ∧ a % 2 = 0 ∧ ∃ (cC : ClassId) (iS : Nat → Nat), u_Kn U (jk_cl k).1 (jk_cl k).2.1 (jk_cl k).2.2.1 cC iS ∧ t_OB (jk_ad G a) cC (jk_cl k).2.2.1 iS H (fun j => jk_E G ((jk_cl k).2.2.2 j) (σ (j : Int)) (ρ (j : Int)))
/-- the heap holds the abstract one -/
def jk_R (G : jk_G) (U : State) (H : Heap) (n : Nat) (t : jk_T) (σ : jk_I) (ρ : jk_P) : Prop :=
  64 ≤ n ∧ n % 2 = 0 ∧ H.size = jk_b G + (n - 64) / 2 ∧ ∀ a : Nat, jk_cell G U H n a (t a) (σ a) (ρ a)
def jk_A (G : jk_G) : Nat → Prop := fun q => jk_b G ≤ q
/-- the launch keeps no stack traces; its facts speak of the machine and of old cells alone -/
def jk_ok (G : jk_G) : Prop := (jk_l G).stackTraces = false ∧ ∀ u U : State, u.WarmedH U.vm → (∀ q, q < jk_b G → U.heap[q]? = u.heap[q]?) → jk_Z G u → jk_Z G U
def jk_QC (G : jk_G) (Q : jk_Q) : Array Value → State → Outcome → State → Prop := fun _ st o T =>
  ∃ (v : Option Value) (n : Nat) (t : jk_T) (σ : jk_I) (ρ : jk_P), o = .returned (v.map (jk_re G)) ∧ Q v n t σ ρ ∧ jk_R G T T.heap n t σ ρ ∧ va_F (jk_A G) st T
def jk_XC (G : jk_G) (X : jk_X) : String → State → State → Prop := fun E st T =>
  ∃ (n : Nat) (t : jk_T) (σ : jk_I) (ρ : jk_P), X E n t σ ρ ∧ jk_R G T T.heap n t σ ρ ∧ va_F (jk_A G) st T
/-- what stands while a method runs -/
def jk_C (G : jk_G) (M : jk_M) (p : Program) (R : Room) (s : State) (m : MethodId) (args : Array Value) (meth : Method) (c : Code) : Prop :=
  p.tables.exec = Jvm.exec ∧ c.code = jk_cc M ∧ c.maxLocals = jk_nL M ∧ meth.sig.returnType = jk_rt M ∧ meth.locks = false ∧ s.vm.findClass (jk_own M) = some m.cls ∧ (∀ w ∈ jk_WS, w.before args s = true) ∧
  c.exceptionTable.toList = jk_tb M ∧ (jk_ini M = true → meth.name = "<init>") ∧ jk_d M ≤ R.frames ∧ 64 * jk_d M ≤ R.locals ∧ jk_ok G ∧ jk_Z G s ∧ jk_b G ≤ s.heap.size
/-- the locals as far as they are known -/
def jk_L (G : jk_G) (nL : Nat) (ls : List (Option Value)) (ls' : Array Slot) : Prop :=
  ∃ l : List (Nat × Value), lv_has ls' nL l ∧ ∀ (i : Nat) (v : Value), ls[i]? = some (some v) → (i, jk_re G v) ∈ l
/-- THE JUDGEMENT: from pc with locals ls, stack st, the abstract heap (n, t, σ, ρ), rc cells and rs slots still to make: the method ends as Q (returning) or X (throwing) says -/
def jk_J (G : jk_G) (M : jk_M) (pc : Nat) (ls : List (Option Value)) (st : List Value) (n : Nat) (t : jk_T) (σ : jk_I) (ρ : jk_P) (rc rs : Nat) (Q : jk_Q) (X : jk_X) : Prop :=
  ∀ (p : Program) (e : Env) (R : Room) (s : State) (m : MethodId) (args : Array Value) (below : List Frame) (meth : Method) (c : Code) (H : Heap) (locs : List Loc) (cells slots : Nat) (ls' : Array Slot),
    jk_C G M p R s m args meth c → jk_L G (jk_nL M) ls ls' → jk_R G s H n t σ ρ → va_S (jk_A G) s.heap H locs → cells + rc ≤ R.cells → slots + rs ≤ R.slots →
    W p (jk_l G) e R s m args below meth c H locs cells slots (vx_MQ below (jk_QC G Q) (jk_XC G X) args s R.cells R.slots (jk_A G)) (F0 m pc ls' (st.map (jk_re G)))
/-- A CONTRACT: called with As in the abstract heap (n, t, σ, ρ) -/
def jk_K (G : jk_G) (y : MethodName) (M : jk_M) (mc ms : Nat) (As : List Value) (n : Nat) (t : jk_T) (σ : jk_I) (ρ : jk_P) (Q : jk_Q) (X : jk_X) : Prop :=
  vx_Met (jk_l G) y (Cond.code y (jk_cc M) (jk_nL M) (jk_rt M) :: jk_WS) ({ frames := jk_d M, cells := mc, slots := ms, locals := 64 * jk_d M } : Room)
    (fun a s => a = (As.map (jk_re G)).toArray ∧ jk_ok G ∧ jk_Z G s ∧ jk_b G ≤ s.heap.size ∧ jk_R G s s.heap n t σ ρ) (jk_QC G Q) (jk_XC G X) mc ms (jk_A G)
