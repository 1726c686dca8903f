def px_nests : List (String × Nat × MethodName × String) := [("JobTests$Script", 11, ⟨"JobTests$Job", "<init>", "()V"⟩, "JobTests"), ("JobTests$Script", 28, ⟨"JobTests$TestCase", "<init>", "()V"⟩, "JobTests"), ("JobTests", 29, ⟨"JobTests$Reader", "<init>", "()V"⟩, "JobTests"), ("JobTests", 36, ⟨"JobTests$Runner", "<init>", "()V"⟩, "JobTests"), ("JobTests$Runner", 11, ⟨"JobTests$Job", "<init>", "()V"⟩, "JobTests"), ("JobTests$Memory", 30, ⟨"JobTests$StepMemory", "<init>", "()V"⟩, "JobTests"), ("JobTests", 43, ⟨"JobTests$Judge", "<init>", "()V"⟩, "JobTests"), ("JobTests", 50, ⟨"JobTests$Order", "<init>", "()V"⟩, "JobTests"), ("JobTests", 60, ⟨"JobTests$Schedules", "<init>", "()V"⟩, "JobTests"), ("JobTests", 67, ⟨"JobTests$Job", "<init>", "()V"⟩, "JobTests")]
def px_strs : List (String × Nat × String × Nat) := [("JobTests$Job", 46, "<=>", 1), ("JobTests$Job", 48, "+-*/", 2), ("JobTests$Reader", 56, "fmqdswt", 3), ("JobTests$Reader", 68, "<=>", 4), ("JobTests$Reader", 70, "+-*/", 5), ("JobTests$Reader", 105, "rRhHkx", 6), ("JobTests$Reader", 111, "abcd", 7), ("JobTests$Reader", 126, "=~!", 8)]
def px_w (w : Cond) : Bool := decide (w ∈ lw_tbl) && goodWord w
def px_okf (own : String) (idx ci k : Nat) : Bool := match vwCl[ci]? with
  | some r => decide (k < r.2.2) && px_w (.fieldLink own idx (r.2.1 k).1 (r.2.1 k).2.1 (r.2.1 k).2.2.1)
  | none => decide (ci = 40) && ((decide (k = 0) && px_w (.fieldLink own idx "java/lang/String" "value" "[B")) || (decide (k = 1) && px_w (.fieldLink own idx "java/lang/String" "coder" "B")))
def px_okp (own mn : String) (ci k : Nat) : Bool := match vwCl[ci]? with
  | some r => !(r.2.1 k).2.2.2 || (decide (mn = "<init>") && decide ((r.2.1 k).1 = own))
  | none => false
def px_oko (own : String) (idx ci : Nat) : Bool := match vwCl[ci]? with
  | some r => px_w (.classLink own idx r.1) && (px_w (.instantiable r.1 r.2.2) && px_w (.initialized r.1))
  | none => false
def px_okld (own : String) (idx : Nat) : Value → Bool
  | .int v => px_w (.constant own idx v)
  | .ref q => px_strs.any (fun z => decide (z.1 = own) && (decide (z.2.1 = idx) && (decide (z.2.2.2 = q) && decide (q < 17))))
  | _ => false
def px_oklw (own : String) (idx : Nat) : Value → Bool
  | .int v => px_w (.constant own idx v)
  | _ => false
def px_okl2 (own : String) (idx : Nat) : Value → Bool
  | .long v => px_w (.constantLong own idx v)
  | _ => false
def px_okl (own mn : String) (fr lo : Nat) (e : px_E) : Bool := match e.1 with
  | .getfield idx => px_okf own idx e.2.2.1 e.2.2.2.1
  | .putfield idx => px_okf own idx e.2.2.1 e.2.2.2.1 && px_okp own mn e.2.2.1 e.2.2.2.1
  | .newarray a => decide (px_atys[e.2.2.1]? = some (newarray.typeOf a)) && px_w (.arrayClass (newarray.typeOf a))
  | .anewarray idx => (decide (e.2.2.1 = 5) && px_w (.classLink own idx "JobTests$StepMemory")) || (decide (e.2.2.1 = 6) && px_w (.classLink own idx "JobTests$TestCase"))
  | .new idx => px_oko own idx e.2.2.1
  | .ldc idx => px_okld own idx e.2.2.2.2
  | .ldc_w idx => px_oklw own idx e.2.2.2.2
  | .ldc2_w idx => px_okl2 own idx e.2.2.2.2
  | .getstatic idx => (decide (e.2.2.1 = 0) && (decide (e.2.2.2.2 = .int 1) && px_w (.fieldLink own idx "java/lang/String" "COMPACT_STRINGS" "Z"))) || (decide (e.2.2.1 = 1) && (decide (e.2.2.2.2 = .retAddr 0) && px_w (.fieldLink own idx "jdk/internal/util/Preconditions" "SIOOBE_FORMATTER" "Ljava/util/function/BiFunction;")))
  | .invokespecial idx => decide (e.2.2.2.1 < 10) || (decide (1 ≤ fr ∧ 20 ≤ lo) && (px_w (.methodLink own idx Lib.objectInit) && (px_w (.instanceMethod Lib.objectInit) && px_w (.code Lib.objectInit ⟨#[0xb1]⟩ 1 none))))
  | .invokestatic idx => (match e.2.2.2.1 with
    | 11 => decide (1 ≤ fr ∧ 21 ≤ lo) && (px_w (.methodLink own idx Lib.Math.max.name) && (px_w (.static Lib.Math.max.name) && (px_w (.initialized "java/lang/Math") && px_w (.code Lib.Math.max.name Lib.Math.max.code 2 (some .int)))))
    | 12 => decide (1 ≤ fr ∧ 21 ≤ lo) && (px_w (.methodLink own idx Lib.Math.min.name) && (px_w (.static Lib.Math.min.name) && (px_w (.initialized "java/lang/Math") && px_w (.code Lib.Math.min.name Lib.Math.min.code 2 (some .int)))))
    | 16 => decide (1 ≤ fr ∧ 8 + (nativeFrameWords "java/lang/System" "arraycopy" 5 + 11) ≤ lo) && (px_w (.methodLink own idx arraycopyName) && (px_w (.native arraycopyName) && (px_w (.static arraycopyName) && px_w (.initialized "java/lang/System"))))
    | _ => true)
  | _ => true
def px_lok (e : px_E) : Bool := match e.1 with
  | .tableswitch _ _ _ _ => true
  | .lookupswitch _ _ => true
  | i => decide (e.2.1 = px_len i)
def px_okb (pc : Nat) (e : px_E) : Bool := match e.1 with
  | .goto off => decide ((pc : Int) + off = (e.2.2.1 : Int))
  | .ifCond _ off => decide ((pc : Int) + off = (e.2.2.1 : Int))
  | .if_icmp _ off => decide ((pc : Int) + off = (e.2.2.1 : Int))
  | .lookupswitch _ ps => (ps.toList.zip (ps.toList.drop 1)).all (fun (a, next) => a.1 < next.1)
  | _ => true
def px_y (m : Nat) : MethodName := px_ys.getD m ⟨"", "", ""⟩
def px_by (m : Nat) : ByteArray := px_bys.getD m ByteArray.empty
def px_ml (m : Nat) : Nat := px_mls.getD m 0
def px_rt (m : Nat) : Option FieldType := px_rts.getD m none
def px_de (m : Nat) : Nat := px_deps.getD m 0
def px_lc (m : Nat) : Nat := px_lcs.getD m 0
def px_okw (m : Nat) : Bool := decide (px_owns.getD m 60 = 40 ∧ (px_y m).cls = "java/lang/String") || (match vwCl[px_owns.getD m 60]? with
  | some r => decide (r.1 = (px_y m).cls)
  | none => false)
def px_okm (m : Nat) : Bool := px_w (.code (px_y m) (px_by m) (px_ml m) (px_rt m)) && (px_w (.initialized (px_y m).cls) && (plainName (px_y m).cls && decide ((px_y m).cls ≠ "java/lang/invoke/MethodHandle" ∧ (px_y m).cls ≠ "java/lang/invoke/VarHandle" ∧ (parseMethodDescriptor (px_y m).desc).map (fun d => d.parameters.length) = some (px_nps.getD m 0))))
def px_okc (own : String) (fr lo : Nat) (e : px_E) : Bool := decide (px_de e.2.2.1 + 1 ≤ fr ∧ 8 + (px_ml e.2.2.1 + 11) + px_lc e.2.2.1 ≤ lo) && (decide (e.2.2.1 < 220) && (match e.1 with
  | .invokevirtual idx => decide (e.2.2.2.1 = 1) && (px_okw e.2.2.1 && (px_w (.methodLink own idx (px_y e.2.2.1)) && (px_w (.instanceMethod (px_y e.2.2.1)) && px_w (.selects (px_y e.2.2.1).cls (px_y e.2.2.1) (px_y e.2.2.1)))))
  | .invokestatic idx => decide (e.2.2.2.1 = 2) && (px_w (.methodLink own idx (px_y e.2.2.1)) && px_w (.static (px_y e.2.2.1)))
  | .invokespecial idx => decide ((px_y e.2.2.1).name = "<init>" ∧ px_rt e.2.2.1 = none) && (px_w (.instanceMethod (px_y e.2.2.1)) && ((decide (e.2.2.2.1 = 3) && px_w (.methodLink own idx (px_y e.2.2.1))) || (decide (e.2.2.2.1 = 4) && px_nests.any (fun z => decide (z.1 = own ∧ z.2.1 = idx ∧ z.2.2.1 = px_y e.2.2.1)))))
  | _ => false))
def px_okE (m pc : Nat) (e : px_E) : Bool := decide (decode (px_by m) pc = .ok (e.1, e.2.1)) && (px_lok e && (px_okb pc e && (if px_kd e = 1 then px_okc (px_y m).cls (px_de m) (px_lc m) e else px_okl (px_y m).cls (px_y m).name (px_de m) (px_lc m) e)))
def px_OK : Prop := ∀ (m pc : Nat) (e : px_E), px_at m pc = some e → px_okE m pc e = true
