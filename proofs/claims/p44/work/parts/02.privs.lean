section
/-- the class's own private methods, called at objects of its subclasses: they select themselves -/
theorem zz_selp {C : String} {y : MethodName} {s : State} {args : Array Value} {n : Nat} (hy : y.cls ≠ "java/lang/invoke/MethodHandle" ∧ y.cls ≠ "java/lang/invoke/VarHandle")
    (hins : (Cond.instantiable C n).before args s = true) (hpriv : (Cond.privateMethod y).before args s = true) (hinst : (Cond.instanceMethod y).before args s = true) {B : String} {z x : MethodName} (hb : (Cond.selects B x z).before args s = true) (hz : z.cls = y.cls) :
    (Cond.selects C y y).before args s = true := by
  obtain ⟨c, k, hc, hk, -, hniab, -, -⟩ := Cond.instantiable_spec hins
  obtain ⟨mk, methM, hnamed, hmethM, -, -⟩ := Cond.instanceMethod_spec hinst
  have hfound : s.methodFound? y.cls y.name y.desc = some mk := State.methodFound?_of_named hnamed hy
  have hsel : selectMethod {} s.vm c mk = .method mk := selectMethod_private hmethM (Cond.privateMethod_at hpriv mk methM hnamed hmethM)
  obtain ⟨-, -, mz, -, -, hmz, -, kk, hkk, hni⟩ := Cond.selects_spec hb
  have e : mz.cls = mk.cls := by
    have h1 := findClass_of_methodNamed hmz
    have h2 := findClass_of_methodNamed hnamed
    rw [hz, h2] at h1
    exact (Option.some.inj h1).symm
  rw [e] at hkk
  simp only [Cond.before, Cond.holds, Cond.value, hc, hfound, hnamed, hsel, hkk]
  simp; exact hni
def zzSubs : List (String × Nat × MethodName) := [
  ("ReconcilerHall$Collector", 12, ⟨"ReconcilerHall$Controller", "relist", "()V"⟩),
  ("ReconcilerHall$Deployer", 12, ⟨"ReconcilerHall$Controller", "relist", "()V"⟩),
  ("ReconcilerHall$PodMaker", 12, ⟨"ReconcilerHall$Controller", "relist", "()V"⟩),
  ("ReconcilerHall$Router", 12, ⟨"ReconcilerHall$Controller", "relist", "()V"⟩),
  ("ReconcilerHall$Runner", 12, ⟨"ReconcilerHall$Controller", "relist", "()V"⟩),
  ("ReconcilerHall$Scaler", 13, ⟨"ReconcilerHall$Controller", "relist", "()V"⟩),
  ("ReconcilerHall$Scheduler", 15, ⟨"ReconcilerHall$Controller", "relist", "()V"⟩),
  ("ReconcilerHall$Collector", 12, ⟨"ReconcilerHall$Controller", "isOwnKey", "(I)Z"⟩),
  ("ReconcilerHall$Deployer", 12, ⟨"ReconcilerHall$Controller", "isOwnKey", "(I)Z"⟩),
  ("ReconcilerHall$PodMaker", 12, ⟨"ReconcilerHall$Controller", "isOwnKey", "(I)Z"⟩),
  ("ReconcilerHall$Router", 12, ⟨"ReconcilerHall$Controller", "isOwnKey", "(I)Z"⟩),
  ("ReconcilerHall$Runner", 12, ⟨"ReconcilerHall$Controller", "isOwnKey", "(I)Z"⟩),
  ("ReconcilerHall$Scaler", 13, ⟨"ReconcilerHall$Controller", "isOwnKey", "(I)Z"⟩),
  ("ReconcilerHall$Scheduler", 15, ⟨"ReconcilerHall$Controller", "isOwnKey", "(I)Z"⟩),
  ("ReconcilerHall$Collector", 12, ⟨"ReconcilerHall$Controller", "lookAtNext", "()V"⟩),
  ("ReconcilerHall$Deployer", 12, ⟨"ReconcilerHall$Controller", "lookAtNext", "()V"⟩),
  ("ReconcilerHall$PodMaker", 12, ⟨"ReconcilerHall$Controller", "lookAtNext", "()V"⟩),
  ("ReconcilerHall$Router", 12, ⟨"ReconcilerHall$Controller", "lookAtNext", "()V"⟩),
  ("ReconcilerHall$Runner", 12, ⟨"ReconcilerHall$Controller", "lookAtNext", "()V"⟩),
  ("ReconcilerHall$Scaler", 13, ⟨"ReconcilerHall$Controller", "lookAtNext", "()V"⟩),
  ("ReconcilerHall$Scheduler", 15, ⟨"ReconcilerHall$Controller", "lookAtNext", "()V"⟩),
  ("ReconcilerHall$Collector", 12, ⟨"ReconcilerHall$Controller", "takeKey", "()I"⟩),
  ("ReconcilerHall$Deployer", 12, ⟨"ReconcilerHall$Controller", "takeKey", "()I"⟩),
  ("ReconcilerHall$PodMaker", 12, ⟨"ReconcilerHall$Controller", "takeKey", "()I"⟩),
  ("ReconcilerHall$Router", 12, ⟨"ReconcilerHall$Controller", "takeKey", "()I"⟩),
  ("ReconcilerHall$Runner", 12, ⟨"ReconcilerHall$Controller", "takeKey", "()I"⟩),
  ("ReconcilerHall$Scaler", 13, ⟨"ReconcilerHall$Controller", "takeKey", "()I"⟩),
  ("ReconcilerHall$Scheduler", 15, ⟨"ReconcilerHall$Controller", "takeKey", "()I"⟩),
  ("ReconcilerHall$Collector", 12, ⟨"ReconcilerHall$Controller", "noteFailure", "(I)V"⟩),
  ("ReconcilerHall$Deployer", 12, ⟨"ReconcilerHall$Controller", "noteFailure", "(I)V"⟩),
  ("ReconcilerHall$PodMaker", 12, ⟨"ReconcilerHall$Controller", "noteFailure", "(I)V"⟩),
  ("ReconcilerHall$Router", 12, ⟨"ReconcilerHall$Controller", "noteFailure", "(I)V"⟩),
  ("ReconcilerHall$Runner", 12, ⟨"ReconcilerHall$Controller", "noteFailure", "(I)V"⟩),
  ("ReconcilerHall$Scaler", 13, ⟨"ReconcilerHall$Controller", "noteFailure", "(I)V"⟩),
  ("ReconcilerHall$Scheduler", 15, ⟨"ReconcilerHall$Controller", "noteFailure", "(I)V"⟩)]
def zzSub : List Cond := zzSubs.map fun q => Cond.selects q.1 q.2.2 q.2.2
/-- all words that may be asked for -/
def zzTB : List Cond := lw_tbl ++ zzSub
theorem zzSubs_ok : ∀ q ∈ zzSubs, (q.2.2.cls ≠ "java/lang/invoke/MethodHandle" ∧ q.2.2.cls ≠ "java/lang/invoke/VarHandle") ∧ Cond.instantiable q.1 q.2.1 ∈ lw_tbl ∧ Cond.privateMethod q.2.2 ∈ lw_tbl ∧ Cond.instanceMethod q.2.2 ∈ lw_tbl ∧ q.2.2.cls = "ReconcilerHall$Controller" := by decide +kernel
theorem zzLook : Cond.selects "ReconcilerHall$Collector" ⟨"ReconcilerHall$Controller", "look", "(I)I"⟩ ⟨"ReconcilerHall$Controller", "look", "(I)I"⟩ ∈ lw_tbl := by decide +kernel
theorem zzTB_ok {args : Array Value} {s : State} (h : ∀ w ∈ lw_tbl, w.before args s = true) : ∀ w ∈ zzTB, w.before args s = true := by
  intro w hw
  rcases List.mem_append.mp hw with hw | hw
  · exact h w hw
  · obtain ⟨q, hq, rfl⟩ := List.mem_map.mp hw
    obtain ⟨h0, h1, h2, h3, h4⟩ := zzSubs_ok q hq
    exact zz_selp h0 (h _ h1) (h _ h2) (h _ h3) (h _ zzLook) h4.symm
end
