/-- what is no good word but lasts: words of nest mates, castings, the statics of Throwable, the array class of Nodes, the texts -/
def nfw : List Cond := [
  .methodLinkNest "ProsePages" 17 ⟨"ProsePages$Setter", "<init>", "()V"⟩ "ProsePages", .methodLinkNest "ProsePages$Setter" 11 ⟨"ProsePages$Row", "<init>", "()V"⟩ "ProsePages",
  .methodLinkNest "ProsePages$Setter" 20 ⟨"ProsePages$Sheet", "<init>", "()V"⟩ "ProsePages", .methodLinkNest "ProsePages$Sheet" 11 ⟨"ProsePages$Row", "<init>", "()V"⟩ "ProsePages",
  .methodLinkNest "ProsePages" 24 ⟨"ProsePages$Sheet", "<init>", "()V"⟩ "ProsePages", .methodLinkNest "ProsePages$Node" 37 ⟨"ProsePages", "isOneOf", "(II)Z"⟩ "ProsePages",
  .methodLinkNest "ProsePages$Setter" 148 ⟨"ProsePages", "isWhite", "(I)Z"⟩ "ProsePages",
  .castable "java/lang/IllegalStateException" "java/lang/IllegalStateException", .castable "java/lang/IllegalArgumentException" "java/lang/IllegalArgumentException",
  .laysStatic "java/lang/Throwable" "UNASSIGNED_STACK" "[Ljava/lang/StackTraceElement;", .laysStatic "java/lang/Throwable" "SUPPRESSED_SENTINEL" "Ljava/util/List;",
  .isRef (.static "java/lang/Throwable" "UNASSIGNED_STACK" "[Ljava/lang/StackTraceElement;"), .isRef (.static "java/lang/Throwable" "SUPPRESSED_SENTINEL" "Ljava/util/List;"),
  .not (.castable "java/lang/IllegalArgumentException" "java/lang/IllegalStateException"), .not (.castable "java/lang/IllegalStateException" "java/lang/IllegalArgumentException"),
  .declares ⟨"java/lang/RuntimeException", "<init>", "(Ljava/lang/String;)V"⟩, .declares ⟨"java/lang/Exception", "<init>", "(Ljava/lang/String;)V"⟩, .declares ⟨"java/lang/Throwable", "<init>", "(Ljava/lang/String;)V"⟩]
def nfs : List (Nat × String) := [(49, "no room for one more node here"), (60, "no such kind, or not here"), (67, "no such level or number"), (99, "not 1 to 4 characters, or no text may be here"), (104, "too many characters"), (126, "no such rows or columns"), (142, "too many lines")]
def NF (U : State) : Prop := (∀ w ∈ nfw, w.before #[] U = true) ∧ va_AO "ProsePages$Node" U ∧ ∀ q ∈ nfs, ∃ a : Nat, vk_R "ProsePages" q.1 q.2 a U
