/-! 'throw new NoSuchElementException("text")': its <init>(String) links its super by 13, not 7: the words of such a throw. -/
def nse_code : ByteArray := ⟨#[0x2a, 0x2b, 0xb7, 0x00, 0x0d, 0xb1]⟩
def nse_X : String := "java/util/NoSuchElementException"
def nse_Y : String := "java/lang/RuntimeException"
def nse_own (own : String) (ic : Nat) : List Cond :=
  Bundle.throwableAtoms ++ Bundle.throwableSAtoms ++ (Bundle.passSAtoms nse_X nse_Y 13 nse_code ++ Bundle.chainSAtoms nse_Y ["java/lang/Exception"]) ++
  [.methodLink own ic (Bundle.initS nse_X), .instantiable nse_X 6, .castable nse_X nse_X, .selects nse_X Bundle.tFill0 Bundle.tFill0, .selects nse_X Bundle.tFill Bundle.tFill,
   .lays nse_X Bundle.tN "cause" "Ljava/lang/Throwable;", .lays nse_X Bundle.tN "stackTrace" Bundle.steD, .lays nse_X Bundle.tN "suppressedExceptions" Bundle.listD, .lays nse_X Bundle.tN "detailMessage" "Ljava/lang/String;",
   .isRef (.static Bundle.tN "UNASSIGNED_STACK" Bundle.steD), .isRef (.static Bundle.tN "SUPPRESSED_SENTINEL" Bundle.listD),
   .fieldLink Bundle.tN 198 Bundle.tN "backtrace" "Ljava/lang/Object;", .lays Bundle.tN Bundle.tN "backtrace" "Ljava/lang/Object;", .lays nse_X Bundle.tN "backtrace" "Ljava/lang/Object;"]
def nse_at (own : String) (ic : Nat) : List Cond := (nse_own own ic).filter vx_no
