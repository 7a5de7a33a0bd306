/-! names of the classes, methods and words that the contracts speak of: printed by my own program out of the tables -/
def R_AL : String := "java/util/ArrayList"
def R_Ab : String := "java/util/AbstractList"
def R_Ac : String := "java/util/AbstractCollection"
def R_Block : String := "ChainLedger$Block"
def R_CL : String := "ChainLedger"
def R_Chain : String := "ChainLedger$Chain"
def R_Coins : String := "ChainLedger$Coins"
def R_Judge : String := "ChainLedger$Judge"
def R_Machine : String := "ChainLedger$Machine"
def R_Mc : String := "ChainLedgerModel$Coins"
def R_Mo : String := "ChainLedgerModel"
def R_Payment : String := "ChainLedger$Payment"
def R_Pool : String := "ChainLedger$Pool"
def R_Row : String := "ChainLedger$Row"
def R_Sha : String := "ChainLedger$Sha"
def R_View : String := "ChainLedger$View"
def R_law : String := "ChainLedgerLaw"
def F_CL : u_T := fun k => match k with
  | 0 => ("ChainLedger", "tape", "LChainLedger$Row;", true)
  | 1 => ("ChainLedger", "out", "LChainLedger$Row;", true)
  | 2 => ("ChainLedger", "outKind", "I", false)
  | 3 => ("ChainLedger", "outIdsDiffer", "Z", false)
  | 4 => ("ChainLedger", "sha", "LChainLedger$Sha;", true)
  | 5 => ("ChainLedger", "judge", "LChainLedger$Judge;", true)
  | 6 => ("ChainLedger", "chain", "LChainLedger$Chain;", true)
  | 7 => ("ChainLedger", "waiting", "LChainLedger$Pool;", true)
  | 8 => ("ChainLedger", "outPayment", "LChainLedger$Payment;", true)
  | _ => ("ChainLedger", "fresh", "[B", true)
def t_CL : Nat → FieldType := fun k => match k with
  | 0 => .object "ChainLedger$Row"
  | 1 => .object "ChainLedger$Row"
  | 2 => .int
  | 3 => .boolean
  | 4 => .object "ChainLedger$Sha"
  | 5 => .object "ChainLedger$Judge"
  | 6 => .object "ChainLedger$Chain"
  | 7 => .object "ChainLedger$Pool"
  | 8 => .object "ChainLedger$Payment"
  | _ => .array (.byte)
theorem n_CL : ∀ a, a < 10 → ∀ b, b < 10 → a ≠ b → (F_CL a).2.1 ≠ (F_CL b).2.1 := by decide +kernel
theorem t_CL_ok : ∀ k, k < 10 → parseFieldDescriptor (F_CL k).2.2.1 = some (t_CL k) := by decide +kernel
theorem df_CL : ∀ j, j < 10 → defaultValue (t_CL j) = vp_V [.null, .null, .int 0, .int 0, .null, .null, .null, .null, .null, .null] j := by decide +kernel
def F_Row : u_T := fun k => match k with
  | 0 => ("ChainLedger$Row", "bytes", "[B", true)
  | _ => ("ChainLedger$Row", "size", "I", false)
def t_Row : Nat → FieldType := fun k => match k with
  | 0 => .array (.byte)
  | _ => .int
theorem n_Row : ∀ a, a < 2 → ∀ b, b < 2 → a ≠ b → (F_Row a).2.1 ≠ (F_Row b).2.1 := by decide +kernel
theorem t_Row_ok : ∀ k, k < 2 → parseFieldDescriptor (F_Row k).2.2.1 = some (t_Row k) := by decide +kernel
theorem df_Row : ∀ j, j < 2 → defaultValue (t_Row j) = vp_V [.null, .int 0] j := by decide +kernel
def F_Sha : u_T := fun k => match k with
  | 0 => ("ChainLedger$Sha", "words", "[I", true)
  | _ => ("ChainLedger$Sha", "state", "[I", true)
def t_Sha : Nat → FieldType := fun k => match k with
  | 0 => .array (.int)
  | _ => .array (.int)
theorem n_Sha : ∀ a, a < 2 → ∀ b, b < 2 → a ≠ b → (F_Sha a).2.1 ≠ (F_Sha b).2.1 := by decide +kernel
theorem t_Sha_ok : ∀ k, k < 2 → parseFieldDescriptor (F_Sha k).2.2.1 = some (t_Sha k) := by decide +kernel
theorem df_Sha : ∀ j, j < 2 → defaultValue (t_Sha j) = vp_V [.null, .null] j := by decide +kernel
def F_Judge : u_T := fun k => match k with
  | 0 => ("ChainLedger$Judge", "sha", "LChainLedger$Sha;", true)
  | 1 => ("ChainLedger$Judge", "machine", "LChainLedger$Machine;", true)
  | 2 => ("ChainLedger$Judge", "work", "LChainLedger$Row;", true)
  | _ => ("ChainLedger$Judge", "found", "[LChainLedger$Coin;", true)
def t_Judge : Nat → FieldType := fun k => match k with
  | 0 => .object "ChainLedger$Sha"
  | 1 => .object "ChainLedger$Machine"
  | 2 => .object "ChainLedger$Row"
  | _ => .array (.object "ChainLedger$Coin")
theorem n_Judge : ∀ a, a < 4 → ∀ b, b < 4 → a ≠ b → (F_Judge a).2.1 ≠ (F_Judge b).2.1 := by decide +kernel
theorem t_Judge_ok : ∀ k, k < 4 → parseFieldDescriptor (F_Judge k).2.2.1 = some (t_Judge k) := by decide +kernel
theorem df_Judge : ∀ j, j < 4 → defaultValue (t_Judge j) = vp_V [.null, .null, .null, .null] j := by decide +kernel
def F_Machine : u_T := fun k => match k with
  | 0 => ("ChainLedger$Machine", "sha", "LChainLedger$Sha;", true)
  | 1 => ("ChainLedger$Machine", "stack", "[[B", true)
  | 2 => ("ChainLedger$Machine", "sizes", "[I", true)
  | 3 => ("ChainLedger$Machine", "depth", "I", false)
  | 4 => ("ChainLedger$Machine", "branches", "[Z", true)
  | 5 => ("ChainLedger$Machine", "open", "I", false)
  | 6 => ("ChainLedger$Machine", "passing", "I", false)
  | 7 => ("ChainLedger$Machine", "message", "[B", true)
  | 8 => ("ChainLedger$Machine", "digest", "[B", true)
  | 9 => ("ChainLedger$Machine", "signHash", "[B", false)
  | _ => ("ChainLedger$Machine", "height", "I", false)
def t_Machine : Nat → FieldType := fun k => match k with
  | 0 => .object "ChainLedger$Sha"
  | 1 => .array (.array (.byte))
  | 2 => .array (.int)
  | 3 => .int
  | 4 => .array (.boolean)
  | 5 => .int
  | 6 => .int
  | 7 => .array (.byte)
  | 8 => .array (.byte)
  | 9 => .array (.byte)
  | _ => .int
theorem n_Machine : ∀ a, a < 11 → ∀ b, b < 11 → a ≠ b → (F_Machine a).2.1 ≠ (F_Machine b).2.1 := by decide +kernel
theorem t_Machine_ok : ∀ k, k < 11 → parseFieldDescriptor (F_Machine k).2.2.1 = some (t_Machine k) := by decide +kernel
theorem df_Machine : ∀ j, j < 11 → defaultValue (t_Machine j) = vp_V [.null, .null, .null, .int 0, .null, .int 0, .int 0, .null, .null, .null, .int 0] j := by decide +kernel
def F_Chain : u_T := fun k => match k with
  | 0 => ("ChainLedger$Chain", "sha", "LChainLedger$Sha;", true)
  | 1 => ("ChainLedger$Chain", "judge", "LChainLedger$Judge;", true)
  | 2 => ("ChainLedger$Chain", "coins", "LChainLedger$Coins;", true)
  | 3 => ("ChainLedger$Chain", "blocks", "[LChainLedger$Block;", true)
  | 4 => ("ChainLedger$Chain", "storedCount", "I", false)
  | 5 => ("ChainLedger$Chain", "storedBytes", "I", false)
  | 6 => ("ChainLedger$Chain", "held", "Ljava/util/ArrayList;", true)
  | 7 => ("ChainLedger$Chain", "tip", "LChainLedger$Block;", false)
  | 8 => ("ChainLedger$Chain", "ids", "[B", true)
  | 9 => ("ChainLedger$Chain", "left", "[LChainLedger$Block;", true)
  | 10 => ("ChainLedger$Chain", "leftCount", "I", false)
  | 11 => ("ChainLedger$Chain", "path", "[LChainLedger$Block;", true)
  | 12 => ("ChainLedger$Chain", "pathCount", "I", false)
  | 13 => ("ChainLedger$Chain", "times", "[I", true)
  | 14 => ("ChainLedger$Chain", "arrivals", "I", false)
  | 15 => ("ChainLedger$Chain", "settled", "I", false)
  | _ => ("ChainLedger$Chain", "spare", "LChainLedger$Block;", false)
def t_Chain : Nat → FieldType := fun k => match k with
  | 0 => .object "ChainLedger$Sha"
  | 1 => .object "ChainLedger$Judge"
  | 2 => .object "ChainLedger$Coins"
  | 3 => .array (.object "ChainLedger$Block")
  | 4 => .int
  | 5 => .int
  | 6 => .object "java/util/ArrayList"
  | 7 => .object "ChainLedger$Block"
  | 8 => .array (.byte)
  | 9 => .array (.object "ChainLedger$Block")
  | 10 => .int
  | 11 => .array (.object "ChainLedger$Block")
  | 12 => .int
  | 13 => .array (.int)
  | 14 => .int
  | 15 => .int
  | _ => .object "ChainLedger$Block"
theorem n_Chain : ∀ a, a < 17 → ∀ b, b < 17 → a ≠ b → (F_Chain a).2.1 ≠ (F_Chain b).2.1 := by decide +kernel
theorem t_Chain_ok : ∀ k, k < 17 → parseFieldDescriptor (F_Chain k).2.2.1 = some (t_Chain k) := by decide +kernel
theorem df_Chain : ∀ j, j < 17 → defaultValue (t_Chain j) = vp_V [.null, .null, .null, .null, .int 0, .int 0, .null, .null, .null, .null, .int 0, .null, .int 0, .null, .int 0, .int 0, .null] j := by decide +kernel
def F_Block : u_T := fun k => match k with
  | 0 => ("ChainLedger$Block", "bytes", "[B", false)
  | 1 => ("ChainLedger$Block", "size", "I", false)
  | 2 => ("ChainLedger$Block", "id", "[B", true)
  | 3 => ("ChainLedger$Block", "time", "I", false)
  | 4 => ("ChainLedger$Block", "target", "I", false)
  | 5 => ("ChainLedger$Block", "paymentCount", "I", false)
  | 6 => ("ChainLedger$Block", "payments", "[LChainLedger$Payment;", true)
  | 7 => ("ChainLedger$Block", "arrival", "I", false)
  | 8 => ("ChainLedger$Block", "parent", "LChainLedger$Block;", false)
  | 9 => ("ChainLedger$Block", "number", "I", false)
  | 10 => ("ChainLedger$Block", "height", "I", false)
  | 11 => ("ChainLedger$Block", "work", "J", false)
  | 12 => ("ChainLedger$Block", "sound", "Z", false)
  | 13 => ("ChainLedger$Block", "unsound", "Z", false)
  | 14 => ("ChainLedger$Block", "onChain", "Z", false)
  | 15 => ("ChainLedger$Block", "applied", "I", false)
  | _ => ("ChainLedger$Block", "spent", "Ljava/util/ArrayList;", true)
def t_Block : Nat → FieldType := fun k => match k with
  | 0 => .array (.byte)
  | 1 => .int
  | 2 => .array (.byte)
  | 3 => .int
  | 4 => .int
  | 5 => .int
  | 6 => .array (.object "ChainLedger$Payment")
  | 7 => .int
  | 8 => .object "ChainLedger$Block"
  | 9 => .int
  | 10 => .int
  | 11 => .long
  | 12 => .boolean
  | 13 => .boolean
  | 14 => .boolean
  | 15 => .int
  | _ => .object "java/util/ArrayList"
theorem n_Block : ∀ a, a < 17 → ∀ b, b < 17 → a ≠ b → (F_Block a).2.1 ≠ (F_Block b).2.1 := by decide +kernel
theorem t_Block_ok : ∀ k, k < 17 → parseFieldDescriptor (F_Block k).2.2.1 = some (t_Block k) := by decide +kernel
theorem df_Block : ∀ j, j < 17 → defaultValue (t_Block j) = vp_V [.null, .int 0, .null, .int 0, .int 0, .int 0, .null, .int 0, .null, .int 0, .int 0, .long 0, .int 0, .int 0, .int 0, .int 0, .null] j := by decide +kernel
def F_Payment : u_T := fun k => match k with
  | 0 => ("ChainLedger$Payment", "bytes", "[B", false)
  | 1 => ("ChainLedger$Payment", "start", "I", false)
  | 2 => ("ChainLedger$Payment", "size", "I", false)
  | 3 => ("ChainLedger$Payment", "lock", "I", false)
  | 4 => ("ChainLedger$Payment", "inputs", "I", false)
  | 5 => ("ChainLedger$Payment", "outputs", "I", false)
  | 6 => ("ChainLedger$Payment", "outputsAt", "I", false)
  | 7 => ("ChainLedger$Payment", "inputAt", "[I", true)
  | 8 => ("ChainLedger$Payment", "outputAt", "[I", true)
  | 9 => ("ChainLedger$Payment", "id", "[B", true)
  | 10 => ("ChainLedger$Payment", "signHash", "[B", true)
  | 11 => ("ChainLedger$Payment", "knowsSignHash", "Z", false)
  | 12 => ("ChainLedger$Payment", "fee", "I", false)
  | 13 => ("ChainLedger$Payment", "height", "I", false)
  | 14 => ("ChainLedger$Payment", "first", "Z", false)
  | _ => ("ChainLedger$Payment", "coins", "[LChainLedger$Coin;", false)
def t_Payment : Nat → FieldType := fun k => match k with
  | 0 => .array (.byte)
  | 1 => .int
  | 2 => .int
  | 3 => .int
  | 4 => .int
  | 5 => .int
  | 6 => .int
  | 7 => .array (.int)
  | 8 => .array (.int)
  | 9 => .array (.byte)
  | 10 => .array (.byte)
  | 11 => .boolean
  | 12 => .int
  | 13 => .int
  | 14 => .boolean
  | _ => .array (.object "ChainLedger$Coin")
theorem n_Payment : ∀ a, a < 16 → ∀ b, b < 16 → a ≠ b → (F_Payment a).2.1 ≠ (F_Payment b).2.1 := by decide +kernel
theorem t_Payment_ok : ∀ k, k < 16 → parseFieldDescriptor (F_Payment k).2.2.1 = some (t_Payment k) := by decide +kernel
theorem df_Payment : ∀ j, j < 16 → defaultValue (t_Payment j) = vp_V [.null, .int 0, .int 0, .int 0, .int 0, .int 0, .int 0, .null, .null, .null, .null, .int 0, .int 0, .int 0, .int 0, .null] j := by decide +kernel
def F_Coins : u_T := fun k => match k with
  | _ => ("ChainLedger$Coins", "list", "Ljava/util/ArrayList;", true)
def t_Coins : Nat → FieldType := fun k => match k with
  | _ => .object "java/util/ArrayList"
theorem n_Coins : ∀ a, a < 1 → ∀ b, b < 1 → a ≠ b → (F_Coins a).2.1 ≠ (F_Coins b).2.1 := by decide +kernel
theorem t_Coins_ok : ∀ k, k < 1 → parseFieldDescriptor (F_Coins k).2.2.1 = some (t_Coins k) := by decide +kernel
theorem df_Coins : ∀ j, j < 1 → defaultValue (t_Coins j) = vp_V [.null] j := by decide +kernel
def F_Pool : u_T := fun k => match k with
  | 0 => ("ChainLedger$Pool", "sha", "LChainLedger$Sha;", true)
  | 1 => ("ChainLedger$Pool", "judge", "LChainLedger$Judge;", true)
  | 2 => ("ChainLedger$Pool", "chain", "LChainLedger$Chain;", true)
  | 3 => ("ChainLedger$Pool", "members", "Ljava/util/ArrayList;", false)
  | 4 => ("ChainLedger$Pool", "former", "Ljava/util/ArrayList;", false)
  | 5 => ("ChainLedger$Pool", "base", "LChainLedger$Block;", false)
  | _ => ("ChainLedger$Pool", "spare", "LChainLedger$Payment;", false)
def t_Pool : Nat → FieldType := fun k => match k with
  | 0 => .object "ChainLedger$Sha"
  | 1 => .object "ChainLedger$Judge"
  | 2 => .object "ChainLedger$Chain"
  | 3 => .object "java/util/ArrayList"
  | 4 => .object "java/util/ArrayList"
  | 5 => .object "ChainLedger$Block"
  | _ => .object "ChainLedger$Payment"
theorem n_Pool : ∀ a, a < 7 → ∀ b, b < 7 → a ≠ b → (F_Pool a).2.1 ≠ (F_Pool b).2.1 := by decide +kernel
theorem t_Pool_ok : ∀ k, k < 7 → parseFieldDescriptor (F_Pool k).2.2.1 = some (t_Pool k) := by decide +kernel
theorem df_Pool : ∀ j, j < 7 → defaultValue (t_Pool j) = vp_V [.null, .null, .null, .null, .null, .null, .null] j := by decide +kernel
def F_AL : u_T := fun k => match k with
  | 0 => ("java/util/AbstractList", "modCount", "I", false)
  | 1 => ("java/util/ArrayList", "elementData", "[Ljava/lang/Object;", false)
  | _ => ("java/util/ArrayList", "size", "I", false)
def t_AL : Nat → FieldType := fun k => match k with
  | 0 => .int
  | 1 => .array (.object "java/lang/Object")
  | _ => .int
theorem n_AL : ∀ a, a < 3 → ∀ b, b < 3 → a ≠ b → (F_AL a).2.1 ≠ (F_AL b).2.1 := by decide +kernel
theorem t_AL_ok : ∀ k, k < 3 → parseFieldDescriptor (F_AL k).2.2.1 = some (t_AL k) := by decide +kernel
theorem df_AL : ∀ j, j < 3 → defaultValue (t_AL j) = vp_V [.int 0, .null, .int 0] j := by decide +kernel
def F_Mo : u_T := fun k => match k with
  | 0 => ("ChainLedgerModel", "mem", "[B", true)
  | 1 => ("ChainLedgerModel", "tapeLength", "I", false)
  | 2 => ("ChainLedgerModel", "outLength", "I", false)
  | 3 => ("ChainLedgerModel", "outKind", "I", false)
  | 4 => ("ChainLedgerModel", "at", "[I", true)
  | 5 => ("ChainLedgerModel", "length", "[I", true)
  | 6 => ("ChainLedgerModel", "parent", "[I", true)
  | 7 => ("ChainLedgerModel", "height", "[I", true)
  | 8 => ("ChainLedgerModel", "time", "[I", true)
  | 9 => ("ChainLedgerModel", "target", "[I", true)
  | 10 => ("ChainLedgerModel", "work", "[J", true)
  | 11 => ("ChainLedgerModel", "arrival", "[I", true)
  | 12 => ("ChainLedgerModel", "sound", "[Z", true)
  | 13 => ("ChainLedgerModel", "firstTx", "[I", true)
  | 14 => ("ChainLedgerModel", "txs", "[I", true)
  | 15 => ("ChainLedgerModel", "blockId", "[B", true)
  | 16 => ("ChainLedgerModel", "blocks", "I", false)
  | 17 => ("ChainLedgerModel", "used", "I", false)
  | 18 => ("ChainLedgerModel", "txCount", "I", false)
  | 19 => ("ChainLedgerModel", "tip", "I", false)
  | 20 => ("ChainLedgerModel", "calls", "I", false)
  | 21 => ("ChainLedgerModel", "heldLength", "[I", true)
  | 22 => ("ChainLedgerModel", "heldArrival", "[I", true)
  | 23 => ("ChainLedgerModel", "heldId", "[B", true)
  | 24 => ("ChainLedgerModel", "held", "I", false)
  | 25 => ("ChainLedgerModel", "ids", "[B", true)
  | 26 => ("ChainLedgerModel", "poolLength", "[I", true)
  | 27 => ("ChainLedgerModel", "poolFee", "[I", true)
  | 28 => ("ChainLedgerModel", "pool", "I", false)
  | 29 => ("ChainLedgerModel", "lock", "I", false)
  | 30 => ("ChainLedgerModel", "ins", "I", false)
  | 31 => ("ChainLedgerModel", "inId", "[I", true)
  | 32 => ("ChainLedgerModel", "inIndex", "[I", true)
  | 33 => ("ChainLedgerModel", "keyAt", "[I", true)
  | 34 => ("ChainLedgerModel", "keyLength", "[I", true)
  | 35 => ("ChainLedgerModel", "outs", "I", false)
  | 36 => ("ChainLedgerModel", "outValue", "[I", true)
  | 37 => ("ChainLedgerModel", "lockAt", "[I", true)
  | 38 => ("ChainLedgerModel", "lockLength", "[I", true)
  | 39 => ("ChainLedgerModel", "w", "[I", true)
  | 40 => ("ChainLedgerModel", "h", "[I", true)
  | 41 => ("ChainLedgerModel", "once", "[B", true)
  | 42 => ("ChainLedgerModel", "digest", "[B", true)
  | 43 => ("ChainLedgerModel", "signHash", "[B", true)
  | 44 => ("ChainLedgerModel", "buffer", "[B", true)
  | 45 => ("ChainLedgerModel", "merkle", "[B", true)
  | 46 => ("ChainLedgerModel", "stack", "[B", true)
  | 47 => ("ChainLedgerModel", "sizes", "[I", true)
  | 48 => ("ChainLedgerModel", "depth", "I", false)
  | 49 => ("ChainLedgerModel", "branch", "[Z", true)
  | 50 => ("ChainLedgerModel", "tipCoins", "LChainLedgerModel$Coins;", true)
  | 51 => ("ChainLedgerModel", "poolCoins", "LChainLedgerModel$Coins;", true)
  | 52 => ("ChainLedgerModel", "workCoins", "LChainLedgerModel$Coins;", true)
  | 53 => ("ChainLedgerModel", "path", "[I", true)
  | 54 => ("ChainLedgerModel", "order", "[I", true)
  | _ => ("ChainLedgerModel", "spent", "[I", true)
def t_Mo : Nat → FieldType := fun k => match k with
  | 0 => .array (.byte)
  | 1 => .int
  | 2 => .int
  | 3 => .int
  | 4 => .array (.int)
  | 5 => .array (.int)
  | 6 => .array (.int)
  | 7 => .array (.int)
  | 8 => .array (.int)
  | 9 => .array (.int)
  | 10 => .array (.long)
  | 11 => .array (.int)
  | 12 => .array (.boolean)
  | 13 => .array (.int)
  | 14 => .array (.int)
  | 15 => .array (.byte)
  | 16 => .int
  | 17 => .int
  | 18 => .int
  | 19 => .int
  | 20 => .int
  | 21 => .array (.int)
  | 22 => .array (.int)
  | 23 => .array (.byte)
  | 24 => .int
  | 25 => .array (.byte)
  | 26 => .array (.int)
  | 27 => .array (.int)
  | 28 => .int
  | 29 => .int
  | 30 => .int
  | 31 => .array (.int)
  | 32 => .array (.int)
  | 33 => .array (.int)
  | 34 => .array (.int)
  | 35 => .int
  | 36 => .array (.int)
  | 37 => .array (.int)
  | 38 => .array (.int)
  | 39 => .array (.int)
  | 40 => .array (.int)
  | 41 => .array (.byte)
  | 42 => .array (.byte)
  | 43 => .array (.byte)
  | 44 => .array (.byte)
  | 45 => .array (.byte)
  | 46 => .array (.byte)
  | 47 => .array (.int)
  | 48 => .int
  | 49 => .array (.boolean)
  | 50 => .object "ChainLedgerModel$Coins"
  | 51 => .object "ChainLedgerModel$Coins"
  | 52 => .object "ChainLedgerModel$Coins"
  | 53 => .array (.int)
  | 54 => .array (.int)
  | _ => .array (.int)
theorem n_Mo : ∀ a, a < 56 → ∀ b, b < 56 → a ≠ b → (F_Mo a).2.1 ≠ (F_Mo b).2.1 := by decide +kernel
theorem t_Mo_ok : ∀ k, k < 56 → parseFieldDescriptor (F_Mo k).2.2.1 = some (t_Mo k) := by decide +kernel
theorem df_Mo : ∀ j, j < 56 → defaultValue (t_Mo j) = vp_V (.null :: .int 0 :: .int 0 :: .int 0 :: .null :: .null :: .null :: .null :: .null :: .null :: .null :: .null :: .null :: .null :: .null :: .null :: .int 0 :: .int 0 :: .int 0 :: .int 0 :: .int 0 :: .null :: .null :: .null :: .int 0 :: .null :: .null :: .null :: .int 0 :: .int 0 :: .int 0 :: .null :: .null :: .null :: .null :: .int 0 :: .null :: .null :: .null :: .null :: .null :: .null :: .null :: .null :: .null :: .null :: .null :: .null :: .int 0 :: .null :: .null :: .null :: .null :: .null :: .null :: .null :: []) j := by decide +kernel
def F_Mc : u_T := fun k => match k with
  | 0 => ("ChainLedgerModel$Coins", "id", "[I", true)
  | 1 => ("ChainLedgerModel$Coins", "index", "[I", true)
  | 2 => ("ChainLedgerModel$Coins", "value", "[I", true)
  | 3 => ("ChainLedgerModel$Coins", "script", "[I", true)
  | 4 => ("ChainLedgerModel$Coins", "scriptLength", "[I", true)
  | 5 => ("ChainLedgerModel$Coins", "height", "[I", true)
  | 6 => ("ChainLedgerModel$Coins", "first", "[Z", true)
  | _ => ("ChainLedgerModel$Coins", "count", "I", false)
def t_Mc : Nat → FieldType := fun k => match k with
  | 0 => .array (.int)
  | 1 => .array (.int)
  | 2 => .array (.int)
  | 3 => .array (.int)
  | 4 => .array (.int)
  | 5 => .array (.int)
  | 6 => .array (.boolean)
  | _ => .int
theorem n_Mc : ∀ a, a < 8 → ∀ b, b < 8 → a ≠ b → (F_Mc a).2.1 ≠ (F_Mc b).2.1 := by decide +kernel
theorem t_Mc_ok : ∀ k, k < 8 → parseFieldDescriptor (F_Mc k).2.2.1 = some (t_Mc k) := by decide +kernel
theorem df_Mc : ∀ j, j < 8 → defaultValue (t_Mc j) = vp_V [.null, .null, .null, .null, .null, .null, .null, .int 0] j := by decide +kernel
abbrev cl_all : List vw_C := [(R_CL, F_CL, 10), (R_Row, F_Row, 2), (R_Sha, F_Sha, 2), (R_Judge, F_Judge, 4), (R_Machine, F_Machine, 11), (R_Chain, F_Chain, 17), (R_Block, F_Block, 17), (R_Payment, F_Payment, 16), (R_Coins, F_Coins, 1), (R_Pool, F_Pool, 7), (R_AL, F_AL, 3), (R_Mo, F_Mo, 56), (R_Mc, F_Mc, 8)]
/-- the words that a contract may carry -/
def lw_all : List Cond := lw_tbl.filter goodWord
theorem lw_in {w : Cond} (h : w ∈ lw_tbl) (hg : goodWord w = true) : w ∈ lw_all := List.mem_filter.mpr ⟨h, hg⟩
theorem lw_t {w : Cond} (i : Nat) (h : tables_1[i]? = some w) (hg : goodWord w = true) : w ∈ lw_all := lw_in (List.mem_append_right _ (List.mem_of_getElem? h)) hg
theorem lw_u1 {w : Cond} (i : Nat) (h : tables_1_1[i]? = some w) (hg : goodWord w = true) : w ∈ lw_all := lw_in (List.mem_append_right _ (List.mem_append_left _ (List.mem_of_getElem? h) : w ∈ tables_1)) hg
theorem lw_u2 {w : Cond} (i : Nat) (h : tables_1_2[i]? = some w) (hg : goodWord w = true) : w ∈ lw_all := lw_in (List.mem_append_right _ (List.mem_append_right _ (List.mem_append_left _ (List.mem_of_getElem? h)) : w ∈ tables_1)) hg
theorem lw_u3 {w : Cond} (i : Nat) (h : tables_1_3[i]? = some w) (hg : goodWord w = true) : w ∈ lw_all := lw_in (List.mem_append_right _ (List.mem_append_right _ (List.mem_append_right _ (List.mem_append_left _ (List.mem_of_getElem? h))) : w ∈ tables_1)) hg
theorem lw_u4 {w : Cond} (i : Nat) (h : tables_1_4[i]? = some w) (hg : goodWord w = true) : w ∈ lw_all := lw_in (List.mem_append_right _ (List.mem_append_right _ (List.mem_append_right _ (List.mem_append_right _ (List.mem_append_left _ (List.mem_of_getElem? h)))) : w ∈ tables_1)) hg
theorem lw_u5 {w : Cond} (i : Nat) (h : tables_1_5[i]? = some w) (hg : goodWord w = true) : w ∈ lw_all := lw_in (List.mem_append_right _ (List.mem_append_right _ (List.mem_append_right _ (List.mem_append_right _ (List.mem_append_right _ (List.mem_append_left _ (List.mem_of_getElem? h))))) : w ∈ tables_1)) hg
theorem lw_u6 {w : Cond} (i : Nat) (h : tables_1_6[i]? = some w) (hg : goodWord w = true) : w ∈ lw_all := lw_in (List.mem_append_right _ (List.mem_append_right _ (List.mem_append_right _ (List.mem_append_right _ (List.mem_append_right _ (List.mem_append_right _ (List.mem_append_left _ (List.mem_of_getElem? h)))))) : w ∈ tables_1)) hg
theorem lw_u7 {w : Cond} (i : Nat) (h : tables_1_7[i]? = some w) (hg : goodWord w = true) : w ∈ lw_all := lw_in (List.mem_append_right _ (List.mem_append_right _ (List.mem_append_right _ (List.mem_append_right _ (List.mem_append_right _ (List.mem_append_right _ (List.mem_append_right _ (List.mem_of_getElem? h)))))) : w ∈ tables_1)) hg
theorem lw_s {w : Cond} (i : Nat) (h : (k2_sels lw_privs)[i]? = some w) (hg : goodWord w = true) : w ∈ lw_all := lw_in (List.mem_append_left _ (List.mem_of_getElem? h)) hg
theorem lw_g {c : Cond} (hc : c ∈ lw_all) : GoodIn lw_all (c :: lw_all) := fun w h => (List.mem_cons.mp h).elim (fun e => by rw [e]; exact ⟨hc, good_of_word (List.mem_filter.mp hc).2⟩) (fun h => ⟨h, good_of_word (List.mem_filter.mp h).2⟩)
theorem i_CL : ∀ w ∈ u_ws R_CL F_CL 10, w ∈ lw_all := fun w h => lw_in (List.mem_append_right _ ((by decide +kernel : ∀ v ∈ u_ws R_CL F_CL 10, v ∈ [465, 467, 469, 471, 473, 475, 477, 479, 481, 483].filterMap (fun i => tables_1[i]?)) w h |> fun h => by obtain ⟨i, -, hi⟩ := List.mem_filterMap.mp h; exact List.mem_of_getElem? hi)) ((by decide +kernel : ∀ v ∈ u_ws R_CL F_CL 10, goodWord v = true) w h)
theorem i_Row : ∀ w ∈ u_ws R_Row F_Row 2, w ∈ lw_all := fun w h => lw_in (List.mem_append_right _ ((by decide +kernel : ∀ v ∈ u_ws R_Row F_Row 2, v ∈ [44, 46].filterMap (fun i => tables_1[i]?)) w h |> fun h => by obtain ⟨i, -, hi⟩ := List.mem_filterMap.mp h; exact List.mem_of_getElem? hi)) ((by decide +kernel : ∀ v ∈ u_ws R_Row F_Row 2, goodWord v = true) w h)
theorem i_Sha : ∀ w ∈ u_ws R_Sha F_Sha 2, w ∈ lw_all := fun w h => lw_in (List.mem_append_right _ ((by decide +kernel : ∀ v ∈ u_ws R_Sha F_Sha 2, v ∈ [58, 60].filterMap (fun i => tables_1[i]?)) w h |> fun h => by obtain ⟨i, -, hi⟩ := List.mem_filterMap.mp h; exact List.mem_of_getElem? hi)) ((by decide +kernel : ∀ v ∈ u_ws R_Sha F_Sha 2, goodWord v = true) w h)
theorem i_Judge : ∀ w ∈ u_ws R_Judge F_Judge 4, w ∈ lw_all := fun w h => lw_in (List.mem_append_right _ ((by decide +kernel : ∀ v ∈ u_ws R_Judge F_Judge 4, v ∈ [122, 124, 126, 128].filterMap (fun i => tables_1[i]?)) w h |> fun h => by obtain ⟨i, -, hi⟩ := List.mem_filterMap.mp h; exact List.mem_of_getElem? hi)) ((by decide +kernel : ∀ v ∈ u_ws R_Judge F_Judge 4, goodWord v = true) w h)
theorem i_Machine : ∀ w ∈ u_ws R_Machine F_Machine 11, w ∈ lw_all := fun w h => lw_in (List.mem_append_right _ ((by decide +kernel : ∀ v ∈ u_ws R_Machine F_Machine 11, v ∈ [93, 95, 97, 99, 101, 103, 105, 107, 109, 111, 113].filterMap (fun i => tables_1[i]?)) w h |> fun h => by obtain ⟨i, -, hi⟩ := List.mem_filterMap.mp h; exact List.mem_of_getElem? hi)) ((by decide +kernel : ∀ v ∈ u_ws R_Machine F_Machine 11, goodWord v = true) w h)
theorem i_Chain : ∀ w ∈ u_ws R_Chain F_Chain 17, w ∈ lw_all := fun w h => lw_in (List.mem_append_right _ ((by decide +kernel : ∀ v ∈ u_ws R_Chain F_Chain 17, v ∈ [292, 294, 296, 298, 300, 302, 304, 306, 308, 310, 312, 314, 316, 318, 320, 322, 324].filterMap (fun i => tables_1[i]?)) w h |> fun h => by obtain ⟨i, -, hi⟩ := List.mem_filterMap.mp h; exact List.mem_of_getElem? hi)) ((by decide +kernel : ∀ v ∈ u_ws R_Chain F_Chain 17, goodWord v = true) w h)
theorem i_Block : ∀ w ∈ u_ws R_Block F_Block 17, w ∈ lw_all := fun w h => lw_in (List.mem_append_right _ ((by decide +kernel : ∀ v ∈ u_ws R_Block F_Block 17, v ∈ [229, 231, 233, 235, 237, 239, 241, 243, 245, 247, 249, 251, 253, 255, 257, 259, 261].filterMap (fun i => tables_1[i]?)) w h |> fun h => by obtain ⟨i, -, hi⟩ := List.mem_filterMap.mp h; exact List.mem_of_getElem? hi)) ((by decide +kernel : ∀ v ∈ u_ws R_Block F_Block 17, goodWord v = true) w h)
theorem i_Payment : ∀ w ∈ u_ws R_Payment F_Payment 16, w ∈ lw_all := fun w h => lw_in (List.mem_append_right _ ((by decide +kernel : ∀ v ∈ u_ws R_Payment F_Payment 16, v ∈ [422, 424, 426, 428, 430, 432, 434, 436, 438, 440, 442, 444, 446, 448, 450, 452].filterMap (fun i => tables_1[i]?)) w h |> fun h => by obtain ⟨i, -, hi⟩ := List.mem_filterMap.mp h; exact List.mem_of_getElem? hi)) ((by decide +kernel : ∀ v ∈ u_ws R_Payment F_Payment 16, goodWord v = true) w h)
theorem i_Coins : ∀ w ∈ u_ws R_Coins F_Coins 1, w ∈ lw_all := fun w h => lw_in (List.mem_append_right _ ((by decide +kernel : ∀ v ∈ u_ws R_Coins F_Coins 1, v ∈ [174].filterMap (fun i => tables_1[i]?)) w h |> fun h => by obtain ⟨i, -, hi⟩ := List.mem_filterMap.mp h; exact List.mem_of_getElem? hi)) ((by decide +kernel : ∀ v ∈ u_ws R_Coins F_Coins 1, goodWord v = true) w h)
theorem i_Pool : ∀ w ∈ u_ws R_Pool F_Pool 7, w ∈ lw_all := fun w h => lw_in (List.mem_append_right _ ((by decide +kernel : ∀ v ∈ u_ws R_Pool F_Pool 7, v ∈ [343, 345, 347, 349, 351, 353, 355].filterMap (fun i => tables_1[i]?)) w h |> fun h => by obtain ⟨i, -, hi⟩ := List.mem_filterMap.mp h; exact List.mem_of_getElem? hi)) ((by decide +kernel : ∀ v ∈ u_ws R_Pool F_Pool 7, goodWord v = true) w h)
theorem i_AL : ∀ w ∈ u_ws R_AL F_AL 3, w ∈ lw_all := fun w h => lw_in (List.mem_append_right _ ((by decide +kernel : ∀ v ∈ u_ws R_AL F_AL 3, v ∈ [169, 165, 167].filterMap (fun i => tables_1[i]?)) w h |> fun h => by obtain ⟨i, -, hi⟩ := List.mem_filterMap.mp h; exact List.mem_of_getElem? hi)) ((by decide +kernel : ∀ v ∈ u_ws R_AL F_AL 3, goodWord v = true) w h)
theorem i_Mo : ∀ w ∈ u_ws R_Mo F_Mo 56, w ∈ lw_all := fun w h => lw_in (List.mem_append_right _ ((by decide +kernel : ∀ v ∈ u_ws R_Mo F_Mo 56, v ∈ [1227, 1229, 1231, 1233, 1235, 1237, 1239, 1241, 1243, 1245, 1247, 1249, 1251, 1253, 1255, 1257, 1259, 1261, 1263, 1265, 1267, 1269, 1271, 1273, 1275, 1277, 1279, 1281, 1283, 1285, 1287, 1289, 1291, 1293, 1295, 1297, 1299, 1301, 1303, 1305, 1307, 1309, 1311, 1313, 1315, 1317, 1319, 1321, 1323, 1325, 1327, 1329, 1331, 1333, 1335, 1337].filterMap (fun i => tables_1[i]?)) w h |> fun h => by obtain ⟨i, -, hi⟩ := List.mem_filterMap.mp h; exact List.mem_of_getElem? hi)) ((by decide +kernel : ∀ v ∈ u_ws R_Mo F_Mo 56, goodWord v = true) w h)
theorem i_Mc : ∀ w ∈ u_ws R_Mc F_Mc 8, w ∈ lw_all := fun w h => lw_in (List.mem_append_right _ ((by decide +kernel : ∀ v ∈ u_ws R_Mc F_Mc 8, v ∈ [1152, 1154, 1156, 1158, 1160, 1162, 1164, 1166].filterMap (fun i => tables_1[i]?)) w h |> fun h => by obtain ⟨i, -, hi⟩ := List.mem_filterMap.mp h; exact List.mem_of_getElem? hi)) ((by decide +kernel : ∀ v ∈ u_ws R_Mc F_Mc 8, goodWord v = true) w h)
