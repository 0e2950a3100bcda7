def RAu : String := "TapeSealer$Authenticator"
def FAu : u_T := fun k => match k with
  | 0 => ("TapeSealer$Authenticator", "tag", "[I", true)
  | 1 => ("TapeSealer$Authenticator", "addend", "[I", true)
  | 2 => ("TapeSealer$Authenticator", "sum", "[J", true)
  | 3 => ("TapeSealer$Authenticator", "factor", "[J", true)
  | _ => ("TapeSealer$Authenticator", "other", "[J", true)
def tAu : Nat → FieldType := fun k => match k with
  | 0 => .array .int
  | 1 => .array .int
  | 2 => .array .long
  | 3 => .array .long
  | _ => .array .long
theorem nAu : ∀ a, a < 5 → ∀ b, b < 5 → a ≠ b → (FAu a).2.1 ≠ (FAu b).2.1 := by decide +kernel
theorem tAu_ok : ∀ k, k < 5 → parseFieldDescriptor (FAu k).2.2.1 = some (tAu k) := by decide +kernel
set_option maxRecDepth 100000 in
theorem in_Au : ∀ w ∈ u_ws RAu FAu 5, w ∈ gx_B := gx_u [187, 189, 191, 193, 195] (by decide +kernel) (by decide +kernel)
def RCa : String := "TapeSealer$Cartridge"
def FCa : u_T := fun k => match k with
  | 0 => ("TapeSealer$Cartridge", "rows", "[[I", true)
  | 1 => ("TapeSealer$Cartridge", "spoiled", "[Z", true)
  | 2 => ("TapeSealer$Cartridge", "writesDone", "I", false)
  | 3 => ("TapeSealer$Cartridge", "writesLeft", "I", false)
  | 4 => ("TapeSealer$Cartridge", "stopped", "Z", false)
  | _ => ("TapeSealer$Cartridge", "headersChanged", "Z", false)
def tCa : Nat → FieldType := fun k => match k with
  | 0 => .array (.array .int)
  | 1 => .array .boolean
  | 2 => .int
  | 3 => .int
  | 4 => .boolean
  | _ => .boolean
theorem nCa : ∀ a, a < 6 → ∀ b, b < 6 → a ≠ b → (FCa a).2.1 ≠ (FCa b).2.1 := by decide +kernel
theorem tCa_ok : ∀ k, k < 6 → parseFieldDescriptor (FCa k).2.2.1 = some (tCa k) := by decide +kernel
set_option maxRecDepth 100000 in
theorem in_Ca : ∀ w ∈ u_ws RCa FCa 6, w ∈ gx_B := gx_u [118, 120, 122, 124, 126, 128] (by decide +kernel) (by decide +kernel)
def RDr : String := "TapeSealer$Draft"
def FDr : u_T := fun k => match k with
  | 0 => ("TapeSealer$Draft", "bytes", "[I", true)
  | 1 => ("TapeSealer$Draft", "file", "I", false)
  | 2 => ("TapeSealer$Draft", "salt", "I", false)
  | _ => ("TapeSealer$Draft", "length", "I", false)
def tDr : Nat → FieldType := fun k => match k with
  | 0 => .array .int
  | 1 => .int
  | 2 => .int
  | _ => .int
theorem nDr : ∀ a, a < 4 → ∀ b, b < 4 → a ≠ b → (FDr a).2.1 ≠ (FDr b).2.1 := by decide +kernel
theorem tDr_ok : ∀ k, k < 4 → parseFieldDescriptor (FDr k).2.2.1 = some (tDr k) := by decide +kernel
set_option maxRecDepth 100000 in
theorem in_Dr : ∀ w ∈ u_ws RDr FDr 4, w ∈ gx_B := gx_u [298, 300, 302, 304] (by decide +kernel) (by decide +kernel)
def REp : String := "TapeSealer$Epochs"
def FEp : u_T := fun k => match k with
  | 0 => ("TapeSealer$Epochs", "keys", "[[I", true)
  | 1 => ("TapeSealer$Epochs", "dropped", "[Z", true)
  | _ => ("TapeSealer$Epochs", "present", "I", false)
def tEp : Nat → FieldType := fun k => match k with
  | 0 => .array (.array .int)
  | 1 => .array .boolean
  | _ => .int
theorem nEp : ∀ a, a < 3 → ∀ b, b < 3 → a ≠ b → (FEp a).2.1 ≠ (FEp b).2.1 := by decide +kernel
theorem tEp_ok : ∀ k, k < 3 → parseFieldDescriptor (FEp k).2.2.1 = some (tEp k) := by decide +kernel
set_option maxRecDepth 100000 in
theorem in_Ep : ∀ w ∈ u_ws REp FEp 3, w ∈ gx_B := gx_u [145, 147, 149] (by decide +kernel) (by decide +kernel)
def RKs : String := "TapeSealer$KeyStream"
def FKs : u_T := fun k => match k with
  | 0 => ("TapeSealer$KeyStream", "bytes", "[I", true)
  | 1 => ("TapeSealer$KeyStream", "start", "[I", true)
  | _ => ("TapeSealer$KeyStream", "mixed", "[I", true)
def tKs : Nat → FieldType := fun k => match k with
  | 0 => .array .int
  | 1 => .array .int
  | _ => .array .int
theorem nKs : ∀ a, a < 3 → ∀ b, b < 3 → a ≠ b → (FKs a).2.1 ≠ (FKs b).2.1 := by decide +kernel
theorem tKs_ok : ∀ k, k < 3 → parseFieldDescriptor (FKs k).2.2.1 = some (tKs k) := by decide +kernel
set_option maxRecDepth 100000 in
theorem in_Ks : ∀ w ∈ u_ws RKs FKs 3, w ∈ gx_B := gx_u [168, 170, 172] (by decide +kernel) (by decide +kernel)
def RLa : String := "TapeSealer$Label"
def FLa : u_T := fun k => match k with
  | 0 => ("TapeSealer$Label", "key", "[I", true)
  | 1 => ("TapeSealer$Label", "file", "I", false)
  | 2 => ("TapeSealer$Label", "good", "Z", false)
  | 3 => ("TapeSealer$Label", "epoch", "I", false)
  | 4 => ("TapeSealer$Label", "length", "I", false)
  | 5 => ("TapeSealer$Label", "first", "I", false)
  | 6 => ("TapeSealer$Label", "groups", "I", false)
  | _ => ("TapeSealer$Label", "salt", "I", false)
def tLa : Nat → FieldType := fun k => match k with
  | 0 => .array .int
  | 1 => .int
  | 2 => .boolean
  | 3 => .int
  | 4 => .int
  | 5 => .int
  | 6 => .int
  | _ => .int
theorem nLa : ∀ a, a < 8 → ∀ b, b < 8 → a ≠ b → (FLa a).2.1 ≠ (FLa b).2.1 := by decide +kernel
theorem tLa_ok : ∀ k, k < 8 → parseFieldDescriptor (FLa k).2.2.1 = some (tLa k) := by decide +kernel
set_option maxRecDepth 100000 in
theorem in_La : ∀ w ∈ u_ws RLa FLa 8, w ∈ gx_B := gx_u [269, 271, 273, 275, 277, 279, 281, 283] (by decide +kernel) (by decide +kernel)
def RSe : String := "TapeSealer$Sealing"
def FSe : u_T := fun k => match k with
  | 0 => ("TapeSealer$Sealing", "stream", "LTapeSealer$KeyStream;", true)
  | 1 => ("TapeSealer$Sealing", "check", "LTapeSealer$Authenticator;", true)
  | 2 => ("TapeSealer$Sealing", "nonce", "[I", true)
  | 3 => ("TapeSealer$Sealing", "saltRow", "[I", true)
  | _ => ("TapeSealer$Sealing", "lengths", "[I", true)
def tSe : Nat → FieldType := fun k => match k with
  | 0 => .object "TapeSealer$KeyStream"
  | 1 => .object "TapeSealer$Authenticator"
  | 2 => .array .int
  | 3 => .array .int
  | _ => .array .int
theorem nSe : ∀ a, a < 5 → ∀ b, b < 5 → a ≠ b → (FSe a).2.1 ≠ (FSe b).2.1 := by decide +kernel
theorem tSe_ok : ∀ k, k < 5 → parseFieldDescriptor (FSe k).2.2.1 = some (tSe k) := by decide +kernel
set_option maxRecDepth 100000 in
theorem in_Se : ∀ w ∈ u_ws RSe FSe 5, w ∈ gx_B := gx_u [204, 206, 208, 210, 212] (by decide +kernel) (by decide +kernel)
def RSt : String := "TapeSealer$Stripe"
def FSt : u_T := fun k => match k with
  | 0 => ("TapeSealer$Stripe", "rows", "[[I", true)
  | 1 => ("TapeSealer$Stripe", "bad", "[Z", true)
  | 2 => ("TapeSealer$Stripe", "tape", "LTapeSealer$Cartridge;", true)
  | 3 => ("TapeSealer$Stripe", "sealing", "LTapeSealer$Sealing;", true)
  | _ => ("TapeSealer$Stripe", "base", "I", false)
def tSt : Nat → FieldType := fun k => match k with
  | 0 => .array (.array .int)
  | 1 => .array .boolean
  | 2 => .object "TapeSealer$Cartridge"
  | 3 => .object "TapeSealer$Sealing"
  | _ => .int
theorem nSt : ∀ a, a < 5 → ∀ b, b < 5 → a ≠ b → (FSt a).2.1 ≠ (FSt b).2.1 := by decide +kernel
theorem tSt_ok : ∀ k, k < 5 → parseFieldDescriptor (FSt k).2.2.1 = some (tSt k) := by decide +kernel
set_option maxRecDepth 100000 in
theorem in_St : ∀ w ∈ u_ws RSt FSt 5, w ∈ gx_B := gx_u [229, 231, 233, 235, 237] (by decide +kernel) (by decide +kernel)
def RTS : String := "TapeSealer"
def FTS : u_T := fun k => match k with
  | 0 => ("TapeSealer", "tape", "LTapeSealer$Cartridge;", true)
  | 1 => ("TapeSealer", "epochs", "LTapeSealer$Epochs;", true)
  | 2 => ("TapeSealer", "sealing", "LTapeSealer$Sealing;", true)
  | 3 => ("TapeSealer", "stripe", "LTapeSealer$Stripe;", true)
  | 4 => ("TapeSealer", "labels", "[LTapeSealer$Label;", true)
  | 5 => ("TapeSealer", "fresh", "LTapeSealer$Label;", true)
  | 6 => ("TapeSealer", "headerRow", "[I", true)
  | 7 => ("TapeSealer", "zeroRow", "[I", true)
  | 8 => ("TapeSealer", "text", "[I", true)
  | 9 => ("TapeSealer", "draft", "LTapeSealer$Draft;", true)
  | 10 => ("TapeSealer", "buffer", "[I", true)
  | 11 => ("TapeSealer", "buffered", "I", false)
  | 12 => ("TapeSealer", "told", "[I", true)
  | 13 => ("TapeSealer", "gathered", "[I", true)
  | _ => ("TapeSealer", "toldLength", "I", false)
def tTS : Nat → FieldType := fun k => match k with
  | 0 => .object "TapeSealer$Cartridge"
  | 1 => .object "TapeSealer$Epochs"
  | 2 => .object "TapeSealer$Sealing"
  | 3 => .object "TapeSealer$Stripe"
  | 4 => .array (.object "TapeSealer$Label")
  | 5 => .object "TapeSealer$Label"
  | 6 => .array .int
  | 7 => .array .int
  | 8 => .array .int
  | 9 => .object "TapeSealer$Draft"
  | 10 => .array .int
  | 11 => .int
  | 12 => .array .int
  | 13 => .array .int
  | _ => .int
theorem nTS : ∀ a, a < 15 → ∀ b, b < 15 → a ≠ b → (FTS a).2.1 ≠ (FTS b).2.1 := by decide +kernel
theorem tTS_ok : ∀ k, k < 15 → parseFieldDescriptor (FTS k).2.2.1 = some (tTS k) := by decide +kernel
set_option maxRecDepth 100000 in
theorem in_TS : ∀ w ∈ u_ws RTS FTS 15, w ∈ gx_B := gx_u [322, 324, 326, 328, 330, 332, 334, 336, 338, 340, 342, 344, 346, 348, 350] (by decide +kernel) (by decide +kernel)
def RMo : String := "TapeSealerModel"
def FMo : u_T := fun k => match k with
  | 0 => ("TapeSealerModel", "code", "I", false)
  | 1 => ("TapeSealerModel", "bytes", "[I", true)
  | 2 => ("TapeSealerModel", "unread", "[Z", true)
  | 3 => ("TapeSealerModel", "buffer", "[I", true)
  | 4 => ("TapeSealerModel", "filled", "I", false)
  | 5 => ("TapeSealerModel", "epochs", "I", false)
  | 6 => ("TapeSealerModel", "epochKey", "[I", true)
  | 7 => ("TapeSealerModel", "dropped", "[Z", true)
  | 8 => ("TapeSealerModel", "begun", "Z", false)
  | 9 => ("TapeSealerModel", "number", "I", false)
  | 10 => ("TapeSealerModel", "salt", "I", false)
  | 11 => ("TapeSealerModel", "data", "[I", true)
  | 12 => ("TapeSealerModel", "length", "I", false)
  | 13 => ("TapeSealerModel", "stopped", "Z", false)
  | 14 => ("TapeSealerModel", "left", "I", false)
  | 15 => ("TapeSealerModel", "writes", "I", false)
  | 16 => ("TapeSealerModel", "output", "[I", true)
  | 17 => ("TapeSealerModel", "outputs", "I", false)
  | 18 => ("TapeSealerModel", "key", "[I", true)
  | 19 => ("TapeSealerModel", "nonce", "[I", true)
  | 20 => ("TapeSealerModel", "more", "[I", true)
  | 21 => ("TapeSealerModel", "moreLength", "I", false)
  | 22 => ("TapeSealerModel", "text", "[I", true)
  | 23 => ("TapeSealerModel", "textLength", "I", false)
  | 24 => ("TapeSealerModel", "tag", "[I", true)
  | 25 => ("TapeSealerModel", "word", "[I", true)
  | 26 => ("TapeSealerModel", "start", "[I", true)
  | 27 => ("TapeSealerModel", "stream", "[I", true)
  | 28 => ("TapeSealerModel", "mac", "[I", true)
  | 29 => ("TapeSealerModel", "macLength", "I", false)
  | 30 => ("TapeSealerModel", "\x72", "[I", true)
  | 31 => ("TapeSealerModel", "h", "[I", true)
  | 32 => ("TapeSealerModel", "x", "[I", true)
  | 33 => ("TapeSealerModel", "fileKey", "[I", true)
  | 34 => ("TapeSealerModel", "fileNumber", "I", false)
  | 35 => ("TapeSealerModel", "fileEpoch", "I", false)
  | 36 => ("TapeSealerModel", "fileLength", "I", false)
  | 37 => ("TapeSealerModel", "firstGroup", "I", false)
  | 38 => ("TapeSealerModel", "groupCount", "I", false)
  | 39 => ("TapeSealerModel", "fileSalt", "I", false)
  | 40 => ("TapeSealerModel", "fixed", "[I", true)
  | 41 => ("TapeSealerModel", "bad", "I", false)
  | 42 => ("TapeSealerModel", "parity", "[I", true)
  | 43 => ("TapeSealerModel", "made", "[I", true)
  | _ => ("TapeSealerModel", "nextOutput", "[I", true)
def tMo : Nat → FieldType := fun k => match k with
  | 0 => .int
  | 1 => .array .int
  | 2 => .array .boolean
  | 3 => .array .int
  | 4 => .int
  | 5 => .int
  | 6 => .array .int
  | 7 => .array .boolean
  | 8 => .boolean
  | 9 => .int
  | 10 => .int
  | 11 => .array .int
  | 12 => .int
  | 13 => .boolean
  | 14 => .int
  | 15 => .int
  | 16 => .array .int
  | 17 => .int
  | 18 => .array .int
  | 19 => .array .int
  | 20 => .array .int
  | 21 => .int
  | 22 => .array .int
  | 23 => .int
  | 24 => .array .int
  | 25 => .array .int
  | 26 => .array .int
  | 27 => .array .int
  | 28 => .array .int
  | 29 => .int
  | 30 => .array .int
  | 31 => .array .int
  | 32 => .array .int
  | 33 => .array .int
  | 34 => .int
  | 35 => .int
  | 36 => .int
  | 37 => .int
  | 38 => .int
  | 39 => .int
  | 40 => .array .int
  | 41 => .int
  | 42 => .array .int
  | 43 => .array .int
  | _ => .array .int
theorem nMo : ∀ a, a < 45 → ∀ b, b < 45 → a ≠ b → (FMo a).2.1 ≠ (FMo b).2.1 := by decide +kernel
theorem tMo_ok : ∀ k, k < 45 → parseFieldDescriptor (FMo k).2.2.1 = some (tMo k) := by decide +kernel
set_option maxRecDepth 100000 in
theorem in_Mo : ∀ w ∈ u_ws RMo FMo 45, w ∈ gx_B := gx_u [935, 937, 939, 941, 943, 945, 947, 949, 951, 953, 955, 957, 959, 961, 963, 965, 967, 969, 971, 973, 975, 977, 979, 981, 983, 985, 987, 989, 991, 993, 995, 997, 999, 1001, 1003, 1005, 1007, 1009, 1011, 1013, 1015, 1017, 1019, 1021, 1023] (by decide +kernel) (by decide +kernel)
abbrev gx_cl : List vw_C := [(RAu, FAu, 5), (RCa, FCa, 6), (RDr, FDr, 4), (REp, FEp, 3), (RKs, FKs, 3), (RLa, FLa, 8), (RSe, FSe, 5), (RSt, FSt, 5), (RTS, FTS, 15), (RMo, FMo, 45)]
