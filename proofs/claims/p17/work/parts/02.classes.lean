def cR_Mail : String := "MailHeads"
def cF_Mail : u_T := fun k => match k with
  | 0 => ("MailHeads", "ready", "[I", true)
  | 1 => ("MailHeads", "tape", "LMailHeads$Row;", true)
  | 2 => ("MailHeads", "head", "LMailHeads$Head;", true)
  | 3 => ("MailHeads", "words", "LMailHeads$Words;", true)
  | 4 => ("MailHeads", "lastAddresses", "LMailHeads$Addresses;", true)
  | 5 => ("MailHeads", "lastIdentities", "LMailHeads$Identities;", true)
  | 6 => ("MailHeads", "dateReader", "LMailHeads$DateReader;", true)
  | 7 => ("MailHeads", "lastType", "LMailHeads$ContentType;", true)
  | _ => ("MailHeads", "nothing", "LMailHeads$Texts;", true)
def cT_Mail : Nat → FieldType := fun k => match k with
  | 0 => .array (.int)
  | 1 => .object "MailHeads$Row"
  | 2 => .object "MailHeads$Head"
  | 3 => .object "MailHeads$Words"
  | 4 => .object "MailHeads$Addresses"
  | 5 => .object "MailHeads$Identities"
  | 6 => .object "MailHeads$DateReader"
  | 7 => .object "MailHeads$ContentType"
  | _ => .object "MailHeads$Texts"
theorem cN_Mail : ∀ a, a < 9 → ∀ b, b < 9 → a ≠ b → (cF_Mail a).2.1 ≠ (cF_Mail b).2.1 := by decide +kernel
theorem cP_Mail : ∀ k, k < 9 → parseFieldDescriptor (cF_Mail k).2.2.1 = some (cT_Mail k) := by decide +kernel
def cR_Row : String := "MailHeads$Row"
def cF_Row : u_T := fun k => match k with
  | 0 => ("MailHeads$Row", "cells", "[I", false)
  | _ => ("MailHeads$Row", "count", "I", false)
def cT_Row : Nat → FieldType := fun k => match k with
  | 0 => .array (.int)
  | _ => .int
theorem cN_Row : ∀ a, a < 2 → ∀ b, b < 2 → a ≠ b → (cF_Row a).2.1 ≠ (cF_Row b).2.1 := by decide +kernel
theorem cP_Row : ∀ k, k < 2 → parseFieldDescriptor (cF_Row k).2.2.1 = some (cT_Row k) := by decide +kernel
def cR_Head : String := "MailHeads$Head"
def cF_Head : u_T := fun k => match k with
  | 0 => ("MailHeads$Head", "texts", "LMailHeads$Texts;", true)
  | 1 => ("MailHeads$Head", "badLines", "I", false)
  | _ => ("MailHeads$Head", "valueOpen", "Z", false)
def cT_Head : Nat → FieldType := fun k => match k with
  | 0 => .object "MailHeads$Texts"
  | 1 => .int
  | _ => .boolean
theorem cN_Head : ∀ a, a < 3 → ∀ b, b < 3 → a ≠ b → (cF_Head a).2.1 ≠ (cF_Head b).2.1 := by decide +kernel
theorem cP_Head : ∀ k, k < 3 → parseFieldDescriptor (cF_Head k).2.2.1 = some (cT_Head k) := by decide +kernel
def cR_Texts : String := "MailHeads$Texts"
def cF_Texts : u_T := fun k => match k with
  | 0 => ("MailHeads$Texts", "bytes", "LMailHeads$Row;", true)
  | _ => ("MailHeads$Texts", "bounds", "LMailHeads$Row;", true)
def cT_Texts : Nat → FieldType := fun k => match k with
  | 0 => .object "MailHeads$Row"
  | _ => .object "MailHeads$Row"
theorem cN_Texts : ∀ a, a < 2 → ∀ b, b < 2 → a ≠ b → (cF_Texts a).2.1 ≠ (cF_Texts b).2.1 := by decide +kernel
theorem cP_Texts : ∀ k, k < 2 → parseFieldDescriptor (cF_Texts k).2.2.1 = some (cT_Texts k) := by decide +kernel
def cR_Words : String := "MailHeads$Words"
def cF_Words : u_T := fun k => match k with
  | 0 => ("MailHeads$Words", "texts", "LMailHeads$Texts;", true)
  | 1 => ("MailHeads$Words", "kinds", "LMailHeads$Row;", true)
  | 2 => ("MailHeads$Words", "source", "LMailHeads$Texts;", false)
  | 3 => ("MailHeads$Words", "value", "I", false)
  | _ => ("MailHeads$Words", "signs", "Ljava/lang/String;", false)
def cT_Words : Nat → FieldType := fun k => match k with
  | 0 => .object "MailHeads$Texts"
  | 1 => .object "MailHeads$Row"
  | 2 => .object "MailHeads$Texts"
  | 3 => .int
  | _ => .object "java/lang/String"
theorem cN_Words : ∀ a, a < 5 → ∀ b, b < 5 → a ≠ b → (cF_Words a).2.1 ≠ (cF_Words b).2.1 := by decide +kernel
theorem cP_Words : ∀ k, k < 5 → parseFieldDescriptor (cF_Words k).2.2.1 = some (cT_Words k) := by decide +kernel
def cR_Addresses : String := "MailHeads$Addresses"
def cF_Addresses : u_T := fun k => match k with
  | 0 => ("MailHeads$Addresses", "words", "LMailHeads$Words;", true)
  | 1 => ("MailHeads$Addresses", "texts", "LMailHeads$Texts;", true)
  | 2 => ("MailHeads$Addresses", "groups", "LMailHeads$Row;", true)
  | 3 => ("MailHeads$Addresses", "groupNames", "LMailHeads$Texts;", true)
  | 4 => ("MailHeads$Addresses", "gathered", "LMailHeads$Row;", true)
  | 5 => ("MailHeads$Addresses", "badOnes", "I", false)
  | 6 => ("MailHeads$Addresses", "groupNow", "I", false)
  | _ => ("MailHeads$Addresses", "comment", "I", false)
def cT_Addresses : Nat → FieldType := fun k => match k with
  | 0 => .object "MailHeads$Words"
  | 1 => .object "MailHeads$Texts"
  | 2 => .object "MailHeads$Row"
  | 3 => .object "MailHeads$Texts"
  | 4 => .object "MailHeads$Row"
  | 5 => .int
  | 6 => .int
  | _ => .int
theorem cN_Addresses : ∀ a, a < 8 → ∀ b, b < 8 → a ≠ b → (cF_Addresses a).2.1 ≠ (cF_Addresses b).2.1 := by decide +kernel
theorem cP_Addresses : ∀ k, k < 8 → parseFieldDescriptor (cF_Addresses k).2.2.1 = some (cT_Addresses k) := by decide +kernel
def cR_Identities : String := "MailHeads$Identities"
def cF_Identities : u_T := fun k => match k with
  | _ => ("MailHeads$Identities", "texts", "LMailHeads$Texts;", true)
def cT_Identities : Nat → FieldType := fun k => match k with
  | _ => .object "MailHeads$Texts"
theorem cN_Identities : ∀ a, a < 1 → ∀ b, b < 1 → a ≠ b → (cF_Identities a).2.1 ≠ (cF_Identities b).2.1 := by decide +kernel
theorem cP_Identities : ∀ k, k < 1 → parseFieldDescriptor (cF_Identities k).2.2.1 = some (cT_Identities k) := by decide +kernel
def cR_DateReader : String := "MailHeads$DateReader"
def cF_DateReader : u_T := fun k => match k with
  | 0 => ("MailHeads$DateReader", "words", "LMailHeads$Words;", true)
  | _ => ("MailHeads$DateReader", "place", "I", false)
def cT_DateReader : Nat → FieldType := fun k => match k with
  | 0 => .object "MailHeads$Words"
  | _ => .int
theorem cN_DateReader : ∀ a, a < 2 → ∀ b, b < 2 → a ≠ b → (cF_DateReader a).2.1 ≠ (cF_DateReader b).2.1 := by decide +kernel
theorem cP_DateReader : ∀ k, k < 2 → parseFieldDescriptor (cF_DateReader k).2.2.1 = some (cT_DateReader k) := by decide +kernel
def cR_ContentType : String := "MailHeads$ContentType"
def cF_ContentType : u_T := fun k => match k with
  | 0 => ("MailHeads$ContentType", "words", "LMailHeads$Words;", true)
  | 1 => ("MailHeads$ContentType", "parts", "LMailHeads$Texts;", true)
  | 2 => ("MailHeads$ContentType", "names", "LMailHeads$Texts;", true)
  | 3 => ("MailHeads$ContentType", "values", "LMailHeads$Texts;", true)
  | 4 => ("MailHeads$ContentType", "pieces", "LMailHeads$Row;", true)
  | 5 => ("MailHeads$ContentType", "codes", "LMailHeads$Row;", true)
  | _ => ("MailHeads$ContentType", "hand", "LMailHeads$Texts;", true)
def cT_ContentType : Nat → FieldType := fun k => match k with
  | 0 => .object "MailHeads$Words"
  | 1 => .object "MailHeads$Texts"
  | 2 => .object "MailHeads$Texts"
  | 3 => .object "MailHeads$Texts"
  | 4 => .object "MailHeads$Row"
  | 5 => .object "MailHeads$Row"
  | _ => .object "MailHeads$Texts"
theorem cN_ContentType : ∀ a, a < 7 → ∀ b, b < 7 → a ≠ b → (cF_ContentType a).2.1 ≠ (cF_ContentType b).2.1 := by decide +kernel
theorem cP_ContentType : ∀ k, k < 7 → parseFieldDescriptor (cF_ContentType k).2.2.1 = some (cT_ContentType k) := by decide +kernel
def cR_Model : String := "MailHeadsModel"
def cF_Model : u_T := fun k => match k with
  | 0 => ("MailHeadsModel", "thrown", "I", false)
  | 1 => ("MailHeadsModel", "ready", "[I", true)
  | 2 => ("MailHeadsModel", "tape", "[I", true)
  | 3 => ("MailHeadsModel", "tapeLong", "I", false)
  | 4 => ("MailHeadsModel", "fields", "I", false)
  | 5 => ("MailHeadsModel", "bad", "I", false)
  | 6 => ("MailHeadsModel", "nameAt", "[I", true)
  | 7 => ("MailHeadsModel", "nameLong", "[I", true)
  | 8 => ("MailHeadsModel", "valueAt", "[I", true)
  | 9 => ("MailHeadsModel", "valueLong", "[I", true)
  | 10 => ("MailHeadsModel", "kept", "[I", true)
  | 11 => ("MailHeadsModel", "keptLong", "I", false)
  | 12 => ("MailHeadsModel", "words", "I", false)
  | 13 => ("MailHeadsModel", "kind", "[I", true)
  | 14 => ("MailHeadsModel", "sign", "[I", true)
  | 15 => ("MailHeadsModel", "from", "[I", true)
  | 16 => ("MailHeadsModel", "to", "[I", true)
  | 17 => ("MailHeadsModel", "bytes", "[I", true)
  | 18 => ("MailHeadsModel", "bytesLong", "I", false)
  | 19 => ("MailHeadsModel", "made", "[I", true)
  | 20 => ("MailHeadsModel", "madeLong", "[I", true)
  | 21 => ("MailHeadsModel", "many", "[I", true)
  | 22 => ("MailHeadsModel", "partAt", "[I", true)
  | 23 => ("MailHeadsModel", "partLong", "[I", true)
  | 24 => ("MailHeadsModel", "groups", "I", false)
  | 25 => ("MailHeadsModel", "badOnes", "I", false)
  | 26 => ("MailHeadsModel", "groupOf", "[I", true)
  | 27 => ("MailHeadsModel", "parameters", "I", false)
  | 28 => ("MailHeadsModel", "parameterFrom", "[I", true)
  | 29 => ("MailHeadsModel", "parameterTo", "[I", true)
  | 30 => ("MailHeadsModel", "piece", "[I", true)
  | 31 => ("MailHeadsModel", "coded", "[Z", true)
  | 32 => ("MailHeadsModel", "valueFrom", "[I", true)
  | 33 => ("MailHeadsModel", "valueTo", "[I", true)
  | 34 => ("MailHeadsModel", "typeBytes", "[I", true)
  | 35 => ("MailHeadsModel", "hand", "[I", true)
  | 36 => ("MailHeadsModel", "charset", "[I", true)
  | 37 => ("MailHeadsModel", "handLong", "I", false)
  | 38 => ("MailHeadsModel", "charsetLong", "I", false)
  | 39 => ("MailHeadsModel", "p", "I", false)
  | 40 => ("MailHeadsModel", "valueEnd", "I", false)
  | 41 => ("MailHeadsModel", "ofType", "Z", false)
  | 42 => ("MailHeadsModel", "localEnd", "I", false)
  | 43 => ("MailHeadsModel", "domainFrom", "I", false)
  | _ => ("MailHeadsModel", "w", "I", false)
def cT_Model : Nat → FieldType := fun k => match k with
  | 0 => .int
  | 1 => .array (.int)
  | 2 => .array (.int)
  | 3 => .int
  | 4 => .int
  | 5 => .int
  | 6 => .array (.int)
  | 7 => .array (.int)
  | 8 => .array (.int)
  | 9 => .array (.int)
  | 10 => .array (.int)
  | 11 => .int
  | 12 => .int
  | 13 => .array (.int)
  | 14 => .array (.int)
  | 15 => .array (.int)
  | 16 => .array (.int)
  | 17 => .array (.int)
  | 18 => .int
  | 19 => .array (.int)
  | 20 => .array (.int)
  | 21 => .array (.int)
  | 22 => .array (.int)
  | 23 => .array (.int)
  | 24 => .int
  | 25 => .int
  | 26 => .array (.int)
  | 27 => .int
  | 28 => .array (.int)
  | 29 => .array (.int)
  | 30 => .array (.int)
  | 31 => .array (.boolean)
  | 32 => .array (.int)
  | 33 => .array (.int)
  | 34 => .array (.int)
  | 35 => .array (.int)
  | 36 => .array (.int)
  | 37 => .int
  | 38 => .int
  | 39 => .int
  | 40 => .int
  | 41 => .boolean
  | 42 => .int
  | 43 => .int
  | _ => .int
theorem cN_Model : ∀ a, a < 45 → ∀ b, b < 45 → a ≠ b → (cF_Model a).2.1 ≠ (cF_Model b).2.1 := by decide +kernel
theorem cP_Model : ∀ k, k < 45 → parseFieldDescriptor (cF_Model k).2.2.1 = some (cT_Model k) := by decide +kernel
/-- the classes whose objects the worlds hold, by number -/
abbrev vwCl : List vw_C := [(cR_Mail, cF_Mail, 9), (cR_Row, cF_Row, 2), (cR_Head, cF_Head, 3), (cR_Texts, cF_Texts, 2), (cR_Words, cF_Words, 5), (cR_Addresses, cF_Addresses, 8), (cR_Identities, cF_Identities, 1), (cR_DateReader, cF_DateReader, 2), (cR_ContentType, cF_ContentType, 7), (cR_Model, cF_Model, 45)]
