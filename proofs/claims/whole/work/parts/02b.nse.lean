/-! NoSuchElementException: its <init> links by entry 13 of its own class, not by 7 -/
def nN : String := "java/util/NoSuchElementException"
def nY : List String := ["java/lang/RuntimeException", "java/lang/Exception"]
def nSix : ByteArray := ⟨#[0x2a, 0x2b, 0xb7, 0x00, 0x0d, 0xb1]⟩
def nfix (w : Cond) : Cond := if w = .code (Bundle.initS nN) Bundle.six 2 none then .code (Bundle.initS nN) nSix 2 none else if w = .methodLink nN 7 (Bundle.initS "java/lang/RuntimeException") then .methodLink nN 13 (Bundle.initS "java/lang/RuntimeException") else w
/-- the words of such a throw, and those of them that do not speak of the heap -/
def nseA (own : String) (ic : Nat) : List Cond := (Bundle.ownAtoms own ic nN nY).map nfix
def nseS (own : String) (ic : Nat) : List Cond := (nseA own ic).filter vx_no
