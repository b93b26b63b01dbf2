/-! WireCutter$Workshop.execute -/
def fX11_execute (uk : Int32) (ul : Int32) (ur : Int32) (usx : Int32) (usNn : Int32) (usNf : Nat → Int32) (usMn : Int32) (usMf : Nat → Int32) (usLn : Int32) (usLf : Nat → Int32) (usKn : Int32) (usKf : Nat → Int32) (ucMn : Int32) (ucMf : Nat → Int32) (ucLn : Int32) (ucLf : Nat → Int32) (ucTn : Int32) (ucTf : Nat → Int32) (uox : Int32) (uoNn : Int32) (uoNf : Nat → Int32) (uoMn : Int32) (uoMf : Nat → Int32) (uoLn : Int32) (uoLf : Nat → Int32) (uoDn : Int32) (uoDf : Nat → Int32) (uac : Int32) (uaWn : Int32) (uaWf : Nat → Int32) (uaDn : Int32) (uaDf : Nat → Int32) (uaLn : Int32) (uaLf : Nat → Int32) (vv : Option Nat) (vl : Int32) (vf : Int32) (vs : Int32) : Option ((Except String Unit) × Int32 × Int32 × Int32 × Int32 × Int32 × (Nat → Int32) × Int32 × (Nat → Int32) × Int32 × (Nat → Int32) × Int32 × (Nat → Int32) × Int32 × (Nat → Int32) × Int32 × (Nat → Int32) × (Nat → Int32) × Int32 × Int32 × (Nat → Int32) × Int32 × (Nat → Int32) × Int32 × (Nat → Int32) × Int32 × (Nat → Int32) × Int32 × (Nat → Int32) × (Nat → Int32) × (Nat → Int32)) :=
  oM vv none fun o1 =>
  gd (ltN o1 10) <|
  gd (inR (nI o1) 10) <|
  if (Int32.ofNat ((nI o1).toNatClampNeg + 1)) = 1 then
    (fX11_windSpool usx usNn usNf usMn usMf usLn usLf usKn usKf uaWn uaWf vl vf).bind fun z6 =>
    exC z6.1 (fun e10 => some (.error e10, uk, ul, ur, z6.2.1, z6.2.2.1, z6.2.2.2.1, z6.2.2.2.2.1, z6.2.2.2.2.2.1, z6.2.2.2.2.2.2.1, z6.2.2.2.2.2.2.2.1, z6.2.2.2.2.2.2.2.2.1, z6.2.2.2.2.2.2.2.2.2.1, ucMn, ucMf, ucLn, ucLf, ucTf, uox, uoNn, uoNf, uoMn, uoMf, uoLn, uoLf, uoDn, uoDf, uac, z6.2.2.2.2.2.2.2.2.2.2, uaDf, uaLf)) fun v8 =>
    some (.ok (), uk, ul, ur, z6.2.1, z6.2.2.1, z6.2.2.2.1, z6.2.2.2.2.1, z6.2.2.2.2.2.1, z6.2.2.2.2.2.2.1, z6.2.2.2.2.2.2.2.1, z6.2.2.2.2.2.2.2.2.1, z6.2.2.2.2.2.2.2.2.2.1, ucMn, ucMf, ucLn, ucLf, ucTf, uox, uoNn, uoNf, uoMn, uoMf, uoLn, uoLf, uoDn, uoDf, uac, z6.2.2.2.2.2.2.2.2.2.2, uaDf, uaLf)
  else
  if (Int32.ofNat ((nI o1).toNatClampNeg + 1)) = 2 then
    (fX11_takeOrder uox uoNn uoNf uoMn uoMf uoLn uoLf uoDn uoDf vl vf vs).bind fun z12 =>
    exC z12.1 (fun e16 => some (.error e16, uk, ul, ur, usx, usNn, usNf, usMn, usMf, usLn, usLf, usKn, usKf, ucMn, ucMf, ucLn, ucLf, ucTf, z12.2.1, z12.2.2.1, z12.2.2.2.1, z12.2.2.2.2.1, z12.2.2.2.2.2.1, z12.2.2.2.2.2.2.1, z12.2.2.2.2.2.2.2.1, z12.2.2.2.2.2.2.2.2.1, z12.2.2.2.2.2.2.2.2.2, uac, uaWf, uaDf, uaLf)) fun v14 =>
    some (.ok (), uk, ul, ur, usx, usNn, usNf, usMn, usMf, usLn, usLf, usKn, usKf, ucMn, ucMf, ucLn, ucLf, ucTf, z12.2.1, z12.2.2.1, z12.2.2.2.1, z12.2.2.2.2.1, z12.2.2.2.2.2.1, z12.2.2.2.2.2.2.1, z12.2.2.2.2.2.2.2.1, z12.2.2.2.2.2.2.2.2.1, z12.2.2.2.2.2.2.2.2.2, uac, uaWf, uaDf, uaLf)
  else
  if (Int32.ofNat ((nI o1).toNatClampNeg + 1)) = 3 then
    (fX11_cancelOrder uoNn uoNf uoMn uoMf uoLn uoLf uoDn uoDf vf).bind fun z18 =>
    exC z18.1 (fun e22 => some (.error e22, uk, ul, ur, usx, usNn, usNf, usMn, usMf, usLn, usLf, usKn, usKf, ucMn, ucMf, ucLn, ucLf, ucTf, uox, z18.2.1, z18.2.2.1, z18.2.2.2.1, z18.2.2.2.2.1, z18.2.2.2.2.2.1, z18.2.2.2.2.2.2.1, z18.2.2.2.2.2.2.2.1, z18.2.2.2.2.2.2.2.2, uac, uaWf, uaDf, uaLf)) fun v20 =>
    some (.ok (), uk, ul, ur, usx, usNn, usNf, usMn, usMf, usLn, usLf, usKn, usKf, ucMn, ucMf, ucLn, ucLf, ucTf, uox, z18.2.1, z18.2.2.1, z18.2.2.2.1, z18.2.2.2.2.1, z18.2.2.2.2.2.1, z18.2.2.2.2.2.2.1, z18.2.2.2.2.2.2.2.1, z18.2.2.2.2.2.2.2.2, uac, uaWf, uaDf, uaLf)
  else
  if (Int32.ofNat ((nI o1).toNatClampNeg + 1)) = 4 then
    (fX11_fillOrder uk ul ur usNn usNf usMn usMf usLn usLf usKn usKf ucMn ucMf ucLn ucLf ucTn ucTf uoNn uoNf uoMn uoMf uoLn uoLf uoDn uoDf uac uaDn uaDf uaLn uaLf vf).bind fun z24 =>
    exC z24.1 (fun e28 => some (.error e28, uk, ul, ur, usx, z24.2.1, z24.2.2.1, z24.2.2.2.1, z24.2.2.2.2.1, z24.2.2.2.2.2.1, z24.2.2.2.2.2.2.1, z24.2.2.2.2.2.2.2.1, z24.2.2.2.2.2.2.2.2.1, z24.2.2.2.2.2.2.2.2.2.1, z24.2.2.2.2.2.2.2.2.2.2.1, z24.2.2.2.2.2.2.2.2.2.2.2.1, z24.2.2.2.2.2.2.2.2.2.2.2.2.1, z24.2.2.2.2.2.2.2.2.2.2.2.2.2.1, uox, z24.2.2.2.2.2.2.2.2.2.2.2.2.2.2.1, z24.2.2.2.2.2.2.2.2.2.2.2.2.2.2.2.1, z24.2.2.2.2.2.2.2.2.2.2.2.2.2.2.2.2.1, z24.2.2.2.2.2.2.2.2.2.2.2.2.2.2.2.2.2.1, z24.2.2.2.2.2.2.2.2.2.2.2.2.2.2.2.2.2.2.1, z24.2.2.2.2.2.2.2.2.2.2.2.2.2.2.2.2.2.2.2.1, z24.2.2.2.2.2.2.2.2.2.2.2.2.2.2.2.2.2.2.2.2.1, z24.2.2.2.2.2.2.2.2.2.2.2.2.2.2.2.2.2.2.2.2.2.1, z24.2.2.2.2.2.2.2.2.2.2.2.2.2.2.2.2.2.2.2.2.2.2.1, uaWf, z24.2.2.2.2.2.2.2.2.2.2.2.2.2.2.2.2.2.2.2.2.2.2.2.1, z24.2.2.2.2.2.2.2.2.2.2.2.2.2.2.2.2.2.2.2.2.2.2.2.2)) fun v26 =>
    some (.ok (), uk, ul, ur, usx, z24.2.1, z24.2.2.1, z24.2.2.2.1, z24.2.2.2.2.1, z24.2.2.2.2.2.1, z24.2.2.2.2.2.2.1, z24.2.2.2.2.2.2.2.1, z24.2.2.2.2.2.2.2.2.1, z24.2.2.2.2.2.2.2.2.2.1, z24.2.2.2.2.2.2.2.2.2.2.1, z24.2.2.2.2.2.2.2.2.2.2.2.1, z24.2.2.2.2.2.2.2.2.2.2.2.2.1, z24.2.2.2.2.2.2.2.2.2.2.2.2.2.1, uox, z24.2.2.2.2.2.2.2.2.2.2.2.2.2.2.1, z24.2.2.2.2.2.2.2.2.2.2.2.2.2.2.2.1, z24.2.2.2.2.2.2.2.2.2.2.2.2.2.2.2.2.1, z24.2.2.2.2.2.2.2.2.2.2.2.2.2.2.2.2.2.1, z24.2.2.2.2.2.2.2.2.2.2.2.2.2.2.2.2.2.2.1, z24.2.2.2.2.2.2.2.2.2.2.2.2.2.2.2.2.2.2.2.1, z24.2.2.2.2.2.2.2.2.2.2.2.2.2.2.2.2.2.2.2.2.1, z24.2.2.2.2.2.2.2.2.2.2.2.2.2.2.2.2.2.2.2.2.2.1, z24.2.2.2.2.2.2.2.2.2.2.2.2.2.2.2.2.2.2.2.2.2.2.1, uaWf, z24.2.2.2.2.2.2.2.2.2.2.2.2.2.2.2.2.2.2.2.2.2.2.2.1, z24.2.2.2.2.2.2.2.2.2.2.2.2.2.2.2.2.2.2.2.2.2.2.2.2)
  else
  if (Int32.ofNat ((nI o1).toNatClampNeg + 1)) = 5 then
    (fX11_fillUntil uk ul ur usNn usNf usMn usMf usLn usLf usKn usKf ucMn ucMf ucLn ucLf ucTn ucTf uoNn uoNf uoMn uoMf uoLn uoLf uoDn uoDf uac uaDn uaDf uaLn uaLf vf).bind fun z30 =>
    exC z30.1 (fun e34 => some (.error e34, uk, ul, ur, usx, z30.2.1, z30.2.2.1, z30.2.2.2.1, z30.2.2.2.2.1, z30.2.2.2.2.2.1, z30.2.2.2.2.2.2.1, z30.2.2.2.2.2.2.2.1, z30.2.2.2.2.2.2.2.2.1, z30.2.2.2.2.2.2.2.2.2.1, z30.2.2.2.2.2.2.2.2.2.2.1, z30.2.2.2.2.2.2.2.2.2.2.2.1, z30.2.2.2.2.2.2.2.2.2.2.2.2.1, z30.2.2.2.2.2.2.2.2.2.2.2.2.2.1, uox, z30.2.2.2.2.2.2.2.2.2.2.2.2.2.2.1, z30.2.2.2.2.2.2.2.2.2.2.2.2.2.2.2.1, z30.2.2.2.2.2.2.2.2.2.2.2.2.2.2.2.2.1, z30.2.2.2.2.2.2.2.2.2.2.2.2.2.2.2.2.2.1, z30.2.2.2.2.2.2.2.2.2.2.2.2.2.2.2.2.2.2.1, z30.2.2.2.2.2.2.2.2.2.2.2.2.2.2.2.2.2.2.2.1, z30.2.2.2.2.2.2.2.2.2.2.2.2.2.2.2.2.2.2.2.2.1, z30.2.2.2.2.2.2.2.2.2.2.2.2.2.2.2.2.2.2.2.2.2.1, z30.2.2.2.2.2.2.2.2.2.2.2.2.2.2.2.2.2.2.2.2.2.2.1, uaWf, z30.2.2.2.2.2.2.2.2.2.2.2.2.2.2.2.2.2.2.2.2.2.2.2.1, z30.2.2.2.2.2.2.2.2.2.2.2.2.2.2.2.2.2.2.2.2.2.2.2.2)) fun v32 =>
    some (.ok (), uk, ul, ur, usx, z30.2.1, z30.2.2.1, z30.2.2.2.1, z30.2.2.2.2.1, z30.2.2.2.2.2.1, z30.2.2.2.2.2.2.1, z30.2.2.2.2.2.2.2.1, z30.2.2.2.2.2.2.2.2.1, z30.2.2.2.2.2.2.2.2.2.1, z30.2.2.2.2.2.2.2.2.2.2.1, z30.2.2.2.2.2.2.2.2.2.2.2.1, z30.2.2.2.2.2.2.2.2.2.2.2.2.1, z30.2.2.2.2.2.2.2.2.2.2.2.2.2.1, uox, z30.2.2.2.2.2.2.2.2.2.2.2.2.2.2.1, z30.2.2.2.2.2.2.2.2.2.2.2.2.2.2.2.1, z30.2.2.2.2.2.2.2.2.2.2.2.2.2.2.2.2.1, z30.2.2.2.2.2.2.2.2.2.2.2.2.2.2.2.2.2.1, z30.2.2.2.2.2.2.2.2.2.2.2.2.2.2.2.2.2.2.1, z30.2.2.2.2.2.2.2.2.2.2.2.2.2.2.2.2.2.2.2.1, z30.2.2.2.2.2.2.2.2.2.2.2.2.2.2.2.2.2.2.2.2.1, z30.2.2.2.2.2.2.2.2.2.2.2.2.2.2.2.2.2.2.2.2.2.1, z30.2.2.2.2.2.2.2.2.2.2.2.2.2.2.2.2.2.2.2.2.2.2.1, uaWf, z30.2.2.2.2.2.2.2.2.2.2.2.2.2.2.2.2.2.2.2.2.2.2.2.1, z30.2.2.2.2.2.2.2.2.2.2.2.2.2.2.2.2.2.2.2.2.2.2.2.2)
  else
  if (Int32.ofNat ((nI o1).toNatClampNeg + 1)) = 6 then
    (fX11_retireSpool usNn usNf usMn usMf usLn usLf usKn usKf ucMn ucMf ucLn ucLf ucTn ucTf vf).bind fun z36 =>
    exC z36.1 (fun e40 => some (.error e40, uk, ul, ur, usx, z36.2.1, z36.2.2.1, z36.2.2.2.1, z36.2.2.2.2.1, z36.2.2.2.2.2.1, z36.2.2.2.2.2.2.1, z36.2.2.2.2.2.2.2.1, z36.2.2.2.2.2.2.2.2.1, z36.2.2.2.2.2.2.2.2.2.1, z36.2.2.2.2.2.2.2.2.2.2.1, z36.2.2.2.2.2.2.2.2.2.2.2.1, z36.2.2.2.2.2.2.2.2.2.2.2.2.1, z36.2.2.2.2.2.2.2.2.2.2.2.2.2, uox, uoNn, uoNf, uoMn, uoMf, uoLn, uoLf, uoDn, uoDf, uac, uaWf, uaDf, uaLf)) fun v38 =>
    some (.ok (), uk, ul, ur, usx, z36.2.1, z36.2.2.1, z36.2.2.2.1, z36.2.2.2.2.1, z36.2.2.2.2.2.1, z36.2.2.2.2.2.2.1, z36.2.2.2.2.2.2.2.1, z36.2.2.2.2.2.2.2.2.1, z36.2.2.2.2.2.2.2.2.2.1, z36.2.2.2.2.2.2.2.2.2.2.1, z36.2.2.2.2.2.2.2.2.2.2.2.1, z36.2.2.2.2.2.2.2.2.2.2.2.2.1, z36.2.2.2.2.2.2.2.2.2.2.2.2.2, uox, uoNn, uoNf, uoMn, uoMf, uoLn, uoLf, uoDn, uoDf, uac, uaWf, uaDf, uaLf)
  else
  if (Int32.ofNat ((nI o1).toNatClampNeg + 1)) = 7 then
    (fX11_clearScraps ucMn ucMf ucLn ucLf ucTn ucTf vl).bind fun z42 =>
    exC z42.1 (fun e46 => some (.error e46, uk, ul, ur, usx, usNn, usNf, usMn, usMf, usLn, usLf, usKn, usKf, z42.2.1, z42.2.2.1, z42.2.2.2.1, z42.2.2.2.2.1, z42.2.2.2.2.2, uox, uoNn, uoNf, uoMn, uoMf, uoLn, uoLf, uoDn, uoDf, uac, uaWf, uaDf, uaLf)) fun v44 =>
    some (.ok (), uk, ul, ur, usx, usNn, usNf, usMn, usMf, usLn, usLf, usKn, usKf, z42.2.1, z42.2.2.1, z42.2.2.2.1, z42.2.2.2.2.1, z42.2.2.2.2.2, uox, uoNn, uoNf, uoMn, uoMf, uoLn, uoLf, uoDn, uoDf, uac, uaWf, uaDf, uaLf)
  else
  if (Int32.ofNat ((nI o1).toNatClampNeg + 1)) = 8 then
    (fX11_changeKerf uk vf).bind fun z48 =>
    exC z48.1 (fun e52 => some (.error e52, z48.2, ul, ur, usx, usNn, usNf, usMn, usMf, usLn, usLf, usKn, usKf, ucMn, ucMf, ucLn, ucLf, ucTf, uox, uoNn, uoNf, uoMn, uoMf, uoLn, uoLf, uoDn, uoDf, uac, uaWf, uaDf, uaLf)) fun v50 =>
    some (.ok (), z48.2, ul, ur, usx, usNn, usNf, usMn, usMf, usLn, usLf, usKn, usKf, ucMn, ucMf, ucLn, ucLf, ucTf, uox, uoNn, uoNf, uoMn, uoMf, uoLn, uoLf, uoDn, uoDf, uac, uaWf, uaDf, uaLf)
  else
  if (Int32.ofNat ((nI o1).toNatClampNeg + 1)) = 9 then
    (fX11_changeScrapLimit ul vf).bind fun z54 =>
    exC z54.1 (fun e58 => some (.error e58, uk, z54.2, ur, usx, usNn, usNf, usMn, usMf, usLn, usLf, usKn, usKf, ucMn, ucMf, ucLn, ucLf, ucTf, uox, uoNn, uoNf, uoMn, uoMf, uoLn, uoLf, uoDn, uoDf, uac, uaWf, uaDf, uaLf)) fun v56 =>
    some (.ok (), uk, z54.2, ur, usx, usNn, usNf, usMn, usMf, usLn, usLf, usKn, usKf, ucMn, ucMf, ucLn, ucLf, ucTf, uox, uoNn, uoNf, uoMn, uoMf, uoLn, uoLf, uoDn, uoDf, uac, uaWf, uaDf, uaLf)
  else
  if (Int32.ofNat ((nI o1).toNatClampNeg + 1)) = 10 then
    (fX11_changeRule ur vl).bind fun z60 =>
    exC z60.1 (fun e64 => some (.error e64, uk, ul, z60.2, usx, usNn, usNf, usMn, usMf, usLn, usLf, usKn, usKf, ucMn, ucMf, ucLn, ucLf, ucTf, uox, uoNn, uoNf, uoMn, uoMf, uoLn, uoLf, uoDn, uoDf, uac, uaWf, uaDf, uaLf)) fun v62 =>
    some (.ok (), uk, ul, z60.2, usx, usNn, usNf, usMn, usMf, usLn, usLf, usKn, usKf, ucMn, ucMf, ucLn, ucLf, ucTf, uox, uoNn, uoNf, uoMn, uoMf, uoLn, uoLf, uoDn, uoDf, uac, uaWf, uaDf, uaLf)
  else
    some (.ok (), uk, ul, ur, usx, usNn, usNf, usMn, usMf, usLn, usLf, usKn, usKf, ucMn, ucMf, ucLn, ucLf, ucTf, uox, uoNn, uoNf, uoMn, uoMf, uoLn, uoLf, uoDn, uoDf, uac, uaWf, uaDf, uaLf)
theorem mbX11_execute : MV yX11_execute cX11_execute 2 none 1 := ⟨⟨q1604, q2, by decide +kernel⟩, q1602, q1603⟩
set_option maxHeartbeats 4000000 in
set_option maxRecDepth 100000 in
theorem tX11_execute (l : Launch) (hl9 : l.stackTraces = false) (dC : Nat → ClassId) (dI : Nat → Nat → Nat) (g : Nat → ClassId) (a0 a1 a2 a3 a4 a5 a6 a7 a8 a9 a10 a11 a12 a13 a14 a15 a16 a17 a18 a19 a20 a21 a22 a23 a24 a25 a26 a27 a28 a29 a30 a31 a32 b0 : Nat) (uk : Int32) (ul : Int32) (ur : Int32) (usx : Int32) (usNn : Int32) (usNf : Nat → Int32) (usMn : Int32) (usMf : Nat → Int32) (usLn : Int32) (usLf : Nat → Int32) (usKn : Int32) (usKf : Nat → Int32) (ucMn : Int32) (ucMf : Nat → Int32) (ucLn : Int32) (ucLf : Nat → Int32) (ucTn : Int32) (ucTf : Nat → Int32) (uox : Int32) (uoNn : Int32) (uoNf : Nat → Int32) (uoMn : Int32) (uoMf : Nat → Int32) (uoLn : Int32) (uoLf : Nat → Int32) (uoDn : Int32) (uoDf : Nat → Int32) (uac : Int32) (uaWn : Int32) (uaWf : Nat → Int32) (uaDn : Int32) (uaDf : Nat → Int32) (uaLn : Int32) (uaLf : Nat → Int32) (vv : Option Nat) (vl : Int32) (vf : Int32) (vs : Int32) (vn : Int32) {r : (Except String Unit) × Int32 × Int32 × Int32 × Int32 × Int32 × (Nat → Int32) × Int32 × (Nat → Int32) × Int32 × (Nat → Int32) × Int32 × (Nat → Int32) × Int32 × (Nat → Int32) × Int32 × (Nat → Int32) × (Nat → Int32) × Int32 × Int32 × (Nat → Int32) × Int32 × (Nat → Int32) × Int32 × (Nat → Int32) × Int32 × (Nat → Int32) × Int32 × (Nat → Int32) × (Nat → Int32) × (Nat → Int32)} (h : fX11_execute uk ul ur usx usNn usNf usMn usMf usLn usLf usKn usKf ucMn ucMf ucLn ucLf ucTn ucTf uox uoNn uoNf uoMn uoMf uoLn uoLf uoDn uoDf uac uaWn uaWf uaDn uaDf uaLn uaLf vv vl vf vs = some r) : MX vN l yX11_execute cX11_execute 2 none 8 127 3 18 dC dI g [.ref a0, .ref b0] (wX11 g a0 a1 a2 a3 a4 a5 a6 a7 a8 a9 a10 a11 a12 a13 a14 a15 a16 a17 a18 a19 a20 a21 a22 a23 a24 a25 a26 a27 a28 a29 a30 a31 a32 uk ul ur usx usNn usNf usMn usMf usLn usLf usKn usKf ucMn ucMf ucLn ucLf ucTn ucTf uox uoNn uoNf uoMn uoMf uoLn uoLf uoDn uoDf uac uaWn uaWf uaDn uaDf uaLn uaLf ++ wX2 g b0 vv vl vf vs vn) (wX11 g a0 a1 a2 a3 a4 a5 a6 a7 a8 a9 a10 a11 a12 a13 a14 a15 a16 a17 a18 a19 a20 a21 a22 a23 a24 a25 a26 a27 a28 a29 a30 a31 a32 r.2.1 r.2.2.1 r.2.2.2.1 r.2.2.2.2.1 r.2.2.2.2.2.1 r.2.2.2.2.2.2.1 r.2.2.2.2.2.2.2.1 r.2.2.2.2.2.2.2.2.1 r.2.2.2.2.2.2.2.2.2.1 r.2.2.2.2.2.2.2.2.2.2.1 r.2.2.2.2.2.2.2.2.2.2.2.1 r.2.2.2.2.2.2.2.2.2.2.2.2.1 r.2.2.2.2.2.2.2.2.2.2.2.2.2.1 r.2.2.2.2.2.2.2.2.2.2.2.2.2.2.1 r.2.2.2.2.2.2.2.2.2.2.2.2.2.2.2.1 r.2.2.2.2.2.2.2.2.2.2.2.2.2.2.2.2.1 ucTn r.2.2.2.2.2.2.2.2.2.2.2.2.2.2.2.2.2.1 r.2.2.2.2.2.2.2.2.2.2.2.2.2.2.2.2.2.2.1 r.2.2.2.2.2.2.2.2.2.2.2.2.2.2.2.2.2.2.2.1 r.2.2.2.2.2.2.2.2.2.2.2.2.2.2.2.2.2.2.2.2.1 r.2.2.2.2.2.2.2.2.2.2.2.2.2.2.2.2.2.2.2.2.2.1 r.2.2.2.2.2.2.2.2.2.2.2.2.2.2.2.2.2.2.2.2.2.2.1 r.2.2.2.2.2.2.2.2.2.2.2.2.2.2.2.2.2.2.2.2.2.2.2.1 r.2.2.2.2.2.2.2.2.2.2.2.2.2.2.2.2.2.2.2.2.2.2.2.2.1 r.2.2.2.2.2.2.2.2.2.2.2.2.2.2.2.2.2.2.2.2.2.2.2.2.2.1 r.2.2.2.2.2.2.2.2.2.2.2.2.2.2.2.2.2.2.2.2.2.2.2.2.2.2.1 r.2.2.2.2.2.2.2.2.2.2.2.2.2.2.2.2.2.2.2.2.2.2.2.2.2.2.2.1 uaWn r.2.2.2.2.2.2.2.2.2.2.2.2.2.2.2.2.2.2.2.2.2.2.2.2.2.2.2.2.1 uaDn r.2.2.2.2.2.2.2.2.2.2.2.2.2.2.2.2.2.2.2.2.2.2.2.2.2.2.2.2.2.1 uaLn r.2.2.2.2.2.2.2.2.2.2.2.2.2.2.2.2.2.2.2.2.2.2.2.2.2.2.2.2.2.2 ++ wX2 g b0 vv vl vf vs vn) r.1 := by
  refine MX_of (by decide) (Nat.le_of_ble_eq_true rfl) ?_
  intro p e s m below meth c ls F hr hlocks ht hE hX hA hP hD hS hl
  generalize va_A (wX11 g a0 a1 a2 a3 a4 a5 a6 a7 a8 a9 a10 a11 a12 a13 a14 a15 a16 a17 a18 a19 a20 a21 a22 a23 a24 a25 a26 a27 a28 a29 a30 a31 a32 uk ul ur usx usNn usNf usMn usMf usLn usLf usKn usKf ucMn ucMf ucLn ucLf ucTn ucTf uox uoNn uoNf uoMn uoMf uoLn uoLf uoDn uoDf uac uaWn uaWf uaDn uaDf uaLn uaLf ++ wX2 g b0 vv vl vf vs vn) s.heap.size = A at hA hD hS hX ⊢
  replace F : CF p m c cX11_execute 2 s _ RX11 := F
  replace hl : lv_has ls 2 [(0, .ref a0), (1, .ref b0)] := hl
  rw [fX11_execute] at h
  replace hP : va_P (dC, dI) vwCl (catp [wX11 g a0 a1 a2 a3 a4 a5 a6 a7 a8 a9 a10 a11 a12 a13 a14 a15 a16 a17 a18 a19 a20 a21 a22 a23 a24 a25 a26 a27 a28 a29 a30 a31 a32 uk ul ur usx usNn usNf usMn usMf usLn usLf usKn usKf ucMn ucMf ucLn ucLf ucTn ucTf uox uoNn uoNf uoMn uoMf uoLn uoLf uoDn uoDf uac uaWn uaWf uaDn uaDf uaLn uaLf, [(b0, .inr (5, [vbR g vv, .int vl, .int vf, .int vs, .int vn]))]] []) s.heap := hP
  replace hD : va_D A (catp [wX11 g a0 a1 a2 a3 a4 a5 a6 a7 a8 a9 a10 a11 a12 a13 a14 a15 a16 a17 a18 a19 a20 a21 a22 a23 a24 a25 a26 a27 a28 a29 a30 a31 a32 uk ul ur usx usNn usNf usMn usMf usLn usLf usKn usKf ucMn ucMf ucLn ucLf ucTn ucTf uox uoNn uoNf uoMn uoMf uoLn uoLf uoDn uoDf uac uaWn uaWf uaDn uaDf uaLn uaLf, [(b0, .inr (5, [vbR g vv, .int vl, .int vf, .int vs, .int vn]))]] []) := hD
  refine gSM F hX hS q1605 dX11_execute_0 ?_
  refine lv_aload_n F.1 F.2.1 dX11_execute_3 rfl (lv_at hl 1 rfl) ?_
  refine gFN (v := vbR g vv) F hE hP 33 rfl rfl inX2 0 (by decide) q242 rfl dX11_execute_4 ?_
  obtain ⟨o1, k2, h⟩ := oM_ok h
  obtain ⟨k3, h⟩ := gd_ok h
  refine cVO (k := o1) F hE hX hS (ltN_lt k3) q1607 ⟨(Nat.le_of_ble_eq_true rfl), (Nat.le_of_ble_eq_true rfl)⟩ ⟨(Nat.le_of_ble_eq_true rfl), (Nat.le_of_ble_eq_true rfl)⟩ (congrArg (vbR g) k2) hl.1 (Nat.le_of_ble_eq_true rfl) dX11_execute_7 ?_
  obtain ⟨k4, h⟩ := gd_ok h
  refine aSM F hX hS k4 dX11_execute_10 ?_
  rcases Decidable.em ((Int32.ofNat ((nI o1).toNatClampNeg + 1)) = 1) with k5 | k5
  · replace h := it_t k5 h
    refine lv_tableIn (tgt := 64) F.1 F.2.1 dX11_execute_11 (by rw [k5]; decide) (by rw [k5]; decide) (by rw [k5]; rfl) (by decide) ?_
    refine lv_aload_n F.1 F.2.1 dX11_execute_64 rfl (lv_at hl 0 rfl) ?_
    refine lv_aload_n F.1 F.2.1 dX11_execute_65 rfl (lv_at hl 1 rfl) ?_
    refine gFN (v := .int vl) F hE hP 33 rfl rfl inX2 1 (by decide) q245 rfl dX11_execute_66 ?_
    refine lv_aload_n F.1 F.2.1 dX11_execute_69 rfl (lv_at hl 1 rfl) ?_
    refine gFN (v := .int vf) F hE hP 33 rfl rfl inX2 2 (by decide) q247 rfl dX11_execute_70 ?_
    obtain ⟨z6, k7, h⟩ := bd_ok h
    refine cXV1 (As := [.int vl, .int vf]) (rest := []) (post := catp [[(b0, .inr (5, [vbR g vv, .int vl, .int vf, .int vs, .int vn]))]] []) (ws' := catp [wX11 g a0 a1 a2 a3 a4 a5 a6 a7 a8 a9 a10 a11 a12 a13 a14 a15 a16 a17 a18 a19 a20 a21 a22 a23 a24 a25 a26 a27 a28 a29 a30 a31 a32 uk ul ur z6.2.1 z6.2.2.1 z6.2.2.2.1 z6.2.2.2.2.1 z6.2.2.2.2.2.1 z6.2.2.2.2.2.2.1 z6.2.2.2.2.2.2.2.1 z6.2.2.2.2.2.2.2.2.1 z6.2.2.2.2.2.2.2.2.2.1 ucMn ucMf ucLn ucLf ucTn ucTf uox uoNn uoNf uoMn uoMf uoLn uoLf uoDn uoDf uac uaWn z6.2.2.2.2.2.2.2.2.2.2 uaDn uaDf uaLn uaLf, [(b0, .inr (5, [vbR g vv, .int vl, .int vf, .int vs, .int vn]))]] []) F hE hX (tX11_windSpool l hl9 dC dI g a0 a1 a2 a3 a4 a5 a6 a7 a8 a9 a10 a11 a12 a13 a14 a15 a16 a17 a18 a19 a20 a21 a22 a23 a24 a25 a26 a27 a28 a29 a30 a31 a32 uk ul ur usx usNn usNf usMn usMf usLn usLf usKn usKf ucMn ucMf ucLn ucLf ucTn ucTf uox uoNn uoNf uoMn uoMf uoLn uoLf uoDn uoDf uac uaWn uaWf uaDn uaDf uaLn uaLf vl vf k7) mbX11_windSpool q1613 ⟨(Nat.le_of_ble_eq_true rfl), (Nat.le_of_ble_eq_true rfl)⟩ ⟨(Nat.le_of_ble_eq_true rfl), (Nat.le_of_ble_eq_true rfl)⟩ hP hD hS hA [] rfl rfl rfl 0 rfl rfl rfl hl.1 rfl (Nat.le_of_ble_eq_true rfl) dX11_execute_73 (fun E ce q9 hx9 H locs hP hD hS h7 h8 h9 => ?_) (fun v8 k9 H locs hP hD hS => ?_)
    · replace h := ex_er hx9 h
      cases h
      exact MX_o rfl ht hlocks hP hS h7 h8 h9 (Nat.le_of_ble_eq_true rfl) (Nat.le_of_ble_eq_true rfl)
    replace h := ex_ok k9 h
    refine lv_pop F.1 F.2.1 dX11_execute_76 rfl ?_
    refine lv_goto (tgt := 193) F.1 F.2.1 dX11_execute_77 (by decide) ?_
    cases h
    exact MX_v rfl F hr hlocks (Nat.le_of_ble_eq_true rfl) (Nat.le_of_ble_eq_true rfl) hP hS dX11_execute_193
  replace h := it_f k5 h
  rcases Decidable.em ((Int32.ofNat ((nI o1).toNatClampNeg + 1)) = 2) with k11 | k11
  · replace h := it_t k11 h
    refine lv_tableIn (tgt := 80) F.1 F.2.1 dX11_execute_11 (by rw [k11]; decide) (by rw [k11]; decide) (by rw [k11]; rfl) (by decide) ?_
    refine lv_aload_n F.1 F.2.1 dX11_execute_80 rfl (lv_at hl 0 rfl) ?_
    refine lv_aload_n F.1 F.2.1 dX11_execute_81 rfl (lv_at hl 1 rfl) ?_
    refine gFN (v := .int vl) F hE hP 33 rfl rfl inX2 1 (by decide) q245 rfl dX11_execute_82 ?_
    refine lv_aload_n F.1 F.2.1 dX11_execute_85 rfl (lv_at hl 1 rfl) ?_
    refine gFN (v := .int vf) F hE hP 33 rfl rfl inX2 2 (by decide) q247 rfl dX11_execute_86 ?_
    refine lv_aload_n F.1 F.2.1 dX11_execute_89 rfl (lv_at hl 1 rfl) ?_
    refine gFN (v := .int vs) F hE hP 33 rfl rfl inX2 3 (by decide) q249 rfl dX11_execute_90 ?_
    obtain ⟨z12, k13, h⟩ := bd_ok h
    refine cXV1 (As := [.int vl, .int vf, .int vs]) (rest := []) (post := catp [[(b0, .inr (5, [vbR g vv, .int vl, .int vf, .int vs, .int vn]))]] []) (ws' := catp [wX11 g a0 a1 a2 a3 a4 a5 a6 a7 a8 a9 a10 a11 a12 a13 a14 a15 a16 a17 a18 a19 a20 a21 a22 a23 a24 a25 a26 a27 a28 a29 a30 a31 a32 uk ul ur usx usNn usNf usMn usMf usLn usLf usKn usKf ucMn ucMf ucLn ucLf ucTn ucTf z12.2.1 z12.2.2.1 z12.2.2.2.1 z12.2.2.2.2.1 z12.2.2.2.2.2.1 z12.2.2.2.2.2.2.1 z12.2.2.2.2.2.2.2.1 z12.2.2.2.2.2.2.2.2.1 z12.2.2.2.2.2.2.2.2.2 uac uaWn uaWf uaDn uaDf uaLn uaLf, [(b0, .inr (5, [vbR g vv, .int vl, .int vf, .int vs, .int vn]))]] []) F hE hX (tX11_takeOrder l hl9 dC dI g a0 a1 a2 a3 a4 a5 a6 a7 a8 a9 a10 a11 a12 a13 a14 a15 a16 a17 a18 a19 a20 a21 a22 a23 a24 a25 a26 a27 a28 a29 a30 a31 a32 uk ul ur usx usNn usNf usMn usMf usLn usLf usKn usKf ucMn ucMf ucLn ucLf ucTn ucTf uox uoNn uoNf uoMn uoMf uoLn uoLf uoDn uoDf uac uaWn uaWf uaDn uaDf uaLn uaLf vl vf vs k13) mbX11_takeOrder q1614 ⟨(Nat.le_of_ble_eq_true rfl), (Nat.le_of_ble_eq_true rfl)⟩ ⟨(Nat.le_of_ble_eq_true rfl), (Nat.le_of_ble_eq_true rfl)⟩ hP hD hS hA [] rfl rfl rfl 0 rfl rfl rfl hl.1 rfl (Nat.le_of_ble_eq_true rfl) dX11_execute_93 (fun E ce q9 hx9 H locs hP hD hS h7 h8 h9 => ?_) (fun v14 k15 H locs hP hD hS => ?_)
    · replace h := ex_er hx9 h
      cases h
      exact MX_o rfl ht hlocks hP hS h7 h8 h9 (Nat.le_of_ble_eq_true rfl) (Nat.le_of_ble_eq_true rfl)
    replace h := ex_ok k15 h
    refine lv_pop F.1 F.2.1 dX11_execute_96 rfl ?_
    refine lv_goto (tgt := 193) F.1 F.2.1 dX11_execute_97 (by decide) ?_
    cases h
    exact MX_v rfl F hr hlocks (Nat.le_of_ble_eq_true rfl) (Nat.le_of_ble_eq_true rfl) hP hS dX11_execute_193
  replace h := it_f k11 h
  rcases Decidable.em ((Int32.ofNat ((nI o1).toNatClampNeg + 1)) = 3) with k17 | k17
  · replace h := it_t k17 h
    refine lv_tableIn (tgt := 100) F.1 F.2.1 dX11_execute_11 (by rw [k17]; decide) (by rw [k17]; decide) (by rw [k17]; rfl) (by decide) ?_
    refine lv_aload_n F.1 F.2.1 dX11_execute_100 rfl (lv_at hl 0 rfl) ?_
    refine lv_aload_n F.1 F.2.1 dX11_execute_101 rfl (lv_at hl 1 rfl) ?_
    refine gFN (v := .int vf) F hE hP 33 rfl rfl inX2 2 (by decide) q247 rfl dX11_execute_102 ?_
    obtain ⟨z18, k19, h⟩ := bd_ok h
    refine cXV1 (As := [.int vf]) (rest := []) (post := catp [[(b0, .inr (5, [vbR g vv, .int vl, .int vf, .int vs, .int vn]))]] []) (ws' := catp [wX11 g a0 a1 a2 a3 a4 a5 a6 a7 a8 a9 a10 a11 a12 a13 a14 a15 a16 a17 a18 a19 a20 a21 a22 a23 a24 a25 a26 a27 a28 a29 a30 a31 a32 uk ul ur usx usNn usNf usMn usMf usLn usLf usKn usKf ucMn ucMf ucLn ucLf ucTn ucTf uox z18.2.1 z18.2.2.1 z18.2.2.2.1 z18.2.2.2.2.1 z18.2.2.2.2.2.1 z18.2.2.2.2.2.2.1 z18.2.2.2.2.2.2.2.1 z18.2.2.2.2.2.2.2.2 uac uaWn uaWf uaDn uaDf uaLn uaLf, [(b0, .inr (5, [vbR g vv, .int vl, .int vf, .int vs, .int vn]))]] []) F hE hX (tX11_cancelOrder l hl9 dC dI g a0 a1 a2 a3 a4 a5 a6 a7 a8 a9 a10 a11 a12 a13 a14 a15 a16 a17 a18 a19 a20 a21 a22 a23 a24 a25 a26 a27 a28 a29 a30 a31 a32 uk ul ur usx usNn usNf usMn usMf usLn usLf usKn usKf ucMn ucMf ucLn ucLf ucTn ucTf uox uoNn uoNf uoMn uoMf uoLn uoLf uoDn uoDf uac uaWn uaWf uaDn uaDf uaLn uaLf vf k19) mbX11_cancelOrder q1615 ⟨(Nat.le_of_ble_eq_true rfl), (Nat.le_of_ble_eq_true rfl)⟩ ⟨(Nat.le_of_ble_eq_true rfl), (Nat.le_of_ble_eq_true rfl)⟩ hP hD hS hA [] rfl rfl rfl 0 rfl rfl rfl hl.1 rfl (Nat.le_of_ble_eq_true rfl) dX11_execute_105 (fun E ce q9 hx9 H locs hP hD hS h7 h8 h9 => ?_) (fun v20 k21 H locs hP hD hS => ?_)
    · replace h := ex_er hx9 h
      cases h
      exact MX_o rfl ht hlocks hP hS h7 h8 h9 (Nat.le_of_ble_eq_true rfl) (Nat.le_of_ble_eq_true rfl)
    replace h := ex_ok k21 h
    refine lv_pop F.1 F.2.1 dX11_execute_108 rfl ?_
    refine lv_goto (tgt := 193) F.1 F.2.1 dX11_execute_109 (by decide) ?_
    cases h
    exact MX_v rfl F hr hlocks (Nat.le_of_ble_eq_true rfl) (Nat.le_of_ble_eq_true rfl) hP hS dX11_execute_193
  replace h := it_f k17 h
  rcases Decidable.em ((Int32.ofNat ((nI o1).toNatClampNeg + 1)) = 4) with k23 | k23
  · replace h := it_t k23 h
    refine lv_tableIn (tgt := 112) F.1 F.2.1 dX11_execute_11 (by rw [k23]; decide) (by rw [k23]; decide) (by rw [k23]; rfl) (by decide) ?_
    refine lv_aload_n F.1 F.2.1 dX11_execute_112 rfl (lv_at hl 0 rfl) ?_
    refine lv_aload_n F.1 F.2.1 dX11_execute_113 rfl (lv_at hl 1 rfl) ?_
    refine gFN (v := .int vf) F hE hP 33 rfl rfl inX2 2 (by decide) q247 rfl dX11_execute_114 ?_
    obtain ⟨z24, k25, h⟩ := bd_ok h
    refine cXV1 (As := [.int vf]) (rest := []) (post := catp [[(b0, .inr (5, [vbR g vv, .int vl, .int vf, .int vs, .int vn]))]] []) (ws' := catp [wX11 g a0 a1 a2 a3 a4 a5 a6 a7 a8 a9 a10 a11 a12 a13 a14 a15 a16 a17 a18 a19 a20 a21 a22 a23 a24 a25 a26 a27 a28 a29 a30 a31 a32 uk ul ur usx z24.2.1 z24.2.2.1 z24.2.2.2.1 z24.2.2.2.2.1 z24.2.2.2.2.2.1 z24.2.2.2.2.2.2.1 z24.2.2.2.2.2.2.2.1 z24.2.2.2.2.2.2.2.2.1 z24.2.2.2.2.2.2.2.2.2.1 z24.2.2.2.2.2.2.2.2.2.2.1 z24.2.2.2.2.2.2.2.2.2.2.2.1 z24.2.2.2.2.2.2.2.2.2.2.2.2.1 ucTn z24.2.2.2.2.2.2.2.2.2.2.2.2.2.1 uox z24.2.2.2.2.2.2.2.2.2.2.2.2.2.2.1 z24.2.2.2.2.2.2.2.2.2.2.2.2.2.2.2.1 z24.2.2.2.2.2.2.2.2.2.2.2.2.2.2.2.2.1 z24.2.2.2.2.2.2.2.2.2.2.2.2.2.2.2.2.2.1 z24.2.2.2.2.2.2.2.2.2.2.2.2.2.2.2.2.2.2.1 z24.2.2.2.2.2.2.2.2.2.2.2.2.2.2.2.2.2.2.2.1 z24.2.2.2.2.2.2.2.2.2.2.2.2.2.2.2.2.2.2.2.2.1 z24.2.2.2.2.2.2.2.2.2.2.2.2.2.2.2.2.2.2.2.2.2.1 z24.2.2.2.2.2.2.2.2.2.2.2.2.2.2.2.2.2.2.2.2.2.2.1 uaWn uaWf uaDn z24.2.2.2.2.2.2.2.2.2.2.2.2.2.2.2.2.2.2.2.2.2.2.2.1 uaLn z24.2.2.2.2.2.2.2.2.2.2.2.2.2.2.2.2.2.2.2.2.2.2.2.2, [(b0, .inr (5, [vbR g vv, .int vl, .int vf, .int vs, .int vn]))]] []) F hE hX (tX11_fillOrder l hl9 dC dI g a0 a1 a2 a3 a4 a5 a6 a7 a8 a9 a10 a11 a12 a13 a14 a15 a16 a17 a18 a19 a20 a21 a22 a23 a24 a25 a26 a27 a28 a29 a30 a31 a32 uk ul ur usx usNn usNf usMn usMf usLn usLf usKn usKf ucMn ucMf ucLn ucLf ucTn ucTf uox uoNn uoNf uoMn uoMf uoLn uoLf uoDn uoDf uac uaWn uaWf uaDn uaDf uaLn uaLf vf k25) mbX11_fillOrder q1616 ⟨(Nat.le_of_ble_eq_true rfl), (Nat.le_of_ble_eq_true rfl)⟩ ⟨(Nat.le_of_ble_eq_true rfl), (Nat.le_of_ble_eq_true rfl)⟩ hP hD hS hA [] rfl rfl rfl 0 rfl rfl rfl hl.1 rfl (Nat.le_of_ble_eq_true rfl) dX11_execute_117 (fun E ce q9 hx9 H locs hP hD hS h7 h8 h9 => ?_) (fun v26 k27 H locs hP hD hS => ?_)
    · replace h := ex_er hx9 h
      cases h
      exact MX_o rfl ht hlocks hP hS h7 h8 h9 (Nat.le_of_ble_eq_true rfl) (Nat.le_of_ble_eq_true rfl)
    replace h := ex_ok k27 h
    refine lv_pop F.1 F.2.1 dX11_execute_120 rfl ?_
    refine lv_goto (tgt := 193) F.1 F.2.1 dX11_execute_121 (by decide) ?_
    cases h
    exact MX_v rfl F hr hlocks (Nat.le_of_ble_eq_true rfl) (Nat.le_of_ble_eq_true rfl) hP hS dX11_execute_193
  replace h := it_f k23 h
  rcases Decidable.em ((Int32.ofNat ((nI o1).toNatClampNeg + 1)) = 5) with k29 | k29
  · replace h := it_t k29 h
    refine lv_tableIn (tgt := 124) F.1 F.2.1 dX11_execute_11 (by rw [k29]; decide) (by rw [k29]; decide) (by rw [k29]; rfl) (by decide) ?_
    refine lv_aload_n F.1 F.2.1 dX11_execute_124 rfl (lv_at hl 0 rfl) ?_
    refine lv_aload_n F.1 F.2.1 dX11_execute_125 rfl (lv_at hl 1 rfl) ?_
    refine gFN (v := .int vf) F hE hP 33 rfl rfl inX2 2 (by decide) q247 rfl dX11_execute_126 ?_
    obtain ⟨z30, k31, h⟩ := bd_ok h
    refine cXV1 (As := [.int vf]) (rest := []) (post := catp [[(b0, .inr (5, [vbR g vv, .int vl, .int vf, .int vs, .int vn]))]] []) (ws' := catp [wX11 g a0 a1 a2 a3 a4 a5 a6 a7 a8 a9 a10 a11 a12 a13 a14 a15 a16 a17 a18 a19 a20 a21 a22 a23 a24 a25 a26 a27 a28 a29 a30 a31 a32 uk ul ur usx z30.2.1 z30.2.2.1 z30.2.2.2.1 z30.2.2.2.2.1 z30.2.2.2.2.2.1 z30.2.2.2.2.2.2.1 z30.2.2.2.2.2.2.2.1 z30.2.2.2.2.2.2.2.2.1 z30.2.2.2.2.2.2.2.2.2.1 z30.2.2.2.2.2.2.2.2.2.2.1 z30.2.2.2.2.2.2.2.2.2.2.2.1 z30.2.2.2.2.2.2.2.2.2.2.2.2.1 ucTn z30.2.2.2.2.2.2.2.2.2.2.2.2.2.1 uox z30.2.2.2.2.2.2.2.2.2.2.2.2.2.2.1 z30.2.2.2.2.2.2.2.2.2.2.2.2.2.2.2.1 z30.2.2.2.2.2.2.2.2.2.2.2.2.2.2.2.2.1 z30.2.2.2.2.2.2.2.2.2.2.2.2.2.2.2.2.2.1 z30.2.2.2.2.2.2.2.2.2.2.2.2.2.2.2.2.2.2.1 z30.2.2.2.2.2.2.2.2.2.2.2.2.2.2.2.2.2.2.2.1 z30.2.2.2.2.2.2.2.2.2.2.2.2.2.2.2.2.2.2.2.2.1 z30.2.2.2.2.2.2.2.2.2.2.2.2.2.2.2.2.2.2.2.2.2.1 z30.2.2.2.2.2.2.2.2.2.2.2.2.2.2.2.2.2.2.2.2.2.2.1 uaWn uaWf uaDn z30.2.2.2.2.2.2.2.2.2.2.2.2.2.2.2.2.2.2.2.2.2.2.2.1 uaLn z30.2.2.2.2.2.2.2.2.2.2.2.2.2.2.2.2.2.2.2.2.2.2.2.2, [(b0, .inr (5, [vbR g vv, .int vl, .int vf, .int vs, .int vn]))]] []) F hE hX (tX11_fillUntil l hl9 dC dI g a0 a1 a2 a3 a4 a5 a6 a7 a8 a9 a10 a11 a12 a13 a14 a15 a16 a17 a18 a19 a20 a21 a22 a23 a24 a25 a26 a27 a28 a29 a30 a31 a32 uk ul ur usx usNn usNf usMn usMf usLn usLf usKn usKf ucMn ucMf ucLn ucLf ucTn ucTf uox uoNn uoNf uoMn uoMf uoLn uoLf uoDn uoDf uac uaWn uaWf uaDn uaDf uaLn uaLf vf k31) mbX11_fillUntil q1617 ⟨(Nat.le_of_ble_eq_true rfl), (Nat.le_of_ble_eq_true rfl)⟩ ⟨(Nat.le_of_ble_eq_true rfl), (Nat.le_of_ble_eq_true rfl)⟩ hP hD hS hA [] rfl rfl rfl 0 rfl rfl rfl hl.1 rfl (Nat.le_of_ble_eq_true rfl) dX11_execute_129 (fun E ce q9 hx9 H locs hP hD hS h7 h8 h9 => ?_) (fun v32 k33 H locs hP hD hS => ?_)
    · replace h := ex_er hx9 h
      cases h
      exact MX_o rfl ht hlocks hP hS h7 h8 h9 (Nat.le_of_ble_eq_true rfl) (Nat.le_of_ble_eq_true rfl)
    replace h := ex_ok k33 h
    refine lv_pop F.1 F.2.1 dX11_execute_132 rfl ?_
    refine lv_goto (tgt := 193) F.1 F.2.1 dX11_execute_133 (by decide) ?_
    cases h
    exact MX_v rfl F hr hlocks (Nat.le_of_ble_eq_true rfl) (Nat.le_of_ble_eq_true rfl) hP hS dX11_execute_193
  replace h := it_f k29 h
  rcases Decidable.em ((Int32.ofNat ((nI o1).toNatClampNeg + 1)) = 6) with k35 | k35
  · replace h := it_t k35 h
    refine lv_tableIn (tgt := 136) F.1 F.2.1 dX11_execute_11 (by rw [k35]; decide) (by rw [k35]; decide) (by rw [k35]; rfl) (by decide) ?_
    refine lv_aload_n F.1 F.2.1 dX11_execute_136 rfl (lv_at hl 0 rfl) ?_
    refine lv_aload_n F.1 F.2.1 dX11_execute_137 rfl (lv_at hl 1 rfl) ?_
    refine gFN (v := .int vf) F hE hP 33 rfl rfl inX2 2 (by decide) q247 rfl dX11_execute_138 ?_
    obtain ⟨z36, k37, h⟩ := bd_ok h
    refine cXV1 (As := [.int vf]) (rest := []) (post := catp [[(b0, .inr (5, [vbR g vv, .int vl, .int vf, .int vs, .int vn]))]] []) (ws' := catp [wX11 g a0 a1 a2 a3 a4 a5 a6 a7 a8 a9 a10 a11 a12 a13 a14 a15 a16 a17 a18 a19 a20 a21 a22 a23 a24 a25 a26 a27 a28 a29 a30 a31 a32 uk ul ur usx z36.2.1 z36.2.2.1 z36.2.2.2.1 z36.2.2.2.2.1 z36.2.2.2.2.2.1 z36.2.2.2.2.2.2.1 z36.2.2.2.2.2.2.2.1 z36.2.2.2.2.2.2.2.2.1 z36.2.2.2.2.2.2.2.2.2.1 z36.2.2.2.2.2.2.2.2.2.2.1 z36.2.2.2.2.2.2.2.2.2.2.2.1 z36.2.2.2.2.2.2.2.2.2.2.2.2.1 ucTn z36.2.2.2.2.2.2.2.2.2.2.2.2.2 uox uoNn uoNf uoMn uoMf uoLn uoLf uoDn uoDf uac uaWn uaWf uaDn uaDf uaLn uaLf, [(b0, .inr (5, [vbR g vv, .int vl, .int vf, .int vs, .int vn]))]] []) F hE hX (tX11_retireSpool l hl9 dC dI g a0 a1 a2 a3 a4 a5 a6 a7 a8 a9 a10 a11 a12 a13 a14 a15 a16 a17 a18 a19 a20 a21 a22 a23 a24 a25 a26 a27 a28 a29 a30 a31 a32 uk ul ur usx usNn usNf usMn usMf usLn usLf usKn usKf ucMn ucMf ucLn ucLf ucTn ucTf uox uoNn uoNf uoMn uoMf uoLn uoLf uoDn uoDf uac uaWn uaWf uaDn uaDf uaLn uaLf vf k37) mbX11_retireSpool q1618 ⟨(Nat.le_of_ble_eq_true rfl), (Nat.le_of_ble_eq_true rfl)⟩ ⟨(Nat.le_of_ble_eq_true rfl), (Nat.le_of_ble_eq_true rfl)⟩ hP hD hS hA [] rfl rfl rfl 0 rfl rfl rfl hl.1 rfl (Nat.le_of_ble_eq_true rfl) dX11_execute_141 (fun E ce q9 hx9 H locs hP hD hS h7 h8 h9 => ?_) (fun v38 k39 H locs hP hD hS => ?_)
    · replace h := ex_er hx9 h
      cases h
      exact MX_o rfl ht hlocks hP hS h7 h8 h9 (Nat.le_of_ble_eq_true rfl) (Nat.le_of_ble_eq_true rfl)
    replace h := ex_ok k39 h
    refine lv_pop F.1 F.2.1 dX11_execute_144 rfl ?_
    refine lv_goto (tgt := 193) F.1 F.2.1 dX11_execute_145 (by decide) ?_
    cases h
    exact MX_v rfl F hr hlocks (Nat.le_of_ble_eq_true rfl) (Nat.le_of_ble_eq_true rfl) hP hS dX11_execute_193
  replace h := it_f k35 h
  rcases Decidable.em ((Int32.ofNat ((nI o1).toNatClampNeg + 1)) = 7) with k41 | k41
  · replace h := it_t k41 h
    refine lv_tableIn (tgt := 148) F.1 F.2.1 dX11_execute_11 (by rw [k41]; decide) (by rw [k41]; decide) (by rw [k41]; rfl) (by decide) ?_
    refine lv_aload_n F.1 F.2.1 dX11_execute_148 rfl (lv_at hl 0 rfl) ?_
    refine lv_aload_n F.1 F.2.1 dX11_execute_149 rfl (lv_at hl 1 rfl) ?_
    refine gFN (v := .int vl) F hE hP 33 rfl rfl inX2 1 (by decide) q245 rfl dX11_execute_150 ?_
    obtain ⟨z42, k43, h⟩ := bd_ok h
    refine cXV1 (As := [.int vl]) (rest := []) (post := catp [[(b0, .inr (5, [vbR g vv, .int vl, .int vf, .int vs, .int vn]))]] []) (ws' := catp [wX11 g a0 a1 a2 a3 a4 a5 a6 a7 a8 a9 a10 a11 a12 a13 a14 a15 a16 a17 a18 a19 a20 a21 a22 a23 a24 a25 a26 a27 a28 a29 a30 a31 a32 uk ul ur usx usNn usNf usMn usMf usLn usLf usKn usKf z42.2.1 z42.2.2.1 z42.2.2.2.1 z42.2.2.2.2.1 ucTn z42.2.2.2.2.2 uox uoNn uoNf uoMn uoMf uoLn uoLf uoDn uoDf uac uaWn uaWf uaDn uaDf uaLn uaLf, [(b0, .inr (5, [vbR g vv, .int vl, .int vf, .int vs, .int vn]))]] []) F hE hX (tX11_clearScraps l hl9 dC dI g a0 a1 a2 a3 a4 a5 a6 a7 a8 a9 a10 a11 a12 a13 a14 a15 a16 a17 a18 a19 a20 a21 a22 a23 a24 a25 a26 a27 a28 a29 a30 a31 a32 uk ul ur usx usNn usNf usMn usMf usLn usLf usKn usKf ucMn ucMf ucLn ucLf ucTn ucTf uox uoNn uoNf uoMn uoMf uoLn uoLf uoDn uoDf uac uaWn uaWf uaDn uaDf uaLn uaLf vl k43) mbX11_clearScraps q1619 ⟨(Nat.le_of_ble_eq_true rfl), (Nat.le_of_ble_eq_true rfl)⟩ ⟨(Nat.le_of_ble_eq_true rfl), (Nat.le_of_ble_eq_true rfl)⟩ hP hD hS hA [] rfl rfl rfl 0 rfl rfl rfl hl.1 rfl (Nat.le_of_ble_eq_true rfl) dX11_execute_153 (fun E ce q9 hx9 H locs hP hD hS h7 h8 h9 => ?_) (fun v44 k45 H locs hP hD hS => ?_)
    · replace h := ex_er hx9 h
      cases h
      exact MX_o rfl ht hlocks hP hS h7 h8 h9 (Nat.le_of_ble_eq_true rfl) (Nat.le_of_ble_eq_true rfl)
    replace h := ex_ok k45 h
    refine lv_pop F.1 F.2.1 dX11_execute_156 rfl ?_
    refine lv_goto (tgt := 193) F.1 F.2.1 dX11_execute_157 (by decide) ?_
    cases h
    exact MX_v rfl F hr hlocks (Nat.le_of_ble_eq_true rfl) (Nat.le_of_ble_eq_true rfl) hP hS dX11_execute_193
  replace h := it_f k41 h
  rcases Decidable.em ((Int32.ofNat ((nI o1).toNatClampNeg + 1)) = 8) with k47 | k47
  · replace h := it_t k47 h
    refine lv_tableIn (tgt := 160) F.1 F.2.1 dX11_execute_11 (by rw [k47]; decide) (by rw [k47]; decide) (by rw [k47]; rfl) (by decide) ?_
    refine lv_aload_n F.1 F.2.1 dX11_execute_160 rfl (lv_at hl 0 rfl) ?_
    refine lv_aload_n F.1 F.2.1 dX11_execute_161 rfl (lv_at hl 1 rfl) ?_
    refine gFN (v := .int vf) F hE hP 33 rfl rfl inX2 2 (by decide) q247 rfl dX11_execute_162 ?_
    obtain ⟨z48, k49, h⟩ := bd_ok h
    refine cXV1 (As := [.int vf]) (rest := []) (post := catp [[(b0, .inr (5, [vbR g vv, .int vl, .int vf, .int vs, .int vn]))]] []) (ws' := catp [wX11 g a0 a1 a2 a3 a4 a5 a6 a7 a8 a9 a10 a11 a12 a13 a14 a15 a16 a17 a18 a19 a20 a21 a22 a23 a24 a25 a26 a27 a28 a29 a30 a31 a32 z48.2 ul ur usx usNn usNf usMn usMf usLn usLf usKn usKf ucMn ucMf ucLn ucLf ucTn ucTf uox uoNn uoNf uoMn uoMf uoLn uoLf uoDn uoDf uac uaWn uaWf uaDn uaDf uaLn uaLf, [(b0, .inr (5, [vbR g vv, .int vl, .int vf, .int vs, .int vn]))]] []) F hE hX (tX11_changeKerf l hl9 dC dI g a0 a1 a2 a3 a4 a5 a6 a7 a8 a9 a10 a11 a12 a13 a14 a15 a16 a17 a18 a19 a20 a21 a22 a23 a24 a25 a26 a27 a28 a29 a30 a31 a32 uk ul ur usx usNn usNf usMn usMf usLn usLf usKn usKf ucMn ucMf ucLn ucLf ucTn ucTf uox uoNn uoNf uoMn uoMf uoLn uoLf uoDn uoDf uac uaWn uaWf uaDn uaDf uaLn uaLf vf k49) mbX11_changeKerf q1620 ⟨(Nat.le_of_ble_eq_true rfl), (Nat.le_of_ble_eq_true rfl)⟩ ⟨(Nat.le_of_ble_eq_true rfl), (Nat.le_of_ble_eq_true rfl)⟩ hP hD hS hA [] rfl rfl rfl 0 rfl rfl rfl hl.1 rfl (Nat.le_of_ble_eq_true rfl) dX11_execute_165 (fun E ce q9 hx9 H locs hP hD hS h7 h8 h9 => ?_) (fun v50 k51 H locs hP hD hS => ?_)
    · replace h := ex_er hx9 h
      cases h
      exact MX_o rfl ht hlocks hP hS h7 h8 h9 (Nat.le_of_ble_eq_true rfl) (Nat.le_of_ble_eq_true rfl)
    replace h := ex_ok k51 h
    refine lv_pop F.1 F.2.1 dX11_execute_168 rfl ?_
    refine lv_goto (tgt := 193) F.1 F.2.1 dX11_execute_169 (by decide) ?_
    cases h
    exact MX_v rfl F hr hlocks (Nat.le_of_ble_eq_true rfl) (Nat.le_of_ble_eq_true rfl) hP hS dX11_execute_193
  replace h := it_f k47 h
  rcases Decidable.em ((Int32.ofNat ((nI o1).toNatClampNeg + 1)) = 9) with k53 | k53
  · replace h := it_t k53 h
    refine lv_tableIn (tgt := 172) F.1 F.2.1 dX11_execute_11 (by rw [k53]; decide) (by rw [k53]; decide) (by rw [k53]; rfl) (by decide) ?_
    refine lv_aload_n F.1 F.2.1 dX11_execute_172 rfl (lv_at hl 0 rfl) ?_
    refine lv_aload_n F.1 F.2.1 dX11_execute_173 rfl (lv_at hl 1 rfl) ?_
    refine gFN (v := .int vf) F hE hP 33 rfl rfl inX2 2 (by decide) q247 rfl dX11_execute_174 ?_
    obtain ⟨z54, k55, h⟩ := bd_ok h
    refine cXV1 (As := [.int vf]) (rest := []) (post := catp [[(b0, .inr (5, [vbR g vv, .int vl, .int vf, .int vs, .int vn]))]] []) (ws' := catp [wX11 g a0 a1 a2 a3 a4 a5 a6 a7 a8 a9 a10 a11 a12 a13 a14 a15 a16 a17 a18 a19 a20 a21 a22 a23 a24 a25 a26 a27 a28 a29 a30 a31 a32 uk z54.2 ur usx usNn usNf usMn usMf usLn usLf usKn usKf ucMn ucMf ucLn ucLf ucTn ucTf uox uoNn uoNf uoMn uoMf uoLn uoLf uoDn uoDf uac uaWn uaWf uaDn uaDf uaLn uaLf, [(b0, .inr (5, [vbR g vv, .int vl, .int vf, .int vs, .int vn]))]] []) F hE hX (tX11_changeScrapLimit l hl9 dC dI g a0 a1 a2 a3 a4 a5 a6 a7 a8 a9 a10 a11 a12 a13 a14 a15 a16 a17 a18 a19 a20 a21 a22 a23 a24 a25 a26 a27 a28 a29 a30 a31 a32 uk ul ur usx usNn usNf usMn usMf usLn usLf usKn usKf ucMn ucMf ucLn ucLf ucTn ucTf uox uoNn uoNf uoMn uoMf uoLn uoLf uoDn uoDf uac uaWn uaWf uaDn uaDf uaLn uaLf vf k55) mbX11_changeScrapLimit q1621 ⟨(Nat.le_of_ble_eq_true rfl), (Nat.le_of_ble_eq_true rfl)⟩ ⟨(Nat.le_of_ble_eq_true rfl), (Nat.le_of_ble_eq_true rfl)⟩ hP hD hS hA [] rfl rfl rfl 0 rfl rfl rfl hl.1 rfl (Nat.le_of_ble_eq_true rfl) dX11_execute_177 (fun E ce q9 hx9 H locs hP hD hS h7 h8 h9 => ?_) (fun v56 k57 H locs hP hD hS => ?_)
    · replace h := ex_er hx9 h
      cases h
      exact MX_o rfl ht hlocks hP hS h7 h8 h9 (Nat.le_of_ble_eq_true rfl) (Nat.le_of_ble_eq_true rfl)
    replace h := ex_ok k57 h
    refine lv_pop F.1 F.2.1 dX11_execute_180 rfl ?_
    refine lv_goto (tgt := 193) F.1 F.2.1 dX11_execute_181 (by decide) ?_
    cases h
    exact MX_v rfl F hr hlocks (Nat.le_of_ble_eq_true rfl) (Nat.le_of_ble_eq_true rfl) hP hS dX11_execute_193
  replace h := it_f k53 h
  rcases Decidable.em ((Int32.ofNat ((nI o1).toNatClampNeg + 1)) = 10) with k59 | k59
  · replace h := it_t k59 h
    refine lv_tableIn (tgt := 184) F.1 F.2.1 dX11_execute_11 (by rw [k59]; decide) (by rw [k59]; decide) (by rw [k59]; rfl) (by decide) ?_
    refine lv_aload_n F.1 F.2.1 dX11_execute_184 rfl (lv_at hl 0 rfl) ?_
    refine lv_aload_n F.1 F.2.1 dX11_execute_185 rfl (lv_at hl 1 rfl) ?_
    refine gFN (v := .int vl) F hE hP 33 rfl rfl inX2 1 (by decide) q245 rfl dX11_execute_186 ?_
    obtain ⟨z60, k61, h⟩ := bd_ok h
    refine cXV1 (As := [.int vl]) (rest := []) (post := catp [[(b0, .inr (5, [vbR g vv, .int vl, .int vf, .int vs, .int vn]))]] []) (ws' := catp [wX11 g a0 a1 a2 a3 a4 a5 a6 a7 a8 a9 a10 a11 a12 a13 a14 a15 a16 a17 a18 a19 a20 a21 a22 a23 a24 a25 a26 a27 a28 a29 a30 a31 a32 uk ul z60.2 usx usNn usNf usMn usMf usLn usLf usKn usKf ucMn ucMf ucLn ucLf ucTn ucTf uox uoNn uoNf uoMn uoMf uoLn uoLf uoDn uoDf uac uaWn uaWf uaDn uaDf uaLn uaLf, [(b0, .inr (5, [vbR g vv, .int vl, .int vf, .int vs, .int vn]))]] []) F hE hX (tX11_changeRule l hl9 dC dI g a0 a1 a2 a3 a4 a5 a6 a7 a8 a9 a10 a11 a12 a13 a14 a15 a16 a17 a18 a19 a20 a21 a22 a23 a24 a25 a26 a27 a28 a29 a30 a31 a32 uk ul ur usx usNn usNf usMn usMf usLn usLf usKn usKf ucMn ucMf ucLn ucLf ucTn ucTf uox uoNn uoNf uoMn uoMf uoLn uoLf uoDn uoDf uac uaWn uaWf uaDn uaDf uaLn uaLf vl k61) mbX11_changeRule q1622 ⟨(Nat.le_of_ble_eq_true rfl), (Nat.le_of_ble_eq_true rfl)⟩ ⟨(Nat.le_of_ble_eq_true rfl), (Nat.le_of_ble_eq_true rfl)⟩ hP hD hS hA [] rfl rfl rfl 0 rfl rfl rfl hl.1 rfl (Nat.le_of_ble_eq_true rfl) dX11_execute_189 (fun E ce q9 hx9 H locs hP hD hS h7 h8 h9 => ?_) (fun v62 k63 H locs hP hD hS => ?_)
    · replace h := ex_er hx9 h
      cases h
      exact MX_o rfl ht hlocks hP hS h7 h8 h9 (Nat.le_of_ble_eq_true rfl) (Nat.le_of_ble_eq_true rfl)
    replace h := ex_ok k63 h
    refine lv_pop F.1 F.2.1 dX11_execute_192 rfl ?_
    cases h
    exact MX_v rfl F hr hlocks (Nat.le_of_ble_eq_true rfl) (Nat.le_of_ble_eq_true rfl) hP hS dX11_execute_193
  replace h := it_f k59 h
  have nk5 : ¬ Int32.toInt (Int32.ofNat ((nI o1).toNatClampNeg + 1)) = 1 := fun q9 => k5 (Int32.toInt_inj.mp (q9.trans (by decide : (1 : Int) = Int32.toInt 1)))
  have nk11 : ¬ Int32.toInt (Int32.ofNat ((nI o1).toNatClampNeg + 1)) = 2 := fun q9 => k11 (Int32.toInt_inj.mp (q9.trans (by decide : (2 : Int) = Int32.toInt 2)))
  have nk17 : ¬ Int32.toInt (Int32.ofNat ((nI o1).toNatClampNeg + 1)) = 3 := fun q9 => k17 (Int32.toInt_inj.mp (q9.trans (by decide : (3 : Int) = Int32.toInt 3)))
  have nk23 : ¬ Int32.toInt (Int32.ofNat ((nI o1).toNatClampNeg + 1)) = 4 := fun q9 => k23 (Int32.toInt_inj.mp (q9.trans (by decide : (4 : Int) = Int32.toInt 4)))
  have nk29 : ¬ Int32.toInt (Int32.ofNat ((nI o1).toNatClampNeg + 1)) = 5 := fun q9 => k29 (Int32.toInt_inj.mp (q9.trans (by decide : (5 : Int) = Int32.toInt 5)))
  have nk35 : ¬ Int32.toInt (Int32.ofNat ((nI o1).toNatClampNeg + 1)) = 6 := fun q9 => k35 (Int32.toInt_inj.mp (q9.trans (by decide : (6 : Int) = Int32.toInt 6)))
  have nk41 : ¬ Int32.toInt (Int32.ofNat ((nI o1).toNatClampNeg + 1)) = 7 := fun q9 => k41 (Int32.toInt_inj.mp (q9.trans (by decide : (7 : Int) = Int32.toInt 7)))
  have nk47 : ¬ Int32.toInt (Int32.ofNat ((nI o1).toNatClampNeg + 1)) = 8 := fun q9 => k47 (Int32.toInt_inj.mp (q9.trans (by decide : (8 : Int) = Int32.toInt 8)))
  have nk53 : ¬ Int32.toInt (Int32.ofNat ((nI o1).toNatClampNeg + 1)) = 9 := fun q9 => k53 (Int32.toInt_inj.mp (q9.trans (by decide : (9 : Int) = Int32.toInt 9)))
  have nk59 : ¬ Int32.toInt (Int32.ofNat ((nI o1).toNatClampNeg + 1)) = 10 := fun q9 => k59 (Int32.toInt_inj.mp (q9.trans (by decide : (10 : Int) = Int32.toInt 10)))
  have q6 : ¬ Int32.toInt (Int32.ofNat ((nI o1).toNatClampNeg + 1)) < 1 → ¬ 10 < Int32.toInt (Int32.ofNat ((nI o1).toNatClampNeg + 1)) → (#[53, 69, 89, 101, 113, 125, 137, 149, 161, 173] : Array Int)[(Int32.toInt (Int32.ofNat ((nI o1).toNatClampNeg + 1)) - 1).toNat]? = some (182) := by
    intro q8 q9
    exfalso; omega
  refine lv_tableAny (tgt := 193) F.1 F.2.1 dX11_execute_11 (by decide) q6 ?_
  cases h
  exact MX_v rfl F hr hlocks (Nat.le_of_ble_eq_true rfl) (Nat.le_of_ble_eq_true rfl) hP hS dX11_execute_193
