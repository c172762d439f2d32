/-! ===== the words that the reference reads ===== -/
def w9_day : List Nat := [100, 97, 121]
set_option maxRecDepth 100000 in
theorem sw9_day : pd_sw RX9 "day" 130 (w9_day.map nI) := ⟨by decide +kernel, by decide, by decide +kernel, by decide +kernel, by decide +kernel, by decide +kernel, by decide +kernel⟩
def w9_street : List Nat := [115, 116, 114, 101, 101, 116]
set_option maxRecDepth 100000 in
theorem sw9_street : pd_sw RX9 "street" 132 (w9_street.map nI) := ⟨by decide +kernel, by decide, by decide +kernel, by decide +kernel, by decide +kernel, by decide +kernel, by decide +kernel⟩
def w9_line : List Nat := [108, 105, 110, 101]
set_option maxRecDepth 100000 in
theorem sw9_line : pd_sw RX9 "line" 134 (w9_line.map nI) := ⟨by decide +kernel, by decide, by decide +kernel, by decide +kernel, by decide +kernel, by decide +kernel, by decide +kernel⟩
def w9_sheet : List Nat := [115, 104, 101, 101, 116]
set_option maxRecDepth 100000 in
theorem sw9_sheet : pd_sw RX9 "sheet" 136 (w9_sheet.map nI) := ⟨by decide +kernel, by decide, by decide +kernel, by decide +kernel, by decide +kernel, by decide +kernel, by decide +kernel⟩
def w9_since : List Nat := [115, 105, 110, 99, 101]
set_option maxRecDepth 100000 in
theorem sw9_since : pd_sw RX9 "since" 138 (w9_since.map nI) := ⟨by decide +kernel, by decide, by decide +kernel, by decide +kernel, by decide +kernel, by decide +kernel, by decide +kernel⟩
def w9_ahead : List Nat := [97, 104, 101, 97, 100]
set_option maxRecDepth 100000 in
theorem sw9_ahead : pd_sw RX9 "ahead" 140 (w9_ahead.map nI) := ⟨by decide +kernel, by decide, by decide +kernel, by decide +kernel, by decide +kernel, by decide +kernel, by decide +kernel⟩
def w9_not : List Nat := [110, 111, 116]
set_option maxRecDepth 100000 in
theorem sw9_not : pd_sw RX9 "not" 153 (w9_not.map nI) := ⟨by decide +kernel, by decide, by decide +kernel, by decide +kernel, by decide +kernel, by decide +kernel, by decide +kernel⟩
def w9_and : List Nat := [97, 110, 100]
set_option maxRecDepth 100000 in
theorem sw9_and : pd_sw RX9 "and" 170 (w9_and.map nI) := ⟨by decide +kernel, by decide, by decide +kernel, by decide +kernel, by decide +kernel, by decide +kernel, by decide +kernel⟩
def w9_or : List Nat := [111, 114]
set_option maxRecDepth 100000 in
theorem sw9_or : pd_sw RX9 "or" 175 (w9_or.map nI) := ⟨by decide +kernel, by decide, by decide +kernel, by decide +kernel, by decide +kernel, by decide +kernel, by decide +kernel⟩
def w9_voter : List Nat := [118, 111, 116, 101, 114]
set_option maxRecDepth 100000 in
theorem sw9_voter : pd_sw RX9 "voter" 180 (w9_voter.map nI) := ⟨by decide +kernel, by decide, by decide +kernel, by decide +kernel, by decide +kernel, by decide +kernel, by decide +kernel⟩
def w9_sign : List Nat := [115, 105, 103, 110]
set_option maxRecDepth 100000 in
theorem sw9_sign : pd_sw RX9 "sign" 185 (w9_sign.map nI) := ⟨by decide +kernel, by decide, by decide +kernel, by decide +kernel, by decide +kernel, by decide +kernel, by decide +kernel⟩
def w9_need : List Nat := [110, 101, 101, 100]
set_option maxRecDepth 100000 in
theorem sw9_need : pd_sw RX9 "need" 190 (w9_need.map nI) := ⟨by decide +kernel, by decide, by decide +kernel, by decide +kernel, by decide +kernel, by decide +kernel, by decide +kernel⟩
def w9_span : List Nat := [115, 112, 97, 110]
set_option maxRecDepth 100000 in
theorem sw9_span : pd_sw RX9 "span" 196 (w9_span.map nI) := ⟨by decide +kernel, by decide, by decide +kernel, by decide +kernel, by decide +kernel, by decide +kernel, by decide +kernel⟩
def w9_spoilt : List Nat := [115, 112, 111, 105, 108, 116]
set_option maxRecDepth 100000 in
theorem sw9_spoilt : pd_sw RX9 "spoilt" 198 (w9_spoilt.map nI) := ⟨by decide +kernel, by decide, by decide +kernel, by decide +kernel, by decide +kernel, by decide +kernel, by decide +kernel⟩
def w9_alpha : List Nat := [97, 108, 112, 104, 97]
set_option maxRecDepth 100000 in
theorem sw9_alpha : pd_sw RX9 "alpha" 200 (w9_alpha.map nI) := ⟨by decide +kernel, by decide, by decide +kernel, by decide +kernel, by decide +kernel, by decide +kernel, by decide +kernel⟩
def w9_good : List Nat := [103, 111, 111, 100]
set_option maxRecDepth 100000 in
theorem sw9_good : pd_sw RX9 "good" 202 (w9_good.map nI) := ⟨by decide +kernel, by decide, by decide +kernel, by decide +kernel, by decide +kernel, by decide +kernel, by decide +kernel⟩
