theorem zpT554 : zcheck zpZ zpRS zpMT [zpC73, zpC74] zpC554 zpP0 1 zpA554 [(28, 2, 0, 3)] 3000 = true := by decide +kernel
theorem zpT555 : zcheck zpZ zpRS zpMT [zpC73, zpC74, zpC81, zpC88, zpC92, zpC105, zpC106] zpC555 zpP0 1 zpA555 [(28, 2, 0, 3)] 3000 = true := by decide +kernel
theorem zpT556 : zcheck zpZ zpRS zpMT [zpC73, zpC74, zpC106, zpC114, zpC124, zpC128, zpC144] zpC556 zpP0 1 zpA556 [(28, 2, 0, 3)] 3000 = true := by decide +kernel
theorem zpT557 : zcheck zpZ zpRS zpMT [zpC73, zpC74, zpC106, zpC149, zpC156, zpC163, zpC179] zpC557 zpP0 1 zpA557 [(28, 2, 0, 3)] 3000 = true := by decide +kernel
theorem zpT558 : zcheck zpZ zpRS zpMT [zpC73, zpC74, zpC106, zpC187, zpC200, zpC204, zpC223] zpC558 zpP0 1 zpA558 [(28, 2, 0, 3)] 3000 = true := by decide +kernel
theorem zpT559 : zcheck zpZ zpRS zpMT [zpC73, zpC74, zpC106, zpC234, zpC247, zpC251, zpC270] zpC559 zpP0 1 zpA559 [(28, 2, 0, 3)] 3000 = true := by decide +kernel
theorem zpT560 : zcheck zpZ zpRS zpMT [zpC73, zpC74, zpC106, zpC275, zpC282, zpC286, zpC302] zpC560 zpP0 1 zpA560 [(28, 2, 0, 3)] 3000 = true := by decide +kernel
theorem zpT561 : zcheck zpZ zpRS zpMT [zpC73, zpC74, zpC106, zpC313, zpC335, zpC339, zpC367] zpC561 zpP0 1 zpA561 [(28, 2, 0, 3)] 3000 = true := by decide +kernel
theorem zpT562 : zcheck zpZ zpRS zpMT [zpC73, zpC74, zpC106, zpC372, zpC379, zpC389, zpC408] zpC562 zpP0 1 zpA562 [(28, 2, 0, 3)] 3000 = true := by decide +kernel
theorem zpT563 : zcheck zpZ zpRS zpMT [zpC73, zpC74] zpC563 zpP0 1 zpA563 [(28, 2, 0, 3)] 3000 = true := by decide +kernel
theorem zpT564 : zcheck zpZ zpRS zpMT [zpC73, zpC74, zpC81, zpC88, zpC92, zpC105, zpC106] zpC564 zpP0 1 zpA564 [(28, 2, 0, 3)] 3000 = true := by decide +kernel
theorem zpT565 : zcheck zpZ zpRS zpMT [zpC73, zpC74, zpC106, zpC114, zpC124, zpC128, zpC144] zpC565 zpP0 1 zpA565 [(28, 2, 0, 3)] 3000 = true := by decide +kernel
theorem zpT566 : zcheck zpZ zpRS zpMT [zpC73, zpC74, zpC106, zpC149, zpC156, zpC163, zpC179] zpC566 zpP0 1 zpA566 [(28, 2, 0, 3)] 3000 = true := by decide +kernel
theorem zpT567 : zcheck zpZ zpRS zpMT [zpC73, zpC74, zpC106, zpC187, zpC200, zpC204, zpC223] zpC567 zpP0 1 zpA567 [(28, 2, 0, 3)] 3000 = true := by decide +kernel
theorem zpT568 : zcheck zpZ zpRS zpMT [zpC73, zpC74, zpC106, zpC234, zpC247, zpC251, zpC270] zpC568 zpP0 1 zpA568 [(28, 2, 0, 3)] 3000 = true := by decide +kernel
theorem zpT569 : zcheck zpZ zpRS zpMT [zpC73, zpC74, zpC106, zpC275, zpC282, zpC286, zpC302] zpC569 zpP0 1 zpA569 [(28, 2, 0, 3)] 3000 = true := by decide +kernel
theorem zpT570 : zcheck zpZ zpRS zpMT [zpC73, zpC74, zpC106, zpC313, zpC335, zpC339, zpC367] zpC570 zpP0 1 zpA570 [(28, 2, 0, 3)] 3000 = true := by decide +kernel
theorem zpT571 : zcheck zpZ zpRS zpMT [zpC73, zpC74, zpC106, zpC372, zpC379, zpC389, zpC408] zpC571 zpP0 1 zpA571 [(28, 2, 0, 3)] 3000 = true := by decide +kernel
theorem zpT572 : zcheck zpZ zpRS zpMT [zpC73, zpC74] zpC572 zpP0 1 zpA572 [(28, 2, 0, 3)] 3000 = true := by decide +kernel
theorem zpT573 : zcheck zpZ zpRS zpMT [zpC73, zpC74, zpC81, zpC88, zpC92, zpC105, zpC106] zpC573 zpP0 1 zpA573 [(28, 2, 0, 3)] 3000 = true := by decide +kernel
theorem zpT574 : zcheck zpZ zpRS zpMT [zpC73, zpC74, zpC106, zpC114, zpC124, zpC128, zpC144] zpC574 zpP0 1 zpA574 [(28, 2, 0, 3)] 3000 = true := by decide +kernel
theorem zpT575 : zcheck zpZ zpRS zpMT [zpC73, zpC74, zpC106, zpC149, zpC156, zpC163, zpC179] zpC575 zpP0 1 zpA575 [(28, 2, 0, 3)] 3000 = true := by decide +kernel
theorem zpT576 : zcheck zpZ zpRS zpMT [zpC73, zpC74, zpC106, zpC187, zpC200, zpC204, zpC223] zpC576 zpP0 1 zpA576 [(28, 2, 0, 3)] 3000 = true := by decide +kernel
theorem zpT577 : zcheck zpZ zpRS zpMT [zpC73, zpC74, zpC106, zpC234, zpC247, zpC251, zpC270] zpC577 zpP0 1 zpA577 [(28, 2, 0, 3)] 3000 = true := by decide +kernel
theorem zpT578 : zcheck zpZ zpRS zpMT [zpC73, zpC74, zpC106, zpC275, zpC282, zpC286, zpC302] zpC578 zpP0 1 zpA578 [(28, 2, 0, 3)] 3000 = true := by decide +kernel
theorem zpT579 : zcheck zpZ zpRS zpMT [zpC73, zpC74, zpC106, zpC313, zpC335, zpC339, zpC367] zpC579 zpP0 1 zpA579 [(28, 2, 0, 3)] 3000 = true := by decide +kernel
theorem zpT580 : zcheck zpZ zpRS zpMT [zpC73, zpC74, zpC106, zpC372, zpC379, zpC389, zpC408] zpC580 zpP0 1 zpA580 [(28, 2, 0, 3)] 3000 = true := by decide +kernel
theorem zpT581 : zcheck zpZ zpRS zpMT [] zpC581 zpP11 2 zpA581 [] 3000 = true := by decide +kernel
theorem zpT582 : zcheck zpZ zpRS zpMT [zpC581] zpC582 zpP11 1 zpA582 [] 3000 = true := by decide +kernel
theorem zpT583 : zcheck zpZ zpRS zpMT [] zpC583 zpP14 1 zpA583 [] 3000 = true := by decide +kernel
theorem zpT584 : zcheck zpZ zpRS zpMT [zpC583] zpC584 zpP11 0 zpA584 [] 3000 = true := by decide +kernel
theorem zpT585 : zcheck zpZ zpRS zpMT [zpC582, zpC584] zpC585 zpP11 0 zpA585 [] 3000 = true := by decide +kernel
theorem zpT586 : zcheck zpZ zpRS zpMT [zpC585] zpC586 zpP11 0 zpA586 [] 3000 = true := by decide +kernel
theorem zpT587 : zcheck zpZ zpRS zpMT [] zpC587 zpP0 2 zpA587 [] 3000 = true := by decide +kernel
theorem zpT588 : zcheck zpZ zpRS zpMT [zpC106, zpC586, zpC587] zpC588 zpP0 1 zpA588 [] 3000 = true := by decide +kernel
theorem zpT589 : zcheck zpZ zpRS zpMT [] zpC589 zpP2 0 zpA589 [] 3000 = true := by decide +kernel
theorem zpT590 : zcheck zpZ zpRS zpMT [zpC45] zpC590 zpP11 2 zpA590 [] 3000 = true := by decide +kernel
theorem zpT591 : zcheck zpZ zpRS zpMT [] zpC591 zpP0 2 zpA591 [] 3000 = true := by decide +kernel
theorem zpT592 : zcheck zpZ zpRS zpMT [zpC585, zpC590, zpC591] zpC592 zpP11 0 zpA592 [] 3000 = true := by decide +kernel
theorem zpT593 : zcheck zpZ zpRS zpMT [zpC590, zpC591] zpC593 zpP11 1 zpA593 [] 3000 = true := by decide +kernel
theorem zpT594 : zcheck zpZ zpRS zpMT [zpC589, zpC592, zpC593] zpC594 zpP2 1 zpA594 [] 3000 = true := by decide +kernel
theorem zpT595 : zcheck zpZ zpRS zpMT [] zpC595 zpP0 2 zpA595 [] 3000 = true := by decide +kernel
theorem zpT596 : zcheck zpZ zpRS zpMT [zpC591, zpC594, zpC595] zpC596 zpP0 1 zpA596 [] 3000 = true := by decide +kernel
theorem zpT597 : zcheck zpZ zpRS zpMT [] zpC597 zpP0 2 zpA597 [] 3000 = true := by decide +kernel
theorem zpT598 : zcheck zpZ zpRS zpMT [zpC106, zpC594, zpC595, zpC597] zpC598 zpP0 1 zpA598 [] 3000 = true := by decide +kernel
theorem zpT599 : zcheck zpZ zpRS zpMT [] zpC599 zpP9 0 zpA599 [] 3000 = true := by decide +kernel
theorem zpT600 : zcheck zpZ zpRS zpMT [zpC599] zpC600 zpP0 1 zpA600 [] 3000 = true := by decide +kernel
theorem zpT601 : zcheck zpZ zpRS zpMT [] zpC601 zpP9 1 zpA601 [] 3000 = true := by decide +kernel
theorem zpT602 : zcheck zpZ zpRS zpMT [zpC601] zpC602 zpP9 2 zpA602 [] 3000 = true := by decide +kernel
theorem zpT603 : zcheck zpZ zpRS zpMT [] zpC603 zpP9 0 zpA603 [] 3000 = true := by decide +kernel
theorem zpT604 : zcheck zpZ zpRS zpMT [zpC602, zpC603] zpC604 zpP4 0 zpA604 [] 3000 = true := by decide +kernel
theorem zpT605 : zcheck zpZ zpRS zpMT [] zpC605 zpP9 1 zpA605 [] 3000 = true := by decide +kernel
theorem zpT606 : zcheck zpZ zpRS zpMT [zpC605] zpC606 zpP9 2 zpA606 [] 3000 = true := by decide +kernel
theorem zpT607 : zcheck zpZ zpRS zpMT [] zpC607 zpP9 0 zpA607 [] 3000 = true := by decide +kernel
theorem zpT608 : zcheck zpZ zpRS zpMT [zpC606, zpC607] zpC608 zpP4 0 zpA608 [] 3000 = true := by decide +kernel
theorem zpT609 : zcheck zpZ zpRS zpMT [] zpC609 zpP9 1 zpA609 [] 3000 = true := by decide +kernel
theorem zpT610 : zcheck zpZ zpRS zpMT [zpC609] zpC610 zpP9 2 zpA610 [] 3000 = true := by decide +kernel
theorem zpT611 : zcheck zpZ zpRS zpMT [] zpC611 zpP9 0 zpA611 [] 3000 = true := by decide +kernel
theorem zpT612 : zcheck zpZ zpRS zpMT [zpC610, zpC611] zpC612 zpP4 0 zpA612 [] 3000 = true := by decide +kernel
theorem zpT613 : zcheck zpZ zpRS zpMT [] zpC613 zpP0 2 zpA613 [] 3000 = true := by decide +kernel
theorem zpT614 : zcheck zpZ zpRS zpMT [zpC609, zpC611, zpC613] zpC614 zpP9 1 zpA614 [] 3000 = true := by decide +kernel
theorem zpT615 : zcheck zpZ zpRS zpMT [zpC601, zpC603, zpC613] zpC615 zpP9 1 zpA615 [] 3000 = true := by decide +kernel
theorem zpT616 : zcheck zpZ zpRS zpMT [zpC605, zpC607, zpC613] zpC616 zpP9 1 zpA616 [] 3000 = true := by decide +kernel
theorem zpT617 : zcheck zpZ zpRS zpMT [zpC609, zpC611, zpC613] zpC617 zpP9 1 zpA617 [] 3000 = true := by decide +kernel
theorem zpT618 : zcheck zpZ zpRS zpMT [zpC601, zpC603, zpC613] zpC618 zpP9 1 zpA618 [] 3000 = true := by decide +kernel
theorem zpT619 : zcheck zpZ zpRS zpMT [zpC605, zpC607, zpC613] zpC619 zpP9 1 zpA619 [] 3000 = true := by decide +kernel
theorem zpT620 : zcheck zpZ zpRS zpMT [zpC609, zpC611, zpC613] zpC620 zpP9 1 zpA620 [] 3000 = true := by decide +kernel
theorem zpT621 : zcheck zpZ zpRS zpMT [zpC601, zpC603, zpC613] zpC621 zpP9 1 zpA621 [] 3000 = true := by decide +kernel
theorem zpT622 : zcheck zpZ zpRS zpMT [zpC605, zpC607, zpC613] zpC622 zpP9 1 zpA622 [] 3000 = true := by decide +kernel
theorem zpT623 : zcheck zpZ zpRS zpMT [zpC601, zpC603, zpC613] zpC623 zpP9 1 zpA623 [] 3000 = true := by decide +kernel
theorem zpT624 : zcheck zpZ zpRS zpMT [zpC601, zpC603, zpC613] zpC624 zpP9 1 zpA624 [] 3000 = true := by decide +kernel
theorem zpT625 : zcheck zpZ zpRS zpMT [zpC609, zpC611, zpC613] zpC625 zpP9 1 zpA625 [] 3000 = true := by decide +kernel
theorem zpT626 : zcheck zpZ zpRS zpMT [zpC601, zpC603, zpC613] zpC626 zpP9 1 zpA626 [] 3000 = true := by decide +kernel
theorem zpT627 : zcheck zpZ zpRS zpMT [zpC605, zpC607, zpC613] zpC627 zpP9 1 zpA627 [] 3000 = true := by decide +kernel
theorem zpT628 : zcheck zpZ zpRS zpMT [] zpC628 zpP9 0 zpA628 [] 3000 = true := by decide +kernel
theorem zpT629 : zcheck zpZ zpRS zpMT [zpC601, zpC602, zpC603, zpC604, zpC605, zpC606, zpC608, zpC609, zpC610, zpC612, zpC614, zpC615, zpC616, zpC617, zpC618, zpC619, zpC620, zpC621, zpC622, zpC623, zpC624, zpC625, zpC626, zpC627, zpC628] zpC629 zpP4 1 zpA629 [] 3000 = true := by decide +kernel
